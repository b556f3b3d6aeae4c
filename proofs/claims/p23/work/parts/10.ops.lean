/-! THE CALLS: for each its code (0: it answers) and, where that is 0, the state behind it and the answer; u, m, t .. are numbers where they are told to be in range -/
def inR (x a b : Int32) : Bool := decide (a ≤ x) && decide (x ≤ b)
def cl (x : Int32) : Nat := x.toNatClampNeg
def sR (S : kSt) (f a n : Nat) (v : Int32) : kSt := (fun g j => if g = f ∧ (a ≤ j ∧ j < a + n) then v else S.1 g j, S.2)
def cUser (S : kSt) (x : Int32) : Int32 := if inR x 0 3 = false then 1 else if S.2 0 0 = 12 then 2 else 0
def oUser (S : kSt) (x : Int32) : kSt := sN (sI (sI S 1 (S.2 0 0) x) 2 (S.2 0 0) (-1)) 0 0 (S.2 0 0 + 1)
def cRole (S : kSt) (u x : Int32) : Int32 := if inB u (S.2 0 0) = false then 1 else if inR x 0 3 = false then 2 else 0
def oRole (S : kSt) (kd : Nat → Nat → Int32) (u x : Int32) : kSt := stl (sI S 1 (cl u) x) kd (S.2 0 2)
def cEnds (S : kSt) (u x : Int32) : Int32 := if inB u (S.2 0 0) = false then 1 else if inR x (-1) 10000 = false then 2 else 0
def vEnds (S : kSt) (x : Int32) : Int32 := if x = -1 then -1 else S.1 0 0 + x
def oEnds (S : kSt) (kd : Nat → Nat → Int32) (u x : Int32) : kSt := stl (sI S 2 (cl u) (vEnds S x)) kd (S.2 0 2)
def cBudget (S : kSt) (c x : Int32) : Int32 := if inB c 6 = false then 1 else if inR x 0 1000000 = false then 2 else if 1000000000 < S.1 3 (cl c) + x then 3 else 0
def oBudget (S : kSt) (c x : Int32) : kSt := sI S 3 (cl c) (S.1 3 (cl c) + x)
def cPost (S : kSt) (u c p : Int32) : Int32 := if (inB u (S.2 0 0) && (inB c 6 && (decide (p = -1) || inB p (S.2 0 1)))) = false then 1 else if (!gone S (cl u) && (decide (S.2 0 1 < 80) && (decide (p = -1) || (decide (S.2 2 (cl p) = cl c) && decide (S.1 8 (cl p) = 0))))) = false then 2 else 0
def oPost (S : kSt) (u c p : Int32) : kSt := sN (sI (sI (sN (sN S 1 (S.2 0 1) (cl u)) 2 (S.2 0 1) (cl c)) 5 (S.2 0 1) p) 6 (S.2 0 1) (S.1 0 0)) 0 1 (S.2 0 1 + 1)
def cEdit (S : kSt) (u m : Int32) : Int32 := if (inB u (S.2 0 0) && inB m (S.2 0 1)) = false then 1 else if (!gone S (cl u) && (decide (S.2 1 (cl m) = cl u) && decide (S.1 8 (cl m) = 0))) = false then 2 else 0
/-- tasks that are dropped as their message is edited -/
def drp (S : kSt) (m : Nat) : Nat → kSt
  | 0 => S
  | n + 1 => if S.2 4 n = m ∧ S.1 14 n = 0 then sI (drp S m n) 14 n 2 else drp S m n
def cMark (S : kSt) (kd : Nat → Nat → Int32) (u m x : Int32) : Int32 := if (inB u (S.2 0 0) && inB m (S.2 0 1)) = false then 1 else if inR x (-1) 1 = false then 2 else if (!gone S (cl u) && (decide (S.1 8 (cl m) = 0) && (decide (x ≠ -1) || decide (kd (cl m) (cl u) ≠ -1)))) = false then 3 else 0
def cSpend (S : kSt) (kd : Nat → Nat → Int32) (u m x : Int32) : Int32 := if (inB u (S.2 0 0) && inB m (S.2 0 1)) = false then 1 else if inR x 1 1000000 = false then 2 else if (!gone S (cl u) && (decide (S.1 8 (cl m) = 0) && (decide (S.2 0 2 < 60) && (appr S (kd (cl m)) (S.2 1 (cl m)) (S.2 0 0) x && decide (¬ S.1 3 (S.2 2 (cl m)) < x))))) = false then 3 else 0
def oSpend (S : kSt) (m x : Int32) : kSt := sN (sI (sI (sI (sI (sN S 3 (S.2 0 2) (cl m)) 10 (S.2 0 2) (S.1 7 (cl m))) 11 (S.2 0 2) x) 12 (S.2 0 2) 0) 3 (S.2 2 (cl m)) (S.1 3 (S.2 2 (cl m)) - x)) 0 2 (S.2 0 2 + 1)
def cTask (S : kSt) (u m w x : Int32) : Int32 := if (inB u (S.2 0 0) && (inB m (S.2 0 1) && inB w (S.2 0 0))) = false then 1 else if inR x 0 10000 = false then 2 else if (!gone S (cl u) && (decide (S.1 8 (cl m) = 0) && decide (S.2 0 3 ≠ 60))) = false then 3 else 0
def oTask (S : kSt) (m w x : Int32) : kSt := sN (sI (sI (sN (sI (sN S 4 (S.2 0 3) (cl m)) 20 (S.2 0 3) (S.1 7 (cl m))) 5 (S.2 0 3) (cl w)) 13 (S.2 0 3) (S.1 0 0 + x)) 14 (S.2 0 3) 0) 0 3 (S.2 0 3 + 1)
def cDone (S : kSt) (u t : Int32) : Int32 := if (inB u (S.2 0 0) && inB t (S.2 0 3)) = false then 1 else if (!gone S (cl u) && (decide (S.2 5 (cl t) = cl u) && decide (S.1 14 (cl t) = 0))) = false then 2 else 0
def oDone (S : kSt) (t : Int32) : kSt := sI S 14 (cl t) 1
def cHold (c : Int32) : Int32 := if inB c 6 = false then 1 else 0
def vHold (S : kSt) (c : Int32) : Int32 := bI (decide (S.1 4 (cl c) = 0))
def oHold (S : kSt) (c : Int32) : kSt := sI S 4 (cl c) (vHold S c)
def cArch (S : kSt) (c : Int32) : Int32 := if inB c 6 = false then 1 else if S.1 4 (cl c) ≠ 0 then 2 else 0
/-- no spend of message m stands, no task of it is open, no reply to it is left: looking at the first n -/
def noSp (S : kSt) (m : Nat) : Nat → Bool
  | 0 => true
  | n + 1 => noSp S m n && (decide (S.2 3 n ≠ m) || decide (S.1 12 n ≠ 0))
def noTk (S : kSt) (m : Nat) : Nat → Bool
  | 0 => true
  | n + 1 => noTk S m n && (decide (S.2 4 n ≠ m) || decide (S.1 14 n ≠ 0))
def noRp (S : kSt) (m : Nat) : Nat → Bool
  | 0 => true
  | n + 1 => noRp S m n && (decide (S.1 5 n ≠ nI m) || decide (S.1 8 n ≠ 0))
def canA (S : kSt) (m : Nat) : Bool := (decide (S.1 8 m = 0) && decide (¬ S.1 0 0 - S.1 6 m < 720)) && (noSp S m (S.2 0 2) && (noTk S m (S.2 0 3) && noRp S m (S.2 0 1)))
/-- the messages from n - 1 down to 0 -/
def arcS (S : kSt) (c : Nat) : Nat → kSt
  | 0 => S
  | n + 1 => if S.2 2 n = c ∧ canA S n = true then arcS (sI S 8 n 1) c n else arcS S c n
def arcN (S : kSt) (c : Nat) : Nat → Nat
  | 0 => 0
  | n + 1 => if S.2 2 n = c ∧ canA S n = true then arcN (sI S 8 n 1) c n + 1 else arcN S c n
def cPass (x : Int32) : Int32 := if inR x 1 1000 = false then 1 else 0
def cMsgOf (S : kSt) (m w : Int32) : Int32 := if inB m (S.2 0 1) = false then 1 else if inR w 0 6 = false then 2 else 0
def rMsgOf (S : kSt) (kd : Nat → Nat → Int32) (m w : Int32) : Int32 := if w = 0 then nI (S.2 1 (cl m)) else if w = 1 then nI (S.2 2 (cl m)) else if w = 2 then S.1 5 (cl m) else if w = 3 then S.1 7 (cl m) else if w = 4 then S.1 6 (cl m) else if w = 5 then bI (decide (S.1 8 (cl m) ≠ 0)) else nI (cntN S (kd (cl m)) (S.2 0 0))
def cAppr (S : kSt) (m x : Int32) : Int32 := if inB m (S.2 0 1) = false then 1 else if inR x 1 1000000 = false then 2 else 0
def rAppr (S : kSt) (kd : Nat → Nat → Int32) (m x : Int32) : Bool := appr S (kd (cl m)) (S.2 1 (cl m)) (S.2 0 0) x
def cSpOf (S : kSt) (s w : Int32) : Int32 := if inB s (S.2 0 2) = false then 1 else if inR w 0 3 = false then 2 else 0
def rSpOf (S : kSt) (s w : Int32) : Int32 := if w = 0 then S.1 12 (cl s) else if w = 1 then nI (S.2 3 (cl s)) else if w = 2 then S.1 10 (cl s) else S.1 11 (cl s)
def cLeft (c : Int32) : Int32 := if inB c 6 = false then 1 else 0
def cNext (S : kSt) (u r : Int32) : Int32 := if (inB u (S.2 0 0) && decide (0 ≤ r)) = false then 1 else 0
/-- how many of the first n tasks are open, for u, and come ahead of task t -/
def ahead (S : kSt) (t k : Nat) : Bool := decide (S.1 13 k < S.1 13 t) || (decide (S.1 13 k = S.1 13 t) && decide (k < t))
def opn (S : kSt) (u k : Nat) : Bool := decide (S.2 5 k = u) && decide (S.1 14 k = 0)
def rnk (S : kSt) (u t : Nat) : Nat → Nat
  | 0 => 0
  | n + 1 => rnk S u t n + (if (opn S u n && ahead S t n) = true then 1 else 0)
/-- the last of the first n that is open for u with so many ahead -/
def nxt (S : kSt) (u : Nat) (r : Int32) : Nat → Int32
  | 0 => -1
  | n + 1 => if (opn S u n && decide (nI (rnk S u n (S.2 0 3)) = r)) = true then nI n else nxt S u r n
def cTaskOf (S : kSt) (t : Int32) : Int32 := if inB t (S.2 0 3) = false then 1 else 0
def cLabel (S : kSt) (t p : Int32) : Int32 := if (inB t (S.2 0 3) && decide (0 ≤ p)) = false then 1 else 0
def rLabel (S : kSt) (t p : Int32) : Int32 := nI ((lab S (cl t)).getD (cl p) 0)
