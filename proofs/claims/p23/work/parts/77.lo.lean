theorem rm_c {n : Nat} (h : n ≤ 400000) : n ≤ room_1.cells := Nat.le_trans h (by decide)
theorem rm_s {n : Nat} (h : n ≤ 4000000) : n ≤ room_1.slots := Nat.le_trans h (by decide)
/-! THE CLAIM OUT OF ONE WALK OF THE LAW'S BODY. Your part is whole_start (and what it stands on); all else here is the same for every law, but numbers. -/
def R_law : String := "MarkChatLaw"
def lw_P (b : Addr) (xs : List Int32) (args : Array Value) (s : State) : Prop := args = #[.ref b] ∧ s.IntsAt b xs ∧ xs.length ≤ 260 ∧ (Jvm.Cond.and given_1 narrow_1).before args s = true
def lw_Q (_ : Array Value) (s : State) (o : Outcome) (t : State) : Prop := o = .returned (some (.int 1)) ∧ Framed s o t [] room_1.cells room_1.slots
def lw_Z (below : List Frame) (a : Array Value) (s : State) : State → Prop := fun t => ∃ o, t.status = .running ∧ Ended t below o ∧ lw_Q a s o t
/-- the law's own end, with 1 on the stack, nothing written that was there before, its room as the claim has it -/
theorem lw_ret {p : Program} {l : Launch} {e : Env} {s : State} {m : MethodId} {below : List Frame} {meth : Method} {c : Code} {b : Nat} (hx : p.tables.exec = Jvm.exec) (hb : c.code = code) (hr : meth.sig.returnType = ret) (hlocks : meth.locks = false) {pc : Nat} {H : Heap} {ls : Array Slot} (hdg : decode code pc = .ok (.ireturn, 1)) : W p l e room_1 s m #[Value.ref b] below meth c H [] room_1.cells room_1.slots (lw_Z below #[Value.ref b] s) (F0 m pc ls [.int 1]) := by
  intro T hT X
  obtain ⟨fs, hret, hrun, hended, hW, hframe⟩ := X.leave (v := some (.int 1)) (hlocks := hlocks) (fun h => by rw [hr] at h; cases h)
  have hmeth' : T.vm.method? m = some meth := X.method'
  refine ⟨T.setFrames fs, ?_, .returned (some (.int 1)), hrun, hended, rfl, ⟨_, rfl⟩, hW, hframe⟩
  jvm_step X.here [X.here.top, hx, hb, hdg, hmeth', hr, ret, narrow_b1]
  (try refine ⟨rfl, ?_⟩); (try refine ⟨rfl, ?_⟩)
  first | (intro acts; rw [hret _ acts rfl rfl rfl]) | rw [hret _ _ rfl rfl rfl]
  exact Steps.refl _
/-- what holds at the law's entry: the machine, the code, the tables' words (any of lw_tbl by 'hts w (by decide +kernel)'), the script of L ints xs at the cell b, what the Statement gives of the start (any of its parts by flat_of_before) -/
def lw_At (p : Program) (s : State) (m : MethodId) (meth : Method) (c : Code) (b L : Nat) (xs : Nat → Int32) : Prop :=
  p.tables.exec = Jvm.exec ∧ c.code = code ∧ meth.sig.returnType = ret ∧ c.maxLocals = 24 ∧ s.vm.findClass R_law = some m.cls ∧ (∀ w ∈ lw_tbl, w.before #[Value.ref b] s = true) ∧ va_X b L xs s s.heap ∧ b < s.heap.size ∧ meth.locks = false ∧ (Jvm.Cond.and given_1 narrow_1).before #[Value.ref b] s = true
/-! WHAT THE LAW'S BODY STANDS ON -/
theorem BB.tr {n : Nat} {S S1 A : kSt} (h : LT S A) (hN : okN S) (h1 : LT S1 A) (hN1 : okN S1) (hB : BB n S) : BB n S1 := by
  have c0 := h.c
  have c1 := h1.c
  have e2 : S1.2 0 2 = S.2 0 2 := (nI_eq (by omega) (by omega)).mp (h1.g3.symm.trans h.g3)
  have e12 : ∀ j, j < S.2 0 2 → S1.1 12 j = S.1 12 j := fun j hj => by
    have a := h.ss hN (j := j) hj
    have a1 := h1.ss hN1 (j := j) (by omega)
    have b := a.1
    have b1 := a1.1
    have e : encs S1 j = encs S j := (nI_eq (by omega) (by omega)).mp ((h1.s (by omega)).symm.trans (h.s hj))
    rw [← a1.2.2.1, ← a.2.2.1, e]
  refine ⟨fun k hk => ?_, fun c hc => ?_⟩
  · obtain ⟨x, x1, x2⟩ := hB.1 k (by omega)
    exact ⟨x, x1, ((h1.a hk).symm.trans (h.a (by omega))).trans x2⟩
  · obtain ⟨b, b1, b2⟩ := hB.2 c hc
    exact ⟨b, ((h1.b hc).symm.trans (h.b hc)).trans b1, by rw [e2, stN_new e12]; exact b2⟩
section IVJ
variable {n : Nat} {S A : kSt}
theorem Iv.bx (h : Iv n S A) {i : Nat} (hi : i = 7 ∨ i = 14) (y : Int32) : Iv n S (sI A 6 i y) := ⟨⟨h.1.1, h.1.2.1.bx hi y, (sI_f (by decide)).trans h.1.2.2⟩, h.2⟩
theorem Iv.g5 (h : Iv n S A) {z : Int32} (hz : z = A.1 11 5) : Iv n S (sI A 11 5 z) := ⟨⟨h.1.1, h.1.2.1.g5 z, by rw [sI_s, hz]; exact h.1.2.2⟩, h.2⟩
theorem Iv.junk (h : Iv n S A) {y z : Int32} (hz : z = A.1 11 5) : Iv n S (sI (sI A 6 7 y) 11 5 z) := (h.bx (Or.inl rfl) y).g5 (by rw [sI_f (by decide), hz])
theorem Iv.hrs (h : Iv n S A) (hn : n ≤ 90) : ∃ hr, hr < 100000 ∧ S.1 0 0 = nI hr := by
  obtain ⟨⟨hr, h1, h2⟩, -⟩ := h.1.ok.2.2.2.2.2.2
  exact ⟨hr, by omega, h2⟩
end IVJ
theorem itP_kd (S : kSt) (kd : Nat → Nat → Int32) (j : Nat) : kdS (itP S kd j) = kdS S := by
  funext a u
  show (itP S kd j).1 (100 + a) u = S.1 (100 + a) u
  exact (itP_r S kd j).2 _ _ (by omega) (by omega) (by omega)
theorem itP_step (S : kSt) (j : Nat) : stl (sI (itP S (kdS S) j) 0 0 ((itP S (kdS S) j).1 0 0 + 1)) (kdS (sI (itP S (kdS S) j) 0 0 ((itP S (kdS S) j).1 0 0 + 1))) ((sI (itP S (kdS S) j) 0 0 ((itP S (kdS S) j).1 0 0 + 1)).2 0 2) = itP S (kdS S) (j + 1) := by
  rw [kdS_sI (by decide), itP_kd]
  show stl _ _ ((itP S (kdS S) j).2 0 2) = _
  rw [(itP_r S (kdS S) j).1]
  rfl
theorem itP_00 (S : kSt) (kd : Nat → Nat → Int32) : ∀ j, (itP S kd j).1 0 0 = S.1 0 0 + nI j
  | 0 => (Int32.add_zero _).symm
  | j + 1 => by
    show (stl (sI (itP S kd j) 0 0 ((itP S kd j).1 0 0 + 1)) kd (S.2 0 2)).1 0 0 = _
    rw [stl_1 (by decide), sI_s, itP_00 S kd j, Int32.add_assoc]
    exact congrArg (S.1 0 0 + ·) (nI_1 j)
theorem itP_okN {S : kSt} (h : okN S) (kd : Nat → Nat → Int32) (j : Nat) : okN (sI (itP S kd j) 0 0 ((itP S kd j).1 0 0 + 1)) := okN_c (itP_r S kd j).1 h
/-- the law's numbers out of two of the script's -/
def rqU (i x : Nat) : Nat := if i < 5 then (if i % 4 = 0 then 3 else x % 4) else x % 4
theorem rqU_lt (i x : Nat) : rqU i x < 4 := by unfold rqU; split; split; decide; all_goals omega
def hoE (x : Nat) : Nat := if x % 4 = 0 then 0 else if x % 4 = 1 then x / 4 % 10002 + 1 else x / 4 % 6 + 1
theorem hoE_lt (x : Nat) : hoE x ≤ 10002 := by unfold hoE; split; omega; split <;> omega
def chB (i x : Nat) : Nat := if i < 7 then i % 2 else x % 7
theorem chB_lt (i x : Nat) : chB i x < 7 := by unfold chB; split <;> omega
def cnB (x : Nat) : Nat := if x % 3 = 0 then x * 17 else x % 4000
theorem cnB_lt {x : Nat} (h : x < 60000) : cnB x < 1020000 := by unfold cnB; split <;> omega
def chA (x : Nat) : Nat := if x % 13 = 0 then 6 else x % 2
theorem chA_lt (x : Nat) : chA x < 7 := by unfold chA; split <;> omega
def hqP (x : Nat) : Nat := if x % 4 = 0 then 700 + x % 301 else 1 + x % 12
theorem hqP_in (x : Nat) : 1 ≤ hqP x ∧ hqP x ≤ 1000 := by unfold hqP; split <;> omega
theorem m1_s (h : Nat) : nI (h + 1) - 1 = nI h := nI_pred h
/-- what the locals hold at the loop's head, and behind a call -/
def lwLh (b i : Nat) (ad : kAd) : List (Nat × Value) := [(0, .ref b), (1, .ref (ad 0 0)), (2, .ref (ad 17 0)), (3, .ref (ad 17 1)), (4, .ref (ad 17 2)), (5, .ref (ad 17 3)), (6, .ref (ad 17 4)), (7, .ref (ad 17 5)), (8, .ref (ad 17 6)), (9, .ref (ad 17 7)), (10, .ref (ad 17 8)), (11, .ref (ad 17 9)), (12, .ref (ad 17 10)), (13, .int 1), (14, .int (nI i))]
def lwLf (b i x1 : Nat) (ad : kAd) : List (Nat × Value) := [(0, .ref b), (1, .ref (ad 0 0)), (2, .ref (ad 17 0)), (3, .ref (ad 17 1)), (4, .ref (ad 17 2)), (5, .ref (ad 17 3)), (6, .ref (ad 17 4)), (7, .ref (ad 17 5)), (8, .ref (ad 17 6)), (9, .ref (ad 17 7)), (10, .ref (ad 17 8)), (11, .ref (ad 17 9)), (12, .ref (ad 17 10)), (13, .int 1), (14, .int (nI i)), (16, .int (nI x1))]
/-- the loop's head, from any world that is tied -/
def lwH (p : Program) (l : Launch) (e : Env) (s : State) (m : MethodId) (below : List Frame) (meth : Method) (c : Code) (E : State) (G : kG) (b i : Nat) (o : Int64) (Q : State → Prop) : Prop := ∀ (S1 A1 : kSt) (ad1 : kAd) (H1 : Heap) (locs1 : List Loc) (ls1 : Array Slot), Iv i S1 A1 → kX E G s H1 locs1 ad1 (cto G S1 A1 o ad1) → lv_has ls1 24 (lwLh b i ad1) → W p l e room_1 s m #[Value.ref b] below meth c H1 locs1 (1100 * i + 200) (8000 * i + 9000) Q (F0 m 201 ls1 [])
/-- behind a call: ahead of the settling -/
def lwF (p : Program) (l : Launch) (e : Env) (s : State) (m : MethodId) (below : List Frame) (meth : Method) (c : Code) (E : State) (G : kG) (b i x1 : Nat) (o : Int64) (Q : State → Prop) : Prop := ∀ (S1 A1 : kSt) (ad1 : kAd) (H1 : Heap) (locs1 : List Loc) (ls1 : Array Slot), Mid (i + 1) S1 A1 → kX E G s H1 locs1 ad1 (cto G S1 A1 o ad1) → lv_has ls1 24 (lwLf b i x1 ad1) → W p l e room_1 s m #[Value.ref b] below meth c H1 locs1 (1100 * i + 240) (8000 * i + 10000) Q (F0 m 1231 ls1 [])
