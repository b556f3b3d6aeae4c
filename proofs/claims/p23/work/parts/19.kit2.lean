/-! WHAT HOLDS OF THE START, carried on to every later state; throws, and calls that may throw -/
def kBW : List Cond := [.castable "java/lang/IllegalArgumentException" "java/lang/IllegalArgumentException", .castable "java/lang/IllegalStateException" "java/lang/IllegalStateException", .castable "java/lang/IndexOutOfBoundsException" "java/lang/IndexOutOfBoundsException", .declares ⟨"java/lang/RuntimeException", "<init>", "(Ljava/lang/String;)V"⟩, .declares ⟨"java/lang/Exception", "<init>", "(Ljava/lang/String;)V"⟩, .declares ⟨"java/lang/Throwable", "<init>", "(Ljava/lang/String;)V"⟩, .declares ⟨"java/lang/Object", "getClass", "()Ljava/lang/Class;"⟩, .castable "MarkChat$Channel" "java/lang/Object", .castable "MarkChat$User" "java/lang/Object", .castable "MarkChat$Message" "java/lang/Object", .castable "MarkChat$Spend" "java/lang/Object", .castable "MarkChat$Task" "java/lang/Object", .castable "[B" "java/lang/Cloneable", .classLink RL 76 "java/lang/IllegalStateException", .classLink RL 73 "java/lang/IllegalArgumentException"]
def kTX : List (Nat × String) := [(98, "the budget would be too high"), (118, "the message is of another channel"), (134, "the user is not the author"), (155, "there is no mark to take off"), (171, "the message is not approved for that amount"), (173, "the budget has not so much"), (194, "the task is for another user"), (199, "the task is not open"), (208, "the channel is on hold"), (229, "a message has no such thing"), (249, "a spend has no such thing"), (253, "no such rank"), (268, "no such place"), (279, "no such user"), (281, "no such channel"), (283, "no such message"), (285, "no such spend"), (287, "no such task"), (289, "an argument is out of range"), (291, "there would be more than told"), (297, "the user is gone"), (299, "the message is archived")]
def kTN : List String := ["java/lang/RuntimeException", "java/lang/Exception"]
def kMv (w : Cond) : Bool := match w with
  | .castable _ _ => true
  | .declares _ => true
  | .classLink _ _ _ => true
  | _ => false
theorem kMv_at {A A' : Array Value} {s U : State} {w : Cond} (hW : s.WarmedH U.vm) (hg : kMv w = true) (h : w.before A s = true) : w.before A' U = true := by
  have hot : w.onTables = true := by cases w <;> first | rfl | cases hg
  by_cases hw : (w.onTables && w.keeps) = true
  · exact word_at hW (Or.inl hw) h
  have e : w.before A (s.setVm U.vm) = true := by
    cases w <;> first | (exact absurd rfl hw) | (cases hg; done) | (rw [Cond.castable_setVm hW.alike]; exact h) | (rw [Cond.declares_setVm hW.alike]; exact h)
  exact va_tabs hot (rfl : (s.setVm U.vm).vm = U.vm) e
theorem kBW_mv : ∀ w ∈ kBW, kMv w = true := List.all_eq_true.mp (show kBW.all kMv = true by decide +kernel)
def kNC : List (String × String) := [("java/lang/IllegalArgumentException", "java/lang/IllegalStateException"), ("java/lang/IllegalArgumentException", "java/lang/IndexOutOfBoundsException"), ("java/lang/IllegalStateException", "java/lang/IllegalArgumentException"), ("java/lang/IllegalStateException", "java/lang/IndexOutOfBoundsException"), ("java/lang/IndexOutOfBoundsException", "java/lang/IllegalArgumentException"), ("java/lang/IndexOutOfBoundsException", "java/lang/IllegalStateException")]
abbrev kOa (G : kG) (n : Nat) (f : Nat → Option Nat) : va_E := .inl (G.2.2.2.2.1, n, .inr (.inr (.inr (.inr f))))
def kE (l : Launch) (E : State) (G : kG) : Prop :=
  l.stackTraces = false ∧ (∃ A : Array Value, ∀ w ∈ kBW, w.before A E = true) ∧
  (vx_Zq Bundle.tN "UNASSIGNED_STACK" Bundle.steD (kB E.heap.size) E E.heap ∧ vx_Zq Bundle.tN "SUPPRESSED_SENTINEL" Bundle.listD (kB E.heap.size) E E.heap) ∧
  (∀ q ∈ kTX, ∃ a, vk_R RX7 q.1 q.2 a E) ∧
  (va_Z "java/util/ArrayList" "DEFAULTCAPACITY_EMPTY_ELEMENTDATA" "[Ljava/lang/Object;" (.ref G.2.2.2.2.2.2) (kB E.heap.size) E E.heap ∧ va_T (.object "java/lang/Object") G.2.2.2.2.2.2 0 (fun _ => .null) (kB E.heap.size) E E.heap) ∧
  va_Z "java/lang/String" "COMPACT_STRINGS" "Z" (.int 1) (kB E.heap.size) E E.heap ∧
  (∃ a1 a2 : Nat, va_Z "java/lang/Integer" "DigitOnes" "[B" (.ref a1) (kB E.heap.size) E E.heap ∧ va_Z "java/lang/Integer" "DigitTens" "[B" (.ref a2) (kB E.heap.size) E E.heap ∧ va_T .byte a1 100 (fun k => .int (nI (48 + k % 10))) (kB E.heap.size) E E.heap ∧ va_T .byte a2 100 (fun k => .int (nI (48 + k / 10))) (kB E.heap.size) E E.heap) ∧
  (∃ mi : Nat, va_Mi "[Ljava/lang/Object;" mi E) ∧ va_AO "java/lang/Object" E ∧ va_Zq "jdk/internal/util/Preconditions" "SIOOBE_FORMATTER" "Ljava/util/function/BiFunction;" (kB E.heap.size) E E.heap ∧ ∀ q ∈ kNC, va_Nc q.1 q.2 E
theorem kE.nc {l : Launch} {E s : State} {G : kG} (h : kE l E G) (hM : kM E s) {a b : String} (hw : (a, b) ∈ kNC) : va_Nc a b s := va_Nc.moved hM.1.alike (h.2.2.2.2.2.2.2.2.2.2 _ hw)
theorem kE.word {l : Launch} {E s : State} {G : kG} (h : kE l E G) (hM : kM E s) {A : Array Value} {w : Cond} (hw : w ∈ kBW) : w.before A s = true := by
  obtain ⟨A0, h0⟩ := h.2.1
  exact kMv_at hM.1 (kBW_mv w hw) (h0 w hw)
theorem kM.kept {E s : State} (hM : kM E s) : ∀ a : Nat, a < E.heap.size → ¬ kB E.heap.size a → s.heap[a]? = E.heap[a]? := fun a h _ => hM.2.2 a h
theorem kM.z {E s : State} (hM : kM E s) {C n d : String} {v : Value} (h : va_Z C n d v (kB E.heap.size) E E.heap) : va_Z C n d v (kB E.heap.size) s s.heap := (va_Z.moved hM.1.alike h).kept hM.kept
theorem kM.zq0 {E s : State} (hM : kM E s) {C n d : String} (h : va_Zq C n d (kB E.heap.size) E E.heap) : va_Zq C n d (kB E.heap.size) s s.heap := (va_Zq.moved hM.1.alike h).kept hM.kept
theorem kM.zq {E s : State} (hM : kM E s) {C n d : String} (h : vx_Zq C n d (kB E.heap.size) E E.heap) : vx_Zq C n d (kB E.heap.size) s s.heap := (vx_Zq.moved hM.1.alike h).kept hM.kept
theorem kM.tb {E s : State} (hM : kM E s) {ty : FieldType} {t N : Nat} {f : Nat → Value} (h : va_T ty t N f (kB E.heap.size) E E.heap) : va_T ty t N f (kB E.heap.size) s s.heap := (va_T.moved hM.1.alike h).kept hM.kept
def kThr (ic : Nat) (cls : String) : Prop := (∀ w ∈ (vx_atS RX7 ic cls kTN).filter goodWord, w ∈ wsL_law) ∧ (∀ w ∈ (vx_atS RX7 ic cls kTN).filter (fun w => !goodWord w), w ∈ kBW) ∧ (∀ w ∈ vx_atS RX7 ic cls kTN, vx_ot w = true) ∧ Bundle.fit cls = true ∧ (vx_ot (.initialized cls) = true ∧ ∀ ik, vx_ot (.classLink RX7 ik cls) = true)
set_option maxRecDepth 100000 in
theorem kThr_IAE : kThr 231 "java/lang/IllegalArgumentException" :=
  ⟨fun w h => List.mem_append_left _ (List.mem_append_left _ (List.mem_append_right _ h)),
   fun w h => of_decide_eq_true (List.all_eq_true.mp (show ((vx_atS RX7 231 "java/lang/IllegalArgumentException" kTN).filter (fun w => !goodWord w)).all (fun w => decide (w ∈ kBW)) = true by decide +kernel) w h),
   List.all_eq_true.mp (show (vx_atS RX7 231 "java/lang/IllegalArgumentException" kTN).all vx_ot = true by decide +kernel), by decide +kernel, rfl, fun _ => rfl⟩
set_option maxRecDepth 100000 in
theorem kThr_ISE : kThr 100 "java/lang/IllegalStateException" :=
  ⟨fun w h => List.mem_append_left _ (List.mem_append_right _ h),
   fun w h => of_decide_eq_true (List.all_eq_true.mp (show ((vx_atS RX7 100 "java/lang/IllegalStateException" kTN).filter (fun w => !goodWord w)).all (fun w => decide (w ∈ kBW)) = true by decide +kernel) w h),
   List.all_eq_true.mp (show (vx_atS RX7 100 "java/lang/IllegalStateException" kTN).all vx_ot = true by decide +kernel), by decide +kernel, rfl, fun _ => rfl⟩
set_option maxRecDepth 100000 in
theorem kThr_IOO : kThr 255 "java/lang/IndexOutOfBoundsException" :=
  ⟨fun w h => List.mem_append_right _ h,
   fun w h => of_decide_eq_true (List.all_eq_true.mp (show ((vx_atS RX7 255 "java/lang/IndexOutOfBoundsException" kTN).filter (fun w => !goodWord w)).all (fun w => decide (w ∈ kBW)) = true by decide +kernel) w h),
   List.all_eq_true.mp (show (vx_atS RX7 255 "java/lang/IndexOutOfBoundsException" kTN).all vx_ot = true by decide +kernel), by decide +kernel, rfl, fun _ => rfl⟩
section KX2
variable {p : Program} {l : Launch} {e : Env} {R : Room} {s : State} {m : MethodId} {args : Array Value} {below : List Frame} {meth : Method} {c : Code} {H : Heap} {locs : List Loc} {cells slots : Nat} {Q : State → Prop}
variable {cc : ByteArray} {nL : Nat} {own : String} {E : State} {G : kG} {ad : kAd} {ct : kCt} {pc : Nat} {ls : Array Slot} {rest st0 : List Value} {Qc : Array Value → State → Outcome → State → Prop} {PX : String → kAd → kCt → Prop}
variable {ws : List Cond} {rm : Room} {mc ms index n b maxL : Nat} {y : MethodName} {bytes : ByteArray} {ret : Option FieldType} {C : String} {As : List Value}
theorem kXC_of {t : State} {x : String} (X : kX E G s H locs ad ct) (hp : PX x ad ct) (h1 : H.size ≤ t.heap.size) (h2 : ∀ q : Nat, q < H.size → t.heap[q]? = H[q]?) : kXC E G PX x s t :=
  ⟨(ad, ct), trivial, ⟨hp, X.1.kept h1 h2⟩, ⟨Nat.le_trans X.2.1 h1, fun q hq hA => (h2 q (Nat.lt_of_lt_of_le hq X.2.1)).trans (X.2.2.1 q hq hA)⟩⟩
theorem k_throwW {cls text : String} {ik is ic : Nat} (hE : kE l E G) (Z : kZ p m c cc nL s args wsL_law RX7 E G) (X : kX E G s H locs ad ct) (hout : ∀ x ∈ c.exceptionTable.toList, False) (hlocks : meth.locks = false) (hsz : ls.size = nL)
    (hthr : kThr ic cls) (hk : Cond.classLink RX7 ik cls ∈ wsL_law) (hini : Cond.initialized cls ∈ wsL_law) (htx : (is, text) ∈ kTX)
    (d0 : decode cc pc = .ok (.new ik, 3)) (d3 : decode cc (pc + 3) = .ok (.dup, 1)) (d4 : decode cc (pc + 4) = .ok (.ldc_w is, 3)) (d7 : decode cc (pc + 7) = .ok (.invokespecial ic, 3)) (d10 : decode cc (pc + 10) = .ok (.athrow, 1))
    (hcat : (rest.map fun v => v.category).sum ≤ 8) (hR : 6 ≤ R.frames ∧ 90 ≤ R.locals ∧ 1 ≤ R.cells ∧ 6 ≤ R.slots) (hc : cells + 1 ≤ mc ∧ cells + 1 ≤ R.cells) (hs : slots + 6 ≤ ms ∧ slots + 6 ≤ R.slots) (hp : PX cls ad ct) :
    W p l e R s m args below meth c H locs cells slots (vx_MQ below Qc (kXC E G PX) args s mc ms (kB E.heap.size)) (F0 m pc ls rest) := by
  obtain ⟨sa, hsa⟩ := hE.2.2.2.1 _ htx
  have hts := Z.1.2.2.2.2
  have hat : ∀ w ∈ vx_atS RX7 ic cls kTN, w.before args s = true := vx_hat (fun w h => hts w (hthr.1 w h)) hthr.2.1 (fun w h => hE.word Z.2.1 h)
  refine vx_throwSW (own := RX7) (names := kTN) (A := kB E.heap.size) Z.1.1 Z.1.2.1 hE.1 Z.1.2.2.2.1 hthr.2.2.2.1 (by decide +kernel) (hts _ hk) (hts _ hini) (hsa.warm Z.2.1.1) hat ?_ (Z.2.1.zq hE.2.2.1.1) (Z.2.1.zq hE.2.2.1.2) X.2 (hsz.trans Z.1.2.2.1.symm) d0 d3 d4 d7 d10 (fun x h => (hout x h).elim) ?_ ?_ hc.2 hs.2 hlocks (fun t _ h1 h2 => kXC_of X hp h1 h2) X.2.2.2 hc.1 hs.1
  · intro w hw
    rcases List.mem_cons.mp hw with rfl | hw
    · exact hthr.2.2.2.2.2 _
    · rcases List.mem_cons.mp hw with rfl | hw
      · exact hthr.2.2.2.2.1
      · exact hthr.2.2.1 w hw
  · show 2 + 3 < R.frames
    omega
  · show _ + (13 * (2 + 1) + 43) ≤ R.locals
    omega
theorem k_throwS {cls text : String} {ik is ic : Nat} (hE : kE l E G) (Z : kZ p m c cc nL s args wsL_law RX7 E G) (X : kX E G s H locs ad ct) (hout : ∀ x ∈ c.exceptionTable.toList, False) (hlocks : meth.locks = false) (hsz : ls.size = nL)
    (hthr : kThr ic cls) (hk : Cond.classLink RX7 ik cls ∈ wsL_law) (hini : Cond.initialized cls ∈ wsL_law) (htx : (is, text) ∈ kTX)
    (d0 : decode cc pc = .ok (.new ik, 3)) (d3 : decode cc (pc + 3) = .ok (.dup, 1)) (d4 : decode cc (pc + 4) = .ok (.ldc is, 2)) (d6 : decode cc (pc + 6) = .ok (.invokespecial ic, 3)) (d9 : decode cc (pc + 9) = .ok (.athrow, 1))
    (hcat : (rest.map fun v => v.category).sum ≤ 8) (hR : 6 ≤ R.frames ∧ 90 ≤ R.locals ∧ 1 ≤ R.cells ∧ 6 ≤ R.slots) (hc : cells + 1 ≤ mc ∧ cells + 1 ≤ R.cells) (hs : slots + 6 ≤ ms ∧ slots + 6 ≤ R.slots) (hp : PX cls ad ct) :
    W p l e R s m args below meth c H locs cells slots (vx_MQ below Qc (kXC E G PX) args s mc ms (kB E.heap.size)) (F0 m pc ls rest) := by
  obtain ⟨sa, hsa⟩ := hE.2.2.2.1 _ htx
  have hts := Z.1.2.2.2.2
  have hat : ∀ w ∈ vx_atS RX7 ic cls kTN, w.before args s = true := vx_hat (fun w h => hts w (hthr.1 w h)) hthr.2.1 (fun w h => hE.word Z.2.1 h)
  refine vx_throwS (own := RX7) (names := kTN) (A := kB E.heap.size) Z.1.1 Z.1.2.1 hE.1 Z.1.2.2.2.1 hthr.2.2.2.1 (by decide +kernel) (hts _ hk) (hts _ hini) (hsa.warm Z.2.1.1) hat ?_ (Z.2.1.zq hE.2.2.1.1) (Z.2.1.zq hE.2.2.1.2) X.2 (hsz.trans Z.1.2.2.1.symm) d0 d3 d4 d6 d9 (fun x h => (hout x h).elim) ?_ ?_ hc.2 hs.2 hlocks (fun t _ h1 h2 => kXC_of X hp h1 h2) X.2.2.2 hc.1 hs.1
  · intro w hw
    rcases List.mem_cons.mp hw with rfl | hw
    · exact hthr.2.2.2.2.2 _
    · rcases List.mem_cons.mp hw with rfl | hw
      · exact hthr.2.2.2.2.1
      · exact hthr.2.2.1 w hw
  · show 2 + 3 < R.frames
    omega
  · show _ + (13 * (2 + 1) + 43) ≤ R.locals
    omega
/-- not caught: on to the caller -/
theorem k_out {x : String} {ce : Cell} {q9 : Addr} (hout : ∀ x ∈ c.exceptionTable.toList, False) (hlocks : meth.locks = false) (X : kX E G s H locs ad ct) (hcell : H[q9]? = some ce) (hv : ce.vm = .none) (hcl : s.vm.findClass x = some ce.cls) (hp : PX x ad ct) (hc : cells ≤ mc) (hs : slots ≤ ms) : vx_W p l e R s m args below meth c H locs cells slots (vx_MQ below Qc (kXC E G PX) args s mc ms (kB E.heap.size)) (F0 m pc ls rest) q9 :=
  vx_out (fun x h => (hout x h).elim) hlocks hcell hv hcl (fun t ht _ => kXC_of X hp (by rw [ht]; exact Nat.le_refl _) (fun q _ => by rw [ht])) X.2.2.2 hc hs
theorem k_xRi {P : Int32 → kAd → kCt → Prop} {a : Array Value} (X : kX E G s H locs ad ct) (hr : vx_Run p l e R s m args below meth c H locs cells slots mc ms (F0 m pc ls st0) rest (kQi E G P a) (kXC E G PX) (kB E.heap.size))
    (kx : ∀ (x : String) (ce : Cell) (q9 : Addr) (ad1 : kAd) (ct1 : kCt) (H1 : Heap) (locs1 : List Loc), PX x ad1 ct1 → kX E G s H1 locs1 ad1 ct1 → H1[q9]? = some ce → ce.vm = .none → s.vm.findClass x = some ce.cls → vx_W p l e R s m args below meth c H1 locs1 (cells + mc) (slots + ms) Q (F0 m pc ls rest) q9)
    (kk : ∀ (r : Int32) (ad1 : kAd) (ct1 : kCt) (H1 : Heap) (locs1 : List Loc), P r ad1 ct1 → kX E G s H1 locs1 ad1 ct1 → W p l e R s m args below meth c H1 locs1 (cells + mc) (slots + ms) Q (F0 m (pc + 3) ls (.int r :: rest))) : W p l e R s m args below meth c H locs cells slots Q (F0 m pc ls st0) :=
  vx_calli (post := fun (r : Int32) (u : kAd × kCt) => P r u.1 u.2) (px := fun (_ : kAd × kCt) => True) (B := fun (u : kAd × kCt) (t : State) => kW E.heap.size G u.1 u.2 t.heap) (BX := fun (x : String) (u : kAd × kCt) (t : State) => PX x u.1 u.2 ∧ kW E.heap.size G u.1 u.2 t.heap) (A1 := kB E.heap.size) (AX := kB E.heap.size) hr X.2 (fun _ _ h => h) (fun _ h => h) (fun _ _ h => h)
    (fun x ce q9 u t H1 locs1 ht _ _ hb _ _ hS h1 h2 h3 => kx x ce q9 u.1 u.2 H1 locs1 hb.1 ⟨by rw [← ht]; exact hb.2, hS⟩ h1 h2 h3)
    (fun r u t H1 locs1 ht _ hp hb _ _ hS => kk r u.1 u.2 H1 locs1 hp ⟨by rw [← ht]; exact hb, hS⟩)
theorem k_xRv {P : kAd → kCt → Prop} {a : Array Value} (X : kX E G s H locs ad ct) (hr : vx_Run p l e R s m args below meth c H locs cells slots mc ms (F0 m pc ls st0) rest (kQv E G P a) (kXC E G PX) (kB E.heap.size))
    (kx : ∀ (x : String) (ce : Cell) (q9 : Addr) (ad1 : kAd) (ct1 : kCt) (H1 : Heap) (locs1 : List Loc), PX x ad1 ct1 → kX E G s H1 locs1 ad1 ct1 → H1[q9]? = some ce → ce.vm = .none → s.vm.findClass x = some ce.cls → vx_W p l e R s m args below meth c H1 locs1 (cells + mc) (slots + ms) Q (F0 m pc ls rest) q9)
    (kk : ∀ (ad1 : kAd) (ct1 : kCt) (H1 : Heap) (locs1 : List Loc), P ad1 ct1 → kX E G s H1 locs1 ad1 ct1 → W p l e R s m args below meth c H1 locs1 (cells + mc) (slots + ms) Q (F0 m (pc + 3) ls rest)) : W p l e R s m args below meth c H locs cells slots Q (F0 m pc ls st0) :=
  vx_callv (post := fun (u : kAd × kCt) => P u.1 u.2) (px := fun (_ : kAd × kCt) => True) (B := fun (u : kAd × kCt) (t : State) => kW E.heap.size G u.1 u.2 t.heap) (BX := fun (x : String) (u : kAd × kCt) (t : State) => PX x u.1 u.2 ∧ kW E.heap.size G u.1 u.2 t.heap) (A1 := kB E.heap.size) (AX := kB E.heap.size) hr X.2 (fun _ _ h => h) (fun _ h => h) (fun _ _ h => h)
    (fun x ce q9 u t H1 locs1 ht _ _ hb _ _ hS h1 h2 h3 => kx x ce q9 u.1 u.2 H1 locs1 hb.1 ⟨by rw [← ht]; exact hb.2, hS⟩ h1 h2 h3)
    (fun u t H1 locs1 ht _ hp hb _ _ hS => kk u.1 u.2 H1 locs1 hp ⟨by rw [← ht]; exact hb, hS⟩)
theorem k_xRq {P : Option Nat → kAd → kCt → Prop} {a : Array Value} (X : kX E G s H locs ad ct) (hr : vx_Run p l e R s m args below meth c H locs cells slots mc ms (F0 m pc ls st0) rest (kQq E G P a) (kXC E G PX) (kB E.heap.size))
    (kx : ∀ (x : String) (ce : Cell) (q9 : Addr) (ad1 : kAd) (ct1 : kCt) (H1 : Heap) (locs1 : List Loc), PX x ad1 ct1 → kX E G s H1 locs1 ad1 ct1 → H1[q9]? = some ce → ce.vm = .none → s.vm.findClass x = some ce.cls → vx_W p l e R s m args below meth c H1 locs1 (cells + mc) (slots + ms) Q (F0 m pc ls rest) q9)
    (kk : ∀ (r : Option Nat) (ad1 : kAd) (ct1 : kCt) (H1 : Heap) (locs1 : List Loc), P r ad1 ct1 → kX E G s H1 locs1 ad1 ct1 → W p l e R s m args below meth c H1 locs1 (cells + mc) (slots + ms) Q (F0 m (pc + 3) ls (va_rf r :: rest))) : W p l e R s m args below meth c H locs cells slots Q (F0 m pc ls st0) := by
  intro T hT X9
  rcases hr T hT X9 with ⟨v, st₀, t, T', L, h0, X', hL, e1, e2, ⟨⟨r, u, hv, hp, hb⟩, hF⟩, st⟩ | ⟨q, st₀, t, T', L, x, ce, h0, X', hL, e1, e2, ⟨u, -, hb, hF⟩, hce, hcv, hcl, st⟩
  · cases hv
    obtain ⟨k1, k2, k3⟩ := vx_keep h0 e1 X.2 (fun _ _ h => h) (fun _ h => h) hL hF
    obtain ⟨t2, a1, b1⟩ := kk r u.1 u.2 T'.heap (locs ++ L) hp ⟨by rw [e1]; exact hb, k3⟩ T' rfl X'
    exact ⟨t2, st t2 a1, b1⟩
  · obtain ⟨k1, k2, k3⟩ := vx_keep h0 e1 X.2 (fun _ _ h => h) (fun _ h => h) hL hF
    obtain ⟨t2, a1, b1⟩ := kx x ce q u.1 u.2 T'.heap (locs ++ L) hb.1 ⟨by rw [e1]; exact hb.2, k3⟩ (by rw [e1]; exact hce) hcv hcl T' rfl X'
    exact ⟨t2, st.trans a1, b1⟩
theorem k_xrunV {XC : String → State → State → Prop} {Ts : List Cond} (Z : kZ p m c cc nL s args Ts own E G) (X : kX E G s H locs ad ct) (hM : vx_Met l y ws rm (va_Pc (.ref b :: As) (kPre E G ad ct)) Qc XC mc ms (kB E.heap.size)) (cw : CallW R s args own C index y bytes maxL ret ws rm mc ms n) (hrecv : ∃ cell : Cell, H[b]? = some cell ∧ cell.vm.isStatics = false ∧ s.vm.findClass C = some cell.cls) (hn : As.length = n) (hsz : ls.size = nL) (hst : st0 = As.reverse ++ .ref b :: rest) (hcat : (rest.map fun v => v.category).sum ≤ 8) (hdg : decode cc pc = .ok (.invokevirtual index, 3)) (hf : cells + mc ≤ R.cells ∧ slots + ms ≤ R.slots) : vx_Run p l e R s m args below meth c H locs cells slots mc ms (F0 m pc ls st0) rest (Qc (Value.ref b :: As).toArray) XC (kB E.heap.size) :=
  vx_runV Z.1 hM cw ⟨kBlind, hrecv, fun _ hU hW => ⟨rfl, kPre.at Z.2.1 Z.2.2 X hU hW⟩⟩ rfl hn hsz hst (lv_room hcat) hdg hf
theorem k_xrunS {XC : String → State → State → Prop} {Ts : List Cond} (Z : kZ p m c cc nL s args Ts own E G) (X : kX E G s H locs ad ct) (hM : vx_Met l y ws rm (va_Pc As (kPre E G ad ct)) Qc XC mc ms (kB E.heap.size)) (cw : CallB R s args own index y bytes maxL ret ws rm mc ms n ∧ (Cond.static y).before args s = true) (hn : As.length = n) (hsz : ls.size = nL) (hst : st0 = As.reverse ++ rest) (hcat : (rest.map fun v => v.category).sum ≤ 8) (hdg : decode cc pc = .ok (.invokestatic index, 3)) (hf : cells + mc ≤ R.cells ∧ slots + ms ≤ R.slots) : vx_Run p l e R s m args below meth c H locs cells slots mc ms (F0 m pc ls st0) rest (Qc As.toArray) XC (kB E.heap.size) :=
  vx_runS Z.1 hM cw ⟨kBlind, fun _ hU hW => ⟨rfl, kPre.at Z.2.1 Z.2.2 X hU hW⟩⟩ rfl hn hsz hst (lv_room hcat) hdg hf
/-- a cast of an object to its own class -/
theorem k_cast {k i ci : Nat} {r : vw_C} {fs : List Value} {Ts : List Cond} (Z : kZ p m c cc nL s args Ts own E G) (X : kX E G s H locs ad ct) (hc : ct k i = some (.inr (ci, fs))) (hcl : vwCl[ci]? = some r) (hlink : Cond.classLink own index r.1 ∈ Ts) (hdg : decode cc pc = .ok (.checkcast index, 3))
    (kk : W p l e R s m args below meth c H locs cells slots Q (F0 m (pc + 3) ls (.ref (ad k i) :: rest))) : W p l e R s m args below meth c H locs cells slots Q (F0 m pc ls (.ref (ad k i) :: rest)) :=
  va_castS Z.1.1 Z.1.2.1 Z.1.2.2.2.1 (Z.1.2.2.2.2 _ hlink) (Z.2.2.1 ci r hcl).2 (k_recv Z X hc hcl) hdg kk
theorem k_gets {C fn fd ref : String} {v : Value} {Ts : List Cond} (Z : kZ p m c cc nL s args Ts own E G) (X : kX E G s H locs ad ct) (hZ : va_Z C fn fd v (kB E.heap.size) E E.heap) (hlink : Cond.fieldLink own index ref fn fd ∈ Ts) (hsame : ∀ x, s.fieldFound? C fn fd = some x → s.fieldFound? ref fn fd = some x) (hdg : decode cc pc = .ok (.getstatic index, 3))
    (kk : W p l e R s m args below meth c H locs cells slots Q (F0 m (pc + 3) ls (v :: rest))) : W p l e R s m args below meth c H locs cells slots Q (F0 m pc ls rest) :=
  va_gets Z.1.1 Z.1.2.1 (Z.2.1.z hZ) X.2 Z.1.2.2.2.1 (Z.1.2.2.2.2 _ hlink) hsame hdg kk
theorem k_objInit {a : Addr} {Ts : List Cond} (Z : kZ p m c cc nL s args Ts own E G) (hlink : Cond.methodLink own index Lib.objectInit ∈ Ts) (hinst : Cond.instanceMethod Lib.objectInit ∈ Ts) (hcode : Cond.code Lib.objectInit ⟨#[0xb1]⟩ 1 none ∈ Ts) (hsz : ls.size = nL) (hcat : (rest.map fun v => v.category).sum ≤ 8) (hR : 1 ≤ R.frames ∧ 20 ≤ R.locals) (hdg : decode cc pc = .ok (.invokespecial index, 3))
    (kk : W p l e R s m args below meth c H locs cells slots Q (F0 m (pc + 3) ls rest)) : W p l e R s m args below meth c H locs cells slots Q (F0 m pc ls (.ref a :: rest)) :=
  W.objInit Z.1.1 Z.1.2.1 Z.1.2.2.2.1 (Z.1.2.2.2.2 _ hlink) (Z.1.2.2.2.2 _ hinst) (Z.1.2.2.2.2 _ hcode) (g := F0 m pc ls (.ref a :: rest)) rfl (hsz.trans Z.1.2.2.1.symm) rfl hdg hR.1 (by show 2 * 0 + _ + 12 ≤ _; omega) kk
end KX2
