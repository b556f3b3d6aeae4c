/-! THE LAW'S ARMS -/
theorem lg_self (x : Int64) : lg_cmp x x = 0 := by simp [lg_cmp]
section KLW
variable {p : Program} {l : Launch} {e : Env} {R : Room} {s : State} {m : MethodId} {args : Array Value} {below : List Frame} {meth : Method} {c : Code} {H : Heap} {locs : List Loc} {cells slots : Nat} {Q : State → Prop}
variable {cc : ByteArray} {nL : Nat} {own : String} {E : State} {G : kG} {ad : kAd} {ct : kCt} {pc : Nat} {ls : Array Slot} {rest st0 : List Value} {Qc : Array Value → State → Outcome → State → Prop}
variable {ws : List Cond} {rm : Room} {mc ms index n maxL : Nat} {y : MethodName} {bytes : ByteArray} {ret9 : Option FieldType} {As : List Value} {hh : List (Nat × Nat × Nat × Nat)}
theorem k_cwSW (n : Nat) (ht : ∀ w ∈ wsL_law, w.before args s = true) (hl : Cond.methodLink own index y ∈ wsL_law) (hst : Cond.static y ∈ wsL_law) (hini : Cond.initialized y.cls ∈ wsL_law) (hc : Cond.codeWith y bytes maxL ret9 hh ∈ wsL_law) (hrc : rm.cells = mc) (hrs : rm.slots = ms)
    (hd : y.cls ≠ "java/lang/invoke/MethodHandle" ∧ y.cls ≠ "java/lang/invoke/VarHandle" ∧ (parseMethodDescriptor y.desc).map (fun d => d.parameters.length) = some n) (hR : rm.frames + 1 ≤ R.frames ∧ 8 + (maxL + 11) + rm.locals ≤ R.locals) : vx_CSW R s args own index y bytes maxL ret9 hh (Cond.codeWith y bytes maxL ret9 hh :: wsL_law) rm mc ms n := by
  refine vx_cwSW n ht (fun w hw => ?_) rfl hrc hrs hd hR
  have h9 : w ∈ wsL_law := by
    unfold va_wsS at hw
    rcases List.mem_append.mp hw with h | h
    · simp only [List.mem_cons, List.not_mem_nil, or_false] at h
      rcases h with rfl | rfl | rfl
      · exact hl
      · exact hst
      · exact hini
    · rcases List.mem_cons.mp h with rfl | h
      · exact hc
      · exact h
  exact ⟨h9, wsL_good _ h9⟩
theorem k_xrunSW {XC : String → State → State → Prop} {Ts : List Cond} (Z : kZ p m c cc nL s args Ts own E G) (X : kX E G s H locs ad ct) (hM : vx_Met l y ws rm (va_Pc As (kPre E G ad ct)) Qc XC mc ms (kB E.heap.size)) (cw : vx_CSW R s args own index y bytes maxL ret9 hh ws rm mc ms n) (hn : As.length = n) (hsz : ls.size = nL) (hst : st0 = As.reverse ++ rest) (hcat : (rest.map fun v => v.category).sum ≤ 8) (hdg : decode cc pc = .ok (.invokestatic index, 3)) (hf : cells + mc ≤ R.cells ∧ slots + ms ≤ R.slots) : vx_Run p l e R s m args below meth c H locs cells slots mc ms (F0 m pc ls st0) rest (Qc As.toArray) XC (kB E.heap.size) :=
  vx_runSX Z.1 hM cw ⟨kBlind, fun _ hU hW => ⟨rfl, kPre.at Z.2.1 Z.2.2 X hU hW⟩⟩ rfl hn hsz hst (lv_room hcat) hdg hf
end KLW
def lwLv (b i : Nat) (ad : kAd) : List (Nat × Value) := [(4, .int (nI i)), (0, .ref b), (1, .ref (ad 0 0)), (2, .ref (ad 16 0)), (3, .ref (ad 18 0))]
/-- behind a call: the loop's foot, from any world that is tied -/
def lwK (p : Program) (l : Launch) (e : Env) (s : State) (m : MethodId) (below : List Frame) (meth : Method) (c : Code) (G : kG) (b i n cells slots : Nat) (Q : State → Prop) : Prop := ∀ (S1 T1 : kSt) (o1 : Int64) (ad1 : kAd) (H1 : Heap) (locs1 : List Loc) (ls1 : Array Slot), Tie n S1 T1 → kX s G s H1 locs1 ad1 (cto G S1 T1 o1 ad1) → lv_has ls1 7 (lwLv b i ad1) → W p l e room_1 s m #[Value.ref b] below meth c H1 locs1 cells slots Q (F0 m 1522 ls1 [])
theorem cPass_0 {x : Int32} (h : cPass x = 0) : inR x 1 1000 = true := by
  unfold cPass at h
  by_cases a : inR x 1 1000 = false
  · rw [if_pos a] at h; exact absurd h (by decide)
  · exact eq_true_of_ne_false a
