section
-- ===== PART A: goes FIRST, ahead of the names: the tables' words, and 'selects' of the private methods out of them =====
/-- a private method of a class that the tables say can be made, by its rows of tables_1 -/
def lw_okq (q : MethodName × Nat) : Prop := (q.1.cls ≠ "java/lang/invoke/MethodHandle" ∧ q.1.cls ≠ "java/lang/invoke/VarHandle") ∧ Cond.instantiable q.1.cls q.2 ∈ tables_1 ∧ Cond.privateMethod q.1 ∈ tables_1 ∧ Cond.instanceMethod q.1 ∈ tables_1
theorem lw_p0 : lw_okq (⟨"java/util/ArrayList", "add", "(Ljava/lang/Object;[Ljava/lang/Object;I)V"⟩, 3) := ⟨⟨by decide +kernel, by decide +kernel⟩, List.mem_of_getElem? (i := 41) (by decide +kernel), List.mem_of_getElem? (i := 88) (by decide +kernel), List.mem_of_getElem? (i := 89) (by decide +kernel)⟩
theorem lw_p1 : lw_okq (⟨"java/util/ArrayList", "grow", "()[Ljava/lang/Object;"⟩, 3) := ⟨⟨by decide +kernel, by decide +kernel⟩, List.mem_of_getElem? (i := 41) (by decide +kernel), List.mem_of_getElem? (i := 92) (by decide +kernel), List.mem_of_getElem? (i := 93) (by decide +kernel)⟩
theorem lw_p2 : lw_okq (⟨"java/util/ArrayList", "grow", "(I)[Ljava/lang/Object;"⟩, 3) := ⟨⟨by decide +kernel, by decide +kernel⟩, List.mem_of_getElem? (i := 41) (by decide +kernel), List.mem_of_getElem? (i := 96) (by decide +kernel), List.mem_of_getElem? (i := 97) (by decide +kernel)⟩
theorem lw_p3 : lw_okq (⟨"java/lang/Throwable", "fillInStackTrace", "(I)Ljava/lang/Throwable;"⟩, 6) := ⟨⟨by decide +kernel, by decide +kernel⟩, List.mem_of_getElem? (i := 255) (by decide +kernel), List.mem_of_getElem? (i := 253) (by decide +kernel), List.mem_of_getElem? (i := 254) (by decide +kernel)⟩
theorem lw_p4 : lw_okq (⟨"MarkChat", "userAt", "(I)LMarkChat$User;"⟩, 8) := ⟨⟨by decide +kernel, by decide +kernel⟩, List.mem_of_getElem? (i := 33) (by decide +kernel), List.mem_of_getElem? (i := 336) (by decide +kernel), List.mem_of_getElem? (i := 337) (by decide +kernel)⟩
theorem lw_p5 : lw_okq (⟨"MarkChat", "takeSpendsBack", "()V"⟩, 8) := ⟨⟨by decide +kernel, by decide +kernel⟩, List.mem_of_getElem? (i := 33) (by decide +kernel), List.mem_of_getElem? (i := 370) (by decide +kernel), List.mem_of_getElem? (i := 371) (by decide +kernel)⟩
theorem lw_p6 : lw_okq (⟨"MarkChat", "isStillDue", "(LMarkChat$Spend;)Z"⟩, 8) := ⟨⟨by decide +kernel, by decide +kernel⟩, List.mem_of_getElem? (i := 33) (by decide +kernel), List.mem_of_getElem? (i := 375) (by decide +kernel), List.mem_of_getElem? (i := 376) (by decide +kernel)⟩
theorem lw_p7 : lw_okq (⟨"MarkChat", "approve", "(LMarkChat$Marks;LMarkChat$Message;I)Z"⟩, 8) := ⟨⟨by decide +kernel, by decide +kernel⟩, List.mem_of_getElem? (i := 33) (by decide +kernel), List.mem_of_getElem? (i := 379) (by decide +kernel), List.mem_of_getElem? (i := 380) (by decide +kernel)⟩
theorem lw_p8 : lw_okq (⟨"MarkChat", "channelAt", "(I)LMarkChat$Channel;"⟩, 8) := ⟨⟨by decide +kernel, by decide +kernel⟩, List.mem_of_getElem? (i := 33) (by decide +kernel), List.mem_of_getElem? (i := 409) (by decide +kernel), List.mem_of_getElem? (i := 410) (by decide +kernel)⟩
theorem lw_p9 : lw_okq (⟨"MarkChat", "messageAt", "(I)LMarkChat$Message;"⟩, 8) := ⟨⟨by decide +kernel, by decide +kernel⟩, List.mem_of_getElem? (i := 33) (by decide +kernel), List.mem_of_getElem? (i := 424) (by decide +kernel), List.mem_of_getElem? (i := 425) (by decide +kernel)⟩
theorem lw_p10 : lw_okq (⟨"MarkChat", "refuseGone", "(LMarkChat$User;)V"⟩, 8) := ⟨⟨by decide +kernel, by decide +kernel⟩, List.mem_of_getElem? (i := 33) (by decide +kernel), List.mem_of_getElem? (i := 435) (by decide +kernel), List.mem_of_getElem? (i := 436) (by decide +kernel)⟩
theorem lw_p11 : lw_okq (⟨"MarkChat$Log", "write", "(III)V"⟩, 4) := ⟨⟨by decide +kernel, by decide +kernel⟩, List.mem_of_getElem? (i := 146) (by decide +kernel), List.mem_of_getElem? (i := 498) (by decide +kernel), List.mem_of_getElem? (i := 499) (by decide +kernel)⟩
theorem lw_p12 : lw_okq (⟨"MarkChat", "dropTasksOf", "(I)V"⟩, 8) := ⟨⟨by decide +kernel, by decide +kernel⟩, List.mem_of_getElem? (i := 33) (by decide +kernel), List.mem_of_getElem? (i := 502) (by decide +kernel), List.mem_of_getElem? (i := 503) (by decide +kernel)⟩
theorem lw_p13 : lw_okq (⟨"MarkChat", "countMarks", "(LMarkChat$Marks;)I"⟩, 8) := ⟨⟨by decide +kernel, by decide +kernel⟩, List.mem_of_getElem? (i := 33) (by decide +kernel), List.mem_of_getElem? (i := 523) (by decide +kernel), List.mem_of_getElem? (i := 524) (by decide +kernel)⟩
theorem lw_p14 : lw_okq (⟨"MarkChat", "taskAt", "(I)LMarkChat$Task;"⟩, 8) := ⟨⟨by decide +kernel, by decide +kernel⟩, List.mem_of_getElem? (i := 33) (by decide +kernel), List.mem_of_getElem? (i := 854) (by decide +kernel), List.mem_of_getElem? (i := 855) (by decide +kernel)⟩
theorem lw_p15 : lw_okq (⟨"MarkChat", "mayBeArchived", "(LMarkChat$Message;)Z"⟩, 8) := ⟨⟨by decide +kernel, by decide +kernel⟩, List.mem_of_getElem? (i := 33) (by decide +kernel), List.mem_of_getElem? (i := 876) (by decide +kernel), List.mem_of_getElem? (i := 877) (by decide +kernel)⟩
def lw_privs_1 : List (MethodName × Nat) := [(⟨"java/util/ArrayList", "add", "(Ljava/lang/Object;[Ljava/lang/Object;I)V"⟩, 3), (⟨"java/util/ArrayList", "grow", "()[Ljava/lang/Object;"⟩, 3), (⟨"java/util/ArrayList", "grow", "(I)[Ljava/lang/Object;"⟩, 3), (⟨"java/lang/Throwable", "fillInStackTrace", "(I)Ljava/lang/Throwable;"⟩, 6), (⟨"MarkChat", "userAt", "(I)LMarkChat$User;"⟩, 8), (⟨"MarkChat", "takeSpendsBack", "()V"⟩, 8), (⟨"MarkChat", "isStillDue", "(LMarkChat$Spend;)Z"⟩, 8), (⟨"MarkChat", "approve", "(LMarkChat$Marks;LMarkChat$Message;I)Z"⟩, 8), (⟨"MarkChat", "channelAt", "(I)LMarkChat$Channel;"⟩, 8), (⟨"MarkChat", "messageAt", "(I)LMarkChat$Message;"⟩, 8), (⟨"MarkChat", "refuseGone", "(LMarkChat$User;)V"⟩, 8), (⟨"MarkChat$Log", "write", "(III)V"⟩, 4), (⟨"MarkChat", "dropTasksOf", "(I)V"⟩, 8), (⟨"MarkChat", "countMarks", "(LMarkChat$Marks;)I"⟩, 8), (⟨"MarkChat", "taskAt", "(I)LMarkChat$Task;"⟩, 8), (⟨"MarkChat", "mayBeArchived", "(LMarkChat$Message;)Z"⟩, 8)]
theorem lw_r1 : ∀ q ∈ lw_privs_1, lw_okq q := List.forall_mem_cons.mpr ⟨lw_p0, List.forall_mem_cons.mpr ⟨lw_p1, List.forall_mem_cons.mpr ⟨lw_p2, List.forall_mem_cons.mpr ⟨lw_p3, List.forall_mem_cons.mpr ⟨lw_p4, List.forall_mem_cons.mpr ⟨lw_p5, List.forall_mem_cons.mpr ⟨lw_p6, List.forall_mem_cons.mpr ⟨lw_p7, List.forall_mem_cons.mpr ⟨lw_p8, List.forall_mem_cons.mpr ⟨lw_p9, List.forall_mem_cons.mpr ⟨lw_p10, List.forall_mem_cons.mpr ⟨lw_p11, List.forall_mem_cons.mpr ⟨lw_p12, List.forall_mem_cons.mpr ⟨lw_p13, List.forall_mem_cons.mpr ⟨lw_p14, List.forall_mem_cons.mpr ⟨lw_p15, fun _ h => absurd h List.not_mem_nil⟩⟩⟩⟩⟩⟩⟩⟩⟩⟩⟩⟩⟩⟩⟩⟩
theorem lw_p16 : lw_okq (⟨"MarkChat", "hasStandingSpend", "(I)Z"⟩, 8) := ⟨⟨by decide +kernel, by decide +kernel⟩, List.mem_of_getElem? (i := 33) (by decide +kernel), List.mem_of_getElem? (i := 880) (by decide +kernel), List.mem_of_getElem? (i := 881) (by decide +kernel)⟩
theorem lw_p17 : lw_okq (⟨"MarkChat", "hasOpenTask", "(I)Z"⟩, 8) := ⟨⟨by decide +kernel, by decide +kernel⟩, List.mem_of_getElem? (i := 33) (by decide +kernel), List.mem_of_getElem? (i := 884) (by decide +kernel), List.mem_of_getElem? (i := 885) (by decide +kernel)⟩
theorem lw_p18 : lw_okq (⟨"MarkChat", "hasReplyLeft", "(I)Z"⟩, 8) := ⟨⟨by decide +kernel, by decide +kernel⟩, List.mem_of_getElem? (i := 33) (by decide +kernel), List.mem_of_getElem? (i := 888) (by decide +kernel), List.mem_of_getElem? (i := 889) (by decide +kernel)⟩
theorem lw_p19 : lw_okq (⟨"MarkChat", "spendAt", "(I)LMarkChat$Spend;"⟩, 8) := ⟨⟨by decide +kernel, by decide +kernel⟩, List.mem_of_getElem? (i := 33) (by decide +kernel), List.mem_of_getElem? (i := 927) (by decide +kernel), List.mem_of_getElem? (i := 928) (by decide +kernel)⟩
theorem lw_p20 : lw_okq (⟨"MarkChat", "rankOf", "(LMarkChat$Task;)I"⟩, 8) := ⟨⟨by decide +kernel, by decide +kernel⟩, List.mem_of_getElem? (i := 33) (by decide +kernel), List.mem_of_getElem? (i := 952) (by decide +kernel), List.mem_of_getElem? (i := 953) (by decide +kernel)⟩
theorem lw_p21 : lw_okq (⟨"MarkChatModel", "fails", "(I)Z"⟩, 29) := ⟨⟨by decide +kernel, by decide +kernel⟩, List.mem_of_getElem? (i := 991) (by decide +kernel), List.mem_of_getElem? (i := 1100) (by decide +kernel), List.mem_of_getElem? (i := 1101) (by decide +kernel)⟩
theorem lw_p22 : lw_okq (⟨"MarkChatModel", "isUser", "(I)Z"⟩, 29) := ⟨⟨by decide +kernel, by decide +kernel⟩, List.mem_of_getElem? (i := 991) (by decide +kernel), List.mem_of_getElem? (i := 1108) (by decide +kernel), List.mem_of_getElem? (i := 1109) (by decide +kernel)⟩
theorem lw_p23 : lw_okq (⟨"MarkChatModel", "settles", "()V"⟩, 29) := ⟨⟨by decide +kernel, by decide +kernel⟩, List.mem_of_getElem? (i := 991) (by decide +kernel), List.mem_of_getElem? (i := 1112) (by decide +kernel), List.mem_of_getElem? (i := 1113) (by decide +kernel)⟩
theorem lw_p24 : lw_okq (⟨"MarkChatModel", "approves", "(II)Z"⟩, 29) := ⟨⟨by decide +kernel, by decide +kernel⟩, List.mem_of_getElem? (i := 991) (by decide +kernel), List.mem_of_getElem? (i := 1116) (by decide +kernel), List.mem_of_getElem? (i := 1117) (by decide +kernel)⟩
theorem lw_p25 : lw_okq (⟨"MarkChatModel", "counts", "(II)Z"⟩, 29) := ⟨⟨by decide +kernel, by decide +kernel⟩, List.mem_of_getElem? (i := 991) (by decide +kernel), List.mem_of_getElem? (i := 1120) (by decide +kernel), List.mem_of_getElem? (i := 1121) (by decide +kernel)⟩
theorem lw_p26 : lw_okq (⟨"MarkChatModel", "isGone", "(I)Z"⟩, 29) := ⟨⟨by decide +kernel, by decide +kernel⟩, List.mem_of_getElem? (i := 991) (by decide +kernel), List.mem_of_getElem? (i := 1124) (by decide +kernel), List.mem_of_getElem? (i := 1125) (by decide +kernel)⟩
theorem lw_p27 : lw_okq (⟨"MarkChatModel", "isMessage", "(I)Z"⟩, 29) := ⟨⟨by decide +kernel, by decide +kernel⟩, List.mem_of_getElem? (i := 991) (by decide +kernel), List.mem_of_getElem? (i := 1145) (by decide +kernel), List.mem_of_getElem? (i := 1146) (by decide +kernel)⟩
theorem lw_p28 : lw_okq (⟨"MarkChatModel", "counted", "(I)I"⟩, 29) := ⟨⟨by decide +kernel, by decide +kernel⟩, List.mem_of_getElem? (i := 991) (by decide +kernel), List.mem_of_getElem? (i := 1157) (by decide +kernel), List.mem_of_getElem? (i := 1158) (by decide +kernel)⟩
theorem lw_p29 : lw_okq (⟨"MarkChatModel", "isTask", "(I)Z"⟩, 29) := ⟨⟨by decide +kernel, by decide +kernel⟩, List.mem_of_getElem? (i := 991) (by decide +kernel), List.mem_of_getElem? (i := 1173) (by decide +kernel), List.mem_of_getElem? (i := 1174) (by decide +kernel)⟩
theorem lw_p30 : lw_okq (⟨"MarkChatModel", "canArchive", "(I)Z"⟩, 29) := ⟨⟨by decide +kernel, by decide +kernel⟩, List.mem_of_getElem? (i := 991) (by decide +kernel), List.mem_of_getElem? (i := 1185) (by decide +kernel), List.mem_of_getElem? (i := 1186) (by decide +kernel)⟩
theorem lw_p31 : lw_okq (⟨"MarkChatModel", "putsNumber", "(I)V"⟩, 29) := ⟨⟨by decide +kernel, by decide +kernel⟩, List.mem_of_getElem? (i := 991) (by decide +kernel), List.mem_of_getElem? (i := 1221) (by decide +kernel), List.mem_of_getElem? (i := 1222) (by decide +kernel)⟩
def lw_privs_2 : List (MethodName × Nat) := [(⟨"MarkChat", "hasStandingSpend", "(I)Z"⟩, 8), (⟨"MarkChat", "hasOpenTask", "(I)Z"⟩, 8), (⟨"MarkChat", "hasReplyLeft", "(I)Z"⟩, 8), (⟨"MarkChat", "spendAt", "(I)LMarkChat$Spend;"⟩, 8), (⟨"MarkChat", "rankOf", "(LMarkChat$Task;)I"⟩, 8), (⟨"MarkChatModel", "fails", "(I)Z"⟩, 29), (⟨"MarkChatModel", "isUser", "(I)Z"⟩, 29), (⟨"MarkChatModel", "settles", "()V"⟩, 29), (⟨"MarkChatModel", "approves", "(II)Z"⟩, 29), (⟨"MarkChatModel", "counts", "(II)Z"⟩, 29), (⟨"MarkChatModel", "isGone", "(I)Z"⟩, 29), (⟨"MarkChatModel", "isMessage", "(I)Z"⟩, 29), (⟨"MarkChatModel", "counted", "(I)I"⟩, 29), (⟨"MarkChatModel", "isTask", "(I)Z"⟩, 29), (⟨"MarkChatModel", "canArchive", "(I)Z"⟩, 29), (⟨"MarkChatModel", "putsNumber", "(I)V"⟩, 29)]
theorem lw_r2 : ∀ q ∈ lw_privs_2, lw_okq q := List.forall_mem_cons.mpr ⟨lw_p16, List.forall_mem_cons.mpr ⟨lw_p17, List.forall_mem_cons.mpr ⟨lw_p18, List.forall_mem_cons.mpr ⟨lw_p19, List.forall_mem_cons.mpr ⟨lw_p20, List.forall_mem_cons.mpr ⟨lw_p21, List.forall_mem_cons.mpr ⟨lw_p22, List.forall_mem_cons.mpr ⟨lw_p23, List.forall_mem_cons.mpr ⟨lw_p24, List.forall_mem_cons.mpr ⟨lw_p25, List.forall_mem_cons.mpr ⟨lw_p26, List.forall_mem_cons.mpr ⟨lw_p27, List.forall_mem_cons.mpr ⟨lw_p28, List.forall_mem_cons.mpr ⟨lw_p29, List.forall_mem_cons.mpr ⟨lw_p30, List.forall_mem_cons.mpr ⟨lw_p31, fun _ h => absurd h List.not_mem_nil⟩⟩⟩⟩⟩⟩⟩⟩⟩⟩⟩⟩⟩⟩⟩⟩
theorem lw_p32 : lw_okq (⟨"MarkChatModel", "puts", "(I)V"⟩, 29) := ⟨⟨by decide +kernel, by decide +kernel⟩, List.mem_of_getElem? (i := 991) (by decide +kernel), List.mem_of_getElem? (i := 1225) (by decide +kernel), List.mem_of_getElem? (i := 1226) (by decide +kernel)⟩
def lw_privs_3 : List (MethodName × Nat) := [(⟨"MarkChatModel", "puts", "(I)V"⟩, 29)]
theorem lw_r3 : ∀ q ∈ lw_privs_3, lw_okq q := List.forall_mem_cons.mpr ⟨lw_p32, fun _ h => absurd h List.not_mem_nil⟩
def lw_privs : List (MethodName × Nat) := lw_privs_1 ++ (lw_privs_2 ++ (lw_privs_3))
def lw_tbl : List Cond := k2_sels lw_privs ++ tables_1
theorem lw_privs_ok : ∀ q ∈ lw_privs, lw_okq q := by
  show ∀ q ∈ lw_privs_1 ++ (lw_privs_2 ++ (lw_privs_3)), lw_okq q
  exact List.forall_mem_append.mpr ⟨lw_r1, List.forall_mem_append.mpr ⟨lw_r2, lw_r3⟩⟩
-- ===== end of PART A; then your names; then what follows =====
end
section
/-! ===== BEGIN words of one list among another's, by their places ===== -/
theorem goodIn_r {big : List Cond} (ws : List Cond) (ps : List Nat) (hp : ws = ps.filterMap (fun i => big[i]?)) (h : ws.all goodWord = true) : GoodIn big ws := by
  intro w hw
  have h1 := List.all_eq_true.mp h w hw
  rw [hp] at hw
  obtain ⟨i, -, hi⟩ := List.mem_filterMap.mp hw
  have hm : w ∈ big := by first | exact List.mem_of_getElem? hi | exact List.getElem?_mem hi
  exact ⟨hm, good_of_word h1⟩
theorem goodIn_app {big a b : List Cond} (ha : GoodIn big a) (hb : GoodIn big b) : GoodIn big (a ++ b) := fun w h => (List.mem_append.mp h).elim (ha w) (hb w)
theorem goodIn_ca {big a b : List Cond} {c : Cond} (ha : GoodIn big (c :: a)) (hb : GoodIn big b) : GoodIn big (c :: (a ++ b)) := fun w h => (List.mem_cons.mp h).elim (fun e => ha w (List.mem_cons.mpr (Or.inl e))) (fun h => (List.mem_append.mp h).elim (fun h => ha w (List.mem_cons.mpr (Or.inr h))) (hb w))
theorem goodIn_sub {big ws : List Cond} (hm : ∀ w ∈ ws, w ∈ big) (h : ws.all goodWord = true) : GoodIn big ws := fun w hw => ⟨hm w hw, good_of_word (List.all_eq_true.mp h w hw)⟩
/-! ===== END ===== -/

/-! ===== BEGIN exceptions that leave a method, and their catching by the caller (launches without stack traces) ===== -/
section VXA
/-! The laws vx_back, vx_callV, vx_callS, vx_callSW, vx_throw0, vx_throwS follow proofs of the library, with one case more: JvmDerived/Free/Laws.lean (Back.of_free), Shelf42/LK1.lean (callV, callS), Shelf/KitTraced.lean (throwNew0V, throwNewS). -/
/-- where a method has thrown q: the class by its name, the cell, what was written, the world -/
def vx_T (XC : String → State → State → Prop) (st : State) (q : Addr) (t : State) (mc ms : Nat) (free : Addr → Prop) : Prop :=
  ∃ (E : String) (ce : Cell) (L : List Loc), XC E st t ∧ t.heap[q]? = some ce ∧ ce.vm = .none ∧ st.vm.findClass E = some ce.cls ∧ st.WarmedH t.vm ∧ st.sameButNew ({ t with vm := st.vm } : State) L mc ms ∧ ∀ z ∈ L, free z.base
def vx_Q (Qc : Array Value → State → Outcome → State → Prop) (XC : String → State → State → Prop) (mc ms : Nat) (free : Addr → Prop) : Array Value → State → Outcome → State → Prop := fun a st o t =>
  (Qc a st o t ∧ ∃ L, FrameEnd st o t L mc ms ∧ ∀ q ∈ L, free q.base) ∨ ∃ q, o = .threw q ∧ vx_T XC st q t mc ms free
/-- a callee that returns or throws -/
def vx_Met (l : Launch) (y : MethodName) (ws : List Cond) (rm : Room) (Pc : Array Value → State → Prop) (Qc : Array Value → State → Outcome → State → Prop) (XC : String → State → State → Prop) (mc ms : Nat) (free : Addr → Prop) : Prop :=
  MetFree l y (headSpec ws rm) Pc (fun _ _ _ _ _ => True) (vx_Q Qc XC mc ms free)
def vx_Post (XC : String → State → State → Prop) (mc ms : Nat) (free : Addr → Prop) : Pt → Array Value → Addr → Pt → Prop := fun A a q B =>
  ∃ (g : JFrame) (mk : MethodId) (t : State) (L : List Loc) (E : String) (ce : Cell), B.U.heap = t.heap ∧ B.U.vm = t.vm ∧ XC E (A.U.calling g mk a) t ∧ t.heap[q]? = some ce ∧ ce.vm = .none ∧ A.U.vm.findClass E = some ce.cls ∧ B.locs = A.locs ++ L ∧ (∀ z ∈ L, free z.base) ∧ B.cells = A.cells + mc ∧ B.slots = A.slots + ms
def vx_Back (l : Launch) (R : Room) (p : Program) (e : Env) (below : List Frame) (s : State) (sargs : Array Value) (y : MethodName) (len W9 : Nat)
    (Pre : Pt → Array Value → Prop) (Post : Pt → Array Value → Option Value → Pt → Prop) (PostX : Pt → Array Value → Addr → Pt → Prop) : Prop :=
  ∀ (m : MethodId) (meth : Method) (c : Code) (A : Pt) (g : JFrame) (ig : Instr) (mk : MethodId) (a : Array Value),
    Stand p l e R s m sargs below meth c A.U A.locs A.cells A.slots → g.method = m → g.locals.size = c.maxLocals → decode c.code g.pc = .ok (ig, len) →
    2 * g.monitorRoom + (g.stack.map fun v => v.category).sum ≤ W9 → A.U.methodNamed? y = some mk → Pre A a →
    (∃ (v : Option Value) (B : Pt), Stand p l e R s m sargs below meth c B.U B.locs B.cells B.slots ∧ Post A a v B ∧
      Steps p.tables e below (doInvoke e (A.U.setTop g) [] mk a).1 (B.U.setTop { g with pc := g.pc + len, stack := v.toList ++ g.stack })) ∨
    (∃ (q : Addr) (B : Pt), Stand p l e R s m sargs below meth c B.U B.locs B.cells B.slots ∧ PostX A a q B ∧
      Steps p.tables e below (doInvoke e (A.U.setTop g) [] mk a).1 ((B.U.setTop g).pushFrame (.throwing q)))
section Payer
variable {l : Launch} {R : Room} {p : Program} {e : Env} {below : List Frame} {s : State} {sargs : Array Value} {y : MethodName} {len W9 : Nat}
theorem vx_back {ws : List Cond} {rm : Room} {Pc : Array Value → State → Prop} {Qc : Array Value → State → Outcome → State → Prop} {XC : String → State → State → Prop} {mc ms : Nat} {free : Addr → Prop} {bytes : ByteArray} {maxL : Nat} {ret : Option FieldType}
    (hM : vx_Met l y ws rm Pc Qc XC mc ms free) (hblind : FrameBlind Pc) (hrc : rm.cells = mc) (hrs : rm.slots = ms)
    (hframes : rm.frames + 1 ≤ R.frames) (hlocals : W9 + (maxL + 11) + rm.locals ≤ R.locals)
    (hws : ∀ w ∈ ws, ∀ a' U, s.WarmedH U.vm → w.before a' U = true) (hcode : Cond.code y bytes maxL ret ∈ ws) (hinit : ∀ a' U, s.WarmedH U.vm → (Cond.initialized y.cls).before a' U = true) :
    vx_Back l R p e below s sargs y len W9 (PreOf R mc ms Pc) (PostOf Qc mc ms free) (vx_Post XC mc ms free) := by
  intro m meth c A g ig mk a X hg hsize hdg hW hn hp
  have h1 : (headSpec ws rm).pre.before a A.U = true := atoms_intro fun w hw => hws w hw _ _ X.warmed
  have h2 : (Cond.code y bytes maxL ret).before a A.U = true := hws _ hcode _ _ X.warmed
  have h3 : (Cond.initialized y.cls).before a A.U = true := hinit _ _ X.warmed
  have h4 : A.cells + (headSpec ws rm).room.cells ≤ R.cells := by rw [show (headSpec ws rm).room.cells = mc from hrc]; exact hp.1
  have h5 : A.slots + (headSpec ws rm).room.slots ≤ R.slots := by rw [show (headSpec ws rm).room.slots = ms from hrs]; exact hp.2.1
  have hPc : Pc a (A.U.calling g mk a) := hblind _ _ _ _ hp.2.2
  obtain ⟨U, Ls, c0, s0⟩ := A
  dsimp only [Pt.U, Pt.locs, Pt.cells, Pt.slots] at h1 h2 h3 h4 h5 X hn hPc ⊢
  obtain ⟨methY, cY, hmY, hcY, -, hlY, -, -, -, -⟩ := Cond.code_spec hn h2
  obtain ⟨kY, hkY, -⟩ := className_of_methodNamed hn
  have hinitY : kY.init = .initialized := Cond.initialized_spec (findClass_of_methodNamed hn) hkY h3
  have h : At U g.method c below := by rw [hg]; exact X.here
  have hlocals9 : W9 + (maxL + 11) + (headSpec ws rm).room.locals ≤ R.locals := hlocals
  have happ : (headSpec ws rm).appliesLoose y e.platform (U.calling g mk a) = true :=
    Spec.appliesLoose_calling (g := g) h hdg hn hkY hinitY
      (X.room_calling (g := g) (R' := (headSpec ws rm).room) hsize hmY hcY hframes (by rw [hlY]; omega) h4 h5) h1
  obtain ⟨mid, hmid⟩ := h.above
  have hfr : (U.setTop g).frames = (.java g :: mid) ++ below := by rw [State.frames_setTop' g h.top, hmid]; rfl
  obtain ⟨o, s₂, hsteps, -, hend, hq⟩ := Steps.callFree hM p X.admits X.cas X.clock (acts := []) hfr happ hPc trivial
  have hq' : vx_Q Qc XC mc ms free a (U.calling g mk a) o s₂ := hq
  rw [State.frames_setTop' g h.top] at hend
  obtain ⟨g₀, hg0⟩ := Option.isSome_iff_exists.mp h.top
  obtain ⟨r, hr⟩ := State.topJava?_eq_some.mp hg0
  have hr' : (({ U with heap := s₂.heap, slotsUsed := s₂.slotsUsed } : State).setVm s₂.vm).frames = .java g₀ :: r := hr
  rcases hq' with ⟨hqc, L, hfe, hL⟩ | ⟨q, rfl, E, ce, L, hx, hce, hcv, hcl, hW₂, hsm, hL⟩
  · obtain ⟨⟨v, rfl⟩, hW₂, e2, q2, q3, q4, q5, q6⟩ := id hfe
    have e3 : s₂ = ({ (U.calling g mk a).setFrames s₂.frames with heap := s₂.heap, slotsUsed := s₂.slotsUsed } : State).setVm s₂.vm := by
      have : s₂ = ({ s₂ with vm := (U.calling g mk a).vm } : State).setVm s₂.vm := rfl
      rw [e2] at this
      exact this
    obtain ⟨c₂, i₂, len₂, hc₂, hd₂, hf₂⟩ := hend
    have hW' : U.WarmedH s₂.vm := hW₂
    have hcc : c₂ = c := by
      have h1 : s₂.code? g.method = U.code? g.method := by
        rw [State.code?_eq, State.code?_eq, hW'.alike.method?]
      exact Option.some.inj (hc₂.symm.trans (h1.trans h.code))
    subst hcc
    have hlen : len₂ = len := by rw [hdg] at hd₂; cases hd₂; rfl
    subst hlen
    have hs₂ : s₂ = (({ U with heap := s₂.heap, slotsUsed := s₂.slotsUsed } : State).setVm s₂.vm).setTop { g with pc := g.pc + len₂, stack := v.toList ++ g.stack } := by
      refine e3.trans ?_
      rw [hf₂, State.calling_eq h.top, State.setFrames_setFrames, State.setTop_of_frames _ hr', hr]
      rfl
    have hsame : U.sameButNew ({ U with heap := s₂.heap, slotsUsed := s₂.slotsUsed } : State) L mc ms := by
      refine ⟨?_, q2, q3, q4, q5, q6⟩
      obtain ⟨t, ht, -⟩ := State.frames_cons hr
      show ({ U with heap := s₂.heap, slotsUsed := s₂.slotsUsed } : State) = { U.setFrames U.frames with heap := s₂.heap, slotsUsed := s₂.slotsUsed }
      rw [State.setFrames_self ht]
    subst hg
    refine Or.inl ⟨v, ⟨(({ U with heap := s₂.heap, slotsUsed := s₂.slotsUsed } : State).setVm s₂.vm), Ls ++ L, c0 + mc, s0 + ms⟩,
      ⟨X.admits, X.cas, X.clock, X.frames, X.room, X.hears, X.method, X.code, (X.here.setHeapUsed s₂.heap s₂.slotsUsed).setVm hW'.alike, X.tail, State.WarmedH.trans X.warmed hW', X.limits, X.bytes, X.same.trans (hsame.setVm s.vm)⟩,
      ⟨g, mk, s₂, L, rfl, rfl, hqc, rfl, hL, rfl, rfl⟩, ?_⟩
    show Steps p.tables e below _ ((({ U with heap := s₂.heap, slotsUsed := s₂.slotsUsed } : State).setVm s₂.vm).setTop { g with pc := g.pc + len₂, stack := v.toList ++ g.stack })
    rw [← hs₂]
    exact hsteps
  · obtain ⟨e2, q2, q3, q4, q5, q6⟩ := id hsm
    have e3 : s₂ = ({ (U.calling g mk a).setFrames s₂.frames with heap := s₂.heap, slotsUsed := s₂.slotsUsed } : State).setVm s₂.vm := by
      have : s₂ = ({ s₂ with vm := (U.calling g mk a).vm } : State).setVm s₂.vm := rfl
      rw [e2] at this
      exact this
    have hf₂ : s₂.frames = .throwing q :: .java g :: U.frames.tail := hend
    have hW' : U.WarmedH s₂.vm := hW₂
    have hs₂ : s₂ = ((({ U with heap := s₂.heap, slotsUsed := s₂.slotsUsed } : State).setVm s₂.vm).setTop g).pushFrame (.throwing q) := by
      refine e3.trans ?_
      rw [hf₂, State.calling_eq h.top, State.setFrames_setFrames, State.pushFrame, State.frames_setTop _ hr', State.setTop_of_frames _ hr', State.setFrames_setFrames, hr]
      rfl
    have hsame : U.sameButNew ({ U with heap := s₂.heap, slotsUsed := s₂.slotsUsed } : State) L mc ms := by
      refine ⟨?_, q2, q3, q4, q5, q6⟩
      obtain ⟨t, ht, -⟩ := State.frames_cons hr
      show ({ U with heap := s₂.heap, slotsUsed := s₂.slotsUsed } : State) = { U.setFrames U.frames with heap := s₂.heap, slotsUsed := s₂.slotsUsed }
      rw [State.setFrames_self ht]
    subst hg
    refine Or.inr ⟨q, ⟨(({ U with heap := s₂.heap, slotsUsed := s₂.slotsUsed } : State).setVm s₂.vm), Ls ++ L, c0 + mc, s0 + ms⟩,
      ⟨X.admits, X.cas, X.clock, X.frames, X.room, X.hears, X.method, X.code, (X.here.setHeapUsed s₂.heap s₂.slotsUsed).setVm hW'.alike, X.tail, State.WarmedH.trans X.warmed hW', X.limits, X.bytes, X.same.trans (hsame.setVm s.vm)⟩,
      ⟨g, mk, s₂, L, E, ce, rfl, rfl, hx, hce, hcv, hcl, rfl, hL, rfl, rfl⟩, ?_⟩
    show Steps p.tables e below _ (((({ U with heap := s₂.heap, slotsUsed := s₂.slotsUsed } : State).setVm s₂.vm).setTop g).pushFrame (.throwing q))
    rw [← hs₂]
    exact hsteps
end Payer
section Calls
variable {p : Program} {l : Launch} {e : Env} {R : Room} {s : State} {m : MethodId} {args : Array Value} {below : List Frame} {meth : Method} {c : Code} {T : State} {locs : List Loc} {cells slots : Nat}
theorem vx_callV (X : Stand p l e R s m args below meth c T locs cells slots) (hexec : p.tables.exec = Jvm.exec) {own C : String} {index : Nat} {y : MethodName} {bytes : ByteArray} {maxL : Nat} {ret : Option FieldType}
    (hown : s.vm.findClass own = some m.cls) (hlink : (Cond.methodLink own index y).before args s = true) (hinst : (Cond.instanceMethod y).before args s = true) (hsel : (Cond.selects C y y).before args s = true)
    (hcode : (Cond.code y bytes maxL ret).before args s = true) (hy : y.cls ≠ "java/lang/invoke/MethodHandle" ∧ y.cls ≠ "java/lang/invoke/VarHandle")
    {W9 : Nat} {Pre : Pt → Array Value → Prop} {Post : Pt → Array Value → Option Value → Pt → Prop} {PostX : Pt → Array Value → Addr → Pt → Prop} (hK : vx_Back l R p e below s args y 3 W9 Pre Post PostX)
    {b : Addr} {cellB : Cell} (hcell : T.heap[b]? = some cellB) (hobj : cellB.vm.isStatics = false) (hcls : s.vm.findClass C = some cellB.cls)
    {g : JFrame} (hg : g.method = m) (hsize : g.locals.size = c.maxLocals) {argsL rest : List Value} (hlen : ∀ sig, parseMethodDescriptor y.desc = some sig → argsL.length = sig.parameters.length)
    (hstack : g.stack = argsL.reverse ++ .ref b :: rest) (hW : 2 * g.monitorRoom + (rest.map fun v => v.category).sum ≤ W9) (hdg : decode c.code g.pc = .ok (.invokevirtual index, 3))
    (hpre : ∀ vm₁, s.WarmedH vm₁ → Pre ⟨T.setVm vm₁, locs, cells, slots⟩ (Value.ref b :: argsL).toArray) :
    (∃ (v : Option Value) (vm₁ : Vm) (B : Pt), s.WarmedH vm₁ ∧ Stand p l e R s m args below meth c B.U B.locs B.cells B.slots ∧ Post ⟨T.setVm vm₁, locs, cells, slots⟩ (Value.ref b :: argsL).toArray v B ∧
      ∀ target, Steps p.tables e below (B.U.setTop { g with pc := g.pc + 3, stack := v.toList ++ rest }) target → Steps p.tables e below (T.setTop g) target) ∨
    (∃ (q : Addr) (vm₁ : Vm) (B : Pt), s.WarmedH vm₁ ∧ Stand p l e R s m args below meth c B.U B.locs B.cells B.slots ∧ PostX ⟨T.setVm vm₁, locs, cells, slots⟩ (Value.ref b :: argsL).toArray q B ∧
      Steps p.tables e below (T.setTop g) ((B.U.setTop { g with stack := rest }).pushFrame (.throwing q))) := by
  obtain ⟨mk, methM, hnamed, hmethM, hstM, habM⟩ := Cond.instanceMethod_spec hinst
  obtain ⟨methM', cM, hmethM', -, -, -, -, -, -, hsigM⟩ := Cond.code_spec hnamed hcode
  cases hmethM.symm.trans hmethM'
  obtain ⟨c2, r2, m2, q1, q2, q3, q4, kP, hkP, hkPi⟩ := Cond.selects_spec hsel
  cases hcls.symm.trans q1
  cases (State.methodFound?_of_named hnamed hy).symm.trans q2
  cases hnamed.symm.trans q3
  have hselP : selectMethod e.platform s.vm cellB.cls mk = .method mk := by rw [Launch.admits_selectMethod X.admits]; exact q4
  obtain ⟨vm₁, X₁, hstep₁⟩ := X.invokevirtual hexec hown hlink hnamed hmethM hstM hkP hkPi hy (a := b) (cell := cellB) hcell
    (fun z h => by rw [h] at hobj; cases hobj) hselP hmethM habM hkP hkPi (g := g) hg (argsL := argsL) (rest := rest) (hlen _ hsigM) hstack hdg
  rcases hK m meth c ⟨T.setVm vm₁, locs, cells, slots⟩ { g with stack := rest } (.invokevirtual index) mk (Value.ref b :: argsL).toArray X₁ hg hsize hdg hW (X₁.named hnamed) (hpre vm₁ X₁.warmed) with ⟨v, B, X', hpost, hsteps⟩ | ⟨q, B, X', hpost, hsteps⟩
  · exact Or.inl ⟨v, vm₁, B, X₁.warmed, X', hpost, fun target h => hstep₁ _ fun acts => by rw [doInvoke_state]; exact hsteps.trans h⟩
  · exact Or.inr ⟨q, vm₁, B, X₁.warmed, X', hpost, hstep₁ _ fun acts => by rw [doInvoke_state]; exact hsteps⟩
theorem vx_callS (X : Stand p l e R s m args below meth c T locs cells slots) (hexec : p.tables.exec = Jvm.exec) {own : String} {index : Nat} {y : MethodName} {bytes : ByteArray} {maxL : Nat} {ret : Option FieldType}
    (hown : s.vm.findClass own = some m.cls) (hlink : (Cond.methodLink own index y).before args s = true) (hstat : (Cond.static y).before args s = true) (hinit : (Cond.initialized y.cls).before args s = true)
    (hcode : (Cond.code y bytes maxL ret).before args s = true) (hy : y.cls ≠ "java/lang/invoke/MethodHandle" ∧ y.cls ≠ "java/lang/invoke/VarHandle")
    {W9 : Nat} {Pre : Pt → Array Value → Prop} {Post : Pt → Array Value → Option Value → Pt → Prop} {PostX : Pt → Array Value → Addr → Pt → Prop} (hK : vx_Back l R p e below s args y 3 W9 Pre Post PostX)
    {g : JFrame} (hg : g.method = m) (hsize : g.locals.size = c.maxLocals) {argsL rest : List Value} (hlen : ∀ sig, parseMethodDescriptor y.desc = some sig → argsL.length = sig.parameters.length)
    (hstack : g.stack = argsL.reverse ++ rest) (hW : 2 * g.monitorRoom + (rest.map fun v => v.category).sum ≤ W9) (hdg : decode c.code g.pc = .ok (.invokestatic index, 3))
    (hpre : ∀ vm₁, s.WarmedH vm₁ → Pre ⟨T.setVm vm₁, locs, cells, slots⟩ argsL.toArray) :
    (∃ (v : Option Value) (vm₁ : Vm) (B : Pt), s.WarmedH vm₁ ∧ Stand p l e R s m args below meth c B.U B.locs B.cells B.slots ∧ Post ⟨T.setVm vm₁, locs, cells, slots⟩ argsL.toArray v B ∧
      ∀ target, Steps p.tables e below (B.U.setTop { g with pc := g.pc + 3, stack := v.toList ++ rest }) target → Steps p.tables e below (T.setTop g) target) ∨
    (∃ (q : Addr) (vm₁ : Vm) (B : Pt), s.WarmedH vm₁ ∧ Stand p l e R s m args below meth c B.U B.locs B.cells B.slots ∧ PostX ⟨T.setVm vm₁, locs, cells, slots⟩ argsL.toArray q B ∧
      Steps p.tables e below (T.setTop g) ((B.U.setTop { g with stack := rest }).pushFrame (.throwing q))) := by
  obtain ⟨mk, hnamed⟩ := Cond.code_named hcode
  obtain ⟨methM, cM, hmethM, -, -, -, -, -, -, hsigM⟩ := Cond.code_spec hnamed hcode
  have hstatic : methM.isStatic = true := Cond.static_spec hnamed hmethM hstat
  obtain ⟨kP, hkP, -⟩ := className_of_methodNamed hnamed
  have hinitP : kP.init = .initialized := Cond.initialized_spec (findClass_of_methodNamed hnamed) hkP hinit
  obtain ⟨vm₁, X₁, hstep₁⟩ := X.invokestatic hexec hown hlink hnamed hmethM hstatic hkP hinitP hy (g := g) hg (argsL := argsL) (rest := rest) (hlen _ hsigM) hstack hdg
  rcases hK m meth c ⟨T.setVm vm₁, locs, cells, slots⟩ { g with stack := rest } (.invokestatic index) mk argsL.toArray X₁ hg hsize hdg hW (X₁.named hnamed) (hpre vm₁ X₁.warmed) with ⟨v, B, X', hpost, hsteps⟩ | ⟨q, B, X', hpost, hsteps⟩
  · exact Or.inl ⟨v, vm₁, B, X₁.warmed, X', hpost, fun target h => hstep₁ _ fun acts => by rw [doInvoke_state]; exact hsteps.trans h⟩
  · exact Or.inr ⟨q, vm₁, B, X₁.warmed, X', hpost, hstep₁ _ fun acts => by rw [doInvoke_state]; exact hsteps⟩
end Calls
theorem vx_cls {s : State} {T : State} {vm₁ : Vm} {E : String} {k : ClassId} (hW : s.WarmedH vm₁) (h : (T.setVm vm₁).vm.findClass E = some k) : s.vm.findClass E = some k := by
  have h1 : vm₁.findClass E = some k := h
  rw [hW.alike.findClass] at h1
  exact h1
/-- the method's frame g, with q thrown over it -/
def vx_W (p : Program) (l : Launch) (e : Env) (R : Room) (s : State) (m : MethodId) (args : Array Value) (below : List Frame) (meth : Method) (c : Code) (H : Heap) (locs : List Loc) (cells slots : Nat) (Q : State → Prop) (g : JFrame) (q : Addr) : Prop :=
  ∀ T : State, T.heap = H → Stand p l e R s m args below meth c T locs cells slots → ∃ t, Steps p.tables e below ((T.setTop g).pushFrame (.throwing q)) t ∧ Q t
def vx_Run (p : Program) (l : Launch) (e : Env) (R : Room) (s : State) (m : MethodId) (args : Array Value) (below : List Frame) (meth : Method) (c : Code) (H : Heap) (locs : List Loc) (cells slots mc ms : Nat) (g : JFrame) (rest : List Value) (Qa : State → Outcome → State → Prop) (XC : String → State → State → Prop) (free : Addr → Prop) : Prop :=
  ∀ T : State, T.heap = H → Stand p l e R s m args below meth c T locs cells slots →
    (∃ (v : Option Value) (st₀ t T' : State) (L : List Loc), st₀.heap = H ∧ Stand p l e R s m args below meth c T' (locs ++ L) (cells + mc) (slots + ms) ∧ (∀ q ∈ L, free q.base) ∧ T'.heap = t.heap ∧ T'.vm = t.vm ∧ Qa st₀ (.returned v) t ∧
      Goes p e below T g T' { g with pc := g.pc + 3, stack := v.toList ++ rest }) ∨
    (∃ (q : Addr) (st₀ t T' : State) (L : List Loc) (E : String) (ce : Cell), st₀.heap = H ∧ Stand p l e R s m args below meth c T' (locs ++ L) (cells + mc) (slots + ms) ∧ (∀ z ∈ L, free z.base) ∧ T'.heap = t.heap ∧ T'.vm = t.vm ∧ XC E st₀ t ∧ t.heap[q]? = some ce ∧ ce.vm = .none ∧ s.vm.findClass E = some ce.cls ∧
      Steps p.tables e below (T.setTop g) ((T'.setTop { g with stack := rest }).pushFrame (.throwing q)))
def vx_X {S : Type} (px : S → Prop) (B : String → S → State → Prop) (A : Nat → Prop) : String → State → State → Prop := fun E st t => ∃ u : S, px u ∧ B E u t ∧ va_F A st t
section Runs
variable {p : Program} {l : Launch} {e : Env} {R : Room} {s : State} {m : MethodId} {args : Array Value} {below : List Frame} {meth : Method} {c : Code} {H : Heap} {locs : List Loc} {cells slots : Nat}
variable {y : MethodName} {bytes cc : ByteArray} {maxL nL mc ms n index : Nat} {ret : Option FieldType} {ws : List Cond} {rm : Room} {Pc : Array Value → State → Prop} {Qc : Array Value → State → Outcome → State → Prop} {XC : String → State → State → Prop} {free : Addr → Prop} {Ts : List Cond} {own C : String} {b : Addr} {As rest : List Value} {g : JFrame}
theorem vx_callBack (cb : CallB R s args own index y bytes maxL ret ws rm mc ms n) (hM : vx_Met l y ws rm Pc Qc XC mc ms free) (hbl : FrameBlind Pc) : vx_Back l R p e below s args y 3 8 (PreOf R mc ms Pc) (PostOf Qc mc ms free) (vx_Post XC mc ms free) := by
  obtain ⟨hrc, hrs, hfr, hlo, hws, hcw, -, hini, -⟩ := cb
  exact vx_back (bytes := bytes) (maxL := maxL) (ret := ret) hM hbl hrc hrs hfr hlo hws hcw (fun a' U hW => word_at hW (Or.inl (by first | rfl | simp [Cond.onTables, Cond.keeps, Cond.steady])) hini)
theorem vx_runV (S : CallFix p m c cc nL s args Ts own) (hM : vx_Met l y ws rm Pc Qc XC mc ms free) (cw : CallW R s args own C index y bytes maxL ret ws rm mc ms n) (hp : PreV s H C b Pc As)
    (hg : g.method = m) (hn : As.length = n) (hsize : g.locals.size = nL) (hstack : g.stack = As.reverse ++ .ref b :: rest) (hW : 2 * g.monitorRoom + (rest.map fun v => v.category).sum ≤ 8) (hdg : decode cc g.pc = .ok (.invokevirtual index, 3)) (hf : cells + mc ≤ R.cells ∧ slots + ms ≤ R.slots) :
    vx_Run p l e R s m args below meth c H locs cells slots mc ms g rest (Qc (Value.ref b :: As).toArray) XC free := by
  have hK : vx_Back l R p e below s args y 3 8 (PreOf R mc ms Pc) (PostOf Qc mc ms free) (vx_Post XC mc ms free) := vx_callBack cw.1 hM hp.1
  obtain ⟨⟨-, -, -, -, -, -, hcode, -, hy, hlen, hl⟩, hin, hse⟩ := cw
  obtain ⟨hx, hb, hml, ho, -⟩ := S
  obtain ⟨-, ⟨cellB, hcB, hoB, hclB⟩, hPc⟩ := hp
  intro T hT X
  rcases vx_callV X hx (C := C) (bytes := bytes) (maxL := maxL) (ret := ret) ho hl hin hse hcode hy hK (by rw [hT]; exact hcB) hoB hclB hg (hsize.trans hml.symm) (argsL := As) (rest := rest) (fun sig h => hn.trans (hlen sig h)) hstack hW (by rw [hb]; exact hdg)
    (fun vm₁ hW₁ => ⟨hf.1, hf.2, hPc (T.setVm vm₁) hT hW₁⟩) with ⟨v, vm₁, ⟨U', l2, c2, s2⟩, hW₁, X', ⟨g', mk, t, L, e1, e2, hq, h1, hL, h2, h3⟩, st⟩ | ⟨q, vm₁, ⟨U', l2, c2, s2⟩, hW₁, X', ⟨g', mk, t, L, E, ce, e1, e2, hq, hce, hcv, hcl, h1, hL, h2, h3⟩, st⟩
  · dsimp only [Pt.U, Pt.locs, Pt.cells, Pt.slots] at X' e1 e2 h1 h2 h3 st
    subst h1; subst h2; subst h3
    exact Or.inl ⟨v, (T.setVm vm₁).calling g' mk (Value.ref b :: As).toArray, t, U', L, hT, X', hL, e1, e2, hq, st⟩
  · dsimp only [Pt.U, Pt.locs, Pt.cells, Pt.slots] at X' e1 e2 h1 h2 h3 st hcl
    subst h1; subst h2; subst h3
    exact Or.inr ⟨q, (T.setVm vm₁).calling g' mk (Value.ref b :: As).toArray, t, U', L, E, ce, hT, X', hL, e1, e2, hq, hce, hcv, vx_cls hW₁ hcl, st⟩
theorem vx_runS (S : CallFix p m c cc nL s args Ts own) (hM : vx_Met l y ws rm Pc Qc XC mc ms free) (cw : CallB R s args own index y bytes maxL ret ws rm mc ms n ∧ (Cond.static y).before args s = true) (hp : PreS s H Pc As)
    (hg : g.method = m) (hn : As.length = n) (hsize : g.locals.size = nL) (hstack : g.stack = As.reverse ++ rest) (hW : 2 * g.monitorRoom + (rest.map fun v => v.category).sum ≤ 8) (hdg : decode cc g.pc = .ok (.invokestatic index, 3)) (hf : cells + mc ≤ R.cells ∧ slots + ms ≤ R.slots) :
    vx_Run p l e R s m args below meth c H locs cells slots mc ms g rest (Qc As.toArray) XC free := by
  have hK : vx_Back l R p e below s args y 3 8 (PreOf R mc ms Pc) (PostOf Qc mc ms free) (vx_Post XC mc ms free) := vx_callBack cw.1 hM hp.1
  obtain ⟨⟨-, -, -, -, -, -, hcode, hini, hy, hlen, hl⟩, hstt⟩ := cw
  obtain ⟨hx, hb, hml, ho, -⟩ := S
  intro T hT X
  rcases vx_callS X hx (bytes := bytes) (maxL := maxL) (ret := ret) ho hl hstt hini hcode hy hK hg (hsize.trans hml.symm) (argsL := As) (rest := rest) (fun sig h => hn.trans (hlen sig h)) hstack hW (by rw [hb]; exact hdg)
    (fun vm₁ hW₁ => ⟨hf.1, hf.2, hp.2 (T.setVm vm₁) hT hW₁⟩) with ⟨v, vm₁, ⟨U', l2, c2, s2⟩, hW₁, X', ⟨g', mk, t, L, e1, e2, hq, h1, hL, h2, h3⟩, st⟩ | ⟨q, vm₁, ⟨U', l2, c2, s2⟩, hW₁, X', ⟨g', mk, t, L, E, ce, e1, e2, hq, hce, hcv, hcl, h1, hL, h2, h3⟩, st⟩
  · dsimp only [Pt.U, Pt.locs, Pt.cells, Pt.slots] at X' e1 e2 h1 h2 h3 st
    subst h1; subst h2; subst h3
    exact Or.inl ⟨v, (T.setVm vm₁).calling g' mk As.toArray, t, U', L, hT, X', hL, e1, e2, hq, st⟩
  · dsimp only [Pt.U, Pt.locs, Pt.cells, Pt.slots] at X' e1 e2 h1 h2 h3 st hcl
    subst h1; subst h2; subst h3
    exact Or.inr ⟨q, (T.setVm vm₁).calling g' mk As.toArray, t, U', L, E, ce, hT, X', hL, e1, e2, hq, hce, hcv, vx_cls hW₁ hcl, st⟩
end Runs
section Rows
variable {p : Program} {l : Launch} {e : Env} {R : Room} {s : State} {m : MethodId} {args : Array Value} {below : List Frame} {meth : Method} {c : Code} {H : Heap} {locs : List Loc} {cells slots : Nat} {Q : State → Prop}
variable {mc ms : Nat} {free : Addr → Prop} {A0 A1 : Nat → Prop} {H0 : Heap} {a : Array Value} {pc : Nat} {ls : Array Slot} {st0 rest : List Value}
theorem vx_keep {st₀ t T' : State} {L : List Loc} (h0 : st₀.heap = H) (e1 : T'.heap = t.heap) (hS : va_S A0 H0 H locs) (hA : ∀ q, q < H.size → A1 q → A0 q) (hf : ∀ q, free q → A0 q) (hL : ∀ q ∈ L, free q.base) (hF : va_F A1 st₀ t) :
    H.size ≤ T'.heap.size ∧ (∀ q : Nat, q < H.size → ¬ A1 q → T'.heap[q]? = H[q]?) ∧ va_S A0 H0 T'.heap (locs ++ L) := by
  obtain ⟨hz, hk⟩ := hF
  rw [h0] at hz hk
  exact ⟨by rw [e1]; exact hz, fun q h1 h2 => by rw [e1]; exact hk q h1 h2,
    ⟨Nat.le_trans hS.1 (by rw [e1]; exact hz), fun q h1 h2 => by rw [e1, hk q (Nat.lt_of_lt_of_le h1 hS.1) (fun z => h2 (hA q (Nat.lt_of_lt_of_le h1 hS.1) z))]; exact hS.2.1 q h1 h2, fun q hq => by
      rcases List.mem_append.mp hq with h | h
      · exact hS.2.2 q h
      · exact hf _ (hL q h)⟩⟩
theorem vx_calli {S SX : Type} {post : Int32 → S → Prop} {px : SX → Prop} {B : S → State → Prop} {BX : String → SX → State → Prop} {AX : Nat → Prop} (hr : vx_Run p l e R s m args below meth c H locs cells slots mc ms (F0 m pc ls st0) rest (va_Qi post B A1 a) (vx_X px BX AX) free) (hS : va_S A0 H0 H locs) (hA : ∀ q, q < H.size → A1 q → A0 q) (hf : ∀ q, free q → A0 q) (hAX : ∀ q, q < H.size → AX q → A0 q)
    (kx : ∀ (E : String) (ce : Cell) (q9 : Addr) (u : SX) (t : State) (H1 : Heap) (locs1 : List Loc), t.heap = H1 → s.vm.Alike t.vm → px u → BX E u t → H.size ≤ H1.size → (∀ q : Nat, q < H.size → ¬ AX q → H1[q]? = H[q]?) → va_S A0 H0 H1 locs1 → H1[q9]? = some ce → ce.vm = .none → s.vm.findClass E = some ce.cls → vx_W p l e R s m args below meth c H1 locs1 (cells + mc) (slots + ms) Q (F0 m pc ls rest) q9)
    (kk : ∀ (r : Int32) (u : S) (t : State) (H1 : Heap) (locs1 : List Loc), t.heap = H1 → s.vm.Alike t.vm → post r u → B u t → H.size ≤ H1.size → (∀ q : Nat, q < H.size → ¬ A1 q → H1[q]? = H[q]?) → va_S A0 H0 H1 locs1 → W p l e R s m args below meth c H1 locs1 (cells + mc) (slots + ms) Q (F0 m (pc + 3) ls (.int r :: rest))) : W p l e R s m args below meth c H locs cells slots Q (F0 m pc ls st0) := by
  intro T hT X
  rcases hr T hT X with ⟨v, st₀, t, T', L, h0, X', hL, e1, e2, ⟨⟨r, u, hv, hp, hb⟩, hF⟩, st⟩ | ⟨q, st₀, t, T', L, E, ce, h0, X', hL, e1, e2, ⟨u, hp, hb, hF⟩, hce, hcv, hcl, st⟩
  · cases hv
    obtain ⟨k1, k2, k3⟩ := vx_keep h0 e1 hS hA hf hL hF
    obtain ⟨t2, a1, b1⟩ := kk r u t T'.heap (locs ++ L) e1.symm (by rw [← e2]; exact X'.warmed.alike) hp hb k1 k2 k3 T' rfl X'
    exact ⟨t2, st t2 a1, b1⟩
  · obtain ⟨k1, k2, k3⟩ := vx_keep h0 e1 hS hAX hf hL hF
    obtain ⟨t2, a1, b1⟩ := kx E ce q u t T'.heap (locs ++ L) e1.symm (by rw [← e2]; exact X'.warmed.alike) hp hb k1 k2 k3 (by rw [e1]; exact hce) hcv hcl T' rfl X'
    exact ⟨t2, st.trans a1, b1⟩
theorem vx_calll {S SX : Type} {post : Int64 → S → Prop} {px : SX → Prop} {B : S → State → Prop} {BX : String → SX → State → Prop} {AX : Nat → Prop} (hr : vx_Run p l e R s m args below meth c H locs cells slots mc ms (F0 m pc ls st0) rest (va_Ql post B A1 a) (vx_X px BX AX) free) (hS : va_S A0 H0 H locs) (hA : ∀ q, q < H.size → A1 q → A0 q) (hf : ∀ q, free q → A0 q) (hAX : ∀ q, q < H.size → AX q → A0 q)
    (kx : ∀ (E : String) (ce : Cell) (q9 : Addr) (u : SX) (t : State) (H1 : Heap) (locs1 : List Loc), t.heap = H1 → s.vm.Alike t.vm → px u → BX E u t → H.size ≤ H1.size → (∀ q : Nat, q < H.size → ¬ AX q → H1[q]? = H[q]?) → va_S A0 H0 H1 locs1 → H1[q9]? = some ce → ce.vm = .none → s.vm.findClass E = some ce.cls → vx_W p l e R s m args below meth c H1 locs1 (cells + mc) (slots + ms) Q (F0 m pc ls rest) q9)
    (kk : ∀ (r : Int64) (u : S) (t : State) (H1 : Heap) (locs1 : List Loc), t.heap = H1 → s.vm.Alike t.vm → post r u → B u t → H.size ≤ H1.size → (∀ q : Nat, q < H.size → ¬ A1 q → H1[q]? = H[q]?) → va_S A0 H0 H1 locs1 → W p l e R s m args below meth c H1 locs1 (cells + mc) (slots + ms) Q (F0 m (pc + 3) ls (.long r :: rest))) : W p l e R s m args below meth c H locs cells slots Q (F0 m pc ls st0) := by
  intro T hT X
  rcases hr T hT X with ⟨v, st₀, t, T', L, h0, X', hL, e1, e2, ⟨⟨r, u, hv, hp, hb⟩, hF⟩, st⟩ | ⟨q, st₀, t, T', L, E, ce, h0, X', hL, e1, e2, ⟨u, hp, hb, hF⟩, hce, hcv, hcl, st⟩
  · cases hv
    obtain ⟨k1, k2, k3⟩ := vx_keep h0 e1 hS hA hf hL hF
    obtain ⟨t2, a1, b1⟩ := kk r u t T'.heap (locs ++ L) e1.symm (by rw [← e2]; exact X'.warmed.alike) hp hb k1 k2 k3 T' rfl X'
    exact ⟨t2, st t2 a1, b1⟩
  · obtain ⟨k1, k2, k3⟩ := vx_keep h0 e1 hS hAX hf hL hF
    obtain ⟨t2, a1, b1⟩ := kx E ce q u t T'.heap (locs ++ L) e1.symm (by rw [← e2]; exact X'.warmed.alike) hp hb k1 k2 k3 (by rw [e1]; exact hce) hcv hcl T' rfl X'
    exact ⟨t2, st.trans a1, b1⟩
theorem vx_callf {S SX : Type} {post : UInt32 → S → Prop} {px : SX → Prop} {B : S → State → Prop} {BX : String → SX → State → Prop} {AX : Nat → Prop} (hr : vx_Run p l e R s m args below meth c H locs cells slots mc ms (F0 m pc ls st0) rest (va_Qf post B A1 a) (vx_X px BX AX) free) (hS : va_S A0 H0 H locs) (hA : ∀ q, q < H.size → A1 q → A0 q) (hf : ∀ q, free q → A0 q) (hAX : ∀ q, q < H.size → AX q → A0 q)
    (kx : ∀ (E : String) (ce : Cell) (q9 : Addr) (u : SX) (t : State) (H1 : Heap) (locs1 : List Loc), t.heap = H1 → s.vm.Alike t.vm → px u → BX E u t → H.size ≤ H1.size → (∀ q : Nat, q < H.size → ¬ AX q → H1[q]? = H[q]?) → va_S A0 H0 H1 locs1 → H1[q9]? = some ce → ce.vm = .none → s.vm.findClass E = some ce.cls → vx_W p l e R s m args below meth c H1 locs1 (cells + mc) (slots + ms) Q (F0 m pc ls rest) q9)
    (kk : ∀ (r : UInt32) (u : S) (t : State) (H1 : Heap) (locs1 : List Loc), t.heap = H1 → s.vm.Alike t.vm → post r u → B u t → H.size ≤ H1.size → (∀ q : Nat, q < H.size → ¬ A1 q → H1[q]? = H[q]?) → va_S A0 H0 H1 locs1 → W p l e R s m args below meth c H1 locs1 (cells + mc) (slots + ms) Q (F0 m (pc + 3) ls (.float r :: rest))) : W p l e R s m args below meth c H locs cells slots Q (F0 m pc ls st0) := by
  intro T hT X
  rcases hr T hT X with ⟨v, st₀, t, T', L, h0, X', hL, e1, e2, ⟨⟨r, u, hv, hp, hb⟩, hF⟩, st⟩ | ⟨q, st₀, t, T', L, E, ce, h0, X', hL, e1, e2, ⟨u, hp, hb, hF⟩, hce, hcv, hcl, st⟩
  · cases hv
    obtain ⟨k1, k2, k3⟩ := vx_keep h0 e1 hS hA hf hL hF
    obtain ⟨t2, a1, b1⟩ := kk r u t T'.heap (locs ++ L) e1.symm (by rw [← e2]; exact X'.warmed.alike) hp hb k1 k2 k3 T' rfl X'
    exact ⟨t2, st t2 a1, b1⟩
  · obtain ⟨k1, k2, k3⟩ := vx_keep h0 e1 hS hAX hf hL hF
    obtain ⟨t2, a1, b1⟩ := kx E ce q u t T'.heap (locs ++ L) e1.symm (by rw [← e2]; exact X'.warmed.alike) hp hb k1 k2 k3 (by rw [e1]; exact hce) hcv hcl T' rfl X'
    exact ⟨t2, st.trans a1, b1⟩
theorem vx_calld {S SX : Type} {post : UInt64 → S → Prop} {px : SX → Prop} {B : S → State → Prop} {BX : String → SX → State → Prop} {AX : Nat → Prop} (hr : vx_Run p l e R s m args below meth c H locs cells slots mc ms (F0 m pc ls st0) rest (va_Qd post B A1 a) (vx_X px BX AX) free) (hS : va_S A0 H0 H locs) (hA : ∀ q, q < H.size → A1 q → A0 q) (hf : ∀ q, free q → A0 q) (hAX : ∀ q, q < H.size → AX q → A0 q)
    (kx : ∀ (E : String) (ce : Cell) (q9 : Addr) (u : SX) (t : State) (H1 : Heap) (locs1 : List Loc), t.heap = H1 → s.vm.Alike t.vm → px u → BX E u t → H.size ≤ H1.size → (∀ q : Nat, q < H.size → ¬ AX q → H1[q]? = H[q]?) → va_S A0 H0 H1 locs1 → H1[q9]? = some ce → ce.vm = .none → s.vm.findClass E = some ce.cls → vx_W p l e R s m args below meth c H1 locs1 (cells + mc) (slots + ms) Q (F0 m pc ls rest) q9)
    (kk : ∀ (r : UInt64) (u : S) (t : State) (H1 : Heap) (locs1 : List Loc), t.heap = H1 → s.vm.Alike t.vm → post r u → B u t → H.size ≤ H1.size → (∀ q : Nat, q < H.size → ¬ A1 q → H1[q]? = H[q]?) → va_S A0 H0 H1 locs1 → W p l e R s m args below meth c H1 locs1 (cells + mc) (slots + ms) Q (F0 m (pc + 3) ls (.double r :: rest))) : W p l e R s m args below meth c H locs cells slots Q (F0 m pc ls st0) := by
  intro T hT X
  rcases hr T hT X with ⟨v, st₀, t, T', L, h0, X', hL, e1, e2, ⟨⟨r, u, hv, hp, hb⟩, hF⟩, st⟩ | ⟨q, st₀, t, T', L, E, ce, h0, X', hL, e1, e2, ⟨u, hp, hb, hF⟩, hce, hcv, hcl, st⟩
  · cases hv
    obtain ⟨k1, k2, k3⟩ := vx_keep h0 e1 hS hA hf hL hF
    obtain ⟨t2, a1, b1⟩ := kk r u t T'.heap (locs ++ L) e1.symm (by rw [← e2]; exact X'.warmed.alike) hp hb k1 k2 k3 T' rfl X'
    exact ⟨t2, st t2 a1, b1⟩
  · obtain ⟨k1, k2, k3⟩ := vx_keep h0 e1 hS hAX hf hL hF
    obtain ⟨t2, a1, b1⟩ := kx E ce q u t T'.heap (locs ++ L) e1.symm (by rw [← e2]; exact X'.warmed.alike) hp hb k1 k2 k3 (by rw [e1]; exact hce) hcv hcl T' rfl X'
    exact ⟨t2, st.trans a1, b1⟩
theorem vx_callv {S SX : Type} {post : S → Prop} {px : SX → Prop} {B : S → State → Prop} {BX : String → SX → State → Prop} {AX : Nat → Prop} (hr : vx_Run p l e R s m args below meth c H locs cells slots mc ms (F0 m pc ls st0) rest (va_Qv post B A1 a) (vx_X px BX AX) free) (hS : va_S A0 H0 H locs) (hA : ∀ q, q < H.size → A1 q → A0 q) (hf : ∀ q, free q → A0 q) (hAX : ∀ q, q < H.size → AX q → A0 q)
    (kx : ∀ (E : String) (ce : Cell) (q9 : Addr) (u : SX) (t : State) (H1 : Heap) (locs1 : List Loc), t.heap = H1 → s.vm.Alike t.vm → px u → BX E u t → H.size ≤ H1.size → (∀ q : Nat, q < H.size → ¬ AX q → H1[q]? = H[q]?) → va_S A0 H0 H1 locs1 → H1[q9]? = some ce → ce.vm = .none → s.vm.findClass E = some ce.cls → vx_W p l e R s m args below meth c H1 locs1 (cells + mc) (slots + ms) Q (F0 m pc ls rest) q9)
    (kk : ∀ (u : S) (t : State) (H1 : Heap) (locs1 : List Loc), t.heap = H1 → s.vm.Alike t.vm → post u → B u t → H.size ≤ H1.size → (∀ q : Nat, q < H.size → ¬ A1 q → H1[q]? = H[q]?) → va_S A0 H0 H1 locs1 → W p l e R s m args below meth c H1 locs1 (cells + mc) (slots + ms) Q (F0 m (pc + 3) ls (rest))) : W p l e R s m args below meth c H locs cells slots Q (F0 m pc ls st0) := by
  intro T hT X
  rcases hr T hT X with ⟨v, st₀, t, T', L, h0, X', hL, e1, e2, ⟨⟨u, hv, hp, hb⟩, hF⟩, st⟩ | ⟨q, st₀, t, T', L, E, ce, h0, X', hL, e1, e2, ⟨u, hp, hb, hF⟩, hce, hcv, hcl, st⟩
  · cases hv
    obtain ⟨k1, k2, k3⟩ := vx_keep h0 e1 hS hA hf hL hF
    obtain ⟨t2, a1, b1⟩ := kk u t T'.heap (locs ++ L) e1.symm (by rw [← e2]; exact X'.warmed.alike) hp hb k1 k2 k3 T' rfl X'
    exact ⟨t2, st t2 a1, b1⟩
  · obtain ⟨k1, k2, k3⟩ := vx_keep h0 e1 hS hAX hf hL hF
    obtain ⟨t2, a1, b1⟩ := kx E ce q u t T'.heap (locs ++ L) e1.symm (by rw [← e2]; exact X'.warmed.alike) hp hb k1 k2 k3 (by rw [e1]; exact hce) hcv hcl T' rfl X'
    exact ⟨t2, st.trans a1, b1⟩
/-- caught by the row x of this method's table; the rows ahead don't take it -/
theorem vx_catch {own name : String} {E : String} {ce : Cell} {q : Addr} (hown : s.vm.findClass own = some m.cls) (pre : List ExceptionTableEntry) (x : ExceptionTableEntry) (suf : List ExceptionTableEntry) (hsplit : c.exceptionTable.toList = pre ++ x :: suf)
    (hpass : ∀ z ∈ pre, covers z pc = false ∨ (z.catchType ≠ 0 ∧ ∃ nm : String, (Cond.classLink own z.catchType nm).before args s = true ∧ va_Nc E nm s)) (hx : covers x pc = true) (h0 : x.catchType ≠ 0)
    (hlink : (Cond.classLink own x.catchType name).before args s = true) (hcast : (Cond.castable E name).before args s = true) (hcell : H[q]? = some ce) (hv : ce.vm = .none) (hcl : s.vm.findClass E = some ce.cls)
    (kk : W p l e R s m args below meth c H locs cells slots Q (F0 m x.handlerPc ls [.ref q])) : vx_W p l e R s m args below meth c H locs cells slots Q (F0 m pc ls rest) q := by
  intro T hT X
  have hpl : e.platform.magicAccessors = ({} : Platform).magicAccessors := by rw [X.admits.platform]
  obtain ⟨c3, c4, hc3, hc4, hasg⟩ := Cond.castable_spec hcast
  cases Option.some.inj (hc3.symm.trans hcl)
  obtain ⟨c5, hc5, hcl5⟩ := Cond.classLink_spec hown hlink e.platform hpl
  cases Option.some.inj (hc4.symm.trans hc5)
  obtain ⟨vm', X', st⟩ := X.thenCaughtThrough q (g := F0 m pc ls rest) rfl (Steps.refl _) (by rw [hT]; exact hcell) (by rw [hv]; rfl) (by obtain ⟨k9, h9, -⟩ := Vm.findClass_spec hcl; exact ⟨k9, h9⟩) pre x suf hsplit
    (fun z hz => by
      rcases hpass z hz with h | ⟨hz0, nm, hl1, hn1⟩
      · exact Or.inl h
      · obtain ⟨c6, hc6, hcl6⟩ := Cond.classLink_spec hown hl1 e.platform hpl
        obtain ⟨a8, b8, h1, h2, h3⟩ := hn1
        cases Option.some.inj (h1.symm.trans hcl)
        cases Option.some.inj (h2.symm.trans hc6)
        exact Or.inr ⟨hz0, _, hcl6, h3⟩) hx (Or.inr ⟨h0, c4, hcl5, hasg⟩)
  obtain ⟨t, a1, b1⟩ := kk (T.setVm vm') hT X'
  exact ⟨t, st.trans a1, b1⟩
end Rows
section Ends
variable {p : Program} {l : Launch} {e : Env} {R : Room} {s : State} {m : MethodId} {args : Array Value} {below : List Frame} {meth : Method} {c : Code} {H : Heap} {locs : List Loc} {cells slots : Nat} {Q : State → Prop}
variable {mc ms : Nat} {free : Addr → Prop} {A0 A1 : Nat → Prop} {H0 : Heap} {a : Array Value} {ls : Array Slot} {st0 rest : List Value}
variable {Qc : Array Value → State → Outcome → State → Prop} {XC : String → State → State → Prop}
/-- what a body that may throw owes at its end -/
def vx_MQ (below : List Frame) (Qc : Array Value → State → Outcome → State → Prop) (XC : String → State → State → Prop) (a : Array Value) (s : State) (mc ms : Nat) (free : Addr → Prop) : State → Prop := fun t =>
  ∃ o, t.status = .running ∧ Ended t below o ∧ vx_Q Qc XC mc ms free a s o t
theorem vx_ret {g : JFrame} {mc ms : Nat} (k : W p l e R s m args below meth c H locs cells slots (MQ below Qc args s mc ms free) g) : W p l e R s m args below meth c H locs cells slots (vx_MQ below Qc XC args s mc ms free) g := by
  intro T hT X
  obtain ⟨t, a1, o, b1, b2, b3, b4⟩ := k T hT X
  exact ⟨t, a1, o, b1, b2, Or.inl ⟨b3, b4⟩⟩
/-- not caught here: it goes on to the caller -/
theorem vx_widen {g : JFrame} {q : Addr} {k n : Nat} (h1 : cells ≤ k) (h2 : slots ≤ n) (kk : vx_W p l e R s m args below meth c H locs k n Q g q) : vx_W p l e R s m args below meth c H locs cells slots Q g q := fun T hT X => kk T hT (stand_widen X h1 h2)
theorem vx_out {pc : Nat} {E : String} {ce : Cell} {q : Addr} {mc ms : Nat} (hout : ∀ x ∈ c.exceptionTable.toList, covers x pc = false) (hlocks : meth.locks = false) (hcell : H[q]? = some ce) (hv : ce.vm = .none) (hcl : s.vm.findClass E = some ce.cls)
    (hx : ∀ t : State, t.heap = H → s.vm.Alike t.vm → XC E s t) (hf : ∀ z ∈ locs, free z.base) (hc : cells ≤ mc) (hs : slots ≤ ms) :
    vx_W p l e R s m args below meth c H locs cells slots (vx_MQ below Qc XC args s mc ms free) (F0 m pc ls rest) q := by
  intro T hT X
  obtain ⟨st1, hrun, hend, hW, hsm⟩ := X.leaveThrown q (g := F0 m pc ls rest) rfl rfl rfl hout hlocks
  have hcell9 : (T.setFrames (.throwing q :: below)).heap[q]? = some ce := by
    show T.heap[q]? = some ce
    rw [hT]; exact hcell
  exact ⟨_, st1, .threw q, hrun, hend, Or.inr ⟨q, rfl, E, ce, locs, hx _ hT hW.alike, hcell9, hv, hcl, hW, hsm.mono hc hs, hf⟩⟩
theorem vx_frame {U : State} {k n : Nat} (h : s.sameButNew ({ U with vm := s.vm } : State) locs k n) : s.heap.size ≤ U.heap.size ∧ ∀ q : Nat, q < s.heap.size → (∀ z ∈ locs, z.base ≠ q) → U.heap[q]? = s.heap[q]? := by
  obtain ⟨-, h2, -, -, -, h6⟩ := h
  refine ⟨h2, fun q hq hz => ?_⟩
  obtain ⟨c9, e1, e2, e3, e4⟩ := h6 q _ (Array.getElem?_eq_getElem hq)
  have hs : c9.slots = (s.heap[q]).slots := Array.ext_getElem? fun i => e4 i fun hm => hz _ hm rfl
  have h9 : c9 = s.heap[q] := by
    rw [hs] at e2
    exact e2
  have e5 : U.heap[q]? = some c9 := e1
  rw [e5, h9, Array.getElem?_eq_getElem hq]
/-- the words of a throw but the four that speak of the heap -/
def vx_no (w : Cond) : Bool := decide (w ≠ .isRef (.static Bundle.tN "UNASSIGNED_STACK" Bundle.steD)) && decide (w ≠ .isRef (.static Bundle.tN "SUPPRESSED_SENTINEL" Bundle.listD)) && decide (w ≠ .laysStatic Bundle.tN "UNASSIGNED_STACK" Bundle.steD) && decide (w ≠ .laysStatic Bundle.tN "SUPPRESSED_SENTINEL" Bundle.listD)
def vx_at0 (own : String) (ic : Nat) (X : String) (names : List String) : List Cond := (Bundle.ownAtoms0 own ic X names).filter vx_no
def vx_atS (own : String) (ic : Nat) (X : String) (names : List String) : List Cond := (Bundle.ownAtoms own ic X names).filter vx_no
/-- a word that the tables alone decide, or a good one -/
def vx_ot (w : Cond) : Bool := w.onTables || goodWord w
theorem vx_ot_at {args a' : Array Value} {s U : State} {w : Cond} (hW : s.WarmedH U.vm) (hvm : s.vm = U.vm) (hg : vx_ot w = true) (h : w.before args s = true) : w.before a' U = true := by
  simp only [vx_ot, Bool.or_eq_true] at hg
  rcases hg with hg | hg
  · exact va_tabs hg hvm h
  · exact word_at hW (good_of_word hg) h
/-- a list's words: the good ones out of the method's own list, the others by premises of their own -/
theorem vx_hat {args : Array Value} {s : State} {L B : List Cond} (h1 : ∀ w ∈ L.filter goodWord, w.before args s = true) (h2 : ∀ w ∈ L.filter (fun w => !goodWord w), w ∈ B) (h3 : ∀ w ∈ B, w.before args s = true) : ∀ w ∈ L, w.before args s = true := by
  intro w hw
  by_cases g : goodWord w = true
  · exact h1 w (List.mem_filter.mpr ⟨hw, g⟩)
  · refine h3 w (h2 w (List.mem_filter.mpr ⟨hw, ?_⟩))
    show (!goodWord w) = true
    cases hgw : goodWord w
    · rfl
    · exact absurd hgw g
theorem vx_c {args : Array Value} {s : State} {w : Cond} {B : List Cond} (h : w.before args s = true) (t : ∀ w ∈ B, w.before args s = true) : ∀ w' ∈ w :: B, w'.before args s = true := fun w' h' => (List.mem_cons.mp h').elim (fun e => by rw [e]; exact h) (t w')
theorem vx_n {args : Array Value} {s : State} : ∀ w ∈ ([] : List Cond), w.before args s = true := fun _ h => nomatch h
theorem vx_own {args : Array Value} {s : State} {L : List Cond} (h1 : ∀ w ∈ L.filter vx_no, w.before args s = true)
    (hU : (Cond.isRef (.static Bundle.tN "UNASSIGNED_STACK" Bundle.steD)).before args s = true) (hN : (Cond.isRef (.static Bundle.tN "SUPPRESSED_SENTINEL" Bundle.listD)).before args s = true)
    (lU : (Cond.laysStatic Bundle.tN "UNASSIGNED_STACK" Bundle.steD).before args s = true) (lN : (Cond.laysStatic Bundle.tN "SUPPRESSED_SENTINEL" Bundle.listD).before args s = true) : ∀ w ∈ L, w.before args s = true := by
  intro w hw
  by_cases e1 : w = .isRef (.static Bundle.tN "UNASSIGNED_STACK" Bundle.steD)
  · rw [e1]; exact hU
  · by_cases e2 : w = .isRef (.static Bundle.tN "SUPPRESSED_SENTINEL" Bundle.listD)
    · rw [e2]; exact hN
    · by_cases e3 : w = .laysStatic Bundle.tN "UNASSIGNED_STACK" Bundle.steD
      · rw [e3]; exact lU
      · by_cases e4 : w = .laysStatic Bundle.tN "SUPPRESSED_SENTINEL" Bundle.listD
        · rw [e4]; exact lN
        · exact h1 w (List.mem_filter.mpr ⟨hw, by unfold vx_no; rw [decide_eq_true e1, decide_eq_true e2, decide_eq_true e3, decide_eq_true e4]; rfl⟩)
/-- where a static field lies, its class's statics cell in H -/
def vx_L (C n d : String) (A : Nat → Prop) (U : State) (H : Heap) : Prop := ∃ (c : ClassId) (k : Class) (i : Nat) (f : Field) (a : Nat) (cell : Cell), U.vm.findClass C = some c ∧ U.fieldFound? C n d = some (c, k, i, f) ∧ f.isStatic = true ∧ k.statics = some a ∧ H[a]? = some cell ∧ cell.vm.isStatics = true ∧ cell.cls = c ∧ f.slot < cell.slots.size ∧ k.staticTypes[f.slot]? = some f.type ∧ ¬ A a
theorem vx_L.moved {C n d : String} {A : Nat → Prop} {u U : State} {H : Heap} (hvm : u.vm.Alike U.vm) (h : vx_L C n d A u H) : vx_L C n d A U H := by
  obtain ⟨c, k, i, f, a, cell, h1, h2, h3, h4, h5, h6, h7, h8, h9, h10⟩ := h
  obtain ⟨k', hi', he⟩ := State.fieldFound?_setVm hvm h2
  exact ⟨c, k', i, f, a, cell, by rw [hvm.findClass]; exact h1, hi', h3, by rw [he]; exact h4, h5, h6, h7, h8, by rw [he]; exact h9, h10⟩
theorem vx_L.kept {C n d : String} {A : Nat → Prop} {U : State} {H H1 : Heap} (h : vx_L C n d A U H) (hq : ∀ a : Nat, a < H.size → ¬ A a → H1[a]? = H[a]?) : vx_L C n d A U H1 := by
  obtain ⟨c, k, i, f, a, cell, h1, h2, h3, h4, h5, h6, h7, h8, h9, h10⟩ := h
  exact ⟨c, k, i, f, a, cell, h1, h2, h3, h4, by rw [hq a (Array.getElem?_eq_some_iff.mp h5).1 h10]; exact h5, h6, h7, h8, h9, h10⟩
theorem vx_L.narrow {C n d : String} {A B : Nat → Prop} {U : State} {H : Heap} (h : vx_L C n d A U H) (hAB : ∀ q, B q → A q) : vx_L C n d B U H := by
  obtain ⟨c, k, i, f, a, cell, h1, h2, h3, h4, h5, h6, h7, h8, h9, h10⟩ := h
  exact ⟨c, k, i, f, a, cell, h1, h2, h3, h4, h5, h6, h7, h8, h9, fun z => h10 (hAB _ z)⟩
theorem vx_L.word {C n d : String} {A : Nat → Prop} {s : State} {args : Array Value} (h : vx_L C n d A s s.heap) : (Cond.laysStatic C n d).before args s = true := by
  obtain ⟨c, k, i, f, a, cell, h1, h2, h3, h4, h5, h6, h7, h8, h9, -⟩ := h
  show (Cond.laysStatic C n d).holds args s none s [] = true
  exact Cond.laysStatic_of h1 h2 h3 h4 h5 h6 h7 h8 h9
/-- .. and what it holds: null or some reference -/
def vx_Zq (C n d : String) (A : Nat → Prop) (U : State) (H : Heap) : Prop := va_Zq C n d A U H ∧ vx_L C n d A U H
theorem vx_Zq.moved {C n d : String} {A : Nat → Prop} {u U : State} {H : Heap} (hvm : u.vm.Alike U.vm) (h : vx_Zq C n d A u H) : vx_Zq C n d A U H := ⟨va_Zq.moved hvm h.1, vx_L.moved hvm h.2⟩
theorem vx_Zq.kept {C n d : String} {A : Nat → Prop} {U : State} {H H1 : Heap} (h : vx_Zq C n d A U H) (hq : ∀ a : Nat, a < H.size → ¬ A a → H1[a]? = H[a]?) : vx_Zq C n d A U H1 := ⟨va_Zq.kept h.1 hq, vx_L.kept h.2 hq⟩
theorem vx_Zq.narrow {C n d : String} {A B : Nat → Prop} {U : State} {H : Heap} (h : vx_Zq C n d A U H) (hAB : ∀ q, B q → A q) : vx_Zq C n d B U H := ⟨va_Zq.narrow h.1 hAB, vx_L.narrow h.2 hAB⟩
theorem vx_Zqof {args : Array Value} {s : State} {C n d : String} {A : Nat → Prop} (hl : (Cond.laysStatic C n d).before args s = true) (hini : (Cond.initialized C).before args s = true) (h : (Cond.isRef (.static C n d)).before args s = true) (hA : ∀ a : Nat, a < s.heap.size → ¬ A a) : vx_Zq C n d A s s.heap := by
  refine ⟨va_Zqof hl hini h hA, ?_⟩
  obtain ⟨c, k, i, f, a, cell, h1, h2, h3, h4, h5, h6, h7, h8, h9⟩ := Cond.laysStatic_spec hl
  exact ⟨c, k, i, f, a, cell, h1, h2, h3, h4, h5, h6, h7, h8, h9, hA a (Array.getElem?_eq_some_iff.mp h5).1⟩
theorem vx_isRef {C n d : String} {v : Value} {A : Nat → Prop} {s : State} {args : Array Value} (h : va_Z C n d v A s s.heap) (hv : v.isRef = true) : (Cond.isRef (.static C n d)).before args s = true := by
  obtain ⟨cf, kf, fi, f, a, cell, h1, h2, h3, h4, h5, h6, h7, -⟩ := h
  have he : (Term.static C n d).eval args s none [] s = some v := by
    simp [Term.eval, State.fieldNamed?, h1, h2, h4, h5, h6, h7]
  simp only [Cond.before, Cond.holds, Cond.value, he]
  cases v <;> simp_all [Value.isRef]
theorem vx_isRefq {C n d : String} {A : Nat → Prop} {s : State} {args : Array Value} (h : va_Zq C n d A s s.heap) : (Cond.isRef (.static C n d)).before args s = true := by
  rcases h with h | ⟨t, h⟩
  · exact vx_isRef h rfl
  · exact vx_isRef h rfl
/-- the same frame, seen from here: as if the method were called anew in this heap -/
theorem vx_rebase {T : State} (X : Stand p l e R s m args below meth c T locs cells slots) {R' : Room} (hf : R'.frames ≤ R.frames) (hl : R'.locals ≤ R.locals) (hc : cells + R'.cells ≤ R.cells) (hs : slots + R'.slots ≤ R.slots) :
    Stand p l e R' ((T.setVm s.vm).setFrames (.invoking m args :: below)) m args below meth c T [] 0 0 := by
  have htop : (T.setVm s.vm).topJava?.isSome := X.here.top
  have hF : ((T.setVm s.vm).setFrames (.invoking m args :: below)).frames = .invoking m args :: below := State.frames_setFrames _ (State.cur_lt_of_top htop)
  obtain ⟨g₀, hg0⟩ := Option.isSome_iff_exists.mp htop
  obtain ⟨r, hr⟩ := State.topJava?_eq_some.mp hg0
  have hl9 : e.platform.stackLimits (T.setVm s.vm).me = e.platform.stackLimits s.me := X.limits
  have hb9 : (T.setVm s.vm).me.stackBytes = s.me.stackBytes := X.bytes
  refine ⟨X.admits, X.cas, X.clock, hF, ?_, X.hears, X.method, X.code, X.here, X.tail, X.warmed, ?_, ?_, ?_⟩
  · have h := X.room
    have hU : ((T.setVm s.vm).setFrames (.invoking m args :: below)).localsInUse = s.localsInUse := by
      rw [State.localsInUse_invoking hF (meth := meth) (c := c) X.method X.code, State.localsInUse_invoking X.frames X.method X.code]
    simp only [State.hasRoom, Bool.and_eq_true, decide_eq_true_eq] at h ⊢
    obtain ⟨⟨⟨⟨h1, h2, h3, h4, h5, h6⟩, h7⟩, h8⟩, h9⟩ := h
    rw [X.frames, List.length_cons] at h2 h3
    have q1 := X.heapSize
    have q2 := X.used
    simp only [hF, hU, List.length_cons, State.stackLimits_setFrames, State.stackBytes_setFrames, hl9, hb9]
    refine ⟨⟨⟨⟨by omega, by omega, by omega, by omega, by omega, h6⟩, ?_⟩, ?_⟩, X.book⟩
    · show T.heap.size + R'.cells ≤ e.platform.maxCells
      omega
    · show T.slotsUsed + R'.slots ≤ e.platform.maxSlots
      omega
  · rw [State.stackLimits_setFrames]; rfl
  · rw [State.stackBytes_setFrames]; rfl
  · refine ⟨?_, Nat.le_refl _, Nat.le_refl _, ?_, ?_, fun a c9 h9 => ⟨c9, h9, rfl, rfl, fun _ _ => rfl⟩⟩
    · obtain ⟨t, ht, -⟩ := State.frames_cons hr
      show T.setVm s.vm = { ((T.setVm s.vm).setFrames (.invoking m args :: below)).setFrames (T.setVm s.vm).frames with heap := T.heap, slotsUsed := T.slotsUsed }
      rw [State.setFrames_setFrames, State.setFrames_self ht]
      rfl
    · show T.slotsUsed = T.slotsUsed + ((T.heap.toList.drop T.heap.size).map (·.slots.size)).sum
      rw [List.drop_eq_nil_of_le (Nat.le_of_eq Array.length_toList)]
      rfl
    · show ((T.heap.toList.drop T.heap.size).map (·.slots.size)).sum ≤ 0
      rw [List.drop_eq_nil_of_le (Nat.le_of_eq Array.length_toList)]
      exact Nat.le_refl _
/-- 'throw new E()': new; dup; invokespecial; athrow -/
theorem vx_throw0 {cc : ByteArray} {pc : Nat} (hexec : p.tables.exec = Jvm.exec) (hb : c.code = cc) (hl : l.stackTraces = false) {own cls : String} {names : List String} {ik ic mc ms : Nat} {A : Nat → Prop}
    (hown : s.vm.findClass own = some m.cls) (hcls : Bundle.fit cls = true) (hnames : ∀ n ∈ names, Bundle.fit n = true)
    (hk : (Cond.classLink own ik cls).before args s = true) (hini : (Cond.initialized cls).before args s = true) (hat : ∀ w ∈ vx_at0 own ic cls names, w.before args s = true)
    (hgood : ∀ w ∈ Cond.classLink own ik cls :: Cond.initialized cls :: vx_at0 own ic cls names, vx_ot w = true)
    (hU : vx_Zq Bundle.tN "UNASSIGNED_STACK" Bundle.steD A s s.heap) (hN : vx_Zq Bundle.tN "SUPPRESSED_SENTINEL" Bundle.listD A s s.heap) (hS : va_S A s.heap H locs) (hsize : ls.size = c.maxLocals)
    (d0 : decode cc pc = .ok (.new ik, 3)) (d3 : decode cc (pc + 3) = .ok (.dup, 1)) (d4 : decode cc (pc + 4) = .ok (.invokespecial ic, 3)) (d7 : decode cc (pc + 7) = .ok (.athrow, 1))
    (hout : ∀ x ∈ c.exceptionTable.toList, covers x (pc + 7) = false)
    (hRframes : names.length + 3 < R.frames) (hRlocals : (rest.map fun v => v.category).sum + (13 * (names.length + 1) + 42) ≤ R.locals) (hRcells : cells + 1 ≤ R.cells) (hRslots : slots + 6 ≤ R.slots) (hlocks : meth.locks = false)
    (hx : ∀ t : State, s.vm.Alike t.vm → H.size ≤ t.heap.size → (∀ q : Nat, q < H.size → t.heap[q]? = H[q]?) → XC cls s t)
    (hf : ∀ z ∈ locs, free z.base) (hc : cells + 1 ≤ mc) (hs : slots + 6 ≤ ms) :
    W p l e R s m args below meth c H locs cells slots (vx_MQ below Qc XC args s mc ms free) (F0 m pc ls rest) := by
  intro T hT X
  have htr : e.platform.stackTraces = false := (show e.platform.stackTraces = l.stackTraces by rw [X.admits.platform]).trans hl
  have Y := vx_rebase X (R' := { frames := R.frames, locals := R.locals, cells := 1, slots := 6 }) (Nat.le_refl _) (Nat.le_refl _) hRcells hRslots
  obtain ⟨s', hA⟩ : ∃ z, z = (T.setVm s.vm).setFrames (.invoking m args :: below) := ⟨_, rfl⟩
  rw [← hA] at Y
  have hvm : s'.vm = s.vm := by rw [hA]; rfl
  have hhp : s'.heap = H := by rw [hA]; exact hT
  have hW0 : s.WarmedH s'.vm := by rw [hvm]; exact State.WarmedH.refl s
  have hat' : ∀ w ∈ vx_at0 own ic cls names, w.before args s' = true := fun w hw => vx_ot_at hW0 hvm.symm (hgood w (List.mem_cons_of_mem _ (List.mem_cons_of_mem _ hw))) (hat w hw)
  have hk' : (Cond.classLink own ik cls).before args s' = true := vx_ot_at hW0 hvm.symm (hgood _ List.mem_cons_self) hk
  have hini' : (Cond.initialized cls).before args s' = true := vx_ot_at hW0 hvm.symm (hgood _ (List.mem_cons_of_mem _ List.mem_cons_self)) hini
  have hU' : vx_Zq Bundle.tN "UNASSIGNED_STACK" Bundle.steD A s' s'.heap := by rw [hhp]; exact vx_Zq.moved hW0.alike (hU.kept hS.2.1)
  have hN' : vx_Zq Bundle.tN "SUPPRESSED_SENTINEL" Bundle.listD A s' s'.heap := by rw [hhp]; exact vx_Zq.moved hW0.alike (hN.kept hS.2.1)
  have h : ∀ w ∈ Bundle.ownAtoms0 own ic cls names, w.before args s' = true := vx_own hat' (vx_isRefq hU'.1) (vx_isRefq hN'.1) hU'.2.word hN'.2.word
  have hown' : s'.vm.findClass own = some m.cls := by rw [hvm]; exact hown
  have hins : (Cond.instantiable cls 6).before args s' = true := h _ (by simp [Bundle.ownAtoms0])
  obtain ⟨vm₁, cX, kX, hfX, hkX, -, -, X₁, st1⟩ := Y.newCold hexec (own := own) (C := cls) (index := ik) (n := 6) hown' hk' hins hini'
    (g := F0 m pc ls rest) rfl (by rw [hb]; exact d0) (Nat.le_refl _) (Nat.le_refl _)
  generalize hT1 : (T.setVm vm₁).pushCell { cls := cX, slots := kX.instanceTypes.map defaultValue, vm := .none } = T1 at X₁ st1
  have hcat : (Value.ref T.heap.size).category = 1 := rfl
  have hcellA : T1.heap[T.heap.size]? = some (freshCell cX kX) := by rw [← hT1]; exact State.heap_pushCell_size _ _
  have d3' : decode c.code (pc + 3) = .ok (.dup, 1) := by rw [hb]; exact d3
  obtain ⟨U, hsteps, hrun, hend, hW, hsame, ce, hce, hO⟩ := X₁.ctorThrow0 hexec htr (own := own) (cls := cls) (names := names) (ic := ic) hown' hcls hnames h (fun x hx => nomatch hx) hfX hkX hcellA (by rw [hhp, hT]; exact Nat.le_refl _)
    (g := { method := m, pc := pc + 4, locals := ls, stack := .ref T.heap.size :: .ref T.heap.size :: rest, locked := none }) rfl hsize rfl rfl (rest := rest) rfl
    (by rw [hb]; exact d4) (by rw [hb]; exact d7) hout hRframes (by simp only [List.map_cons, List.sum_cons, hcat]; omega) hlocks
  obtain ⟨f1, f2⟩ := vx_frame hsame
  rw [hhp] at f1 f2
  have hWs : s.WarmedH U.vm := State.WarmedH.trans hW0 hW
  have hcl : s.vm.findClass cls = some ce.cls := by
    have h9 := hO.cls
    rw [hvm] at h9
    exact h9
  have hall : s.sameButNew ({ U with vm := s.vm } : State) locs mc ms := by
    subst hA
    obtain ⟨e1, e2⟩ := hsame
    rw [State.setFrames_setFrames] at e1
    have h2 : (T.setVm s.vm).sameButNew ({ U with vm := s.vm } : State) [] (0 + 1) (0 + 6) := ⟨e1, e2⟩
    have h3 := X.same.trans h2
    rw [List.append_nil] at h3
    exact h3.mono hc hs
  refine ⟨U, ?_, .threw T.heap.size, hrun, hend, Or.inr ⟨T.heap.size, rfl, cls, ce, locs, hx U hWs.alike f1 (fun q hq => f2 q hq (fun z hz => nomatch hz)), hce, hO.vm, hcl, hWs, hall, hf⟩⟩
  refine st1 _ ?_
  show Steps p.tables e below (T1.setTop { method := m, pc := pc + 3, locals := ls, stack := .ref T.heap.size :: rest, locked := none }) _
  jvm_step X₁.here [X₁.here.top, hexec, d3', Value.category]
  exact hsteps
/-- 'throw new E("text")': new; dup; ldc; invokespecial; athrow -/
theorem vx_throwS {cc : ByteArray} {pc : Nat} (hexec : p.tables.exec = Jvm.exec) (hb : c.code = cc) (hl : l.stackTraces = false) {own cls text : String} {names : List String} {ik is ic mc ms sa : Nat} {A : Nat → Prop}
    (hown : s.vm.findClass own = some m.cls) (hcls : Bundle.fit cls = true) (hnames : ∀ n ∈ names, Bundle.fit n = true)
    (hk : (Cond.classLink own ik cls).before args s = true) (hini : (Cond.initialized cls).before args s = true) (hstr : vk_R own is text sa s) (hat : ∀ w ∈ vx_atS own ic cls names, w.before args s = true)
    (hgood : ∀ w ∈ Cond.classLink own ik cls :: Cond.initialized cls :: vx_atS own ic cls names, vx_ot w = true)
    (hU : vx_Zq Bundle.tN "UNASSIGNED_STACK" Bundle.steD A s s.heap) (hN : vx_Zq Bundle.tN "SUPPRESSED_SENTINEL" Bundle.listD A s s.heap) (hS : va_S A s.heap H locs) (hsize : ls.size = c.maxLocals)
    (d0 : decode cc pc = .ok (.new ik, 3)) (d3 : decode cc (pc + 3) = .ok (.dup, 1)) (d4 : decode cc (pc + 4) = .ok (.ldc is, 2)) (d6 : decode cc (pc + 6) = .ok (.invokespecial ic, 3)) (d9 : decode cc (pc + 9) = .ok (.athrow, 1))
    (hout : ∀ x ∈ c.exceptionTable.toList, covers x (pc + 9) = false)
    (hRframes : names.length + 3 < R.frames) (hRlocals : (rest.map fun v => v.category).sum + (13 * (names.length + 1) + 43) ≤ R.locals) (hRcells : cells + 1 ≤ R.cells) (hRslots : slots + 6 ≤ R.slots) (hlocks : meth.locks = false)
    (hx : ∀ t : State, s.vm.Alike t.vm → H.size ≤ t.heap.size → (∀ q : Nat, q < H.size → t.heap[q]? = H[q]?) → XC cls s t)
    (hf : ∀ z ∈ locs, free z.base) (hc : cells + 1 ≤ mc) (hs : slots + 6 ≤ ms) :
    W p l e R s m args below meth c H locs cells slots (vx_MQ below Qc XC args s mc ms free) (F0 m pc ls rest) := by
  intro T hT X
  have htr : e.platform.stackTraces = false := (show e.platform.stackTraces = l.stackTraces by rw [X.admits.platform]).trans hl
  have Y := vx_rebase X (R' := { frames := R.frames, locals := R.locals, cells := 1, slots := 6 }) (Nat.le_refl _) (Nat.le_refl _) hRcells hRslots
  obtain ⟨s', hA⟩ : ∃ z, z = (T.setVm s.vm).setFrames (.invoking m args :: below) := ⟨_, rfl⟩
  rw [← hA] at Y
  have hvm : s'.vm = s.vm := by rw [hA]; rfl
  have hhp : s'.heap = H := by rw [hA]; exact hT
  have hW0 : s.WarmedH s'.vm := by rw [hvm]; exact State.WarmedH.refl s
  have hat' : ∀ w ∈ vx_atS own ic cls names, w.before args s' = true := fun w hw => vx_ot_at hW0 hvm.symm (hgood w (List.mem_cons_of_mem _ (List.mem_cons_of_mem _ hw))) (hat w hw)
  have hk' : (Cond.classLink own ik cls).before args s' = true := vx_ot_at hW0 hvm.symm (hgood _ List.mem_cons_self) hk
  have hini' : (Cond.initialized cls).before args s' = true := vx_ot_at hW0 hvm.symm (hgood _ (List.mem_cons_of_mem _ List.mem_cons_self)) hini
  have hU' : vx_Zq Bundle.tN "UNASSIGNED_STACK" Bundle.steD A s' s'.heap := by rw [hhp]; exact vx_Zq.moved hW0.alike (hU.kept hS.2.1)
  have hN' : vx_Zq Bundle.tN "SUPPRESSED_SENTINEL" Bundle.listD A s' s'.heap := by rw [hhp]; exact vx_Zq.moved hW0.alike (hN.kept hS.2.1)
  have h : ∀ w ∈ Bundle.ownAtoms own ic cls names, w.before args s' = true := vx_own hat' (vx_isRefq hU'.1) (vx_isRefq hN'.1) hU'.2.word hN'.2.word
  have hown' : s'.vm.findClass own = some m.cls := by rw [hvm]; exact hown
  have hins : (Cond.instantiable cls 6).before args s' = true := h _ (by simp [Bundle.ownAtoms])
  obtain ⟨vm₁, cX, kX, hfX, hkX, -, -, X₁, st1⟩ := Y.newCold hexec (own := own) (C := cls) (index := ik) (n := 6) hown' hk' hins hini'
    (g := F0 m pc ls rest) rfl (by rw [hb]; exact d0) (Nat.le_refl _) (Nat.le_refl _)
  generalize hT1 : (T.setVm vm₁).pushCell { cls := cX, slots := kX.instanceTypes.map defaultValue, vm := .none } = T1 at X₁ st1
  have hcat : (Value.ref T.heap.size).category = 1 := rfl
  have hcellA : T1.heap[T.heap.size]? = some (freshCell cX kX) := by rw [← hT1]; exact State.heap_pushCell_size _ _
  have d3' : decode c.code (pc + 3) = .ok (.dup, 1) := by rw [hb]; exact d3
  have d4' : decode c.code (pc + 4) = .ok (.ldc is, 2) := by rw [hb]; exact d4
  have hstr' : vk_R own is text sa s' := vk_R.warm hW0 hstr
  obtain ⟨U, hsteps, hrun, hend, hW, hsame, ce, hce, hO⟩ := X₁.ctorThrowS hexec htr (own := own) (cls := cls) (names := names) (ic := ic) hown' hcls hnames h (fun x hx => nomatch hx) hfX hkX hcellA (by rw [hhp, hT]; exact Nat.le_refl _) (msg := .ref sa) rfl
    (g := { method := m, pc := pc + 6, locals := ls, stack := .ref sa :: .ref T.heap.size :: .ref T.heap.size :: rest, locked := none }) rfl hsize rfl rfl (rest := rest) rfl
    (by rw [hb]; exact d6) (by rw [hb]; exact d9) hout hRframes (by simp only [List.map_cons, List.sum_cons, hcat]; omega) hlocks
  obtain ⟨f1, f2⟩ := vx_frame hsame
  rw [hhp] at f1 f2
  have hWs : s.WarmedH U.vm := State.WarmedH.trans hW0 hW
  have hcl : s.vm.findClass cls = some ce.cls := by
    have h9 := hO.cls
    rw [hvm] at h9
    exact h9
  have hall : s.sameButNew ({ U with vm := s.vm } : State) locs mc ms := by
    subst hA
    obtain ⟨e1, e2⟩ := hsame
    rw [State.setFrames_setFrames] at e1
    have h2 : (T.setVm s.vm).sameButNew ({ U with vm := s.vm } : State) [] (0 + 1) (0 + 6) := ⟨e1, e2⟩
    have h3 := X.same.trans h2
    rw [List.append_nil] at h3
    exact h3.mono hc hs
  refine ⟨U, ?_, .threw T.heap.size, hrun, hend, Or.inr ⟨T.heap.size, rfl, cls, ce, locs, hx U hWs.alike f1 (fun q hq => f2 q hq (fun z hz => nomatch hz)), hce, hO.vm, hcl, hWs, hall, hf⟩⟩
  refine st1 _ ?_
  show Steps p.tables e below (T1.setTop { method := m, pc := pc + 3, locals := ls, stack := .ref T.heap.size :: rest, locked := none }) _
  jvm_step X₁.here [X₁.here.top, hexec, d3', Value.category]
  exact X₁.ldcString hexec (own := own) (text := text) (index := is) (a := sa) hown' hstr'.1 hstr'.2
    (g := { method := m, pc := pc + 4, locals := ls, stack := .ref T.heap.size :: .ref T.heap.size :: rest, locked := none }) rfl d4' _ hsteps
/-- 'throw new E("text")', the text by a wide index -/
theorem vx_throwSW {cc : ByteArray} {pc : Nat} (hexec : p.tables.exec = Jvm.exec) (hb : c.code = cc) (hl : l.stackTraces = false) {own cls text : String} {names : List String} {ik is ic mc ms sa : Nat} {A : Nat → Prop}
    (hown : s.vm.findClass own = some m.cls) (hcls : Bundle.fit cls = true) (hnames : ∀ n ∈ names, Bundle.fit n = true)
    (hk : (Cond.classLink own ik cls).before args s = true) (hini : (Cond.initialized cls).before args s = true) (hstr : vk_R own is text sa s) (hat : ∀ w ∈ vx_atS own ic cls names, w.before args s = true)
    (hgood : ∀ w ∈ Cond.classLink own ik cls :: Cond.initialized cls :: vx_atS own ic cls names, vx_ot w = true)
    (hU : vx_Zq Bundle.tN "UNASSIGNED_STACK" Bundle.steD A s s.heap) (hN : vx_Zq Bundle.tN "SUPPRESSED_SENTINEL" Bundle.listD A s s.heap) (hS : va_S A s.heap H locs) (hsize : ls.size = c.maxLocals)
    (d0 : decode cc pc = .ok (.new ik, 3)) (d3 : decode cc (pc + 3) = .ok (.dup, 1)) (d4 : decode cc (pc + 4) = .ok (.ldc_w is, 3)) (d7 : decode cc (pc + 7) = .ok (.invokespecial ic, 3)) (d10 : decode cc (pc + 10) = .ok (.athrow, 1))
    (hout : ∀ x ∈ c.exceptionTable.toList, covers x (pc + 10) = false)
    (hRframes : names.length + 3 < R.frames) (hRlocals : (rest.map fun v => v.category).sum + (13 * (names.length + 1) + 43) ≤ R.locals) (hRcells : cells + 1 ≤ R.cells) (hRslots : slots + 6 ≤ R.slots) (hlocks : meth.locks = false)
    (hx : ∀ t : State, s.vm.Alike t.vm → H.size ≤ t.heap.size → (∀ q : Nat, q < H.size → t.heap[q]? = H[q]?) → XC cls s t)
    (hf : ∀ z ∈ locs, free z.base) (hc : cells + 1 ≤ mc) (hs : slots + 6 ≤ ms) :
    W p l e R s m args below meth c H locs cells slots (vx_MQ below Qc XC args s mc ms free) (F0 m pc ls rest) := by
  intro T hT X
  have htr : e.platform.stackTraces = false := (show e.platform.stackTraces = l.stackTraces by rw [X.admits.platform]).trans hl
  have Y := vx_rebase X (R' := { frames := R.frames, locals := R.locals, cells := 1, slots := 6 }) (Nat.le_refl _) (Nat.le_refl _) hRcells hRslots
  obtain ⟨s', hA⟩ : ∃ z, z = (T.setVm s.vm).setFrames (.invoking m args :: below) := ⟨_, rfl⟩
  rw [← hA] at Y
  have hvm : s'.vm = s.vm := by rw [hA]; rfl
  have hhp : s'.heap = H := by rw [hA]; exact hT
  have hW0 : s.WarmedH s'.vm := by rw [hvm]; exact State.WarmedH.refl s
  have hat' : ∀ w ∈ vx_atS own ic cls names, w.before args s' = true := fun w hw => vx_ot_at hW0 hvm.symm (hgood w (List.mem_cons_of_mem _ (List.mem_cons_of_mem _ hw))) (hat w hw)
  have hk' : (Cond.classLink own ik cls).before args s' = true := vx_ot_at hW0 hvm.symm (hgood _ List.mem_cons_self) hk
  have hini' : (Cond.initialized cls).before args s' = true := vx_ot_at hW0 hvm.symm (hgood _ (List.mem_cons_of_mem _ List.mem_cons_self)) hini
  have hU' : vx_Zq Bundle.tN "UNASSIGNED_STACK" Bundle.steD A s' s'.heap := by rw [hhp]; exact vx_Zq.moved hW0.alike (hU.kept hS.2.1)
  have hN' : vx_Zq Bundle.tN "SUPPRESSED_SENTINEL" Bundle.listD A s' s'.heap := by rw [hhp]; exact vx_Zq.moved hW0.alike (hN.kept hS.2.1)
  have h : ∀ w ∈ Bundle.ownAtoms own ic cls names, w.before args s' = true := vx_own hat' (vx_isRefq hU'.1) (vx_isRefq hN'.1) hU'.2.word hN'.2.word
  have hown' : s'.vm.findClass own = some m.cls := by rw [hvm]; exact hown
  have hins : (Cond.instantiable cls 6).before args s' = true := h _ (by simp [Bundle.ownAtoms])
  obtain ⟨vm₁, cX, kX, hfX, hkX, -, -, X₁, st1⟩ := Y.newCold hexec (own := own) (C := cls) (index := ik) (n := 6) hown' hk' hins hini'
    (g := F0 m pc ls rest) rfl (by rw [hb]; exact d0) (Nat.le_refl _) (Nat.le_refl _)
  generalize hT1 : (T.setVm vm₁).pushCell { cls := cX, slots := kX.instanceTypes.map defaultValue, vm := .none } = T1 at X₁ st1
  have hcat : (Value.ref T.heap.size).category = 1 := rfl
  have hcellA : T1.heap[T.heap.size]? = some (freshCell cX kX) := by rw [← hT1]; exact State.heap_pushCell_size _ _
  have d3' : decode c.code (pc + 3) = .ok (.dup, 1) := by rw [hb]; exact d3
  have d4' : decode c.code (pc + 4) = .ok (.ldc_w is, 3) := by rw [hb]; exact d4
  have hstr' : vk_R own is text sa s' := vk_R.warm hW0 hstr
  obtain ⟨U, hsteps, hrun, hend, hW, hsame, ce, hce, hO⟩ := X₁.ctorThrowS hexec htr (own := own) (cls := cls) (names := names) (ic := ic) hown' hcls hnames h (fun x hx => nomatch hx) hfX hkX hcellA (by rw [hhp, hT]; exact Nat.le_refl _) (msg := .ref sa) rfl
    (g := { method := m, pc := pc + 7, locals := ls, stack := .ref sa :: .ref T.heap.size :: .ref T.heap.size :: rest, locked := none }) rfl hsize rfl rfl (rest := rest) rfl
    (by rw [hb]; exact d7) (by rw [hb]; exact d10) hout hRframes (by simp only [List.map_cons, List.sum_cons, hcat]; omega) hlocks
  obtain ⟨f1, f2⟩ := vx_frame hsame
  rw [hhp] at f1 f2
  have hWs : s.WarmedH U.vm := State.WarmedH.trans hW0 hW
  have hcl : s.vm.findClass cls = some ce.cls := by
    have h9 := hO.cls
    rw [hvm] at h9
    exact h9
  have hall : s.sameButNew ({ U with vm := s.vm } : State) locs mc ms := by
    subst hA
    obtain ⟨e1, e2⟩ := hsame
    rw [State.setFrames_setFrames] at e1
    have h2 : (T.setVm s.vm).sameButNew ({ U with vm := s.vm } : State) [] (0 + 1) (0 + 6) := ⟨e1, e2⟩
    have h3 := X.same.trans h2
    rw [List.append_nil] at h3
    exact h3.mono hc hs
  refine ⟨U, ?_, .threw T.heap.size, hrun, hend, Or.inr ⟨T.heap.size, rfl, cls, ce, locs, hx U hWs.alike f1 (fun q hq => f2 q hq (fun z hz => nomatch hz)), hce, hO.vm, hcl, hWs, hall, hf⟩⟩
  refine st1 _ ?_
  show Steps p.tables e below (T1.setTop { method := m, pc := pc + 3, locals := ls, stack := .ref T.heap.size :: rest, locked := none }) _
  jvm_step X₁.here [X₁.here.top, hexec, d3', Value.category]
  exact X₁.ldcStringW hexec (own := own) (text := text) (index := is) (a := sa) hown' hstr'.1 hstr'.2
    (g := { method := m, pc := pc + 4, locals := ls, stack := .ref T.heap.size :: .ref T.heap.size :: rest, locked := none }) rfl d4' _ hsteps
end Ends
section Bodies
variable {l : Launch}
theorem vx_ofW {y : MethodName} {ws ws' : List Cond} {rm : Room} {Pc : Array Value → State → Prop} {Qc : Array Value → State → Outcome → State → Prop} {XC : String → State → State → Prop} {mc ms : Nat} {free : Addr → Prop} {cc : ByteArray} {maxL : Nat} {ret : Option FieldType}
    (hy : plainName y.cls = true) (hw : ws = Cond.code y cc maxL ret :: ws')
    (body : ∀ p e s m args below meth c s₁, BodyLoose p l y (headSpec ws rm) cc maxL ret e s m args below meth c s₁ → c.maxLocals = maxL → (∀ x ∈ c.exceptionTable.toList, False) → Pc args s →
      W p l e (headSpec ws rm).room s m args below meth c s.heap [] 0 0 (vx_MQ below Qc XC args s mc ms free) (entryFrame m args maxL)) : vx_Met l y ws rm Pc Qc XC mc ms free := by
  refine MetFree.of_bodyS (code := cc) (maxLocals := maxL) (ret := ret) hy ?_ ?_
  · intro args s m h hn
    obtain ⟨meth, c, h1, h2, h3, h4, h5, h6, -, -⟩ := Cond.code_spec hn (atoms_spec (ws := ws) h _ (by rw [hw]; exact List.mem_cons_self))
    exact ⟨meth, c, h1, h2, h3, h4, h5, h6⟩
  · intro p e s m args below meth c s₁ B hml hP _
    have hh0 : s₁.heap = s.heap := by rw [B.state]; rfl
    have ht : ∀ x ∈ c.exceptionTable.toList, False := by
      obtain ⟨meth9, c9, h1, h2, -, -, -, -, h7, -⟩ := Cond.code_spec B.named (atoms_spec (ws := ws) B.pre _ (by rw [hw]; exact List.mem_cons_self))
      cases Option.some.inj (h1.symm.trans B.method)
      cases Option.some.inj (h2.symm.trans (Stand.of_body B).code)
      intro x hx
      rw [Array.isEmpty_iff.mp h7] at hx
      cases hx
    obtain ⟨t, a1, o, b1, b2, b3⟩ := body p e s m args below meth c s₁ B hml ht hP s₁ hh0 (Stand.of_body B)
    exact ⟨t, o, a1, b1, b2, b3⟩
/-- the table of a body with handlers -/
theorem vx_table {p : Program} {x y : MethodName} {S : Spec} {cc bytes : ByteArray} {maxL maxL' : Nat} {ret ret' : Option FieldType} {e : Env} {s s₁ : State} {m : MethodId} {args : Array Value} {below : List Frame} {meth : Method} {c : Code} {hh : List (Nat × Nat × Nat × Nat)}
    (B : BodyLoose p l y S cc maxL ret e s m args below meth c s₁) (h : (Cond.codeWith y bytes maxL' ret' hh).before args s = true) : c.exceptionTable.toList = tableOf hh := by
  obtain ⟨m9, meth9, c9, hn9, h1, h2, -, -, h6, -⟩ := Cond.codeWith_spec h
  cases Option.some.inj (hn9.symm.trans B.named)
  cases Option.some.inj (h1.symm.trans B.method)
  cases Option.some.inj (h2.symm.trans (Stand.of_body B).code)
  rw [← h6, table_eq]
end Bodies
end VXA
/-! ===== END ===== -/
/-! ===== BEGIN a static call of a method with an exception table ===== -/
section VXS
variable {p : Program} {l : Launch} {e : Env} {R : Room} {s : State} {m : MethodId} {args : Array Value} {below : List Frame} {meth : Method} {c : Code} {T : State} {H : Heap} {locs : List Loc} {cells slots : Nat}
abbrev vx_CSW (R : Room) (s : State) (args : Array Value) (own : String) (index : Nat) (y : MethodName) (bytes : ByteArray) (maxL : Nat) (ret : Option FieldType) (hh : List (Nat × Nat × Nat × Nat)) (ws : List Cond) (rm : Room) (mc ms n : Nat) : Prop :=
  (rm.cells = mc ∧ rm.slots = ms ∧ rm.frames + 1 ≤ R.frames ∧ 8 + (maxL + 11) + rm.locals ≤ R.locals ∧ (∀ w ∈ ws, ∀ (a' : Array Value) (U : State), s.WarmedH U.vm → w.before a' U = true) ∧ Cond.codeWith y bytes maxL ret hh ∈ ws) ∧
  (Cond.codeWith y bytes maxL ret hh).before args s = true ∧ (Cond.initialized y.cls).before args s = true ∧ (y.cls ≠ "java/lang/invoke/MethodHandle" ∧ y.cls ≠ "java/lang/invoke/VarHandle") ∧
  (∀ sig, parseMethodDescriptor y.desc = some sig → n = sig.parameters.length) ∧ (Cond.methodLink own index y).before args s = true ∧ (Cond.static y).before args s = true
theorem vx_cwSW {own : String} {index maxL mc ms : Nat} {y : MethodName} {bytes : ByteArray} {ret : Option FieldType} {hh : List (Nat × Nat × Nat × Nat)} {Ts ws ws' : List Cond} {rm : Room} (n : Nat) (ht : ∀ w ∈ Ts, w.before args s = true) (hT : GoodIn Ts (va_wsS own index y ws)) (hw : ws = Cond.codeWith y bytes maxL ret hh :: ws') (hrc : rm.cells = mc) (hrs : rm.slots = ms)
    (hd : y.cls ≠ "java/lang/invoke/MethodHandle" ∧ y.cls ≠ "java/lang/invoke/VarHandle" ∧ (parseMethodDescriptor y.desc).map (fun d => d.parameters.length) = some n) (hR : rm.frames + 1 ≤ R.frames ∧ 8 + (maxL + 11) + rm.locals ≤ R.locals) :
    vx_CSW R s args own index y bytes maxL ret hh ws rm mc ms n := by
  have ok : ∀ w ∈ va_wsS own index y ws, w.before args s = true := fun w h => ht w (hT w h).1
  have hG : GoodIn Ts ws := fun w h => hT w (by unfold va_wsS; exact List.mem_append_right _ h)
  have hc : Cond.codeWith y bytes maxL ret hh ∈ ws := by rw [hw]; exact List.mem_cons_self
  refine ⟨⟨hrc, hrs, hR.1, hR.2, pay_in ht hG, hc⟩, ht _ (hG _ hc).1, ok _ (by simp [va_wsS]), ⟨hd.1, hd.2.1⟩, fun sig h => ?_, ok _ (by simp [va_wsS]), ok _ (by simp [va_wsS])⟩
  have h2 := hd.2.2
  rw [h] at h2
  exact (Option.some.inj h2).symm
theorem vx_callSW (X : Stand p l e R s m args below meth c T locs cells slots) (hexec : p.tables.exec = Jvm.exec) {own : String} {index : Nat} {y : MethodName} {bytes : ByteArray} {maxL : Nat} {ret : Option FieldType} {hh : List (Nat × Nat × Nat × Nat)}
    (hown : s.vm.findClass own = some m.cls) (hlink : (Cond.methodLink own index y).before args s = true) (hstat : (Cond.static y).before args s = true) (hinit : (Cond.initialized y.cls).before args s = true)
    (hcode : (Cond.codeWith y bytes maxL ret hh).before args s = true) (hy : y.cls ≠ "java/lang/invoke/MethodHandle" ∧ y.cls ≠ "java/lang/invoke/VarHandle")
    {W9 : Nat} {Pre : Pt → Array Value → Prop} {Post : Pt → Array Value → Option Value → Pt → Prop} (hK : Back l R p e below s args y 3 W9 Pre Post)
    {g : JFrame} (hg : g.method = m) (hsize : g.locals.size = c.maxLocals) {argsL rest : List Value} (hlen : ∀ sig, parseMethodDescriptor y.desc = some sig → argsL.length = sig.parameters.length)
    (hstack : g.stack = argsL.reverse ++ rest) (hW : 2 * g.monitorRoom + (rest.map fun v => v.category).sum ≤ W9) (hdg : decode c.code g.pc = .ok (.invokestatic index, 3))
    (hpre : ∀ vm₁, s.WarmedH vm₁ → Pre ⟨T.setVm vm₁, locs, cells, slots⟩ argsL.toArray) :
    ∃ (v : Option Value) (vm₁ : Vm) (B : Pt), s.WarmedH vm₁ ∧ Stand p l e R s m args below meth c B.U B.locs B.cells B.slots ∧ Post ⟨T.setVm vm₁, locs, cells, slots⟩ argsL.toArray v B ∧
      ∀ target, Steps p.tables e below (B.U.setTop { g with pc := g.pc + 3, stack := v.toList ++ rest }) target → Steps p.tables e below (T.setTop g) target := by
  obtain ⟨mk, methM, cM, hnamed, hmethM, -, -, -, -, -, -, hsigM⟩ := Cond.codeWith_spec hcode
  have hstatic : methM.isStatic = true := Cond.static_spec hnamed hmethM hstat
  obtain ⟨kP, hkP, -⟩ := className_of_methodNamed hnamed
  have hinitP : kP.init = .initialized := Cond.initialized_spec (findClass_of_methodNamed hnamed) hkP hinit
  obtain ⟨vm₁, X₁, hstep₁⟩ := X.invokestatic hexec hown hlink hnamed hmethM hstatic hkP hinitP hy (g := g) hg (argsL := argsL) (rest := rest) (hlen _ hsigM) hstack hdg
  obtain ⟨v, B, X', hpost, hsteps⟩ := hK m meth c ⟨T.setVm vm₁, locs, cells, slots⟩ { g with stack := rest } (.invokestatic index) mk argsL.toArray X₁ hg hsize hdg hW (X₁.named hnamed) (hpre vm₁ X₁.warmed)
  exact ⟨v, vm₁, B, X₁.warmed, X', hpost, fun target h => hstep₁ _ fun acts => by rw [doInvoke_state]; exact hsteps.trans h⟩
theorem vx_runSW {y : MethodName} {bytes cc : ByteArray} {maxL nL mc ms n index : Nat} {ret : Option FieldType} {hh : List (Nat × Nat × Nat × Nat)} {ws : List Cond} {rm : Room} {Pc : Array Value → State → Prop} {Qc : Array Value → State → Outcome → State → Prop} {free : Addr → Prop} {Ts : List Cond} {own : String} {As rest : List Value} {g : JFrame}
    (S : CallFix p m c cc nL s args Ts own) (hM : Met l y ws rm Pc Qc mc ms free) (cw : vx_CSW R s args own index y bytes maxL ret hh ws rm mc ms n) (hp : PreS s H Pc As)
    (hg : g.method = m) (hn : As.length = n) (hsize : g.locals.size = nL) (hstack : g.stack = As.reverse ++ rest) (hW : 2 * g.monitorRoom + (rest.map fun v => v.category).sum ≤ 8) (hdg : decode cc g.pc = .ok (.invokestatic index, 3)) (hf : cells + mc ≤ R.cells ∧ slots + ms ≤ R.slots) :
    va_Run p l e R s m args below meth c H locs cells slots mc ms g rest (Qc As.toArray) (free) := by
  obtain ⟨⟨hrc, hrs, hfr, hlo, hws, hcw⟩, hcode, hini, hy, hlen, hl, hstt⟩ := cw
  have hK : Back l R p e below s args y 3 8 (PreOf R mc ms Pc) (PostOf Qc mc ms free) := va_backW (hh := hh) (bytes := bytes) (maxL := maxL) (ret := ret) hM hp.1 hrc hrs hfr hlo hws hcw (fun a' U hW => word_at hW (Or.inl (by first | rfl | simp [Cond.onTables, Cond.keeps, Cond.steady])) hini)
  obtain ⟨hx, hb, hml, ho, -⟩ := S
  intro T hT X
  obtain ⟨v, vm₁, ⟨U', l2, c2, s2⟩, hW₁, X', ⟨g', mk, t, L, e1, e2, hq, h1, hL, h2, h3⟩, st⟩ := vx_callSW X hx (hh := hh) (bytes := bytes) (maxL := maxL) (ret := ret) ho hl hstt hini hcode hy hK hg (hsize.trans hml.symm) (argsL := As) (rest := rest) (fun sig h => hn.trans (hlen sig h)) hstack hW (by rw [hb]; exact hdg)
    (fun vm₁ hW₁ => ⟨hf.1, hf.2, hp.2 (T.setVm vm₁) hT hW₁⟩)
  dsimp only [Pt.U, Pt.locs, Pt.cells, Pt.slots] at X' e1 e2 h1 h2 h3 st
  subst h1; subst h2; subst h3
  exact ⟨v, (T.setVm vm₁).calling g' mk As.toArray, t, U', L, hT, X', hL, e1, e2, hq, st⟩
/-- not caught here, past rows that name other classes: it goes on to the caller -/
theorem vx_outP {p : Program} {l : Launch} {e : Env} {R : Room} {s : State} {m : MethodId} {args : Array Value} {below : List Frame} {meth : Method} {c : Code} {H : Heap} {locs : List Loc} {cells slots : Nat} {free : Addr → Prop} {ls : Array Slot} {rest : List Value} {Qc : Array Value → State → Outcome → State → Prop} {XC : String → State → State → Prop}
    {pc : Nat} {own E : String} {ce : Cell} {q : Addr} {mc ms : Nat} (hown : s.vm.findClass own = some m.cls) (hlocks : meth.locks = false)
    (hpass : ∀ z ∈ c.exceptionTable.toList, covers z pc = false ∨ (z.catchType ≠ 0 ∧ ∃ nm : String, (Cond.classLink own z.catchType nm).before args s = true ∧ va_Nc E nm s)) (hcell : H[q]? = some ce) (hv : ce.vm = .none) (hcl : s.vm.findClass E = some ce.cls)
    (hx : ∀ t : State, t.heap = H → s.vm.Alike t.vm → XC E s t) (hf : ∀ z ∈ locs, free z.base) (hc : cells ≤ mc) (hs : slots ≤ ms) :
    vx_W p l e R s m args below meth c H locs cells slots (vx_MQ below Qc XC args s mc ms free) (F0 m pc ls rest) q := by
  intro T hT X
  have hpl : e.platform.magicAccessors = ({} : Platform).magicAccessors := by rw [X.admits.platform]
  obtain ⟨vm', hW', X', st⟩ := X.outThrough hlocks q (g := F0 m pc ls rest) rfl rfl rfl (cell := ce) (by rw [hT]; exact hcell) (by rw [hv]; rfl)
    (by obtain ⟨k9, h9, -⟩ := Vm.findClass_spec hcl; exact ⟨k9, h9⟩) (fun z hz => by
      rcases hpass z hz with h | ⟨hz0, nm, hl1, hn1⟩
      · exact Or.inl h
      · obtain ⟨c6, hc6, hcl6⟩ := Cond.classLink_spec hown hl1 e.platform hpl
        obtain ⟨a8, b8, h1, h2, h3⟩ := hn1
        cases Option.some.inj (h1.symm.trans hcl)
        cases Option.some.inj (h2.symm.trans hc6)
        exact Or.inr ⟨hz0, _, hcl6, h3⟩)
  obtain ⟨g₀, hfr⟩ := X'.frames_eq
  have hcell9 : ((T.setVm vm').setFrames (.throwing q :: below)).heap[q]? = some ce := by
    show T.heap[q]? = some ce
    rw [hT]; exact hcell
  have hend : Ended ((T.setVm vm').setFrames (.throwing q :: below)) below (.threw q) := State.frames_setFrames _ (State.cur_lt_of_frames hfr)
  refine ⟨(T.setVm vm').setFrames (.throwing q :: below), ?_, .threw q, X'.here.running, hend, Or.inr ⟨q, rfl, E, ce, locs, hx _ hT (X'.ends _).1.alike, hcell9, hv, hcl, (X'.ends _).1, (X'.ends _).2.mono hc hs, hf⟩⟩
  rw [X.pushThrowing_eq]
  exact st
/-- a thing of a world lies in the heap -/
theorem vx_lt {D : va_G} {cl : List vw_C} {ws : va_W} {H1 : Heap} (h : va_P D cl ws H1) {k : Nat} {q : Nat × va_E} (hk : ws[k]? = some q) : q.1 < H1.size := (h k q hk).lt
end VXS
/-! ===== END ===== -/
/-! ===== BEGIN methods with a table of their own: called by a name, returning or throwing ===== -/
section VXH
/-! vx_backW, vx_callVX, vx_callSX, vx_callVW, vx_runVW, vx_runVX, vx_runSX, vx_ofWH follow the same proofs as their sisters above (Free/Laws.lean, Shelf42/LK1.lean); vx_outP calls Shelf42/NT130.lean (outThrough). -/
section
variable {l : Launch} {R : Room} {p : Program} {e : Env} {below : List Frame} {s : State} {sargs : Array Value} {y : MethodName} {len W9 : Nat}
theorem vx_backW {ws : List Cond} {rm : Room} {Pc : Array Value → State → Prop} {Qc : Array Value → State → Outcome → State → Prop} {XC : String → State → State → Prop} {mc ms : Nat} {free : Addr → Prop} {bytes : ByteArray} {maxL : Nat} {ret : Option FieldType} {hh : List (Nat × Nat × Nat × Nat)}
    (hM : vx_Met l y ws rm Pc Qc XC mc ms free) (hblind : FrameBlind Pc) (hrc : rm.cells = mc) (hrs : rm.slots = ms)
    (hframes : rm.frames + 1 ≤ R.frames) (hlocals : W9 + (maxL + 11) + rm.locals ≤ R.locals)
    (hws : ∀ w ∈ ws, ∀ a' U, s.WarmedH U.vm → w.before a' U = true) (hcode : Cond.codeWith y bytes maxL ret hh ∈ ws) (hinit : ∀ a' U, s.WarmedH U.vm → (Cond.initialized y.cls).before a' U = true) :
    vx_Back l R p e below s sargs y len W9 (PreOf R mc ms Pc) (PostOf Qc mc ms free) (vx_Post XC mc ms free) := by
  intro m meth c A g ig mk a X hg hsize hdg hW hn hp
  have h1 : (headSpec ws rm).pre.before a A.U = true := atoms_intro fun w hw => hws w hw _ _ X.warmed
  have h2 : (Cond.codeWith y bytes maxL ret hh).before a A.U = true := hws _ hcode _ _ X.warmed
  have h3 : (Cond.initialized y.cls).before a A.U = true := hinit _ _ X.warmed
  have h4 : A.cells + (headSpec ws rm).room.cells ≤ R.cells := by rw [show (headSpec ws rm).room.cells = mc from hrc]; exact hp.1
  have h5 : A.slots + (headSpec ws rm).room.slots ≤ R.slots := by rw [show (headSpec ws rm).room.slots = ms from hrs]; exact hp.2.1
  have hPc : Pc a (A.U.calling g mk a) := hblind _ _ _ _ hp.2.2
  obtain ⟨U, Ls, c0, s0⟩ := A
  dsimp only [Pt.U, Pt.locs, Pt.cells, Pt.slots] at h1 h2 h3 h4 h5 X hn hPc ⊢
  obtain ⟨m9, methY, cY, hn9, hmY, hcY, -, hlY, -⟩ := Cond.codeWith_spec h2
  cases Option.some.inj (hn9.symm.trans hn)
  obtain ⟨kY, hkY, -⟩ := className_of_methodNamed hn
  have hinitY : kY.init = .initialized := Cond.initialized_spec (findClass_of_methodNamed hn) hkY h3
  have h : At U g.method c below := by rw [hg]; exact X.here
  have hlocals9 : W9 + (maxL + 11) + (headSpec ws rm).room.locals ≤ R.locals := hlocals
  have happ : (headSpec ws rm).appliesLoose y e.platform (U.calling g mk a) = true :=
    Spec.appliesLoose_calling (g := g) h hdg hn hkY hinitY
      (X.room_calling (g := g) (R' := (headSpec ws rm).room) hsize hmY hcY hframes (by rw [hlY]; omega) h4 h5) h1
  obtain ⟨mid, hmid⟩ := h.above
  have hfr : (U.setTop g).frames = (.java g :: mid) ++ below := by rw [State.frames_setTop' g h.top, hmid]; rfl
  obtain ⟨o, s₂, hsteps, -, hend, hq⟩ := Steps.callFree hM p X.admits X.cas X.clock (acts := []) hfr happ hPc trivial
  have hq' : vx_Q Qc XC mc ms free a (U.calling g mk a) o s₂ := hq
  rw [State.frames_setTop' g h.top] at hend
  obtain ⟨g₀, hg0⟩ := Option.isSome_iff_exists.mp h.top
  obtain ⟨r, hr⟩ := State.topJava?_eq_some.mp hg0
  have hr' : (({ U with heap := s₂.heap, slotsUsed := s₂.slotsUsed } : State).setVm s₂.vm).frames = .java g₀ :: r := hr
  rcases hq' with ⟨hqc, L, hfe, hL⟩ | ⟨q, rfl, E, ce, L, hx, hce, hcv, hcl, hW₂, hsm, hL⟩
  · obtain ⟨⟨v, rfl⟩, hW₂, e2, q2, q3, q4, q5, q6⟩ := id hfe
    have e3 : s₂ = ({ (U.calling g mk a).setFrames s₂.frames with heap := s₂.heap, slotsUsed := s₂.slotsUsed } : State).setVm s₂.vm := by
      have : s₂ = ({ s₂ with vm := (U.calling g mk a).vm } : State).setVm s₂.vm := rfl
      rw [e2] at this
      exact this
    obtain ⟨c₂, i₂, len₂, hc₂, hd₂, hf₂⟩ := hend
    have hW' : U.WarmedH s₂.vm := hW₂
    have hcc : c₂ = c := by
      have h1 : s₂.code? g.method = U.code? g.method := by
        rw [State.code?_eq, State.code?_eq, hW'.alike.method?]
      exact Option.some.inj (hc₂.symm.trans (h1.trans h.code))
    subst hcc
    have hlen : len₂ = len := by rw [hdg] at hd₂; cases hd₂; rfl
    subst hlen
    have hs₂ : s₂ = (({ U with heap := s₂.heap, slotsUsed := s₂.slotsUsed } : State).setVm s₂.vm).setTop { g with pc := g.pc + len₂, stack := v.toList ++ g.stack } := by
      refine e3.trans ?_
      rw [hf₂, State.calling_eq h.top, State.setFrames_setFrames, State.setTop_of_frames _ hr', hr]
      rfl
    have hsame : U.sameButNew ({ U with heap := s₂.heap, slotsUsed := s₂.slotsUsed } : State) L mc ms := by
      refine ⟨?_, q2, q3, q4, q5, q6⟩
      obtain ⟨t, ht, -⟩ := State.frames_cons hr
      show ({ U with heap := s₂.heap, slotsUsed := s₂.slotsUsed } : State) = { U.setFrames U.frames with heap := s₂.heap, slotsUsed := s₂.slotsUsed }
      rw [State.setFrames_self ht]
    subst hg
    refine Or.inl ⟨v, ⟨(({ U with heap := s₂.heap, slotsUsed := s₂.slotsUsed } : State).setVm s₂.vm), Ls ++ L, c0 + mc, s0 + ms⟩,
      ⟨X.admits, X.cas, X.clock, X.frames, X.room, X.hears, X.method, X.code, (X.here.setHeapUsed s₂.heap s₂.slotsUsed).setVm hW'.alike, X.tail, State.WarmedH.trans X.warmed hW', X.limits, X.bytes, X.same.trans (hsame.setVm s.vm)⟩,
      ⟨g, mk, s₂, L, rfl, rfl, hqc, rfl, hL, rfl, rfl⟩, ?_⟩
    show Steps p.tables e below _ ((({ U with heap := s₂.heap, slotsUsed := s₂.slotsUsed } : State).setVm s₂.vm).setTop { g with pc := g.pc + len₂, stack := v.toList ++ g.stack })
    rw [← hs₂]
    exact hsteps
  · obtain ⟨e2, q2, q3, q4, q5, q6⟩ := id hsm
    have e3 : s₂ = ({ (U.calling g mk a).setFrames s₂.frames with heap := s₂.heap, slotsUsed := s₂.slotsUsed } : State).setVm s₂.vm := by
      have : s₂ = ({ s₂ with vm := (U.calling g mk a).vm } : State).setVm s₂.vm := rfl
      rw [e2] at this
      exact this
    have hf₂ : s₂.frames = .throwing q :: .java g :: U.frames.tail := hend
    have hW' : U.WarmedH s₂.vm := hW₂
    have hs₂ : s₂ = ((({ U with heap := s₂.heap, slotsUsed := s₂.slotsUsed } : State).setVm s₂.vm).setTop g).pushFrame (.throwing q) := by
      refine e3.trans ?_
      rw [hf₂, State.calling_eq h.top, State.setFrames_setFrames, State.pushFrame, State.frames_setTop _ hr', State.setTop_of_frames _ hr', State.setFrames_setFrames, hr]
      rfl
    have hsame : U.sameButNew ({ U with heap := s₂.heap, slotsUsed := s₂.slotsUsed } : State) L mc ms := by
      refine ⟨?_, q2, q3, q4, q5, q6⟩
      obtain ⟨t, ht, -⟩ := State.frames_cons hr
      show ({ U with heap := s₂.heap, slotsUsed := s₂.slotsUsed } : State) = { U.setFrames U.frames with heap := s₂.heap, slotsUsed := s₂.slotsUsed }
      rw [State.setFrames_self ht]
    subst hg
    refine Or.inr ⟨q, ⟨(({ U with heap := s₂.heap, slotsUsed := s₂.slotsUsed } : State).setVm s₂.vm), Ls ++ L, c0 + mc, s0 + ms⟩,
      ⟨X.admits, X.cas, X.clock, X.frames, X.room, X.hears, X.method, X.code, (X.here.setHeapUsed s₂.heap s₂.slotsUsed).setVm hW'.alike, X.tail, State.WarmedH.trans X.warmed hW', X.limits, X.bytes, X.same.trans (hsame.setVm s.vm)⟩,
      ⟨g, mk, s₂, L, E, ce, rfl, rfl, hx, hce, hcv, hcl, rfl, hL, rfl, rfl⟩, ?_⟩
    show Steps p.tables e below _ (((({ U with heap := s₂.heap, slotsUsed := s₂.slotsUsed } : State).setVm s₂.vm).setTop g).pushFrame (.throwing q))
    rw [← hs₂]
    exact hsteps
end
variable {p : Program} {l : Launch} {e : Env} {R : Room} {s : State} {m : MethodId} {args : Array Value} {below : List Frame} {meth : Method} {c : Code} {T : State} {H : Heap} {locs : List Loc} {cells slots : Nat}
theorem vx_callVX (X : Stand p l e R s m args below meth c T locs cells slots) (hexec : p.tables.exec = Jvm.exec) {own C : String} {index : Nat} {y : MethodName} {bytes : ByteArray} {maxL : Nat} {ret : Option FieldType} {hh : List (Nat × Nat × Nat × Nat)}
    (hown : s.vm.findClass own = some m.cls) (hlink : (Cond.methodLink own index y).before args s = true) (hinst : (Cond.instanceMethod y).before args s = true) (hsel : (Cond.selects C y y).before args s = true)
    (hcode : (Cond.codeWith y bytes maxL ret hh).before args s = true) (hy : y.cls ≠ "java/lang/invoke/MethodHandle" ∧ y.cls ≠ "java/lang/invoke/VarHandle")
    {W9 : Nat} {Pre : Pt → Array Value → Prop} {Post : Pt → Array Value → Option Value → Pt → Prop} {PostX : Pt → Array Value → Addr → Pt → Prop} (hK : vx_Back l R p e below s args y 3 W9 Pre Post PostX)
    {b : Addr} {cellB : Cell} (hcell : T.heap[b]? = some cellB) (hobj : cellB.vm.isStatics = false) (hcls : s.vm.findClass C = some cellB.cls)
    {g : JFrame} (hg : g.method = m) (hsize : g.locals.size = c.maxLocals) {argsL rest : List Value} (hlen : ∀ sig, parseMethodDescriptor y.desc = some sig → argsL.length = sig.parameters.length)
    (hstack : g.stack = argsL.reverse ++ .ref b :: rest) (hW : 2 * g.monitorRoom + (rest.map fun v => v.category).sum ≤ W9) (hdg : decode c.code g.pc = .ok (.invokevirtual index, 3))
    (hpre : ∀ vm₁, s.WarmedH vm₁ → Pre ⟨T.setVm vm₁, locs, cells, slots⟩ (Value.ref b :: argsL).toArray) :
    (∃ (v : Option Value) (vm₁ : Vm) (B : Pt), s.WarmedH vm₁ ∧ Stand p l e R s m args below meth c B.U B.locs B.cells B.slots ∧ Post ⟨T.setVm vm₁, locs, cells, slots⟩ (Value.ref b :: argsL).toArray v B ∧
      ∀ target, Steps p.tables e below (B.U.setTop { g with pc := g.pc + 3, stack := v.toList ++ rest }) target → Steps p.tables e below (T.setTop g) target) ∨
    (∃ (q : Addr) (vm₁ : Vm) (B : Pt), s.WarmedH vm₁ ∧ Stand p l e R s m args below meth c B.U B.locs B.cells B.slots ∧ PostX ⟨T.setVm vm₁, locs, cells, slots⟩ (Value.ref b :: argsL).toArray q B ∧
      Steps p.tables e below (T.setTop g) ((B.U.setTop { g with stack := rest }).pushFrame (.throwing q))) := by
  obtain ⟨mk, methM, hnamed, hmethM, hstM, habM⟩ := Cond.instanceMethod_spec hinst
  obtain ⟨m8, methM', cM, hn8, hmethM', -, -, -, -, -, -, hsigM⟩ := Cond.codeWith_spec hcode
  cases Option.some.inj (hn8.symm.trans hnamed)
  cases hmethM.symm.trans hmethM'
  obtain ⟨c2, r2, m2, q1, q2, q3, q4, kP, hkP, hkPi⟩ := Cond.selects_spec hsel
  cases hcls.symm.trans q1
  cases (State.methodFound?_of_named hnamed hy).symm.trans q2
  cases hnamed.symm.trans q3
  have hselP : selectMethod e.platform s.vm cellB.cls mk = .method mk := by rw [Launch.admits_selectMethod X.admits]; exact q4
  obtain ⟨vm₁, X₁, hstep₁⟩ := X.invokevirtual hexec hown hlink hnamed hmethM hstM hkP hkPi hy (a := b) (cell := cellB) hcell
    (fun z h => by rw [h] at hobj; cases hobj) hselP hmethM habM hkP hkPi (g := g) hg (argsL := argsL) (rest := rest) (hlen _ hsigM) hstack hdg
  rcases hK m meth c ⟨T.setVm vm₁, locs, cells, slots⟩ { g with stack := rest } (.invokevirtual index) mk (Value.ref b :: argsL).toArray X₁ hg hsize hdg hW (X₁.named hnamed) (hpre vm₁ X₁.warmed) with ⟨v, B, X', hpost, hsteps⟩ | ⟨q, B, X', hpost, hsteps⟩
  · exact Or.inl ⟨v, vm₁, B, X₁.warmed, X', hpost, fun target h => hstep₁ _ fun acts => by rw [doInvoke_state]; exact hsteps.trans h⟩
  · exact Or.inr ⟨q, vm₁, B, X₁.warmed, X', hpost, hstep₁ _ fun acts => by rw [doInvoke_state]; exact hsteps⟩
theorem vx_callSX (X : Stand p l e R s m args below meth c T locs cells slots) (hexec : p.tables.exec = Jvm.exec) {own : String} {index : Nat} {y : MethodName} {bytes : ByteArray} {maxL : Nat} {ret : Option FieldType} {hh : List (Nat × Nat × Nat × Nat)}
    (hown : s.vm.findClass own = some m.cls) (hlink : (Cond.methodLink own index y).before args s = true) (hstat : (Cond.static y).before args s = true) (hinit : (Cond.initialized y.cls).before args s = true)
    (hcode : (Cond.codeWith y bytes maxL ret hh).before args s = true) (hy : y.cls ≠ "java/lang/invoke/MethodHandle" ∧ y.cls ≠ "java/lang/invoke/VarHandle")
    {W9 : Nat} {Pre : Pt → Array Value → Prop} {Post : Pt → Array Value → Option Value → Pt → Prop} {PostX : Pt → Array Value → Addr → Pt → Prop} (hK : vx_Back l R p e below s args y 3 W9 Pre Post PostX)
    {g : JFrame} (hg : g.method = m) (hsize : g.locals.size = c.maxLocals) {argsL rest : List Value} (hlen : ∀ sig, parseMethodDescriptor y.desc = some sig → argsL.length = sig.parameters.length)
    (hstack : g.stack = argsL.reverse ++ rest) (hW : 2 * g.monitorRoom + (rest.map fun v => v.category).sum ≤ W9) (hdg : decode c.code g.pc = .ok (.invokestatic index, 3))
    (hpre : ∀ vm₁, s.WarmedH vm₁ → Pre ⟨T.setVm vm₁, locs, cells, slots⟩ argsL.toArray) :
    (∃ (v : Option Value) (vm₁ : Vm) (B : Pt), s.WarmedH vm₁ ∧ Stand p l e R s m args below meth c B.U B.locs B.cells B.slots ∧ Post ⟨T.setVm vm₁, locs, cells, slots⟩ argsL.toArray v B ∧
      ∀ target, Steps p.tables e below (B.U.setTop { g with pc := g.pc + 3, stack := v.toList ++ rest }) target → Steps p.tables e below (T.setTop g) target) ∨
    (∃ (q : Addr) (vm₁ : Vm) (B : Pt), s.WarmedH vm₁ ∧ Stand p l e R s m args below meth c B.U B.locs B.cells B.slots ∧ PostX ⟨T.setVm vm₁, locs, cells, slots⟩ argsL.toArray q B ∧
      Steps p.tables e below (T.setTop g) ((B.U.setTop { g with stack := rest }).pushFrame (.throwing q))) := by
  obtain ⟨mk, methM, cM, hnamed, hmethM, -, -, -, -, -, -, hsigM⟩ := Cond.codeWith_spec hcode
  have hstatic : methM.isStatic = true := Cond.static_spec hnamed hmethM hstat
  obtain ⟨kP, hkP, -⟩ := className_of_methodNamed hnamed
  have hinitP : kP.init = .initialized := Cond.initialized_spec (findClass_of_methodNamed hnamed) hkP hinit
  obtain ⟨vm₁, X₁, hstep₁⟩ := X.invokestatic hexec hown hlink hnamed hmethM hstatic hkP hinitP hy (g := g) hg (argsL := argsL) (rest := rest) (hlen _ hsigM) hstack hdg
  rcases hK m meth c ⟨T.setVm vm₁, locs, cells, slots⟩ { g with stack := rest } (.invokestatic index) mk argsL.toArray X₁ hg hsize hdg hW (X₁.named hnamed) (hpre vm₁ X₁.warmed) with ⟨v, B, X', hpost, hsteps⟩ | ⟨q, B, X', hpost, hsteps⟩
  · exact Or.inl ⟨v, vm₁, B, X₁.warmed, X', hpost, fun target h => hstep₁ _ fun acts => by rw [doInvoke_state]; exact hsteps.trans h⟩
  · exact Or.inr ⟨q, vm₁, B, X₁.warmed, X', hpost, hstep₁ _ fun acts => by rw [doInvoke_state]; exact hsteps⟩
theorem vx_callVW (X : Stand p l e R s m args below meth c T locs cells slots) (hexec : p.tables.exec = Jvm.exec) {own C : String} {index : Nat} {y : MethodName} {bytes : ByteArray} {maxL : Nat} {ret : Option FieldType} {hh : List (Nat × Nat × Nat × Nat)}
    (hown : s.vm.findClass own = some m.cls) (hlink : (Cond.methodLink own index y).before args s = true) (hinst : (Cond.instanceMethod y).before args s = true) (hsel : (Cond.selects C y y).before args s = true)
    (hcode : (Cond.codeWith y bytes maxL ret hh).before args s = true) (hy : y.cls ≠ "java/lang/invoke/MethodHandle" ∧ y.cls ≠ "java/lang/invoke/VarHandle")
    {W9 : Nat} {Pre : Pt → Array Value → Prop} {Post : Pt → Array Value → Option Value → Pt → Prop} (hK : Back l R p e below s args y 3 W9 Pre Post)
    {b : Addr} {cellB : Cell} (hcell : T.heap[b]? = some cellB) (hobj : cellB.vm.isStatics = false) (hcls : s.vm.findClass C = some cellB.cls)
    {g : JFrame} (hg : g.method = m) (hsize : g.locals.size = c.maxLocals) {argsL rest : List Value} (hlen : ∀ sig, parseMethodDescriptor y.desc = some sig → argsL.length = sig.parameters.length)
    (hstack : g.stack = argsL.reverse ++ .ref b :: rest) (hW : 2 * g.monitorRoom + (rest.map fun v => v.category).sum ≤ W9) (hdg : decode c.code g.pc = .ok (.invokevirtual index, 3))
    (hpre : ∀ vm₁, s.WarmedH vm₁ → Pre ⟨T.setVm vm₁, locs, cells, slots⟩ (Value.ref b :: argsL).toArray) :
    ∃ (v : Option Value) (vm₁ : Vm) (B : Pt), s.WarmedH vm₁ ∧ Stand p l e R s m args below meth c B.U B.locs B.cells B.slots ∧ Post ⟨T.setVm vm₁, locs, cells, slots⟩ (Value.ref b :: argsL).toArray v B ∧
      ∀ target, Steps p.tables e below (B.U.setTop { g with pc := g.pc + 3, stack := v.toList ++ rest }) target → Steps p.tables e below (T.setTop g) target := by
  obtain ⟨mk, methM, hnamed, hmethM, hstM, habM⟩ := Cond.instanceMethod_spec hinst
  obtain ⟨m8, methM', cM, hn8, hmethM', -, -, -, -, -, -, hsigM⟩ := Cond.codeWith_spec hcode
  cases Option.some.inj (hn8.symm.trans hnamed)
  cases hmethM.symm.trans hmethM'
  obtain ⟨c2, r2, m2, q1, q2, q3, q4, kP, hkP, hkPi⟩ := Cond.selects_spec hsel
  cases hcls.symm.trans q1
  cases (State.methodFound?_of_named hnamed hy).symm.trans q2
  cases hnamed.symm.trans q3
  have hselP : selectMethod e.platform s.vm cellB.cls mk = .method mk := by rw [Launch.admits_selectMethod X.admits]; exact q4
  obtain ⟨vm₁, X₁, hstep₁⟩ := X.invokevirtual hexec hown hlink hnamed hmethM hstM hkP hkPi hy (a := b) (cell := cellB) hcell
    (fun z h => by rw [h] at hobj; cases hobj) hselP hmethM habM hkP hkPi (g := g) hg (argsL := argsL) (rest := rest) (hlen _ hsigM) hstack hdg
  obtain ⟨v, B, X', hpost, hsteps⟩ := hK m meth c ⟨T.setVm vm₁, locs, cells, slots⟩ { g with stack := rest } (.invokevirtual index) mk (Value.ref b :: argsL).toArray X₁ hg hsize hdg hW (X₁.named hnamed) (hpre vm₁ X₁.warmed)
  exact ⟨v, vm₁, B, X₁.warmed, X', hpost, fun target h => hstep₁ _ fun acts => by rw [doInvoke_state]; exact hsteps.trans h⟩
abbrev vx_CVW (R : Room) (s : State) (args : Array Value) (own C : String) (index : Nat) (y : MethodName) (bytes : ByteArray) (maxL : Nat) (ret : Option FieldType) (hh : List (Nat × Nat × Nat × Nat)) (ws : List Cond) (rm : Room) (mc ms n : Nat) : Prop :=
  (rm.cells = mc ∧ rm.slots = ms ∧ rm.frames + 1 ≤ R.frames ∧ 8 + (maxL + 11) + rm.locals ≤ R.locals ∧ (∀ w ∈ ws, ∀ (a' : Array Value) (U : State), s.WarmedH U.vm → w.before a' U = true) ∧ Cond.codeWith y bytes maxL ret hh ∈ ws) ∧
  (Cond.codeWith y bytes maxL ret hh).before args s = true ∧ (Cond.initialized y.cls).before args s = true ∧ (y.cls ≠ "java/lang/invoke/MethodHandle" ∧ y.cls ≠ "java/lang/invoke/VarHandle") ∧
  (∀ sig, parseMethodDescriptor y.desc = some sig → n = sig.parameters.length) ∧ (Cond.methodLink own index y).before args s = true ∧ (Cond.instanceMethod y).before args s = true ∧ (Cond.selects C y y).before args s = true
theorem vx_cwVW {own C : String} {index maxL mc ms : Nat} {y : MethodName} {bytes : ByteArray} {ret : Option FieldType} {hh : List (Nat × Nat × Nat × Nat)} {Ts ws ws' : List Cond} {rm : Room} (n : Nat) (ht : ∀ w ∈ Ts, w.before args s = true) (hT : GoodIn Ts (wsV own index C y ws)) (hw : ws = Cond.codeWith y bytes maxL ret hh :: ws') (hrc : rm.cells = mc) (hrs : rm.slots = ms)
    (hd : y.cls = C ∧ y.cls ≠ "java/lang/invoke/MethodHandle" ∧ y.cls ≠ "java/lang/invoke/VarHandle" ∧ (parseMethodDescriptor y.desc).map (fun d => d.parameters.length) = some n) (hR : rm.frames + 1 ≤ R.frames ∧ 8 + (maxL + 11) + rm.locals ≤ R.locals) :
    vx_CVW R s args own C index y bytes maxL ret hh ws rm mc ms n := by
  obtain ⟨hC, hd⟩ := hd
  subst hC
  have ok : ∀ w ∈ wsV own index y.cls y ws, w.before args s = true := fun w h => ht w (hT w h).1
  have hG : GoodIn Ts ws := fun w h => hT w (by unfold wsV; exact List.mem_append_right _ h)
  have hc : Cond.codeWith y bytes maxL ret hh ∈ ws := by rw [hw]; exact List.mem_cons_self
  refine ⟨⟨hrc, hrs, hR.1, hR.2, pay_in ht hG, hc⟩, ht _ (hG _ hc).1, ok _ (by simp [wsV]), ⟨hd.1, hd.2.1⟩, fun sig h => ?_, ok _ (by simp [wsV]), ok _ (by simp [wsV]), ok _ (by simp [wsV])⟩
  have h2 := hd.2.2
  rw [h] at h2
  exact (Option.some.inj h2).symm
theorem vx_runVW {y : MethodName} {bytes cc : ByteArray} {maxL nL mc ms n index : Nat} {ret : Option FieldType} {hh : List (Nat × Nat × Nat × Nat)} {ws : List Cond} {rm : Room} {Pc : Array Value → State → Prop} {Qc : Array Value → State → Outcome → State → Prop} {free : Addr → Prop} {Ts : List Cond} {own C : String} {b : Addr} {As rest : List Value} {g : JFrame}
    (S : CallFix p m c cc nL s args Ts own) (hM : Met l y ws rm Pc Qc mc ms free) (cw : vx_CVW R s args own C index y bytes maxL ret hh ws rm mc ms n) (hp : PreV s H C b Pc As)
    (hg : g.method = m) (hn : As.length = n) (hsize : g.locals.size = nL) (hstack : g.stack = As.reverse ++ .ref b :: rest) (hW : 2 * g.monitorRoom + (rest.map fun v => v.category).sum ≤ 8) (hdg : decode cc g.pc = .ok (.invokevirtual index, 3)) (hf : cells + mc ≤ R.cells ∧ slots + ms ≤ R.slots) :
    va_Run p l e R s m args below meth c H locs cells slots mc ms g rest (Qc (Value.ref b :: As).toArray) free := by
  obtain ⟨⟨hrc, hrs, hfr, hlo, hws, hcw⟩, hcode, hini, hy, hlen, hl, hin, hse⟩ := cw
  have hK : Back l R p e below s args y 3 8 (PreOf R mc ms Pc) (PostOf Qc mc ms free) := va_backW (hh := hh) (bytes := bytes) (maxL := maxL) (ret := ret) hM hp.1 hrc hrs hfr hlo hws hcw (fun a' U hW => word_at hW (Or.inl (by first | rfl | simp [Cond.onTables, Cond.keeps, Cond.steady])) hini)
  obtain ⟨hx, hb, hml, ho, -⟩ := S
  obtain ⟨-, ⟨cellB, hcB, hoB, hclB⟩, hPc⟩ := hp
  intro T hT X
  obtain ⟨v, vm₁, ⟨U', l2, c2, s2⟩, hW₁, X', ⟨g', mk, t, L, e1, e2, hq, h1, hL, h2, h3⟩, st⟩ := vx_callVW X hx (C := C) (hh := hh) (bytes := bytes) (maxL := maxL) (ret := ret) ho hl hin hse hcode hy hK (by rw [hT]; exact hcB) hoB hclB hg (hsize.trans hml.symm) (argsL := As) (rest := rest) (fun sig h => hn.trans (hlen sig h)) hstack hW (by rw [hb]; exact hdg)
    (fun vm₁ hW₁ => ⟨hf.1, hf.2, hPc (T.setVm vm₁) hT hW₁⟩)
  dsimp only [Pt.U, Pt.locs, Pt.cells, Pt.slots] at X' e1 e2 h1 h2 h3 st
  subst h1; subst h2; subst h3
  exact ⟨v, (T.setVm vm₁).calling g' mk (Value.ref b :: As).toArray, t, U', L, hT, X', hL, e1, e2, hq, st⟩
section
variable {y : MethodName} {bytes cc : ByteArray} {maxL nL mc ms n index : Nat} {ret : Option FieldType} {ws : List Cond} {rm : Room} {Pc : Array Value → State → Prop} {Qc : Array Value → State → Outcome → State → Prop} {XC : String → State → State → Prop} {free : Addr → Prop} {Ts : List Cond} {own C : String} {b : Addr} {As rest : List Value} {g : JFrame}
theorem vx_runVX {hh : List (Nat × Nat × Nat × Nat)} (S : CallFix p m c cc nL s args Ts own) (hM : vx_Met l y ws rm Pc Qc XC mc ms free) (cw : vx_CVW R s args own C index y bytes maxL ret hh ws rm mc ms n) (hp : PreV s H C b Pc As)
    (hg : g.method = m) (hn : As.length = n) (hsize : g.locals.size = nL) (hstack : g.stack = As.reverse ++ .ref b :: rest) (hW : 2 * g.monitorRoom + (rest.map fun v => v.category).sum ≤ 8) (hdg : decode cc g.pc = .ok (.invokevirtual index, 3)) (hf : cells + mc ≤ R.cells ∧ slots + ms ≤ R.slots) :
    vx_Run p l e R s m args below meth c H locs cells slots mc ms g rest (Qc (Value.ref b :: As).toArray) XC free := by
  obtain ⟨⟨hrc, hrs, hfr, hlo, hws, hcw⟩, hcode, hini, hy, hlen, hl, hin, hse⟩ := cw
  have hK : vx_Back l R p e below s args y 3 8 (PreOf R mc ms Pc) (PostOf Qc mc ms free) (vx_Post XC mc ms free) := vx_backW (hh := hh) (bytes := bytes) (maxL := maxL) (ret := ret) hM hp.1 hrc hrs hfr hlo hws hcw (fun a' U hW => word_at hW (Or.inl (by first | rfl | simp [Cond.onTables, Cond.keeps, Cond.steady])) hini)
  obtain ⟨hx, hb, hml, ho, -⟩ := S
  obtain ⟨-, ⟨cellB, hcB, hoB, hclB⟩, hPc⟩ := hp
  intro T hT X
  rcases vx_callVX X hx (C := C) (hh := hh) (bytes := bytes) (maxL := maxL) (ret := ret) ho hl hin hse hcode hy hK (by rw [hT]; exact hcB) hoB hclB hg (hsize.trans hml.symm) (argsL := As) (rest := rest) (fun sig h => hn.trans (hlen sig h)) hstack hW (by rw [hb]; exact hdg)
    (fun vm₁ hW₁ => ⟨hf.1, hf.2, hPc (T.setVm vm₁) hT hW₁⟩) with ⟨v, vm₁, ⟨U', l2, c2, s2⟩, hW₁, X', ⟨g', mk, t, L, e1, e2, hq, h1, hL, h2, h3⟩, st⟩ | ⟨q, vm₁, ⟨U', l2, c2, s2⟩, hW₁, X', ⟨g', mk, t, L, E, ce, e1, e2, hq, hce, hcv, hcl, h1, hL, h2, h3⟩, st⟩
  · dsimp only [Pt.U, Pt.locs, Pt.cells, Pt.slots] at X' e1 e2 h1 h2 h3 st
    subst h1; subst h2; subst h3
    exact Or.inl ⟨v, (T.setVm vm₁).calling g' mk (Value.ref b :: As).toArray, t, U', L, hT, X', hL, e1, e2, hq, st⟩
  · dsimp only [Pt.U, Pt.locs, Pt.cells, Pt.slots] at X' e1 e2 h1 h2 h3 st hcl
    subst h1; subst h2; subst h3
    exact Or.inr ⟨q, (T.setVm vm₁).calling g' mk (Value.ref b :: As).toArray, t, U', L, E, ce, hT, X', hL, e1, e2, hq, hce, hcv, vx_cls hW₁ hcl, st⟩
theorem vx_runSX {hh : List (Nat × Nat × Nat × Nat)} (S : CallFix p m c cc nL s args Ts own) (hM : vx_Met l y ws rm Pc Qc XC mc ms free) (cw : vx_CSW R s args own index y bytes maxL ret hh ws rm mc ms n) (hp : PreS s H Pc As)
    (hg : g.method = m) (hn : As.length = n) (hsize : g.locals.size = nL) (hstack : g.stack = As.reverse ++ rest) (hW : 2 * g.monitorRoom + (rest.map fun v => v.category).sum ≤ 8) (hdg : decode cc g.pc = .ok (.invokestatic index, 3)) (hf : cells + mc ≤ R.cells ∧ slots + ms ≤ R.slots) :
    vx_Run p l e R s m args below meth c H locs cells slots mc ms g rest (Qc As.toArray) XC free := by
  obtain ⟨⟨hrc, hrs, hfr, hlo, hws, hcw⟩, hcode, hini, hy, hlen, hl, hstt⟩ := cw
  have hK : vx_Back l R p e below s args y 3 8 (PreOf R mc ms Pc) (PostOf Qc mc ms free) (vx_Post XC mc ms free) := vx_backW (hh := hh) (bytes := bytes) (maxL := maxL) (ret := ret) hM hp.1 hrc hrs hfr hlo hws hcw (fun a' U hW => word_at hW (Or.inl (by first | rfl | simp [Cond.onTables, Cond.keeps, Cond.steady])) hini)
  obtain ⟨hx, hb, hml, ho, -⟩ := S
  intro T hT X
  rcases vx_callSX X hx (hh := hh) (bytes := bytes) (maxL := maxL) (ret := ret) ho hl hstt hini hcode hy hK hg (hsize.trans hml.symm) (argsL := As) (rest := rest) (fun sig h => hn.trans (hlen sig h)) hstack hW (by rw [hb]; exact hdg)
    (fun vm₁ hW₁ => ⟨hf.1, hf.2, hp.2 (T.setVm vm₁) hT hW₁⟩) with ⟨v, vm₁, ⟨U', l2, c2, s2⟩, hW₁, X', ⟨g', mk, t, L, e1, e2, hq, h1, hL, h2, h3⟩, st⟩ | ⟨q, vm₁, ⟨U', l2, c2, s2⟩, hW₁, X', ⟨g', mk, t, L, E, ce, e1, e2, hq, hce, hcv, hcl, h1, hL, h2, h3⟩, st⟩
  · dsimp only [Pt.U, Pt.locs, Pt.cells, Pt.slots] at X' e1 e2 h1 h2 h3 st
    subst h1; subst h2; subst h3
    exact Or.inl ⟨v, (T.setVm vm₁).calling g' mk As.toArray, t, U', L, hT, X', hL, e1, e2, hq, st⟩
  · dsimp only [Pt.U, Pt.locs, Pt.cells, Pt.slots] at X' e1 e2 h1 h2 h3 st hcl
    subst h1; subst h2; subst h3
    exact Or.inr ⟨q, (T.setVm vm₁).calling g' mk As.toArray, t, U', L, E, ce, hT, X', hL, e1, e2, hq, hce, hcv, vx_cls hW₁ hcl, st⟩
end
end VXH
theorem vx_ofWH {l : Launch} {y : MethodName} {ws ws' : List Cond} {rm : Room} {Pc : Array Value → State → Prop} {Qc : Array Value → State → Outcome → State → Prop} {XC : String → State → State → Prop} {mc ms : Nat} {free : Addr → Prop} {cc : ByteArray} {maxL : Nat} {ret : Option FieldType} {hh : List (Nat × Nat × Nat × Nat)}
    (hy : plainName y.cls = true) (hw : ws = Cond.codeWith y cc maxL ret hh :: ws')
    (body : ∀ p e s m args below meth c s₁, BodyLoose p l y (headSpec ws rm) cc maxL ret e s m args below meth c s₁ → c.maxLocals = maxL → Pc args s →
      W p l e (headSpec ws rm).room s m args below meth c s.heap [] 0 0 (vx_MQ below Qc XC args s mc ms free) (entryFrame m args maxL)) : vx_Met l y ws rm Pc Qc XC mc ms free := by
  refine MetFree.of_bodyS (code := cc) (maxLocals := maxL) (ret := ret) hy ?_ ?_
  · intro args s m h hn
    obtain ⟨m9, meth, c, hn9, h1, h2, h3, h4, -, h5, h6, -⟩ := Cond.codeWith_spec (atoms_spec (ws := ws) h _ (by rw [hw]; exact List.mem_cons_self))
    cases hn.symm.trans hn9
    exact ⟨meth, c, h1, h2, h3, h4, h5, h6⟩
  · intro p e s m args below meth c s₁ B hml hP _
    have hh0 : s₁.heap = s.heap := by rw [B.state]; rfl
    obtain ⟨t, a1, o, b1, b2, b3⟩ := body p e s m args below meth c s₁ B hml hP s₁ hh0 (Stand.of_body B)
    exact ⟨t, o, a1, b1, b2, b3⟩
/-! ===== END ===== -/
end
section
/-! ===== BEGIN printed: names, fields, word lists, decode rows ===== -/
def RX0 : String := "MarkChat$Channel"
def TX0 : u_T := fun k => match k with
  | 0 => ("MarkChat$Channel", "number", "I", true)
  | 1 => ("MarkChat$Channel", "cents", "I", false)
  | _ => ("MarkChat$Channel", "isOnHold", "Z", false)
def tyX0 : Nat → FieldType := fun k => match k with
  | 0 => .int
  | 1 => .int
  | _ => .boolean
abbrev wsX00 : List Cond := u_ws RX0 TX0 3
theorem nmX0 : ∀ a, a < 3 → ∀ b, b < 3 → a ≠ b → (TX0 a).2.1 ≠ (TX0 b).2.1 := by decide +kernel
theorem tyX0_ok : ∀ k, k < 3 → parseFieldDescriptor (TX0 k).2.2.1 = some (tyX0 k) := by decide +kernel
abbrev cX0_init : ByteArray := prog_2_method_1_code
def yX0_init : MethodName := ⟨RX0, "<init>", "(I)V"⟩
def RX1 : String := "MarkChat$Log"
def TX1 : u_T := fun k => match k with
  | 0 => ("MarkChat$Log", "messages", "[I", true)
  | 1 => ("MarkChat$Log", "users", "[I", true)
  | 2 => ("MarkChat$Log", "kinds", "[I", true)
  | _ => ("MarkChat$Log", "size", "I", false)
def tyX1 : Nat → FieldType := fun k => match k with
  | 0 => .array .int
  | 1 => .array .int
  | 2 => .array .int
  | _ => .int
abbrev wsX10 : List Cond := u_ws RX1 TX1 4
theorem nmX1 : ∀ a, a < 4 → ∀ b, b < 4 → a ≠ b → (TX1 a).2.1 ≠ (TX1 b).2.1 := by decide +kernel
theorem tyX1_ok : ∀ k, k < 4 → parseFieldDescriptor (TX1 k).2.2.1 = some (tyX1 k) := by decide +kernel
abbrev cX1_init : ByteArray := prog_3_method_1_code
def yX1_init : MethodName := ⟨RX1, "<init>", "()V"⟩
abbrev cX1_writeEdit : ByteArray := prog_3_method_2_code
def yX1_writeEdit : MethodName := ⟨RX1, "writeEdit", "(I)V"⟩
abbrev cX1_writeMark : ByteArray := prog_3_method_3_code
def yX1_writeMark : MethodName := ⟨RX1, "writeMark", "(III)V"⟩
abbrev cX1_write : ByteArray := prog_3_method_4_code
def yX1_write : MethodName := ⟨RX1, "write", "(III)V"⟩
abbrev cX1_readInto : ByteArray := prog_3_method_5_code
def yX1_readInto : MethodName := ⟨RX1, "readInto", "(LMarkChat$Marks;I)V"⟩
def RX2 : String := "MarkChat$Marks"
def TX2 : u_T := fun k => match k with
  | _ => ("MarkChat$Marks", "kinds", "[I", true)
def tyX2 : Nat → FieldType := fun k => match k with
  | _ => .array .int
abbrev wsX20 : List Cond := u_ws RX2 TX2 1
theorem nmX2 : ∀ a, a < 1 → ∀ b, b < 1 → a ≠ b → (TX2 a).2.1 ≠ (TX2 b).2.1 := by decide +kernel
theorem tyX2_ok : ∀ k, k < 1 → parseFieldDescriptor (TX2 k).2.2.1 = some (tyX2 k) := by decide +kernel
abbrev cX2_init : ByteArray := prog_4_method_1_code
def yX2_init : MethodName := ⟨RX2, "<init>", "()V"⟩
abbrev cX2_kindOf : ByteArray := prog_4_method_2_code
def yX2_kindOf : MethodName := ⟨RX2, "kindOf", "(I)I"⟩
abbrev cX2_put : ByteArray := prog_4_method_3_code
def yX2_put : MethodName := ⟨RX2, "put", "(II)V"⟩
abbrev cX2_clear : ByteArray := prog_4_method_4_code
def yX2_clear : MethodName := ⟨RX2, "clear", "()V"⟩
def RX3 : String := "MarkChat$Message"
def TX3 : u_T := fun k => match k with
  | 0 => ("MarkChat$Message", "number", "I", true)
  | 1 => ("MarkChat$Message", "author", "LMarkChat$User;", true)
  | 2 => ("MarkChat$Message", "channel", "LMarkChat$Channel;", true)
  | 3 => ("MarkChat$Message", "parent", "I", true)
  | 4 => ("MarkChat$Message", "postHour", "I", true)
  | 5 => ("MarkChat$Message", "marks", "LMarkChat$Marks;", true)
  | 6 => ("MarkChat$Message", "version", "I", false)
  | _ => ("MarkChat$Message", "isArchived", "Z", false)
def tyX3 : Nat → FieldType := fun k => match k with
  | 0 => .int
  | 1 => .object "MarkChat$User"
  | 2 => .object "MarkChat$Channel"
  | 3 => .int
  | 4 => .int
  | 5 => .object "MarkChat$Marks"
  | 6 => .int
  | _ => .boolean
abbrev wsX30 : List Cond := u_ws RX3 TX3 8
theorem nmX3 : ∀ a, a < 8 → ∀ b, b < 8 → a ≠ b → (TX3 a).2.1 ≠ (TX3 b).2.1 := by decide +kernel
theorem tyX3_ok : ∀ k, k < 8 → parseFieldDescriptor (TX3 k).2.2.1 = some (tyX3 k) := by decide +kernel
abbrev cX3_init : ByteArray := prog_5_method_1_code
def yX3_init : MethodName := ⟨RX3, "<init>", "(ILMarkChat$User;LMarkChat$Channel;II)V"⟩
def RX4 : String := "MarkChat$Spend"
def TX4 : u_T := fun k => match k with
  | 0 => ("MarkChat$Spend", "number", "I", true)
  | 1 => ("MarkChat$Spend", "message", "LMarkChat$Message;", true)
  | 2 => ("MarkChat$Spend", "version", "I", true)
  | 3 => ("MarkChat$Spend", "amount", "I", true)
  | _ => ("MarkChat$Spend", "state", "I", false)
def tyX4 : Nat → FieldType := fun k => match k with
  | 0 => .int
  | 1 => .object "MarkChat$Message"
  | 2 => .int
  | 3 => .int
  | _ => .int
abbrev wsX40 : List Cond := u_ws RX4 TX4 5
theorem nmX4 : ∀ a, a < 5 → ∀ b, b < 5 → a ≠ b → (TX4 a).2.1 ≠ (TX4 b).2.1 := by decide +kernel
theorem tyX4_ok : ∀ k, k < 5 → parseFieldDescriptor (TX4 k).2.2.1 = some (tyX4 k) := by decide +kernel
abbrev cX4_init : ByteArray := prog_6_method_1_code
def yX4_init : MethodName := ⟨RX4, "<init>", "(ILMarkChat$Message;I)V"⟩
def RX5 : String := "MarkChat$Task"
def TX5 : u_T := fun k => match k with
  | 0 => ("MarkChat$Task", "number", "I", true)
  | 1 => ("MarkChat$Task", "message", "I", true)
  | 2 => ("MarkChat$Task", "doer", "LMarkChat$User;", true)
  | 3 => ("MarkChat$Task", "untilHour", "I", true)
  | 4 => ("MarkChat$Task", "text", "Ljava/lang/String;", true)
  | _ => ("MarkChat$Task", "state", "I", false)
def tyX5 : Nat → FieldType := fun k => match k with
  | 0 => .int
  | 1 => .int
  | 2 => .object "MarkChat$User"
  | 3 => .int
  | 4 => .object "java/lang/String"
  | _ => .int
abbrev wsX50 : List Cond := u_ws RX5 TX5 6
theorem nmX5 : ∀ a, a < 6 → ∀ b, b < 6 → a ≠ b → (TX5 a).2.1 ≠ (TX5 b).2.1 := by decide +kernel
theorem tyX5_ok : ∀ k, k < 6 → parseFieldDescriptor (TX5 k).2.2.1 = some (tyX5 k) := by decide +kernel
abbrev cX5_init : ByteArray := prog_7_method_1_code
def yX5_init : MethodName := ⟨RX5, "<init>", "(ILMarkChat$Message;LMarkChat$User;I)V"⟩
abbrev cX5_isOpenFor : ByteArray := prog_7_method_2_code
def yX5_isOpenFor : MethodName := ⟨RX5, "isOpenFor", "(LMarkChat$User;)Z"⟩
abbrev cX5_comesBefore : ByteArray := prog_7_method_3_code
def yX5_comesBefore : MethodName := ⟨RX5, "comesBefore", "(LMarkChat$Task;)Z"⟩
def RX6 : String := "MarkChat$User"
def TX6 : u_T := fun k => match k with
  | 0 => ("MarkChat$User", "number", "I", true)
  | 1 => ("MarkChat$User", "rank", "I", false)
  | _ => ("MarkChat$User", "endHour", "I", false)
def tyX6 : Nat → FieldType := fun k => match k with
  | 0 => .int
  | 1 => .int
  | _ => .int
abbrev wsX60 : List Cond := u_ws RX6 TX6 3
theorem nmX6 : ∀ a, a < 3 → ∀ b, b < 3 → a ≠ b → (TX6 a).2.1 ≠ (TX6 b).2.1 := by decide +kernel
theorem tyX6_ok : ∀ k, k < 3 → parseFieldDescriptor (TX6 k).2.2.1 = some (tyX6 k) := by decide +kernel
abbrev cX6_init : ByteArray := prog_8_method_1_code
def yX6_init : MethodName := ⟨RX6, "<init>", "(II)V"⟩
abbrev cX6_isGoneAt : ByteArray := prog_8_method_2_code
def yX6_isGoneAt : MethodName := ⟨RX6, "isGoneAt", "(I)Z"⟩
abbrev cX6_countsAt : ByteArray := prog_8_method_3_code
def yX6_countsAt : MethodName := ⟨RX6, "countsAt", "(I)Z"⟩
def RX7 : String := "MarkChat"
def TX7 : u_T := fun k => match k with
  | 0 => ("MarkChat", "channels", "Ljava/util/ArrayList;", true)
  | 1 => ("MarkChat", "users", "Ljava/util/ArrayList;", true)
  | 2 => ("MarkChat", "messages", "Ljava/util/ArrayList;", true)
  | 3 => ("MarkChat", "spends", "Ljava/util/ArrayList;", true)
  | 4 => ("MarkChat", "tasks", "Ljava/util/ArrayList;", true)
  | 5 => ("MarkChat", "log", "LMarkChat$Log;", true)
  | 6 => ("MarkChat", "marksAnew", "LMarkChat$Marks;", true)
  | _ => ("MarkChat", "hour", "I", false)
def tyX7 : Nat → FieldType := fun k => match k with
  | 0 => .object "java/util/ArrayList"
  | 1 => .object "java/util/ArrayList"
  | 2 => .object "java/util/ArrayList"
  | 3 => .object "java/util/ArrayList"
  | 4 => .object "java/util/ArrayList"
  | 5 => .object "MarkChat$Log"
  | 6 => .object "MarkChat$Marks"
  | _ => .int
abbrev wsX70 : List Cond := u_ws RX7 TX7 8
theorem nmX7 : ∀ a, a < 8 → ∀ b, b < 8 → a ≠ b → (TX7 a).2.1 ≠ (TX7 b).2.1 := by decide +kernel
theorem tyX7_ok : ∀ k, k < 8 → parseFieldDescriptor (TX7 k).2.2.1 = some (tyX7 k) := by decide +kernel
abbrev cX7_init : ByteArray := prog_1_method_1_code
def yX7_init : MethodName := ⟨RX7, "<init>", "()V"⟩
abbrev cX7_user : ByteArray := prog_1_method_2_code
def yX7_user : MethodName := ⟨RX7, "user", "(I)I"⟩
abbrev cX7_role : ByteArray := prog_1_method_3_code
def yX7_role : MethodName := ⟨RX7, "role", "(II)I"⟩
abbrev cX7_ends : ByteArray := prog_1_method_4_code
def yX7_ends : MethodName := ⟨RX7, "ends", "(II)I"⟩
abbrev cX7_budget : ByteArray := prog_1_method_5_code
def yX7_budget : MethodName := ⟨RX7, "budget", "(II)I"⟩
abbrev cX7_post : ByteArray := prog_1_method_6_code
def yX7_post : MethodName := ⟨RX7, "post", "(III)I"⟩
abbrev cX7_edit : ByteArray := prog_1_method_7_code
def yX7_edit : MethodName := ⟨RX7, "edit", "(II)I"⟩
abbrev cX7_mark : ByteArray := prog_1_method_8_code
def yX7_mark : MethodName := ⟨RX7, "mark", "(III)I"⟩
abbrev cX7_spend : ByteArray := prog_1_method_9_code
def yX7_spend : MethodName := ⟨RX7, "spend", "(III)I"⟩
abbrev cX7_task : ByteArray := prog_1_method_10_code
def yX7_task : MethodName := ⟨RX7, "task", "(IIII)I"⟩
abbrev cX7_done : ByteArray := prog_1_method_11_code
def yX7_done : MethodName := ⟨RX7, "done", "(II)I"⟩
abbrev cX7_hold : ByteArray := prog_1_method_12_code
def yX7_hold : MethodName := ⟨RX7, "hold", "(I)Z"⟩
abbrev cX7_archive : ByteArray := prog_1_method_13_code
def yX7_archive : MethodName := ⟨RX7, "archive", "(I)I"⟩
abbrev cX7_pass : ByteArray := prog_1_method_14_code
def yX7_pass : MethodName := ⟨RX7, "pass", "(I)I"⟩
abbrev cX7_messageOf : ByteArray := prog_1_method_15_code
def yX7_messageOf : MethodName := ⟨RX7, "messageOf", "(II)I"⟩
abbrev cX7_isApproved : ByteArray := prog_1_method_16_code
def yX7_isApproved : MethodName := ⟨RX7, "isApproved", "(IIZ)Z"⟩
abbrev cX7_spendOf : ByteArray := prog_1_method_17_code
def yX7_spendOf : MethodName := ⟨RX7, "spendOf", "(II)I"⟩
abbrev cX7_left : ByteArray := prog_1_method_18_code
def yX7_left : MethodName := ⟨RX7, "left", "(I)I"⟩
abbrev cX7_next : ByteArray := prog_1_method_19_code
def yX7_next : MethodName := ⟨RX7, "next", "(II)I"⟩
abbrev cX7_taskOf : ByteArray := prog_1_method_20_code
def yX7_taskOf : MethodName := ⟨RX7, "taskOf", "(I)I"⟩
abbrev cX7_label : ByteArray := prog_1_method_21_code
def yX7_label : MethodName := ⟨RX7, "label", "(II)C"⟩
abbrev cX7_userAt : ByteArray := prog_1_method_22_code
def yX7_userAt : MethodName := ⟨RX7, "userAt", "(I)LMarkChat$User;"⟩
abbrev cX7_channelAt : ByteArray := prog_1_method_23_code
def yX7_channelAt : MethodName := ⟨RX7, "channelAt", "(I)LMarkChat$Channel;"⟩
abbrev cX7_messageAt : ByteArray := prog_1_method_24_code
def yX7_messageAt : MethodName := ⟨RX7, "messageAt", "(I)LMarkChat$Message;"⟩
abbrev cX7_spendAt : ByteArray := prog_1_method_25_code
def yX7_spendAt : MethodName := ⟨RX7, "spendAt", "(I)LMarkChat$Spend;"⟩
abbrev cX7_taskAt : ByteArray := prog_1_method_26_code
def yX7_taskAt : MethodName := ⟨RX7, "taskAt", "(I)LMarkChat$Task;"⟩
abbrev cX7_checkRange : ByteArray := prog_1_method_27_code
def yX7_checkRange : MethodName := ⟨RX7, "checkRange", "(III)V"⟩
abbrev cX7_refuseFull : ByteArray := prog_1_method_28_code
def yX7_refuseFull : MethodName := ⟨RX7, "refuseFull", "(II)V"⟩
abbrev cX7_refuseGone : ByteArray := prog_1_method_29_code
def yX7_refuseGone : MethodName := ⟨RX7, "refuseGone", "(LMarkChat$User;)V"⟩
abbrev cX7_refuseArchived : ByteArray := prog_1_method_30_code
def yX7_refuseArchived : MethodName := ⟨RX7, "refuseArchived", "(LMarkChat$Message;)V"⟩
abbrev cX7_countMarks : ByteArray := prog_1_method_31_code
def yX7_countMarks : MethodName := ⟨RX7, "countMarks", "(LMarkChat$Marks;)I"⟩
abbrev cX7_approve : ByteArray := prog_1_method_32_code
def yX7_approve : MethodName := ⟨RX7, "approve", "(LMarkChat$Marks;LMarkChat$Message;I)Z"⟩
abbrev cX7_takeSpendsBack : ByteArray := prog_1_method_33_code
def yX7_takeSpendsBack : MethodName := ⟨RX7, "takeSpendsBack", "()V"⟩
abbrev cX7_isStillDue : ByteArray := prog_1_method_34_code
def yX7_isStillDue : MethodName := ⟨RX7, "isStillDue", "(LMarkChat$Spend;)Z"⟩
abbrev cX7_dropTasksOf : ByteArray := prog_1_method_35_code
def yX7_dropTasksOf : MethodName := ⟨RX7, "dropTasksOf", "(I)V"⟩
abbrev cX7_rankOf : ByteArray := prog_1_method_36_code
def yX7_rankOf : MethodName := ⟨RX7, "rankOf", "(LMarkChat$Task;)I"⟩
abbrev cX7_mayBeArchived : ByteArray := prog_1_method_37_code
def yX7_mayBeArchived : MethodName := ⟨RX7, "mayBeArchived", "(LMarkChat$Message;)Z"⟩
abbrev cX7_hasStandingSpend : ByteArray := prog_1_method_38_code
def yX7_hasStandingSpend : MethodName := ⟨RX7, "hasStandingSpend", "(I)Z"⟩
abbrev cX7_hasOpenTask : ByteArray := prog_1_method_39_code
def yX7_hasOpenTask : MethodName := ⟨RX7, "hasOpenTask", "(I)Z"⟩
abbrev cX7_hasReplyLeft : ByteArray := prog_1_method_40_code
def yX7_hasReplyLeft : MethodName := ⟨RX7, "hasReplyLeft", "(I)Z"⟩
def RX8 : String := "MarkChatModel"
def TX8 : u_T := fun k => match k with
  | 0 => ("MarkChatModel", "hour", "I", false)
  | 1 => ("MarkChatModel", "users", "I", false)
  | 2 => ("MarkChatModel", "role", "[I", true)
  | 3 => ("MarkChatModel", "end", "[I", true)
  | 4 => ("MarkChatModel", "budget", "[I", true)
  | 5 => ("MarkChatModel", "isHeld", "[Z", true)
  | 6 => ("MarkChatModel", "messages", "I", false)
  | 7 => ("MarkChatModel", "author", "[I", true)
  | 8 => ("MarkChatModel", "channel", "[I", true)
  | 9 => ("MarkChatModel", "parent", "[I", true)
  | 10 => ("MarkChatModel", "version", "[I", true)
  | 11 => ("MarkChatModel", "posted", "[I", true)
  | 12 => ("MarkChatModel", "isArchived", "[Z", true)
  | 13 => ("MarkChatModel", "mark", "[I", true)
  | 14 => ("MarkChatModel", "marked", "[I", true)
  | 15 => ("MarkChatModel", "spends", "I", false)
  | 16 => ("MarkChatModel", "spendMessage", "[I", true)
  | 17 => ("MarkChatModel", "spendVersion", "[I", true)
  | 18 => ("MarkChatModel", "spent", "[I", true)
  | 19 => ("MarkChatModel", "wentBack", "[Z", true)
  | 20 => ("MarkChatModel", "tasks", "I", false)
  | 21 => ("MarkChatModel", "taskMessage", "[I", true)
  | 22 => ("MarkChatModel", "taskVersion", "[I", true)
  | 23 => ("MarkChatModel", "taskUser", "[I", true)
  | 24 => ("MarkChatModel", "until", "[I", true)
  | 25 => ("MarkChatModel", "state", "[I", true)
  | 26 => ("MarkChatModel", "text", "[I", true)
  | 27 => ("MarkChatModel", "written", "I", false)
  | _ => ("MarkChatModel", "thrown", "I", false)
def tyX8 : Nat → FieldType := fun k => match k with
  | 0 => .int
  | 1 => .int
  | 2 => .array .int
  | 3 => .array .int
  | 4 => .array .int
  | 5 => .array .boolean
  | 6 => .int
  | 7 => .array .int
  | 8 => .array .int
  | 9 => .array .int
  | 10 => .array .int
  | 11 => .array .int
  | 12 => .array .boolean
  | 13 => .array .int
  | 14 => .array .int
  | 15 => .int
  | 16 => .array .int
  | 17 => .array .int
  | 18 => .array .int
  | 19 => .array .boolean
  | 20 => .int
  | 21 => .array .int
  | 22 => .array .int
  | 23 => .array .int
  | 24 => .array .int
  | 25 => .array .int
  | 26 => .array .int
  | 27 => .int
  | _ => .int
abbrev wsX80 : List Cond := u_ws RX8 TX8 29
theorem nmX8 : ∀ a, a < 29 → ∀ b, b < 29 → a ≠ b → (TX8 a).2.1 ≠ (TX8 b).2.1 := by decide +kernel
theorem tyX8_ok : ∀ k, k < 29 → parseFieldDescriptor (TX8 k).2.2.1 = some (tyX8 k) := by decide +kernel
abbrev cX8_init : ByteArray := prog_10_method_1_code
def yX8_init : MethodName := ⟨RX8, "<init>", "()V"⟩
abbrev cX8_thrown : ByteArray := prog_10_method_2_code
def yX8_thrown : MethodName := ⟨RX8, "thrown", "()I"⟩
abbrev cX8_fails : ByteArray := prog_10_method_3_code
def yX8_fails : MethodName := ⟨RX8, "fails", "(I)Z"⟩
abbrev cX8_isIn : ByteArray := prog_10_method_4_code
def yX8_isIn : MethodName := ⟨RX8, "isIn", "(III)Z"⟩
abbrev cX8_isUser : ByteArray := prog_10_method_5_code
def yX8_isUser : MethodName := ⟨RX8, "isUser", "(I)Z"⟩
abbrev cX8_isGone : ByteArray := prog_10_method_6_code
def yX8_isGone : MethodName := ⟨RX8, "isGone", "(I)Z"⟩
abbrev cX8_isChannel : ByteArray := prog_10_method_7_code
def yX8_isChannel : MethodName := ⟨RX8, "isChannel", "(I)Z"⟩
abbrev cX8_isMessage : ByteArray := prog_10_method_8_code
def yX8_isMessage : MethodName := ⟨RX8, "isMessage", "(I)Z"⟩
abbrev cX8_counts : ByteArray := prog_10_method_9_code
def yX8_counts : MethodName := ⟨RX8, "counts", "(II)Z"⟩
abbrev cX8_counted : ByteArray := prog_10_method_10_code
def yX8_counted : MethodName := ⟨RX8, "counted", "(I)I"⟩
abbrev cX8_approves : ByteArray := prog_10_method_11_code
def yX8_approves : MethodName := ⟨RX8, "approves", "(II)Z"⟩
abbrev cX8_settles : ByteArray := prog_10_method_12_code
def yX8_settles : MethodName := ⟨RX8, "settles", "()V"⟩
abbrev cX8_isRole : ByteArray := prog_10_method_13_code
def yX8_isRole : MethodName := ⟨RX8, "isRole", "(I)Z"⟩
abbrev cX8_user : ByteArray := prog_10_method_14_code
def yX8_user : MethodName := ⟨RX8, "user", "(I)I"⟩
abbrev cX8_role : ByteArray := prog_10_method_15_code
def yX8_role : MethodName := ⟨RX8, "role", "(II)I"⟩
abbrev cX8_ends : ByteArray := prog_10_method_16_code
def yX8_ends : MethodName := ⟨RX8, "ends", "(II)I"⟩
abbrev cX8_budget : ByteArray := prog_10_method_17_code
def yX8_budget : MethodName := ⟨RX8, "budget", "(II)I"⟩
abbrev cX8_post : ByteArray := prog_10_method_18_code
def yX8_post : MethodName := ⟨RX8, "post", "(III)I"⟩
abbrev cX8_edit : ByteArray := prog_10_method_19_code
def yX8_edit : MethodName := ⟨RX8, "edit", "(II)I"⟩
abbrev cX8_mark : ByteArray := prog_10_method_20_code
def yX8_mark : MethodName := ⟨RX8, "mark", "(III)I"⟩
abbrev cX8_spend : ByteArray := prog_10_method_21_code
def yX8_spend : MethodName := ⟨RX8, "spend", "(III)I"⟩
abbrev cX8_task : ByteArray := prog_10_method_22_code
def yX8_task : MethodName := ⟨RX8, "task", "(IIII)I"⟩
abbrev cX8_isTask : ByteArray := prog_10_method_23_code
def yX8_isTask : MethodName := ⟨RX8, "isTask", "(I)Z"⟩
abbrev cX8_done : ByteArray := prog_10_method_24_code
def yX8_done : MethodName := ⟨RX8, "done", "(II)I"⟩
abbrev cX8_hold : ByteArray := prog_10_method_25_code
def yX8_hold : MethodName := ⟨RX8, "hold", "(I)Z"⟩
abbrev cX8_canArchive : ByteArray := prog_10_method_26_code
def yX8_canArchive : MethodName := ⟨RX8, "canArchive", "(I)Z"⟩
abbrev cX8_archive : ByteArray := prog_10_method_27_code
def yX8_archive : MethodName := ⟨RX8, "archive", "(I)I"⟩
abbrev cX8_pass : ByteArray := prog_10_method_28_code
def yX8_pass : MethodName := ⟨RX8, "pass", "(I)I"⟩
abbrev cX8_messageOf : ByteArray := prog_10_method_29_code
def yX8_messageOf : MethodName := ⟨RX8, "messageOf", "(II)I"⟩
abbrev cX8_isApproved : ByteArray := prog_10_method_30_code
def yX8_isApproved : MethodName := ⟨RX8, "isApproved", "(IIZ)Z"⟩
abbrev cX8_spendOf : ByteArray := prog_10_method_31_code
def yX8_spendOf : MethodName := ⟨RX8, "spendOf", "(II)I"⟩
abbrev cX8_left : ByteArray := prog_10_method_32_code
def yX8_left : MethodName := ⟨RX8, "left", "(I)I"⟩
abbrev cX8_next : ByteArray := prog_10_method_33_code
def yX8_next : MethodName := ⟨RX8, "next", "(II)I"⟩
abbrev cX8_taskOf : ByteArray := prog_10_method_34_code
def yX8_taskOf : MethodName := ⟨RX8, "taskOf", "(I)I"⟩
abbrev cX8_puts : ByteArray := prog_10_method_35_code
def yX8_puts : MethodName := ⟨RX8, "puts", "(I)V"⟩
abbrev cX8_putsNumber : ByteArray := prog_10_method_36_code
def yX8_putsNumber : MethodName := ⟨RX8, "putsNumber", "(I)V"⟩
abbrev cX8_label : ByteArray := prog_10_method_37_code
def yX8_label : MethodName := ⟨RX8, "label", "(II)C"⟩
def RJx145de : String := "java/io/Serializable"
def TJx145de : u_T := fun k => match k with
  | _ => ("", "", "", false)
def tyJx145de : Nat → FieldType := fun k => match k with
  | _ => .int
abbrev wsJx145de0 : List Cond := u_ws RJx145de TJx145de 0
theorem nmJx145de : ∀ a, a < 0 → ∀ b, b < 0 → a ≠ b → (TJx145de a).2.1 ≠ (TJx145de b).2.1 := by decide +kernel
theorem tyJx145de_ok : ∀ k, k < 0 → parseFieldDescriptor (TJx145de k).2.2.1 = some (tyJx145de k) := by decide +kernel
def RJ5 : String := "java/lang/AbstractStringBuilder"
def TJ5 : u_T := fun k => match k with
  | _ => ("", "", "", false)
def tyJ5 : Nat → FieldType := fun k => match k with
  | _ => .int
abbrev wsJ50 : List Cond := u_ws RJ5 TJ5 0
theorem nmJ5 : ∀ a, a < 0 → ∀ b, b < 0 → a ≠ b → (TJ5 a).2.1 ≠ (TJ5 b).2.1 := by decide +kernel
theorem tyJ5_ok : ∀ k, k < 0 → parseFieldDescriptor (TJ5 k).2.2.1 = some (tyJ5 k) := by decide +kernel
abbrev cJ5_init_d00df : ByteArray := prog_12_method_2_code
def yJ5_init_d00df : MethodName := ⟨RJ5, "<init>", "(I)V"⟩
abbrev cJ5_length_8abf5 : ByteArray := prog_12_method_6_code
def yJ5_length_8abf5 : MethodName := ⟨RJ5, "length", "()I"⟩
abbrev cJ5_ensureCapacityInternal_d00df : ByteArray := prog_12_method_9_code
def yJ5_ensureCapacityInternal_d00df : MethodName := ⟨RJ5, "ensureCapacityInternal", "(I)V"⟩
abbrev cJ5_newCapacity_0f7a4 : ByteArray := prog_12_method_10_code
def yJ5_newCapacity_0f7a4 : MethodName := ⟨RJ5, "newCapacity", "(I)I"⟩
abbrev cJ5_inflate_da8c8 : ByteArray := prog_12_method_11_code
def yJ5_inflate_da8c8 : MethodName := ⟨RJ5, "inflate", "()V"⟩
abbrev cJ5_append_cf1ce : ByteArray := prog_12_method_22_code
def yJ5_append_cf1ce : MethodName := ⟨RJ5, "append", "(Ljava/lang/String;)Ljava/lang/AbstractStringBuilder;"⟩
abbrev cJ5_appendNull_278bc : ByteArray := prog_12_method_26_code
def yJ5_appendNull_278bc : MethodName := ⟨RJ5, "appendNull", "()Ljava/lang/AbstractStringBuilder;"⟩
abbrev cJ5_append_3fe6f : ByteArray := prog_12_method_31_code
def yJ5_append_3fe6f : MethodName := ⟨RJ5, "append", "(C)Ljava/lang/AbstractStringBuilder;"⟩
abbrev cJ5_append_c97b9 : ByteArray := prog_12_method_32_code
def yJ5_append_c97b9 : MethodName := ⟨RJ5, "append", "(I)Ljava/lang/AbstractStringBuilder;"⟩
abbrev cJ5_getValue_6d5f1 : ByteArray := prog_12_method_64_code
def yJ5_getValue_6d5f1 : MethodName := ⟨RJ5, "getValue", "()[B"⟩
abbrev cJ5_isLatin1_aae02 : ByteArray := prog_12_method_68_code
def yJ5_isLatin1_aae02 : MethodName := ⟨RJ5, "isLatin1", "()Z"⟩
abbrev cJ5_inflateIfNeededFor_a7421 : ByteArray := prog_12_method_71_code
def yJ5_inflateIfNeededFor_a7421 : MethodName := ⟨RJ5, "inflateIfNeededFor", "(Ljava/lang/String;)V"⟩
abbrev cJ5_putStringAt_47b60 : ByteArray := prog_12_method_73_code
def yJ5_putStringAt_47b60 : MethodName := ⟨RJ5, "putStringAt", "(ILjava/lang/String;)V"⟩
def RJx2cfe8 : String := "java/lang/Appendable"
def TJx2cfe8 : u_T := fun k => match k with
  | _ => ("", "", "", false)
def tyJx2cfe8 : Nat → FieldType := fun k => match k with
  | _ => .int
abbrev wsJx2cfe80 : List Cond := u_ws RJx2cfe8 TJx2cfe8 0
theorem nmJx2cfe8 : ∀ a, a < 0 → ∀ b, b < 0 → a ≠ b → (TJx2cfe8 a).2.1 ≠ (TJx2cfe8 b).2.1 := by decide +kernel
theorem tyJx2cfe8_ok : ∀ k, k < 0 → parseFieldDescriptor (TJx2cfe8 k).2.2.1 = some (tyJx2cfe8 k) := by decide +kernel
def RJx9f9b0 : String := "java/lang/CharSequence"
def TJx9f9b0 : u_T := fun k => match k with
  | _ => ("", "", "", false)
def tyJx9f9b0 : Nat → FieldType := fun k => match k with
  | _ => .int
abbrev wsJx9f9b00 : List Cond := u_ws RJx9f9b0 TJx9f9b0 0
theorem nmJx9f9b0 : ∀ a, a < 0 → ∀ b, b < 0 → a ≠ b → (TJx9f9b0 a).2.1 ≠ (TJx9f9b0 b).2.1 := by decide +kernel
theorem tyJx9f9b0_ok : ∀ k, k < 0 → parseFieldDescriptor (TJx9f9b0 k).2.2.1 = some (tyJx9f9b0 k) := by decide +kernel
def RJx8e188 : String := "java/lang/Cloneable"
def TJx8e188 : u_T := fun k => match k with
  | _ => ("", "", "", false)
def tyJx8e188 : Nat → FieldType := fun k => match k with
  | _ => .int
abbrev wsJx8e1880 : List Cond := u_ws RJx8e188 TJx8e188 0
theorem nmJx8e188 : ∀ a, a < 0 → ∀ b, b < 0 → a ≠ b → (TJx8e188 a).2.1 ≠ (TJx8e188 b).2.1 := by decide +kernel
theorem tyJx8e188_ok : ∀ k, k < 0 → parseFieldDescriptor (TJx8e188 k).2.2.1 = some (tyJx8e188 k) := by decide +kernel
def RJxb160c : String := "java/lang/Comparable"
def TJxb160c : u_T := fun k => match k with
  | _ => ("", "", "", false)
def tyJxb160c : Nat → FieldType := fun k => match k with
  | _ => .int
abbrev wsJxb160c0 : List Cond := u_ws RJxb160c TJxb160c 0
theorem nmJxb160c : ∀ a, a < 0 → ∀ b, b < 0 → a ≠ b → (TJxb160c a).2.1 ≠ (TJxb160c b).2.1 := by decide +kernel
theorem tyJxb160c_ok : ∀ k, k < 0 → parseFieldDescriptor (TJxb160c k).2.2.1 = some (tyJxb160c k) := by decide +kernel
def RJ6 : String := "java/lang/Integer"
def TJ6 : u_T := fun k => match k with
  | _ => ("", "", "", false)
def tyJ6 : Nat → FieldType := fun k => match k with
  | _ => .int
abbrev wsJ60 : List Cond := u_ws RJ6 TJ6 0
theorem nmJ6 : ∀ a, a < 0 → ∀ b, b < 0 → a ≠ b → (TJ6 a).2.1 ≠ (TJ6 b).2.1 := by decide +kernel
theorem tyJ6_ok : ∀ k, k < 0 → parseFieldDescriptor (TJ6 k).2.2.1 = some (tyJ6 k) := by decide +kernel
abbrev cJ6_getChars_ba4f3 : ByteArray := prog_21_method_12_code
def yJ6_getChars_ba4f3 : MethodName := ⟨RJ6, "getChars", "(II[B)I"⟩
abbrev cJ6_stringSize_0f7a4 : ByteArray := prog_21_method_13_code
def yJ6_stringSize_0f7a4 : MethodName := ⟨RJ6, "stringSize", "(I)I"⟩
def RJxab1ab : String := "java/lang/Iterable"
def TJxab1ab : u_T := fun k => match k with
  | _ => ("", "", "", false)
def tyJxab1ab : Nat → FieldType := fun k => match k with
  | _ => .int
abbrev wsJxab1ab0 : List Cond := u_ws RJxab1ab TJxab1ab 0
theorem nmJxab1ab : ∀ a, a < 0 → ∀ b, b < 0 → a ≠ b → (TJxab1ab a).2.1 ≠ (TJxab1ab b).2.1 := by decide +kernel
theorem tyJxab1ab_ok : ∀ k, k < 0 → parseFieldDescriptor (TJxab1ab k).2.2.1 = some (tyJxab1ab k) := by decide +kernel
def RJ9 : String := "java/lang/Math"
def TJ9 : u_T := fun k => match k with
  | _ => ("", "", "", false)
def tyJ9 : Nat → FieldType := fun k => match k with
  | _ => .int
abbrev wsJ90 : List Cond := u_ws RJ9 TJ9 0
theorem nmJ9 : ∀ a, a < 0 → ∀ b, b < 0 → a ≠ b → (TJ9 a).2.1 ≠ (TJ9 b).2.1 := by decide +kernel
theorem tyJ9_ok : ∀ k, k < 0 → parseFieldDescriptor (TJ9 k).2.2.1 = some (tyJ9 k) := by decide +kernel
abbrev cJ9_max_7cf53 : ByteArray := prog_23_method_65_code
def yJ9_max_7cf53 : MethodName := ⟨RJ9, "max", "(II)I"⟩
abbrev cJ9_min_7cf53 : ByteArray := prog_23_method_69_code
def yJ9_min_7cf53 : MethodName := ⟨RJ9, "min", "(II)I"⟩
def RJxd2413 : String := "java/lang/Number"
def TJxd2413 : u_T := fun k => match k with
  | _ => ("", "", "", false)
def tyJxd2413 : Nat → FieldType := fun k => match k with
  | _ => .int
abbrev wsJxd24130 : List Cond := u_ws RJxd2413 TJxd2413 0
theorem nmJxd2413 : ∀ a, a < 0 → ∀ b, b < 0 → a ≠ b → (TJxd2413 a).2.1 ≠ (TJxd2413 b).2.1 := by decide +kernel
theorem tyJxd2413_ok : ∀ k, k < 0 → parseFieldDescriptor (TJxd2413 k).2.2.1 = some (tyJxd2413 k) := by decide +kernel
def RJ0 : String := "java/lang/String"
def TJ0 : u_T := fun k => match k with
  | 0 => ("java/lang/String", "value", "[B", true)
  | 1 => ("java/lang/String", "coder", "B", true)
  | 2 => ("java/lang/String", "hash", "I", false)
  | _ => ("java/lang/String", "hashIsZero", "Z", false)
def tyJ0 : Nat → FieldType := fun k => match k with
  | 0 => .array .byte
  | 1 => .byte
  | 2 => .int
  | _ => .boolean
abbrev wsJ00 : List Cond := u_ws RJ0 TJ0 4
theorem nmJ0 : ∀ a, a < 4 → ∀ b, b < 4 → a ≠ b → (TJ0 a).2.1 ≠ (TJ0 b).2.1 := by decide +kernel
theorem tyJ0_ok : ∀ k, k < 4 → parseFieldDescriptor (TJ0 k).2.2.1 = some (tyJ0 k) := by decide +kernel
abbrev cJ0_init_81219 : ByteArray := prog_26_method_53_code
def yJ0_init_81219 : MethodName := ⟨RJ0, "<init>", "(Ljava/lang/StringBuilder;)V"⟩
abbrev cJ0_length_8abf5 : ByteArray := prog_26_method_54_code
def yJ0_length_8abf5 : MethodName := ⟨RJ0, "length", "()I"⟩
abbrev cJ0_charAt_5068e : ByteArray := prog_26_method_56_code
def yJ0_charAt_5068e : MethodName := ⟨RJ0, "charAt", "(I)C"⟩
abbrev cJ0_getBytes_840e7 : ByteArray := prog_26_method_147_code
def yJ0_getBytes_840e7 : MethodName := ⟨RJ0, "getBytes", "([BIB)V"⟩
abbrev cJ0_init_db425 : ByteArray := prog_26_method_150_code
def yJ0_init_db425 : MethodName := ⟨RJ0, "<init>", "(Ljava/lang/AbstractStringBuilder;Ljava/lang/Void;)V"⟩
abbrev cJ0_coder_7d493 : ByteArray := prog_26_method_152_code
def yJ0_coder_7d493 : MethodName := ⟨RJ0, "coder", "()B"⟩
abbrev cJ0_isLatin1_aae02 : ByteArray := prog_26_method_154_code
def yJ0_isLatin1_aae02 : MethodName := ⟨RJ0, "isLatin1", "()Z"⟩
abbrev cJ0_checkIndex_df160 : ByteArray := prog_26_method_155_code
def yJ0_checkIndex_df160 : MethodName := ⟨RJ0, "checkIndex", "(II)V"⟩
abbrev cJ0_checkBoundsOffCount_cabcc : ByteArray := prog_26_method_157_code
def yJ0_checkBoundsOffCount_cabcc : MethodName := ⟨RJ0, "checkBoundsOffCount", "(III)I"⟩
abbrev cJ0_checkBoundsBeginEnd_23922 : ByteArray := prog_26_method_158_code
def yJ0_checkBoundsBeginEnd_23922 : MethodName := ⟨RJ0, "checkBoundsBeginEnd", "(III)V"⟩
def RJ4 : String := "java/lang/StringBuilder"
def TJ4 : u_T := fun k => match k with
  | 0 => ("java/lang/AbstractStringBuilder", "value", "[B", false)
  | 1 => ("java/lang/AbstractStringBuilder", "coder", "B", false)
  | 2 => ("java/lang/AbstractStringBuilder", "maybeLatin1", "Z", false)
  | _ => ("java/lang/AbstractStringBuilder", "count", "I", false)
def tyJ4 : Nat → FieldType := fun k => match k with
  | 0 => .array .byte
  | 1 => .byte
  | 2 => .boolean
  | _ => .int
abbrev wsJ40 : List Cond := u_ws RJ4 TJ4 4
theorem nmJ4 : ∀ a, a < 4 → ∀ b, b < 4 → a ≠ b → (TJ4 a).2.1 ≠ (TJ4 b).2.1 := by decide +kernel
theorem tyJ4_ok : ∀ k, k < 4 → parseFieldDescriptor (TJ4 k).2.2.1 = some (tyJ4 k) := by decide +kernel
abbrev cJ4_init_da8c8 : ByteArray := prog_27_method_1_code
def yJ4_init_da8c8 : MethodName := ⟨RJ4, "<init>", "()V"⟩
abbrev cJ4_append_15ec4 : ByteArray := prog_27_method_7_code
def yJ4_append_15ec4 : MethodName := ⟨RJ4, "append", "(Ljava/lang/String;)Ljava/lang/StringBuilder;"⟩
abbrev cJ4_append_cf468 : ByteArray := prog_27_method_14_code
def yJ4_append_cf468 : MethodName := ⟨RJ4, "append", "(C)Ljava/lang/StringBuilder;"⟩
abbrev cJ4_append_bf812 : ByteArray := prog_27_method_15_code
def yJ4_append_bf812 : MethodName := ⟨RJ4, "append", "(I)Ljava/lang/StringBuilder;"⟩
abbrev cJ4_toString_0e30d : ByteArray := prog_27_method_42_code
def yJ4_toString_0e30d : MethodName := ⟨RJ4, "toString", "()Ljava/lang/String;"⟩
abbrev cJ4_length_8abf5 : ByteArray := prog_27_method_93_code
def yJ4_length_8abf5 : MethodName := ⟨RJ4, "length", "()I"⟩
def RJ1 : String := "java/lang/StringLatin1"
def TJ1 : u_T := fun k => match k with
  | _ => ("", "", "", false)
def tyJ1 : Nat → FieldType := fun k => match k with
  | _ => .int
abbrev wsJ10 : List Cond := u_ws RJ1 TJ1 0
theorem nmJ1 : ∀ a, a < 0 → ∀ b, b < 0 → a ≠ b → (TJ1 a).2.1 ≠ (TJ1 b).2.1 := by decide +kernel
theorem tyJ1_ok : ∀ k, k < 0 → parseFieldDescriptor (TJ1 k).2.2.1 = some (tyJ1 k) := by decide +kernel
abbrev cJ1_charAt_3b067 : ByteArray := prog_28_method_2_code
def yJ1_charAt_3b067 : MethodName := ⟨RJ1, "charAt", "([BI)C"⟩
abbrev cJ1_canEncode_fc78d : ByteArray := prog_28_method_3_code
def yJ1_canEncode_fc78d : MethodName := ⟨RJ1, "canEncode", "(C)Z"⟩
abbrev cJ1_inflate_0e8fd : ByteArray := prog_28_method_50_code
def yJ1_inflate_0e8fd : MethodName := ⟨RJ1, "inflate", "([BI[BII)V"⟩
def RJ2 : String := "java/lang/StringUTF16"
def TJ2 : u_T := fun k => match k with
  | _ => ("", "", "", false)
def tyJ2 : Nat → FieldType := fun k => match k with
  | _ => .int
abbrev wsJ20 : List Cond := u_ws RJ2 TJ2 0
theorem nmJ2 : ∀ a, a < 0 → ∀ b, b < 0 → a ≠ b → (TJ2 a).2.1 ≠ (TJ2 b).2.1 := by decide +kernel
theorem tyJ2_ok : ∀ k, k < 0 → parseFieldDescriptor (TJ2 k).2.2.1 = some (tyJ2 k) := by decide +kernel
abbrev cJ2_newBytesFor_77867 : ByteArray := prog_29_method_2_code
def yJ2_newBytesFor_77867 : MethodName := ⟨RJ2, "newBytesFor", "(I)[B"⟩
abbrev cJ2_newBytesLength_0f7a4 : ByteArray := prog_29_method_3_code
def yJ2_newBytesLength_0f7a4 : MethodName := ⟨RJ2, "newBytesLength", "(I)I"⟩
abbrev cJ2_putChar_b72d1 : ByteArray := prog_29_method_4_code
def yJ2_putChar_b72d1 : MethodName := ⟨RJ2, "putChar", "([BII)V"⟩
abbrev cJ2_getChar_3b067 : ByteArray := prog_29_method_5_code
def yJ2_getChar_3b067 : MethodName := ⟨RJ2, "getChar", "([BI)C"⟩
abbrev cJ2_length_9d52b : ByteArray := prog_29_method_6_code
def yJ2_length_9d52b : MethodName := ⟨RJ2, "length", "([B)I"⟩
abbrev cJ2_coderFromArrayLen_85cad : ByteArray := prog_29_method_15_code
def yJ2_coderFromArrayLen_85cad : MethodName := ⟨RJ2, "coderFromArrayLen", "([BI)B"⟩
abbrev cJ2_compress_39247 : ByteArray := prog_29_method_17_code
def yJ2_compress_39247 : MethodName := ⟨RJ2, "compress", "([BII)[B"⟩
abbrev cJ2_compress_5af95 : ByteArray := prog_29_method_22_code
def yJ2_compress_5af95 : MethodName := ⟨RJ2, "compress", "([BI[BII)I"⟩
abbrev cJ2_putCharSB_b72d1 : ByteArray := prog_29_method_71_code
def yJ2_putCharSB_b72d1 : MethodName := ⟨RJ2, "putCharSB", "([BII)V"⟩
abbrev cJ2_getChars_46870 : ByteArray := prog_29_method_77_code
def yJ2_getChars_46870 : MethodName := ⟨RJ2, "getChars", "(III[B)I"⟩
abbrev cJ2_putCharsAt_cd4e5 : ByteArray := prog_29_method_81_code
def yJ2_putCharsAt_cd4e5 : MethodName := ⟨RJ2, "putCharsAt", "([BICCCC)I"⟩
abbrev cJ2_charAt_3b067 : ByteArray := prog_29_method_83_code
def yJ2_charAt_3b067 : MethodName := ⟨RJ2, "charAt", "([BI)C"⟩
abbrev cJ2_inflate_0e8fd : ByteArray := prog_29_method_86_code
def yJ2_inflate_0e8fd : MethodName := ⟨RJ2, "inflate", "([BI[BII)V"⟩
abbrev cJ2_getChars_ba4f3 : ByteArray := prog_29_method_89_code
def yJ2_getChars_ba4f3 : MethodName := ⟨RJ2, "getChars", "(II[B)I"⟩
abbrev cJ2_checkIndex_2214a : ByteArray := prog_29_method_91_code
def yJ2_checkIndex_2214a : MethodName := ⟨RJ2, "checkIndex", "(I[B)V"⟩
abbrev cJ2_checkBoundsBeginEnd_d044e : ByteArray := prog_29_method_93_code
def yJ2_checkBoundsBeginEnd_d044e : MethodName := ⟨RJ2, "checkBoundsBeginEnd", "(II[B)V"⟩
abbrev cJ2_checkBoundsOffCount_d044e : ByteArray := prog_29_method_94_code
def yJ2_checkBoundsOffCount_d044e : MethodName := ⟨RJ2, "checkBoundsOffCount", "(II[B)V"⟩
def RJ10 : String := "java/lang/System"
def TJ10 : u_T := fun k => match k with
  | _ => ("", "", "", false)
def tyJ10 : Nat → FieldType := fun k => match k with
  | _ => .int
abbrev wsJ100 : List Cond := u_ws RJ10 TJ10 0
theorem nmJ10 : ∀ a, a < 0 → ∀ b, b < 0 → a ≠ b → (TJ10 a).2.1 ≠ (TJ10 b).2.1 := by decide +kernel
theorem tyJ10_ok : ∀ k, k < 0 → parseFieldDescriptor (TJ10 k).2.2.1 = some (tyJ10 k) := by decide +kernel
def RJxfd54e : String := "java/lang/constant/Constable"
def TJxfd54e : u_T := fun k => match k with
  | _ => ("", "", "", false)
def tyJxfd54e : Nat → FieldType := fun k => match k with
  | _ => .int
abbrev wsJxfd54e0 : List Cond := u_ws RJxfd54e TJxfd54e 0
theorem nmJxfd54e : ∀ a, a < 0 → ∀ b, b < 0 → a ≠ b → (TJxfd54e a).2.1 ≠ (TJxfd54e b).2.1 := by decide +kernel
theorem tyJxfd54e_ok : ∀ k, k < 0 → parseFieldDescriptor (TJxfd54e k).2.2.1 = some (tyJxfd54e k) := by decide +kernel
def RJx3cf43 : String := "java/lang/constant/ConstantDesc"
def TJx3cf43 : u_T := fun k => match k with
  | _ => ("", "", "", false)
def tyJx3cf43 : Nat → FieldType := fun k => match k with
  | _ => .int
abbrev wsJx3cf430 : List Cond := u_ws RJx3cf43 TJx3cf43 0
theorem nmJx3cf43 : ∀ a, a < 0 → ∀ b, b < 0 → a ≠ b → (TJx3cf43 a).2.1 ≠ (TJx3cf43 b).2.1 := by decide +kernel
theorem tyJx3cf43_ok : ∀ k, k < 0 → parseFieldDescriptor (TJx3cf43 k).2.2.1 = some (tyJx3cf43 k) := by decide +kernel
def RJxa1e45 : String := "java/util/AbstractCollection"
def TJxa1e45 : u_T := fun k => match k with
  | _ => ("", "", "", false)
def tyJxa1e45 : Nat → FieldType := fun k => match k with
  | _ => .int
abbrev wsJxa1e450 : List Cond := u_ws RJxa1e45 TJxa1e45 0
theorem nmJxa1e45 : ∀ a, a < 0 → ∀ b, b < 0 → a ≠ b → (TJxa1e45 a).2.1 ≠ (TJxa1e45 b).2.1 := by decide +kernel
theorem tyJxa1e45_ok : ∀ k, k < 0 → parseFieldDescriptor (TJxa1e45 k).2.2.1 = some (tyJxa1e45 k) := by decide +kernel
abbrev cJxa1e45_init_da8c8 : ByteArray := prog_34_method_1_code
def yJxa1e45_init_da8c8 : MethodName := ⟨RJxa1e45, "<init>", "()V"⟩
def RJxc12de : String := "java/util/AbstractList"
def TJxc12de : u_T := fun k => match k with
  | _ => ("", "", "", false)
def tyJxc12de : Nat → FieldType := fun k => match k with
  | _ => .int
abbrev wsJxc12de0 : List Cond := u_ws RJxc12de TJxc12de 0
theorem nmJxc12de : ∀ a, a < 0 → ∀ b, b < 0 → a ≠ b → (TJxc12de a).2.1 ≠ (TJxc12de b).2.1 := by decide +kernel
theorem tyJxc12de_ok : ∀ k, k < 0 → parseFieldDescriptor (TJxc12de k).2.2.1 = some (tyJxc12de k) := by decide +kernel
abbrev cJxc12de_init_da8c8 : ByteArray := prog_35_method_1_code
def yJxc12de_init_da8c8 : MethodName := ⟨RJxc12de, "<init>", "()V"⟩
def RJx4a65c : String := "java/util/ArrayList"
def TJx4a65c : u_T := fun k => match k with
  | 0 => ("java/util/AbstractList", "modCount", "I", false)
  | 1 => ("java/util/ArrayList", "elementData", "[Ljava/lang/Object;", false)
  | _ => ("java/util/ArrayList", "size", "I", false)
def tyJx4a65c : Nat → FieldType := fun k => match k with
  | 0 => .int
  | 1 => .array (.object "java/lang/Object")
  | _ => .int
abbrev wsJx4a65c0 : List Cond := u_ws RJx4a65c TJx4a65c 3
theorem nmJx4a65c : ∀ a, a < 3 → ∀ b, b < 3 → a ≠ b → (TJx4a65c a).2.1 ≠ (TJx4a65c b).2.1 := by decide +kernel
theorem tyJx4a65c_ok : ∀ k, k < 3 → parseFieldDescriptor (TJx4a65c k).2.2.1 = some (tyJx4a65c k) := by decide +kernel
abbrev cJx4a65c_init_da8c8 : ByteArray := prog_36_method_2_code
def yJx4a65c_init_da8c8 : MethodName := ⟨RJx4a65c, "<init>", "()V"⟩
abbrev cJx4a65c_grow_92f84 : ByteArray := prog_36_method_6_code
def yJx4a65c_grow_92f84 : MethodName := ⟨RJx4a65c, "grow", "(I)[Ljava/lang/Object;"⟩
abbrev cJx4a65c_grow_d5877 : ByteArray := prog_36_method_7_code
def yJx4a65c_grow_d5877 : MethodName := ⟨RJx4a65c, "grow", "()[Ljava/lang/Object;"⟩
abbrev cJx4a65c_size_8abf5 : ByteArray := prog_36_method_8_code
def yJx4a65c_size_8abf5 : MethodName := ⟨RJx4a65c, "size", "()I"⟩
abbrev cJx4a65c_elementData_915e3 : ByteArray := prog_36_method_18_code
def yJx4a65c_elementData_915e3 : MethodName := ⟨RJx4a65c, "elementData", "(I)Ljava/lang/Object;"⟩
abbrev cJx4a65c_get_915e3 : ByteArray := prog_36_method_20_code
def yJx4a65c_get_915e3 : MethodName := ⟨RJx4a65c, "get", "(I)Ljava/lang/Object;"⟩
abbrev cJx4a65c_add_72be8 : ByteArray := prog_36_method_24_code
def yJx4a65c_add_72be8 : MethodName := ⟨RJx4a65c, "add", "(Ljava/lang/Object;[Ljava/lang/Object;I)V"⟩
abbrev cJx4a65c_add_9ea2d : ByteArray := prog_36_method_25_code
def yJx4a65c_add_9ea2d : MethodName := ⟨RJx4a65c, "add", "(Ljava/lang/Object;)Z"⟩
def RJ7 : String := "java/util/Arrays"
def TJ7 : u_T := fun k => match k with
  | _ => ("", "", "", false)
def tyJ7 : Nat → FieldType := fun k => match k with
  | _ => .int
abbrev wsJ70 : List Cond := u_ws RJ7 TJ7 0
theorem nmJ7 : ∀ a, a < 0 → ∀ b, b < 0 → a ≠ b → (TJ7 a).2.1 ≠ (TJ7 b).2.1 := by decide +kernel
theorem tyJ7_ok : ∀ k, k < 0 → parseFieldDescriptor (TJ7 k).2.2.1 = some (tyJ7 k) := by decide +kernel
abbrev cJ7_fill_53178 : ByteArray := prog_37_method_103_code
def yJ7_fill_53178 : MethodName := ⟨RJ7, "fill", "([II)V"⟩
abbrev cJ7_copyOf_1904c : ByteArray := prog_37_method_119_code
def yJ7_copyOf_1904c : MethodName := ⟨RJ7, "copyOf", "([Ljava/lang/Object;I)[Ljava/lang/Object;"⟩
abbrev cJ7_copyOf_6403c : ByteArray := prog_37_method_120_code
def yJ7_copyOf_6403c : MethodName := ⟨RJ7, "copyOf", "([Ljava/lang/Object;ILjava/lang/Class;)[Ljava/lang/Object;"⟩
abbrev cJ7_copyOf_9075b : ByteArray := prog_37_method_121_code
def yJ7_copyOf_9075b : MethodName := ⟨RJ7, "copyOf", "([BI)[B"⟩
abbrev cJ7_checkLength_df160 : ByteArray := prog_37_method_131_code
def yJ7_checkLength_df160 : MethodName := ⟨RJ7, "checkLength", "(II)V"⟩
abbrev cJ7_copyOfRange_39247 : ByteArray := prog_37_method_132_code
def yJ7_copyOfRange_39247 : MethodName := ⟨RJ7, "copyOfRange", "([BII)[B"⟩
abbrev cJ7_copyOfRangeByte_39247 : ByteArray := prog_37_method_133_code
def yJ7_copyOfRangeByte_39247 : MethodName := ⟨RJ7, "copyOfRangeByte", "([BII)[B"⟩
def RJx5ef63 : String := "java/util/Collection"
def TJx5ef63 : u_T := fun k => match k with
  | _ => ("", "", "", false)
def tyJx5ef63 : Nat → FieldType := fun k => match k with
  | _ => .int
abbrev wsJx5ef630 : List Cond := u_ws RJx5ef63 TJx5ef63 0
theorem nmJx5ef63 : ∀ a, a < 0 → ∀ b, b < 0 → a ≠ b → (TJx5ef63 a).2.1 ≠ (TJx5ef63 b).2.1 := by decide +kernel
theorem tyJx5ef63_ok : ∀ k, k < 0 → parseFieldDescriptor (TJx5ef63 k).2.2.1 = some (tyJx5ef63 k) := by decide +kernel
def RJxbd725 : String := "java/util/List"
def TJxbd725 : u_T := fun k => match k with
  | _ => ("", "", "", false)
def tyJxbd725 : Nat → FieldType := fun k => match k with
  | _ => .int
abbrev wsJxbd7250 : List Cond := u_ws RJxbd725 TJxbd725 0
theorem nmJxbd725 : ∀ a, a < 0 → ∀ b, b < 0 → a ≠ b → (TJxbd725 a).2.1 ≠ (TJxbd725 b).2.1 := by decide +kernel
theorem tyJxbd725_ok : ∀ k, k < 0 → parseFieldDescriptor (TJxbd725 k).2.2.1 = some (tyJxbd725 k) := by decide +kernel
def RJ15 : String := "java/util/Objects"
def TJ15 : u_T := fun k => match k with
  | _ => ("", "", "", false)
def tyJ15 : Nat → FieldType := fun k => match k with
  | _ => .int
abbrev wsJ150 : List Cond := u_ws RJ15 TJ15 0
theorem nmJ15 : ∀ a, a < 0 → ∀ b, b < 0 → a ≠ b → (TJ15 a).2.1 ≠ (TJ15 b).2.1 := by decide +kernel
theorem tyJ15_ok : ∀ k, k < 0 → parseFieldDescriptor (TJ15 k).2.2.1 = some (tyJ15 k) := by decide +kernel
abbrev cJ15_checkIndex_7cf53 : ByteArray := prog_40_method_17_code
def yJ15_checkIndex_7cf53 : MethodName := ⟨RJ15, "checkIndex", "(II)I"⟩
def RJxf0a74 : String := "java/util/RandomAccess"
def TJxf0a74 : u_T := fun k => match k with
  | _ => ("", "", "", false)
def tyJxf0a74 : Nat → FieldType := fun k => match k with
  | _ => .int
abbrev wsJxf0a740 : List Cond := u_ws RJxf0a74 TJxf0a74 0
theorem nmJxf0a74 : ∀ a, a < 0 → ∀ b, b < 0 → a ≠ b → (TJxf0a74 a).2.1 ≠ (TJxf0a74 b).2.1 := by decide +kernel
theorem tyJxf0a74_ok : ∀ k, k < 0 → parseFieldDescriptor (TJxf0a74 k).2.2.1 = some (tyJxf0a74 k) := by decide +kernel
def RJxa66e6 : String := "java/util/SequencedCollection"
def TJxa66e6 : u_T := fun k => match k with
  | _ => ("", "", "", false)
def tyJxa66e6 : Nat → FieldType := fun k => match k with
  | _ => .int
abbrev wsJxa66e60 : List Cond := u_ws RJxa66e6 TJxa66e6 0
theorem nmJxa66e6 : ∀ a, a < 0 → ∀ b, b < 0 → a ≠ b → (TJxa66e6 a).2.1 ≠ (TJxa66e6 b).2.1 := by decide +kernel
theorem tyJxa66e6_ok : ∀ k, k < 0 → parseFieldDescriptor (TJxa66e6 k).2.2.1 = some (tyJxa66e6 k) := by decide +kernel
def RJ8 : String := "jdk/internal/util/ArraysSupport"
def TJ8 : u_T := fun k => match k with
  | _ => ("", "", "", false)
def tyJ8 : Nat → FieldType := fun k => match k with
  | _ => .int
abbrev wsJ80 : List Cond := u_ws RJ8 TJ8 0
theorem nmJ8 : ∀ a, a < 0 → ∀ b, b < 0 → a ≠ b → (TJ8 a).2.1 ≠ (TJ8 b).2.1 := by decide +kernel
theorem tyJ8_ok : ∀ k, k < 0 → parseFieldDescriptor (TJ8 k).2.2.1 = some (tyJ8 k) := by decide +kernel
abbrev cJ8_newLength_cabcc : ByteArray := prog_43_method_27_code
def yJ8_newLength_cabcc : MethodName := ⟨RJ8, "newLength", "(III)I"⟩
abbrev cJ8_hugeLength_7cf53 : ByteArray := prog_43_method_28_code
def yJ8_hugeLength_7cf53 : MethodName := ⟨RJ8, "hugeLength", "(II)I"⟩
def RJ3 : String := "jdk/internal/util/Preconditions"
def TJ3 : u_T := fun k => match k with
  | _ => ("", "", "", false)
def tyJ3 : Nat → FieldType := fun k => match k with
  | _ => .int
abbrev wsJ30 : List Cond := u_ws RJ3 TJ3 0
theorem nmJ3 : ∀ a, a < 0 → ∀ b, b < 0 → a ≠ b → (TJ3 a).2.1 ≠ (TJ3 b).2.1 := by decide +kernel
theorem tyJ3_ok : ∀ k, k < 0 → parseFieldDescriptor (TJ3 k).2.2.1 = some (tyJ3 k) := by decide +kernel
abbrev cJ3_checkIndex_8e157 : ByteArray := prog_44_method_11_code
def yJ3_checkIndex_8e157 : MethodName := ⟨RJ3, "checkIndex", "(IILjava/util/function/BiFunction;)I"⟩
abbrev cJ3_checkFromToIndex_8c36e : ByteArray := prog_44_method_12_code
def yJ3_checkFromToIndex_8c36e : MethodName := ⟨RJ3, "checkFromToIndex", "(IIILjava/util/function/BiFunction;)I"⟩
abbrev cJ3_checkFromIndexSize_8c36e : ByteArray := prog_44_method_13_code
def yJ3_checkFromIndexSize_8c36e : MethodName := ⟨RJ3, "checkFromIndexSize", "(IIILjava/util/function/BiFunction;)I"⟩
def RL : String := "MarkChatLaw"
abbrev cL_user : ByteArray := method_3_code
def yL_user : MethodName := ⟨RL, "user", "(LMarkChat;I[J)I"⟩
abbrev cL_role : ByteArray := method_4_code
def yL_role : MethodName := ⟨RL, "role", "(LMarkChat;II[J)I"⟩
abbrev cL_ends : ByteArray := method_5_code
def yL_ends : MethodName := ⟨RL, "ends", "(LMarkChat;II[J)I"⟩
abbrev cL_budget : ByteArray := method_6_code
def yL_budget : MethodName := ⟨RL, "budget", "(LMarkChat;II[J)I"⟩
abbrev cL_post : ByteArray := method_7_code
def yL_post : MethodName := ⟨RL, "post", "(LMarkChat;III[J)I"⟩
abbrev cL_edit : ByteArray := method_8_code
def yL_edit : MethodName := ⟨RL, "edit", "(LMarkChat;II[J)I"⟩
abbrev cL_mark : ByteArray := method_9_code
def yL_mark : MethodName := ⟨RL, "mark", "(LMarkChat;III[J)I"⟩
abbrev cL_spend : ByteArray := method_10_code
def yL_spend : MethodName := ⟨RL, "spend", "(LMarkChat;III[J)I"⟩
abbrev cL_task : ByteArray := method_11_code
def yL_task : MethodName := ⟨RL, "task", "(LMarkChat;IIII[J)I"⟩
abbrev cL_done : ByteArray := method_12_code
def yL_done : MethodName := ⟨RL, "done", "(LMarkChat;II[J)I"⟩
abbrev cL_hold : ByteArray := method_13_code
def yL_hold : MethodName := ⟨RL, "hold", "(LMarkChat;I[J)I"⟩
abbrev cL_archive : ByteArray := method_14_code
def yL_archive : MethodName := ⟨RL, "archive", "(LMarkChat;I[J)I"⟩
abbrev cL_pass : ByteArray := method_15_code
def yL_pass : MethodName := ⟨RL, "pass", "(LMarkChat;I[J)I"⟩
abbrev cL_messageOf : ByteArray := method_16_code
def yL_messageOf : MethodName := ⟨RL, "messageOf", "(LMarkChat;II[J)I"⟩
abbrev cL_isApproved : ByteArray := method_17_code
def yL_isApproved : MethodName := ⟨RL, "isApproved", "(LMarkChat;IIZ[J)I"⟩
abbrev cL_spendOf : ByteArray := method_18_code
def yL_spendOf : MethodName := ⟨RL, "spendOf", "(LMarkChat;II[J)I"⟩
abbrev cL_left : ByteArray := method_19_code
def yL_left : MethodName := ⟨RL, "left", "(LMarkChat;I[J)I"⟩
abbrev cL_next : ByteArray := method_20_code
def yL_next : MethodName := ⟨RL, "next", "(LMarkChat;II[J)I"⟩
abbrev cL_taskOf : ByteArray := method_21_code
def yL_taskOf : MethodName := ⟨RL, "taskOf", "(LMarkChat;I[J)I"⟩
abbrev cL_label : ByteArray := method_22_code
def yL_label : MethodName := ⟨RL, "label", "(LMarkChat;II[J)I"⟩
abbrev cL_law : ByteArray := code
def yL_law : MethodName := ⟨RL, "law", "([I)Z"⟩
def wsX0_init : List Cond := .code yX0_init cX0_init 2 none :: ([.methodLink RX0 1 objectInit, .instanceMethod objectInit, .code objectInit ⟨#[0xb1]⟩ 1 none, .fieldLink RX0 7 "MarkChat$Channel" "number" "I"] ++ wsX00)
def wsX1_init : List Cond := .code yX1_init cX1_init 1 none :: ([.methodLink RX1 3 objectInit, .instanceMethod objectInit, .code objectInit ⟨#[0xb1]⟩ 1 none, .arrayClass .int, .fieldLink RX1 9 "MarkChat$Log" "messages" "[I", .fieldLink RX1 15 "MarkChat$Log" "users" "[I", .fieldLink RX1 18 "MarkChat$Log" "kinds" "[I"] ++ wsX10)
def wsX1_write : List Cond := .code yX1_write cX1_write 4 none :: ([.fieldLink RX1 25 "MarkChat$Log" "size" "I", .fieldLink RX1 9 "MarkChat$Log" "messages" "[I", .fieldLink RX1 15 "MarkChat$Log" "users" "[I", .fieldLink RX1 18 "MarkChat$Log" "kinds" "[I"] ++ wsX10)
def wsX1_writeEdit : List Cond := .code yX1_writeEdit cX1_writeEdit 2 none :: ([.methodLink RX1 21 yX1_write, .instanceMethod yX1_write, .selects RX1 yX1_write yX1_write, .initialized RX1, .code yX1_write cX1_write 4 none, .fieldLink RX1 25 "MarkChat$Log" "size" "I", .fieldLink RX1 9 "MarkChat$Log" "messages" "[I", .fieldLink RX1 15 "MarkChat$Log" "users" "[I", .fieldLink RX1 18 "MarkChat$Log" "kinds" "[I"] ++ wsX10)
def wsX1_writeMark : List Cond := .code yX1_writeMark cX1_writeMark 4 none :: ([.methodLink RX1 21 yX1_write, .instanceMethod yX1_write, .selects RX1 yX1_write yX1_write, .initialized RX1, .code yX1_write cX1_write 4 none, .fieldLink RX1 25 "MarkChat$Log" "size" "I", .fieldLink RX1 9 "MarkChat$Log" "messages" "[I", .fieldLink RX1 15 "MarkChat$Log" "users" "[I", .fieldLink RX1 18 "MarkChat$Log" "kinds" "[I"] ++ wsX10)
def wsJ7_fill_53178 : List Cond := .code yJ7_fill_53178 cJ7_fill_53178 4 none :: ([])
def wsX2_clear : List Cond := .code yX2_clear cX2_clear 1 none :: ([.fieldLink RX2 9 "MarkChat$Marks" "kinds" "[I", .methodLink RX2 15 yJ7_fill_53178, .static yJ7_fill_53178, .initialized RJ7, .code yJ7_fill_53178 cJ7_fill_53178 4 none] ++ wsX20)
def wsX2_put : List Cond := .code yX2_put cX2_put 3 none :: ([.fieldLink RX2 9 "MarkChat$Marks" "kinds" "[I"] ++ wsX20)
def wsX1_readInto : List Cond := .code yX1_readInto cX1_readInto 4 none :: ([.fieldLink RX1 25 "MarkChat$Log" "size" "I", .fieldLink RX1 9 "MarkChat$Log" "messages" "[I", .fieldLink RX1 18 "MarkChat$Log" "kinds" "[I", .fieldLink RX1 15 "MarkChat$Log" "users" "[I", .methodLink RX1 29 yX2_clear, .instanceMethod yX2_clear, .selects RX2 yX2_clear yX2_clear, .initialized RX2, .code yX2_clear cX2_clear 1 none, .fieldLink RX2 9 "MarkChat$Marks" "kinds" "[I", .methodLink RX2 15 yJ7_fill_53178, .static yJ7_fill_53178, .initialized RJ7, .code yJ7_fill_53178 cJ7_fill_53178 4 none, .methodLink RX1 34 yX2_put, .instanceMethod yX2_put, .selects RX2 yX2_put yX2_put, .code yX2_put cX2_put 3 none] ++ wsX10 ++ wsX20)
def wsX2_init : List Cond := .code yX2_init cX2_init 1 none :: ([.methodLink RX2 3 objectInit, .instanceMethod objectInit, .code objectInit ⟨#[0xb1]⟩ 1 none, .arrayClass .int, .fieldLink RX2 9 "MarkChat$Marks" "kinds" "[I", .methodLink RX2 15 yJ7_fill_53178, .static yJ7_fill_53178, .initialized RJ7, .code yJ7_fill_53178 cJ7_fill_53178 4 none] ++ wsX20)
def wsX2_kindOf : List Cond := .code yX2_kindOf cX2_kindOf 2 (some .int) :: ([.fieldLink RX2 9 "MarkChat$Marks" "kinds" "[I"] ++ wsX20)
def wsX3_init : List Cond := .code yX3_init cX3_init 6 none :: ([.methodLink RX3 1 objectInit, .instanceMethod objectInit, .code objectInit ⟨#[0xb1]⟩ 1 none, .fieldLink RX3 7 "MarkChat$Message" "number" "I", .fieldLink RX3 13 "MarkChat$Message" "author" "LMarkChat$User;", .fieldLink RX3 17 "MarkChat$Message" "channel" "LMarkChat$Channel;", .fieldLink RX3 21 "MarkChat$Message" "parent" "I", .fieldLink RX3 24 "MarkChat$Message" "postHour" "I", .classLink RX3 27 RX2, .instantiable RX2 1, .initialized RX2, .fieldLink RX3 30 "MarkChat$Message" "marks" "LMarkChat$Marks;", .methodLink RX3 29 yX2_init, .instanceMethod yX2_init, .code yX2_init cX2_init 1 none, .methodLink RX2 3 objectInit, .arrayClass .int, .fieldLink RX2 9 "MarkChat$Marks" "kinds" "[I", .methodLink RX2 15 yJ7_fill_53178, .static yJ7_fill_53178, .initialized RJ7, .code yJ7_fill_53178 cJ7_fill_53178 4 none] ++ wsX30 ++ wsX20)
def wsX4_init : List Cond := .code yX4_init cX4_init 4 none :: ([.methodLink RX4 3 objectInit, .instanceMethod objectInit, .code objectInit ⟨#[0xb1]⟩ 1 none, .fieldLink RX4 9 "MarkChat$Spend" "number" "I", .fieldLink RX4 15 "MarkChat$Spend" "message" "LMarkChat$Message;", .fieldLink RX4 19 "MarkChat$Message" "version" "I", .fieldLink RX4 24 "MarkChat$Spend" "version" "I", .fieldLink RX4 25 "MarkChat$Spend" "amount" "I", .fieldLink RX4 28 "MarkChat$Spend" "state" "I"] ++ wsX40 ++ wsX30)
def wsJ2_newBytesLength_0f7a4 : List Cond := .code yJ2_newBytesLength_0f7a4 cJ2_newBytesLength_0f7a4 1 (some .int) :: ([.constant RJ2 20 (1073741823)])
def wsJ2_newBytesFor_77867 : List Cond := .code yJ2_newBytesFor_77867 cJ2_newBytesFor_77867 1 (some (.array .byte)) :: ([.arrayClass .byte, .methodLink RJ2 11 yJ2_newBytesLength_0f7a4, .static yJ2_newBytesLength_0f7a4, .initialized RJ2, .code yJ2_newBytesLength_0f7a4 cJ2_newBytesLength_0f7a4 1 (some .int), .constant RJ2 20 (1073741823)])
def wsJ5_init_d00df : List Cond := .code yJ5_init_d00df cJ5_init_d00df 2 none :: ([.methodLink RJ5 3 objectInit, .instanceMethod objectInit, .code objectInit ⟨#[0xb1]⟩ 1 none, .fieldLink RJ5 18 "java/lang/String" "COMPACT_STRINGS" "Z", .arrayClass .byte, .fieldLink RJ5 15 "java/lang/AbstractStringBuilder" "value" "[B", .fieldLink RJ5 22 "java/lang/AbstractStringBuilder" "coder" "B", .methodLink RJ5 26 yJ2_newBytesFor_77867, .static yJ2_newBytesFor_77867, .initialized RJ2, .code yJ2_newBytesFor_77867 cJ2_newBytesFor_77867 1 (some (.array .byte)), .methodLink RJ2 11 yJ2_newBytesLength_0f7a4, .static yJ2_newBytesLength_0f7a4, .code yJ2_newBytesLength_0f7a4 cJ2_newBytesLength_0f7a4 1 (some .int), .constant RJ2 20 (1073741823)] ++ wsJ40)
def wsJ4_init_da8c8 : List Cond := .code yJ4_init_da8c8 cJ4_init_da8c8 1 none :: ([.methodLink RJ4 1 yJ5_init_d00df, .instanceMethod yJ5_init_d00df, .initialized RJ5, .code yJ5_init_d00df cJ5_init_d00df 2 none, .methodLink RJ5 3 objectInit, .instanceMethod objectInit, .code objectInit ⟨#[0xb1]⟩ 1 none, .fieldLink RJ5 18 "java/lang/String" "COMPACT_STRINGS" "Z", .arrayClass .byte, .fieldLink RJ5 15 "java/lang/AbstractStringBuilder" "value" "[B", .fieldLink RJ5 22 "java/lang/AbstractStringBuilder" "coder" "B", .methodLink RJ5 26 yJ2_newBytesFor_77867, .static yJ2_newBytesFor_77867, .initialized RJ2, .code yJ2_newBytesFor_77867 cJ2_newBytesFor_77867 1 (some (.array .byte)), .methodLink RJ2 11 yJ2_newBytesLength_0f7a4, .static yJ2_newBytesLength_0f7a4, .code yJ2_newBytesLength_0f7a4 cJ2_newBytesLength_0f7a4 1 (some .int), .constant RJ2 20 (1073741823)] ++ wsJ40)
def wsJ6_stringSize_0f7a4 : List Cond := .code yJ6_stringSize_0f7a4 cJ6_stringSize_0f7a4 4 (some .int) :: ([])
def wsJ8_hugeLength_7cf53 : List Cond := .code yJ8_hugeLength_7cf53 cJ8_hugeLength_7cf53 3 (some .int) :: ([.constant RJ8 200 (2147483639)])
def wsJ8_newLength_cabcc : List Cond := .code yJ8_newLength_cabcc cJ8_newLength_cabcc 4 (some .int) :: ([.methodLink RJ8 194 Lib.Math.max.name, .static Lib.Math.max.name, .initialized "java/lang/Math", .code Lib.Math.max.name Lib.Math.max.code 2 (some .int), .constant RJ8 200 (2147483639), .methodLink RJ8 201 yJ8_hugeLength_7cf53, .static yJ8_hugeLength_7cf53, .initialized RJ8, .code yJ8_hugeLength_7cf53 cJ8_hugeLength_7cf53 3 (some .int)])
def wsJ5_newCapacity_0f7a4 : List Cond := .code yJ5_newCapacity_0f7a4 cJ5_newCapacity_0f7a4 6 (some .int) :: ([.fieldLink RJ5 15 "java/lang/AbstractStringBuilder" "value" "[B", .fieldLink RJ5 22 "java/lang/AbstractStringBuilder" "coder" "B", .constant RJ5 39 (2147483647), .methodLink RJ5 114 yJ8_newLength_cabcc, .static yJ8_newLength_cabcc, .initialized RJ8, .code yJ8_newLength_cabcc cJ8_newLength_cabcc 4 (some .int), .methodLink RJ8 194 Lib.Math.max.name, .static Lib.Math.max.name, .initialized "java/lang/Math", .code Lib.Math.max.name Lib.Math.max.code 2 (some .int), .constant RJ8 200 (2147483639), .methodLink RJ8 201 yJ8_hugeLength_7cf53, .static yJ8_hugeLength_7cf53, .code yJ8_hugeLength_7cf53 cJ8_hugeLength_7cf53 3 (some .int)] ++ wsJ40)
def wsJ7_copyOf_9075b : List Cond := .code yJ7_copyOf_9075b cJ7_copyOf_9075b 3 (some (.array .byte)) :: ([.methodLink RJ7 310 ⟨"[B", "clone", "()Ljava/lang/Object;"⟩, .sameMethod "[B" "java/lang/Object" "clone" "()Ljava/lang/Object;", .native ⟨"java/lang/Object", "clone", "()Ljava/lang/Object;"⟩, .instanceMethod ⟨"java/lang/Object", "clone", "()Ljava/lang/Object;"⟩, .selects "[B" ⟨"[B", "clone", "()Ljava/lang/Object;"⟩ ⟨"java/lang/Object", "clone", "()Ljava/lang/Object;"⟩, .classLink RJ7 311 "[B", .arrayClass .byte, .methodLink RJ7 304 Lib.Math.min.name, .static Lib.Math.min.name, .initialized "java/lang/Math", .code Lib.Math.min.name Lib.Math.min.code 2 (some .int), .methodLink RJ7 150 arraycopyName, .native arraycopyName, .static arraycopyName, .initialized "java/lang/System"])
def wsJ5_ensureCapacityInternal_d00df_r1 : List Cond := [Cond.fieldLink RJ5 15 "java/lang/AbstractStringBuilder" "value" "[B", Cond.fieldLink RJ5 22 "java/lang/AbstractStringBuilder" "coder" "B", Cond.methodLink RJ5 104 ⟨"java/lang/AbstractStringBuilder", "newCapacity", "(I)I"⟩, Cond.sameMethod "java/lang/AbstractStringBuilder" "java/lang/AbstractStringBuilder" "newCapacity" "(I)I", Cond.selects RJ4 ⟨"java/lang/AbstractStringBuilder", "newCapacity", "(I)I"⟩ yJ5_newCapacity_0f7a4, Cond.instanceMethod yJ5_newCapacity_0f7a4, Cond.initialized RJ5, Cond.code yJ5_newCapacity_0f7a4 cJ5_newCapacity_0f7a4 6 (some .int), Cond.constant RJ5 39 (2147483647), Cond.methodLink RJ5 114 yJ8_newLength_cabcc, Cond.static yJ8_newLength_cabcc, Cond.initialized RJ8, Cond.code yJ8_newLength_cabcc cJ8_newLength_cabcc 4 (some .int), Cond.methodLink RJ8 194 Lib.Math.max.name, Cond.static Lib.Math.max.name, Cond.initialized "java/lang/Math", Cond.code Lib.Math.max.name Lib.Math.max.code 2 (some .int), Cond.constant RJ8 200 (2147483639), Cond.methodLink RJ8 201 yJ8_hugeLength_7cf53, Cond.static yJ8_hugeLength_7cf53, Cond.code yJ8_hugeLength_7cf53 cJ8_hugeLength_7cf53 3 (some .int), Cond.methodLink RJ5 108 yJ7_copyOf_9075b, Cond.static yJ7_copyOf_9075b, Cond.initialized RJ7]
def wsJ5_ensureCapacityInternal_d00df_r2 : List Cond := [Cond.code yJ7_copyOf_9075b cJ7_copyOf_9075b 3 (some (.array .byte)), Cond.methodLink RJ7 310 ⟨"[B", "clone", "()Ljava/lang/Object;"⟩, Cond.sameMethod "[B" "java/lang/Object" "clone" "()Ljava/lang/Object;", Cond.native ⟨"java/lang/Object", "clone", "()Ljava/lang/Object;"⟩, Cond.instanceMethod ⟨"java/lang/Object", "clone", "()Ljava/lang/Object;"⟩, Cond.selects "[B" ⟨"[B", "clone", "()Ljava/lang/Object;"⟩ ⟨"java/lang/Object", "clone", "()Ljava/lang/Object;"⟩, Cond.classLink RJ7 311 "[B", Cond.arrayClass .byte, Cond.methodLink RJ7 304 Lib.Math.min.name, Cond.static Lib.Math.min.name, Cond.code Lib.Math.min.name Lib.Math.min.code 2 (some .int), Cond.methodLink RJ7 150 arraycopyName, Cond.native arraycopyName, Cond.static arraycopyName, Cond.initialized "java/lang/System"]
def wsJ5_ensureCapacityInternal_d00df : List Cond := .code yJ5_ensureCapacityInternal_d00df cJ5_ensureCapacityInternal_d00df 3 none :: ((wsJ5_ensureCapacityInternal_d00df_r1 ++ wsJ5_ensureCapacityInternal_d00df_r2) ++ wsJ40)
def wsJ5_isLatin1_aae02 : List Cond := .code yJ5_isLatin1_aae02 cJ5_isLatin1_aae02 1 (some .boolean) :: ([.fieldLink RJ5 18 "java/lang/String" "COMPACT_STRINGS" "Z", .fieldLink RJ5 22 "java/lang/AbstractStringBuilder" "coder" "B"] ++ wsJ40)
def wsJ6_getChars_ba4f3 : List Cond := .code yJ6_getChars_ba4f3 cJ6_getChars_ba4f3 7 (some .int) :: ([.fieldLink RJ6 83 "java/lang/Integer" "DigitOnes" "[B", .fieldLink RJ6 87 "java/lang/Integer" "DigitTens" "[B"])
def wsJ2_length_9d52b : List Cond := .code yJ2_length_9d52b cJ2_length_9d52b 1 (some .int) :: ([])
def wsJ3_checkFromToIndex_8c36e : List Cond := .code yJ3_checkFromToIndex_8c36e cJ3_checkFromToIndex_8c36e 4 (some .int) :: ([])
def wsJ0_checkBoundsBeginEnd_23922 : List Cond := .code yJ0_checkBoundsBeginEnd_23922 cJ0_checkBoundsBeginEnd_23922 3 none :: ([.fieldLink RJ0 1053 "jdk/internal/util/Preconditions" "SIOOBE_FORMATTER" "Ljava/util/function/BiFunction;", .methodLink RJ0 1062 yJ3_checkFromToIndex_8c36e, .static yJ3_checkFromToIndex_8c36e, .initialized RJ3, .code yJ3_checkFromToIndex_8c36e cJ3_checkFromToIndex_8c36e 4 (some .int)])
def wsJ2_checkBoundsBeginEnd_d044e : List Cond := .code yJ2_checkBoundsBeginEnd_d044e cJ2_checkBoundsBeginEnd_d044e 3 none :: ([.methodLink RJ2 48 yJ2_length_9d52b, .static yJ2_length_9d52b, .initialized RJ2, .code yJ2_length_9d52b cJ2_length_9d52b 1 (some .int), .methodLink RJ2 241 yJ0_checkBoundsBeginEnd_23922, .static yJ0_checkBoundsBeginEnd_23922, .initialized RJ0, .code yJ0_checkBoundsBeginEnd_23922 cJ0_checkBoundsBeginEnd_23922 3 none, .fieldLink RJ0 1053 "jdk/internal/util/Preconditions" "SIOOBE_FORMATTER" "Ljava/util/function/BiFunction;", .methodLink RJ0 1062 yJ3_checkFromToIndex_8c36e, .static yJ3_checkFromToIndex_8c36e, .initialized RJ3, .code yJ3_checkFromToIndex_8c36e cJ3_checkFromToIndex_8c36e 4 (some .int)])
def wsJ2_putChar_b72d1 : List Cond := .code yJ2_putChar_b72d1 cJ2_putChar_b72d1 3 none :: ([.fieldLink RJ2 44 "java/lang/StringUTF16" "$assertionsDisabled" "Z", .fieldLink RJ2 59 "java/lang/StringUTF16" "HI_BYTE_SHIFT" "I", .fieldLink RJ2 63 "java/lang/StringUTF16" "LO_BYTE_SHIFT" "I", .methodLink RJ2 48 yJ2_length_9d52b, .static yJ2_length_9d52b, .initialized RJ2, .code yJ2_length_9d52b cJ2_length_9d52b 1 (some .int)])
def wsJ2_getChars_ba4f3 : List Cond := .code yJ2_getChars_ba4f3 cJ2_getChars_ba4f3 7 (some .int) :: ([.fieldLink RJ2 403 "java/lang/Integer" "DigitOnes" "[B", .fieldLink RJ2 407 "java/lang/Integer" "DigitTens" "[B", .methodLink RJ2 111 yJ2_putChar_b72d1, .static yJ2_putChar_b72d1, .initialized RJ2, .code yJ2_putChar_b72d1 cJ2_putChar_b72d1 3 none, .fieldLink RJ2 44 "java/lang/StringUTF16" "$assertionsDisabled" "Z", .fieldLink RJ2 59 "java/lang/StringUTF16" "HI_BYTE_SHIFT" "I", .fieldLink RJ2 63 "java/lang/StringUTF16" "LO_BYTE_SHIFT" "I", .methodLink RJ2 48 yJ2_length_9d52b, .static yJ2_length_9d52b, .code yJ2_length_9d52b cJ2_length_9d52b 1 (some .int)])
def wsJ2_getChars_46870_r1 : List Cond := [Cond.fieldLink RJ2 44 "java/lang/StringUTF16" "$assertionsDisabled" "Z", Cond.methodLink RJ2 96 yJ2_checkBoundsBeginEnd_d044e, Cond.static yJ2_checkBoundsBeginEnd_d044e, Cond.initialized RJ2, Cond.code yJ2_checkBoundsBeginEnd_d044e cJ2_checkBoundsBeginEnd_d044e 3 none, Cond.methodLink RJ2 48 yJ2_length_9d52b, Cond.static yJ2_length_9d52b, Cond.code yJ2_length_9d52b cJ2_length_9d52b 1 (some .int), Cond.methodLink RJ2 241 yJ0_checkBoundsBeginEnd_23922, Cond.static yJ0_checkBoundsBeginEnd_23922, Cond.initialized RJ0, Cond.code yJ0_checkBoundsBeginEnd_23922 cJ0_checkBoundsBeginEnd_23922 3 none, Cond.fieldLink RJ0 1053 "jdk/internal/util/Preconditions" "SIOOBE_FORMATTER" "Ljava/util/function/BiFunction;", Cond.methodLink RJ0 1062 yJ3_checkFromToIndex_8c36e, Cond.static yJ3_checkFromToIndex_8c36e, Cond.initialized RJ3, Cond.code yJ3_checkFromToIndex_8c36e cJ3_checkFromToIndex_8c36e 4 (some .int), Cond.methodLink RJ2 393 yJ2_getChars_ba4f3, Cond.static yJ2_getChars_ba4f3, Cond.code yJ2_getChars_ba4f3 cJ2_getChars_ba4f3 7 (some .int), Cond.fieldLink RJ2 403 "java/lang/Integer" "DigitOnes" "[B", Cond.fieldLink RJ2 407 "java/lang/Integer" "DigitTens" "[B", Cond.methodLink RJ2 111 yJ2_putChar_b72d1, Cond.static yJ2_putChar_b72d1]
def wsJ2_getChars_46870_r2 : List Cond := [Cond.code yJ2_putChar_b72d1 cJ2_putChar_b72d1 3 none, Cond.fieldLink RJ2 59 "java/lang/StringUTF16" "HI_BYTE_SHIFT" "I", Cond.fieldLink RJ2 63 "java/lang/StringUTF16" "LO_BYTE_SHIFT" "I"]
def wsJ2_getChars_46870 : List Cond := .code yJ2_getChars_46870 cJ2_getChars_46870 5 (some .int) :: ((wsJ2_getChars_46870_r1 ++ wsJ2_getChars_46870_r2))
def wsJ5_append_c97b9_r1 : List Cond := [Cond.fieldLink RJ5 79 "java/lang/AbstractStringBuilder" "count" "I", Cond.fieldLink RJ5 15 "java/lang/AbstractStringBuilder" "value" "[B", Cond.methodLink RJ5 245 yJ6_stringSize_0f7a4, Cond.static yJ6_stringSize_0f7a4, Cond.initialized RJ6, Cond.code yJ6_stringSize_0f7a4 cJ6_stringSize_0f7a4 4 (some .int), Cond.methodLink RJ5 100 ⟨"java/lang/AbstractStringBuilder", "ensureCapacityInternal", "(I)V"⟩, Cond.sameMethod "java/lang/AbstractStringBuilder" "java/lang/AbstractStringBuilder" "ensureCapacityInternal" "(I)V", Cond.selects RJ4 ⟨"java/lang/AbstractStringBuilder", "ensureCapacityInternal", "(I)V"⟩ yJ5_ensureCapacityInternal_d00df, Cond.instanceMethod yJ5_ensureCapacityInternal_d00df, Cond.initialized RJ5, Cond.code yJ5_ensureCapacityInternal_d00df cJ5_ensureCapacityInternal_d00df 3 none, Cond.fieldLink RJ5 22 "java/lang/AbstractStringBuilder" "coder" "B", Cond.methodLink RJ5 104 ⟨"java/lang/AbstractStringBuilder", "newCapacity", "(I)I"⟩, Cond.sameMethod "java/lang/AbstractStringBuilder" "java/lang/AbstractStringBuilder" "newCapacity" "(I)I", Cond.selects RJ4 ⟨"java/lang/AbstractStringBuilder", "newCapacity", "(I)I"⟩ yJ5_newCapacity_0f7a4, Cond.instanceMethod yJ5_newCapacity_0f7a4, Cond.code yJ5_newCapacity_0f7a4 cJ5_newCapacity_0f7a4 6 (some .int), Cond.constant RJ5 39 (2147483647), Cond.methodLink RJ5 114 yJ8_newLength_cabcc, Cond.static yJ8_newLength_cabcc, Cond.initialized RJ8, Cond.code yJ8_newLength_cabcc cJ8_newLength_cabcc 4 (some .int), Cond.methodLink RJ8 194 Lib.Math.max.name]
def wsJ5_append_c97b9_r2 : List Cond := [Cond.static Lib.Math.max.name, Cond.initialized "java/lang/Math", Cond.code Lib.Math.max.name Lib.Math.max.code 2 (some .int), Cond.constant RJ8 200 (2147483639), Cond.methodLink RJ8 201 yJ8_hugeLength_7cf53, Cond.static yJ8_hugeLength_7cf53, Cond.code yJ8_hugeLength_7cf53 cJ8_hugeLength_7cf53 3 (some .int), Cond.methodLink RJ5 108 yJ7_copyOf_9075b, Cond.static yJ7_copyOf_9075b, Cond.initialized RJ7, Cond.code yJ7_copyOf_9075b cJ7_copyOf_9075b 3 (some (.array .byte)), Cond.methodLink RJ7 310 ⟨"[B", "clone", "()Ljava/lang/Object;"⟩, Cond.sameMethod "[B" "java/lang/Object" "clone" "()Ljava/lang/Object;", Cond.native ⟨"java/lang/Object", "clone", "()Ljava/lang/Object;"⟩, Cond.instanceMethod ⟨"java/lang/Object", "clone", "()Ljava/lang/Object;"⟩, Cond.selects "[B" ⟨"[B", "clone", "()Ljava/lang/Object;"⟩ ⟨"java/lang/Object", "clone", "()Ljava/lang/Object;"⟩, Cond.classLink RJ7 311 "[B", Cond.arrayClass .byte, Cond.methodLink RJ7 304 Lib.Math.min.name, Cond.static Lib.Math.min.name, Cond.code Lib.Math.min.name Lib.Math.min.code 2 (some .int), Cond.methodLink RJ7 150 arraycopyName, Cond.native arraycopyName, Cond.static arraycopyName]
def wsJ5_append_c97b9_r3 : List Cond := [Cond.initialized "java/lang/System", Cond.methodLink RJ5 83 ⟨"java/lang/AbstractStringBuilder", "isLatin1", "()Z"⟩, Cond.sameMethod "java/lang/AbstractStringBuilder" "java/lang/AbstractStringBuilder" "isLatin1" "()Z", Cond.selects RJ4 ⟨"java/lang/AbstractStringBuilder", "isLatin1", "()Z"⟩ yJ5_isLatin1_aae02, Cond.instanceMethod yJ5_isLatin1_aae02, Cond.code yJ5_isLatin1_aae02 cJ5_isLatin1_aae02 1 (some .boolean), Cond.fieldLink RJ5 18 "java/lang/String" "COMPACT_STRINGS" "Z", Cond.methodLink RJ5 248 yJ6_getChars_ba4f3, Cond.static yJ6_getChars_ba4f3, Cond.code yJ6_getChars_ba4f3 cJ6_getChars_ba4f3 7 (some .int), Cond.fieldLink RJ6 83 "java/lang/Integer" "DigitOnes" "[B", Cond.fieldLink RJ6 87 "java/lang/Integer" "DigitTens" "[B", Cond.methodLink RJ5 251 yJ2_getChars_46870, Cond.static yJ2_getChars_46870, Cond.initialized RJ2, Cond.code yJ2_getChars_46870 cJ2_getChars_46870 5 (some .int), Cond.fieldLink RJ2 44 "java/lang/StringUTF16" "$assertionsDisabled" "Z", Cond.methodLink RJ2 96 yJ2_checkBoundsBeginEnd_d044e, Cond.static yJ2_checkBoundsBeginEnd_d044e, Cond.code yJ2_checkBoundsBeginEnd_d044e cJ2_checkBoundsBeginEnd_d044e 3 none, Cond.methodLink RJ2 48 yJ2_length_9d52b, Cond.static yJ2_length_9d52b, Cond.code yJ2_length_9d52b cJ2_length_9d52b 1 (some .int), Cond.methodLink RJ2 241 yJ0_checkBoundsBeginEnd_23922]
def wsJ5_append_c97b9_r4 : List Cond := [Cond.static yJ0_checkBoundsBeginEnd_23922, Cond.initialized RJ0, Cond.code yJ0_checkBoundsBeginEnd_23922 cJ0_checkBoundsBeginEnd_23922 3 none, Cond.fieldLink RJ0 1053 "jdk/internal/util/Preconditions" "SIOOBE_FORMATTER" "Ljava/util/function/BiFunction;", Cond.methodLink RJ0 1062 yJ3_checkFromToIndex_8c36e, Cond.static yJ3_checkFromToIndex_8c36e, Cond.initialized RJ3, Cond.code yJ3_checkFromToIndex_8c36e cJ3_checkFromToIndex_8c36e 4 (some .int), Cond.methodLink RJ2 393 yJ2_getChars_ba4f3, Cond.static yJ2_getChars_ba4f3, Cond.code yJ2_getChars_ba4f3 cJ2_getChars_ba4f3 7 (some .int), Cond.fieldLink RJ2 403 "java/lang/Integer" "DigitOnes" "[B", Cond.fieldLink RJ2 407 "java/lang/Integer" "DigitTens" "[B", Cond.methodLink RJ2 111 yJ2_putChar_b72d1, Cond.static yJ2_putChar_b72d1, Cond.code yJ2_putChar_b72d1 cJ2_putChar_b72d1 3 none, Cond.fieldLink RJ2 59 "java/lang/StringUTF16" "HI_BYTE_SHIFT" "I", Cond.fieldLink RJ2 63 "java/lang/StringUTF16" "LO_BYTE_SHIFT" "I"]
def wsJ5_append_c97b9 : List Cond := .code yJ5_append_c97b9 cJ5_append_c97b9 4 (some (.object "java/lang/AbstractStringBuilder")) :: ((wsJ5_append_c97b9_r1 ++ (wsJ5_append_c97b9_r2 ++ (wsJ5_append_c97b9_r3 ++ wsJ5_append_c97b9_r4))) ++ wsJ40)
def wsJ4_append_bf812_r1 : List Cond := [Cond.methodLink RJ4 53 yJ5_append_c97b9, Cond.sameMethod "java/lang/AbstractStringBuilder" "java/lang/AbstractStringBuilder" "append" "(I)Ljava/lang/AbstractStringBuilder;", Cond.superclass RJ4 RJ5, Cond.instanceMethod yJ5_append_c97b9, Cond.initialized RJ5, Cond.code yJ5_append_c97b9 cJ5_append_c97b9 4 (some (.object "java/lang/AbstractStringBuilder")), Cond.fieldLink RJ5 79 "java/lang/AbstractStringBuilder" "count" "I", Cond.fieldLink RJ5 15 "java/lang/AbstractStringBuilder" "value" "[B", Cond.methodLink RJ5 245 yJ6_stringSize_0f7a4, Cond.static yJ6_stringSize_0f7a4, Cond.initialized RJ6, Cond.code yJ6_stringSize_0f7a4 cJ6_stringSize_0f7a4 4 (some .int), Cond.methodLink RJ5 100 ⟨"java/lang/AbstractStringBuilder", "ensureCapacityInternal", "(I)V"⟩, Cond.sameMethod "java/lang/AbstractStringBuilder" "java/lang/AbstractStringBuilder" "ensureCapacityInternal" "(I)V", Cond.selects RJ4 ⟨"java/lang/AbstractStringBuilder", "ensureCapacityInternal", "(I)V"⟩ yJ5_ensureCapacityInternal_d00df, Cond.instanceMethod yJ5_ensureCapacityInternal_d00df, Cond.code yJ5_ensureCapacityInternal_d00df cJ5_ensureCapacityInternal_d00df 3 none, Cond.fieldLink RJ5 22 "java/lang/AbstractStringBuilder" "coder" "B", Cond.methodLink RJ5 104 ⟨"java/lang/AbstractStringBuilder", "newCapacity", "(I)I"⟩, Cond.sameMethod "java/lang/AbstractStringBuilder" "java/lang/AbstractStringBuilder" "newCapacity" "(I)I", Cond.selects RJ4 ⟨"java/lang/AbstractStringBuilder", "newCapacity", "(I)I"⟩ yJ5_newCapacity_0f7a4, Cond.instanceMethod yJ5_newCapacity_0f7a4, Cond.code yJ5_newCapacity_0f7a4 cJ5_newCapacity_0f7a4 6 (some .int), Cond.constant RJ5 39 (2147483647)]
def wsJ4_append_bf812_r2 : List Cond := [Cond.methodLink RJ5 114 yJ8_newLength_cabcc, Cond.static yJ8_newLength_cabcc, Cond.initialized RJ8, Cond.code yJ8_newLength_cabcc cJ8_newLength_cabcc 4 (some .int), Cond.methodLink RJ8 194 Lib.Math.max.name, Cond.static Lib.Math.max.name, Cond.initialized "java/lang/Math", Cond.code Lib.Math.max.name Lib.Math.max.code 2 (some .int), Cond.constant RJ8 200 (2147483639), Cond.methodLink RJ8 201 yJ8_hugeLength_7cf53, Cond.static yJ8_hugeLength_7cf53, Cond.code yJ8_hugeLength_7cf53 cJ8_hugeLength_7cf53 3 (some .int), Cond.methodLink RJ5 108 yJ7_copyOf_9075b, Cond.static yJ7_copyOf_9075b, Cond.initialized RJ7, Cond.code yJ7_copyOf_9075b cJ7_copyOf_9075b 3 (some (.array .byte)), Cond.methodLink RJ7 310 ⟨"[B", "clone", "()Ljava/lang/Object;"⟩, Cond.sameMethod "[B" "java/lang/Object" "clone" "()Ljava/lang/Object;", Cond.native ⟨"java/lang/Object", "clone", "()Ljava/lang/Object;"⟩, Cond.instanceMethod ⟨"java/lang/Object", "clone", "()Ljava/lang/Object;"⟩, Cond.selects "[B" ⟨"[B", "clone", "()Ljava/lang/Object;"⟩ ⟨"java/lang/Object", "clone", "()Ljava/lang/Object;"⟩, Cond.classLink RJ7 311 "[B", Cond.arrayClass .byte, Cond.methodLink RJ7 304 Lib.Math.min.name]
def wsJ4_append_bf812_r3 : List Cond := [Cond.static Lib.Math.min.name, Cond.code Lib.Math.min.name Lib.Math.min.code 2 (some .int), Cond.methodLink RJ7 150 arraycopyName, Cond.native arraycopyName, Cond.static arraycopyName, Cond.initialized "java/lang/System", Cond.methodLink RJ5 83 ⟨"java/lang/AbstractStringBuilder", "isLatin1", "()Z"⟩, Cond.sameMethod "java/lang/AbstractStringBuilder" "java/lang/AbstractStringBuilder" "isLatin1" "()Z", Cond.selects RJ4 ⟨"java/lang/AbstractStringBuilder", "isLatin1", "()Z"⟩ yJ5_isLatin1_aae02, Cond.instanceMethod yJ5_isLatin1_aae02, Cond.code yJ5_isLatin1_aae02 cJ5_isLatin1_aae02 1 (some .boolean), Cond.fieldLink RJ5 18 "java/lang/String" "COMPACT_STRINGS" "Z", Cond.methodLink RJ5 248 yJ6_getChars_ba4f3, Cond.static yJ6_getChars_ba4f3, Cond.code yJ6_getChars_ba4f3 cJ6_getChars_ba4f3 7 (some .int), Cond.fieldLink RJ6 83 "java/lang/Integer" "DigitOnes" "[B", Cond.fieldLink RJ6 87 "java/lang/Integer" "DigitTens" "[B", Cond.methodLink RJ5 251 yJ2_getChars_46870, Cond.static yJ2_getChars_46870, Cond.initialized RJ2, Cond.code yJ2_getChars_46870 cJ2_getChars_46870 5 (some .int), Cond.fieldLink RJ2 44 "java/lang/StringUTF16" "$assertionsDisabled" "Z", Cond.methodLink RJ2 96 yJ2_checkBoundsBeginEnd_d044e, Cond.static yJ2_checkBoundsBeginEnd_d044e]
def wsJ4_append_bf812_r4 : List Cond := [Cond.code yJ2_checkBoundsBeginEnd_d044e cJ2_checkBoundsBeginEnd_d044e 3 none, Cond.methodLink RJ2 48 yJ2_length_9d52b, Cond.static yJ2_length_9d52b, Cond.code yJ2_length_9d52b cJ2_length_9d52b 1 (some .int), Cond.methodLink RJ2 241 yJ0_checkBoundsBeginEnd_23922, Cond.static yJ0_checkBoundsBeginEnd_23922, Cond.initialized RJ0, Cond.code yJ0_checkBoundsBeginEnd_23922 cJ0_checkBoundsBeginEnd_23922 3 none, Cond.fieldLink RJ0 1053 "jdk/internal/util/Preconditions" "SIOOBE_FORMATTER" "Ljava/util/function/BiFunction;", Cond.methodLink RJ0 1062 yJ3_checkFromToIndex_8c36e, Cond.static yJ3_checkFromToIndex_8c36e, Cond.initialized RJ3, Cond.code yJ3_checkFromToIndex_8c36e cJ3_checkFromToIndex_8c36e 4 (some .int), Cond.methodLink RJ2 393 yJ2_getChars_ba4f3, Cond.static yJ2_getChars_ba4f3, Cond.code yJ2_getChars_ba4f3 cJ2_getChars_ba4f3 7 (some .int), Cond.fieldLink RJ2 403 "java/lang/Integer" "DigitOnes" "[B", Cond.fieldLink RJ2 407 "java/lang/Integer" "DigitTens" "[B", Cond.methodLink RJ2 111 yJ2_putChar_b72d1, Cond.static yJ2_putChar_b72d1, Cond.code yJ2_putChar_b72d1 cJ2_putChar_b72d1 3 none, Cond.fieldLink RJ2 59 "java/lang/StringUTF16" "HI_BYTE_SHIFT" "I", Cond.fieldLink RJ2 63 "java/lang/StringUTF16" "LO_BYTE_SHIFT" "I"]
def wsJ4_append_bf812 : List Cond := .code yJ4_append_bf812 cJ4_append_bf812 2 (some (.object "java/lang/StringBuilder")) :: ((wsJ4_append_bf812_r1 ++ (wsJ4_append_bf812_r2 ++ (wsJ4_append_bf812_r3 ++ wsJ4_append_bf812_r4))) ++ wsJ40)
def wsJ1_canEncode_fc78d : List Cond := .code yJ1_canEncode_fc78d cJ1_canEncode_fc78d 1 (some .boolean) :: ([])
def wsJ3_checkFromIndexSize_8c36e : List Cond := .code yJ3_checkFromIndexSize_8c36e cJ3_checkFromIndexSize_8c36e 4 (some .int) :: ([])
def wsJ0_checkBoundsOffCount_cabcc : List Cond := .code yJ0_checkBoundsOffCount_cabcc cJ0_checkBoundsOffCount_cabcc 3 (some .int) :: ([.fieldLink RJ0 1053 "jdk/internal/util/Preconditions" "SIOOBE_FORMATTER" "Ljava/util/function/BiFunction;", .methodLink RJ0 1065 yJ3_checkFromIndexSize_8c36e, .static yJ3_checkFromIndexSize_8c36e, .initialized RJ3, .code yJ3_checkFromIndexSize_8c36e cJ3_checkFromIndexSize_8c36e 4 (some .int)])
def wsJ2_checkBoundsOffCount_d044e : List Cond := .code yJ2_checkBoundsOffCount_d044e cJ2_checkBoundsOffCount_d044e 3 none :: ([.methodLink RJ2 48 yJ2_length_9d52b, .static yJ2_length_9d52b, .initialized RJ2, .code yJ2_length_9d52b cJ2_length_9d52b 1 (some .int), .methodLink RJ2 419 yJ0_checkBoundsOffCount_cabcc, .static yJ0_checkBoundsOffCount_cabcc, .initialized RJ0, .code yJ0_checkBoundsOffCount_cabcc cJ0_checkBoundsOffCount_cabcc 3 (some .int), .fieldLink RJ0 1053 "jdk/internal/util/Preconditions" "SIOOBE_FORMATTER" "Ljava/util/function/BiFunction;", .methodLink RJ0 1065 yJ3_checkFromIndexSize_8c36e, .static yJ3_checkFromIndexSize_8c36e, .initialized RJ3, .code yJ3_checkFromIndexSize_8c36e cJ3_checkFromIndexSize_8c36e 4 (some .int)])
def wsJ2_inflate_0e8fd : List Cond := .code yJ2_inflate_0e8fd cJ2_inflate_0e8fd 6 none :: ([.methodLink RJ2 173 yJ2_checkBoundsOffCount_d044e, .static yJ2_checkBoundsOffCount_d044e, .initialized RJ2, .code yJ2_checkBoundsOffCount_d044e cJ2_checkBoundsOffCount_d044e 3 none, .methodLink RJ2 48 yJ2_length_9d52b, .static yJ2_length_9d52b, .code yJ2_length_9d52b cJ2_length_9d52b 1 (some .int), .methodLink RJ2 419 yJ0_checkBoundsOffCount_cabcc, .static yJ0_checkBoundsOffCount_cabcc, .initialized RJ0, .code yJ0_checkBoundsOffCount_cabcc cJ0_checkBoundsOffCount_cabcc 3 (some .int), .fieldLink RJ0 1053 "jdk/internal/util/Preconditions" "SIOOBE_FORMATTER" "Ljava/util/function/BiFunction;", .methodLink RJ0 1065 yJ3_checkFromIndexSize_8c36e, .static yJ3_checkFromIndexSize_8c36e, .initialized RJ3, .code yJ3_checkFromIndexSize_8c36e cJ3_checkFromIndexSize_8c36e 4 (some .int), .methodLink RJ2 111 yJ2_putChar_b72d1, .static yJ2_putChar_b72d1, .code yJ2_putChar_b72d1 cJ2_putChar_b72d1 3 none, .fieldLink RJ2 44 "java/lang/StringUTF16" "$assertionsDisabled" "Z", .fieldLink RJ2 59 "java/lang/StringUTF16" "HI_BYTE_SHIFT" "I", .fieldLink RJ2 63 "java/lang/StringUTF16" "LO_BYTE_SHIFT" "I"])
def wsJ1_inflate_0e8fd_r1 : List Cond := [Cond.methodLink RJ1 240 yJ2_inflate_0e8fd, Cond.static yJ2_inflate_0e8fd, Cond.initialized RJ2, Cond.code yJ2_inflate_0e8fd cJ2_inflate_0e8fd 6 none, Cond.methodLink RJ2 173 yJ2_checkBoundsOffCount_d044e, Cond.static yJ2_checkBoundsOffCount_d044e, Cond.code yJ2_checkBoundsOffCount_d044e cJ2_checkBoundsOffCount_d044e 3 none, Cond.methodLink RJ2 48 yJ2_length_9d52b, Cond.static yJ2_length_9d52b, Cond.code yJ2_length_9d52b cJ2_length_9d52b 1 (some .int), Cond.methodLink RJ2 419 yJ0_checkBoundsOffCount_cabcc, Cond.static yJ0_checkBoundsOffCount_cabcc, Cond.initialized RJ0, Cond.code yJ0_checkBoundsOffCount_cabcc cJ0_checkBoundsOffCount_cabcc 3 (some .int), Cond.fieldLink RJ0 1053 "jdk/internal/util/Preconditions" "SIOOBE_FORMATTER" "Ljava/util/function/BiFunction;", Cond.methodLink RJ0 1065 yJ3_checkFromIndexSize_8c36e, Cond.static yJ3_checkFromIndexSize_8c36e, Cond.initialized RJ3, Cond.code yJ3_checkFromIndexSize_8c36e cJ3_checkFromIndexSize_8c36e 4 (some .int), Cond.methodLink RJ2 111 yJ2_putChar_b72d1, Cond.static yJ2_putChar_b72d1, Cond.code yJ2_putChar_b72d1 cJ2_putChar_b72d1 3 none, Cond.fieldLink RJ2 44 "java/lang/StringUTF16" "$assertionsDisabled" "Z", Cond.fieldLink RJ2 59 "java/lang/StringUTF16" "HI_BYTE_SHIFT" "I"]
def wsJ1_inflate_0e8fd_r2 : List Cond := [Cond.fieldLink RJ2 63 "java/lang/StringUTF16" "LO_BYTE_SHIFT" "I"]
def wsJ1_inflate_0e8fd : List Cond := .code yJ1_inflate_0e8fd cJ1_inflate_0e8fd 5 none :: ((wsJ1_inflate_0e8fd_r1 ++ wsJ1_inflate_0e8fd_r2))
def wsJ5_inflate_da8c8_r1 : List Cond := [Cond.fieldLink RJ5 15 "java/lang/AbstractStringBuilder" "value" "[B", Cond.fieldLink RJ5 79 "java/lang/AbstractStringBuilder" "count" "I", Cond.fieldLink RJ5 22 "java/lang/AbstractStringBuilder" "coder" "B", Cond.methodLink RJ5 83 ⟨"java/lang/AbstractStringBuilder", "isLatin1", "()Z"⟩, Cond.sameMethod "java/lang/AbstractStringBuilder" "java/lang/AbstractStringBuilder" "isLatin1" "()Z", Cond.selects RJ4 ⟨"java/lang/AbstractStringBuilder", "isLatin1", "()Z"⟩ yJ5_isLatin1_aae02, Cond.instanceMethod yJ5_isLatin1_aae02, Cond.initialized RJ5, Cond.code yJ5_isLatin1_aae02 cJ5_isLatin1_aae02 1 (some .boolean), Cond.fieldLink RJ5 18 "java/lang/String" "COMPACT_STRINGS" "Z", Cond.methodLink RJ5 26 yJ2_newBytesFor_77867, Cond.static yJ2_newBytesFor_77867, Cond.initialized RJ2, Cond.code yJ2_newBytesFor_77867 cJ2_newBytesFor_77867 1 (some (.array .byte)), Cond.arrayClass .byte, Cond.methodLink RJ2 11 yJ2_newBytesLength_0f7a4, Cond.static yJ2_newBytesLength_0f7a4, Cond.code yJ2_newBytesLength_0f7a4 cJ2_newBytesLength_0f7a4 1 (some .int), Cond.constant RJ2 20 (1073741823), Cond.methodLink RJ5 125 yJ1_inflate_0e8fd, Cond.static yJ1_inflate_0e8fd, Cond.initialized RJ1, Cond.code yJ1_inflate_0e8fd cJ1_inflate_0e8fd 5 none, Cond.methodLink RJ1 240 yJ2_inflate_0e8fd]
def wsJ5_inflate_da8c8_r2 : List Cond := [Cond.static yJ2_inflate_0e8fd, Cond.code yJ2_inflate_0e8fd cJ2_inflate_0e8fd 6 none, Cond.methodLink RJ2 173 yJ2_checkBoundsOffCount_d044e, Cond.static yJ2_checkBoundsOffCount_d044e, Cond.code yJ2_checkBoundsOffCount_d044e cJ2_checkBoundsOffCount_d044e 3 none, Cond.methodLink RJ2 48 yJ2_length_9d52b, Cond.static yJ2_length_9d52b, Cond.code yJ2_length_9d52b cJ2_length_9d52b 1 (some .int), Cond.methodLink RJ2 419 yJ0_checkBoundsOffCount_cabcc, Cond.static yJ0_checkBoundsOffCount_cabcc, Cond.initialized RJ0, Cond.code yJ0_checkBoundsOffCount_cabcc cJ0_checkBoundsOffCount_cabcc 3 (some .int), Cond.fieldLink RJ0 1053 "jdk/internal/util/Preconditions" "SIOOBE_FORMATTER" "Ljava/util/function/BiFunction;", Cond.methodLink RJ0 1065 yJ3_checkFromIndexSize_8c36e, Cond.static yJ3_checkFromIndexSize_8c36e, Cond.initialized RJ3, Cond.code yJ3_checkFromIndexSize_8c36e cJ3_checkFromIndexSize_8c36e 4 (some .int), Cond.methodLink RJ2 111 yJ2_putChar_b72d1, Cond.static yJ2_putChar_b72d1, Cond.code yJ2_putChar_b72d1 cJ2_putChar_b72d1 3 none, Cond.fieldLink RJ2 44 "java/lang/StringUTF16" "$assertionsDisabled" "Z", Cond.fieldLink RJ2 59 "java/lang/StringUTF16" "HI_BYTE_SHIFT" "I", Cond.fieldLink RJ2 63 "java/lang/StringUTF16" "LO_BYTE_SHIFT" "I"]
def wsJ5_inflate_da8c8 : List Cond := .code yJ5_inflate_da8c8 cJ5_inflate_da8c8 2 none :: ((wsJ5_inflate_da8c8_r1 ++ wsJ5_inflate_da8c8_r2) ++ wsJ40)
def wsJ3_checkIndex_8e157 : List Cond := .code yJ3_checkIndex_8e157 cJ3_checkIndex_8e157 3 (some .int) :: ([])
def wsJ0_checkIndex_df160 : List Cond := .code yJ0_checkIndex_df160 cJ0_checkIndex_df160 2 none :: ([.fieldLink RJ0 1053 "jdk/internal/util/Preconditions" "SIOOBE_FORMATTER" "Ljava/util/function/BiFunction;", .methodLink RJ0 1059 yJ3_checkIndex_8e157, .static yJ3_checkIndex_8e157, .initialized RJ3, .code yJ3_checkIndex_8e157 cJ3_checkIndex_8e157 3 (some .int)])
def wsJ2_checkIndex_2214a : List Cond := .code yJ2_checkIndex_2214a cJ2_checkIndex_2214a 2 none :: ([.methodLink RJ2 48 yJ2_length_9d52b, .static yJ2_length_9d52b, .initialized RJ2, .code yJ2_length_9d52b cJ2_length_9d52b 1 (some .int), .methodLink RJ2 414 yJ0_checkIndex_df160, .static yJ0_checkIndex_df160, .initialized RJ0, .code yJ0_checkIndex_df160 cJ0_checkIndex_df160 2 none, .fieldLink RJ0 1053 "jdk/internal/util/Preconditions" "SIOOBE_FORMATTER" "Ljava/util/function/BiFunction;", .methodLink RJ0 1059 yJ3_checkIndex_8e157, .static yJ3_checkIndex_8e157, .initialized RJ3, .code yJ3_checkIndex_8e157 cJ3_checkIndex_8e157 3 (some .int)])
def wsJ2_putCharSB_b72d1 : List Cond := .code yJ2_putCharSB_b72d1 cJ2_putCharSB_b72d1 3 none :: ([.methodLink RJ2 67 yJ2_checkIndex_2214a, .static yJ2_checkIndex_2214a, .initialized RJ2, .code yJ2_checkIndex_2214a cJ2_checkIndex_2214a 2 none, .methodLink RJ2 48 yJ2_length_9d52b, .static yJ2_length_9d52b, .code yJ2_length_9d52b cJ2_length_9d52b 1 (some .int), .methodLink RJ2 414 yJ0_checkIndex_df160, .static yJ0_checkIndex_df160, .initialized RJ0, .code yJ0_checkIndex_df160 cJ0_checkIndex_df160 2 none, .fieldLink RJ0 1053 "jdk/internal/util/Preconditions" "SIOOBE_FORMATTER" "Ljava/util/function/BiFunction;", .methodLink RJ0 1059 yJ3_checkIndex_8e157, .static yJ3_checkIndex_8e157, .initialized RJ3, .code yJ3_checkIndex_8e157 cJ3_checkIndex_8e157 3 (some .int), .methodLink RJ2 111 yJ2_putChar_b72d1, .static yJ2_putChar_b72d1, .code yJ2_putChar_b72d1 cJ2_putChar_b72d1 3 none, .fieldLink RJ2 44 "java/lang/StringUTF16" "$assertionsDisabled" "Z", .fieldLink RJ2 59 "java/lang/StringUTF16" "HI_BYTE_SHIFT" "I", .fieldLink RJ2 63 "java/lang/StringUTF16" "LO_BYTE_SHIFT" "I"])
def wsJ5_append_3fe6f_r1 : List Cond := [Cond.fieldLink RJ5 79 "java/lang/AbstractStringBuilder" "count" "I", Cond.fieldLink RJ5 15 "java/lang/AbstractStringBuilder" "value" "[B", Cond.methodLink RJ5 100 ⟨"java/lang/AbstractStringBuilder", "ensureCapacityInternal", "(I)V"⟩, Cond.sameMethod "java/lang/AbstractStringBuilder" "java/lang/AbstractStringBuilder" "ensureCapacityInternal" "(I)V", Cond.selects RJ4 ⟨"java/lang/AbstractStringBuilder", "ensureCapacityInternal", "(I)V"⟩ yJ5_ensureCapacityInternal_d00df, Cond.instanceMethod yJ5_ensureCapacityInternal_d00df, Cond.initialized RJ5, Cond.code yJ5_ensureCapacityInternal_d00df cJ5_ensureCapacityInternal_d00df 3 none, Cond.fieldLink RJ5 22 "java/lang/AbstractStringBuilder" "coder" "B", Cond.methodLink RJ5 104 ⟨"java/lang/AbstractStringBuilder", "newCapacity", "(I)I"⟩, Cond.sameMethod "java/lang/AbstractStringBuilder" "java/lang/AbstractStringBuilder" "newCapacity" "(I)I", Cond.selects RJ4 ⟨"java/lang/AbstractStringBuilder", "newCapacity", "(I)I"⟩ yJ5_newCapacity_0f7a4, Cond.instanceMethod yJ5_newCapacity_0f7a4, Cond.code yJ5_newCapacity_0f7a4 cJ5_newCapacity_0f7a4 6 (some .int), Cond.constant RJ5 39 (2147483647), Cond.methodLink RJ5 114 yJ8_newLength_cabcc, Cond.static yJ8_newLength_cabcc, Cond.initialized RJ8, Cond.code yJ8_newLength_cabcc cJ8_newLength_cabcc 4 (some .int), Cond.methodLink RJ8 194 Lib.Math.max.name, Cond.static Lib.Math.max.name, Cond.initialized "java/lang/Math", Cond.code Lib.Math.max.name Lib.Math.max.code 2 (some .int), Cond.constant RJ8 200 (2147483639)]
def wsJ5_append_3fe6f_r2 : List Cond := [Cond.methodLink RJ8 201 yJ8_hugeLength_7cf53, Cond.static yJ8_hugeLength_7cf53, Cond.code yJ8_hugeLength_7cf53 cJ8_hugeLength_7cf53 3 (some .int), Cond.methodLink RJ5 108 yJ7_copyOf_9075b, Cond.static yJ7_copyOf_9075b, Cond.initialized RJ7, Cond.code yJ7_copyOf_9075b cJ7_copyOf_9075b 3 (some (.array .byte)), Cond.methodLink RJ7 310 ⟨"[B", "clone", "()Ljava/lang/Object;"⟩, Cond.sameMethod "[B" "java/lang/Object" "clone" "()Ljava/lang/Object;", Cond.native ⟨"java/lang/Object", "clone", "()Ljava/lang/Object;"⟩, Cond.instanceMethod ⟨"java/lang/Object", "clone", "()Ljava/lang/Object;"⟩, Cond.selects "[B" ⟨"[B", "clone", "()Ljava/lang/Object;"⟩ ⟨"java/lang/Object", "clone", "()Ljava/lang/Object;"⟩, Cond.classLink RJ7 311 "[B", Cond.arrayClass .byte, Cond.methodLink RJ7 304 Lib.Math.min.name, Cond.static Lib.Math.min.name, Cond.code Lib.Math.min.name Lib.Math.min.code 2 (some .int), Cond.methodLink RJ7 150 arraycopyName, Cond.native arraycopyName, Cond.static arraycopyName, Cond.initialized "java/lang/System", Cond.methodLink RJ5 83 ⟨"java/lang/AbstractStringBuilder", "isLatin1", "()Z"⟩, Cond.sameMethod "java/lang/AbstractStringBuilder" "java/lang/AbstractStringBuilder" "isLatin1" "()Z", Cond.selects RJ4 ⟨"java/lang/AbstractStringBuilder", "isLatin1", "()Z"⟩ yJ5_isLatin1_aae02]
def wsJ5_append_3fe6f_r3 : List Cond := [Cond.instanceMethod yJ5_isLatin1_aae02, Cond.code yJ5_isLatin1_aae02 cJ5_isLatin1_aae02 1 (some .boolean), Cond.fieldLink RJ5 18 "java/lang/String" "COMPACT_STRINGS" "Z", Cond.methodLink RJ5 191 yJ1_canEncode_fc78d, Cond.static yJ1_canEncode_fc78d, Cond.initialized RJ1, Cond.code yJ1_canEncode_fc78d cJ1_canEncode_fc78d 1 (some .boolean), Cond.methodLink RJ5 195 ⟨"java/lang/AbstractStringBuilder", "inflate", "()V"⟩, Cond.sameMethod "java/lang/AbstractStringBuilder" "java/lang/AbstractStringBuilder" "inflate" "()V", Cond.selects RJ4 ⟨"java/lang/AbstractStringBuilder", "inflate", "()V"⟩ yJ5_inflate_da8c8, Cond.instanceMethod yJ5_inflate_da8c8, Cond.code yJ5_inflate_da8c8 cJ5_inflate_da8c8 2 none, Cond.methodLink RJ5 26 yJ2_newBytesFor_77867, Cond.static yJ2_newBytesFor_77867, Cond.initialized RJ2, Cond.code yJ2_newBytesFor_77867 cJ2_newBytesFor_77867 1 (some (.array .byte)), Cond.methodLink RJ2 11 yJ2_newBytesLength_0f7a4, Cond.static yJ2_newBytesLength_0f7a4, Cond.code yJ2_newBytesLength_0f7a4 cJ2_newBytesLength_0f7a4 1 (some .int), Cond.constant RJ2 20 (1073741823), Cond.methodLink RJ5 125 yJ1_inflate_0e8fd, Cond.static yJ1_inflate_0e8fd, Cond.code yJ1_inflate_0e8fd cJ1_inflate_0e8fd 5 none, Cond.methodLink RJ1 240 yJ2_inflate_0e8fd]
def wsJ5_append_3fe6f_r4 : List Cond := [Cond.static yJ2_inflate_0e8fd, Cond.code yJ2_inflate_0e8fd cJ2_inflate_0e8fd 6 none, Cond.methodLink RJ2 173 yJ2_checkBoundsOffCount_d044e, Cond.static yJ2_checkBoundsOffCount_d044e, Cond.code yJ2_checkBoundsOffCount_d044e cJ2_checkBoundsOffCount_d044e 3 none, Cond.methodLink RJ2 48 yJ2_length_9d52b, Cond.static yJ2_length_9d52b, Cond.code yJ2_length_9d52b cJ2_length_9d52b 1 (some .int), Cond.methodLink RJ2 419 yJ0_checkBoundsOffCount_cabcc, Cond.static yJ0_checkBoundsOffCount_cabcc, Cond.initialized RJ0, Cond.code yJ0_checkBoundsOffCount_cabcc cJ0_checkBoundsOffCount_cabcc 3 (some .int), Cond.fieldLink RJ0 1053 "jdk/internal/util/Preconditions" "SIOOBE_FORMATTER" "Ljava/util/function/BiFunction;", Cond.methodLink RJ0 1065 yJ3_checkFromIndexSize_8c36e, Cond.static yJ3_checkFromIndexSize_8c36e, Cond.initialized RJ3, Cond.code yJ3_checkFromIndexSize_8c36e cJ3_checkFromIndexSize_8c36e 4 (some .int), Cond.methodLink RJ2 111 yJ2_putChar_b72d1, Cond.static yJ2_putChar_b72d1, Cond.code yJ2_putChar_b72d1 cJ2_putChar_b72d1 3 none, Cond.fieldLink RJ2 44 "java/lang/StringUTF16" "$assertionsDisabled" "Z", Cond.fieldLink RJ2 59 "java/lang/StringUTF16" "HI_BYTE_SHIFT" "I", Cond.fieldLink RJ2 63 "java/lang/StringUTF16" "LO_BYTE_SHIFT" "I", Cond.methodLink RJ5 197 yJ2_putCharSB_b72d1]
def wsJ5_append_3fe6f_r5 : List Cond := [Cond.static yJ2_putCharSB_b72d1, Cond.code yJ2_putCharSB_b72d1 cJ2_putCharSB_b72d1 3 none, Cond.methodLink RJ2 67 yJ2_checkIndex_2214a, Cond.static yJ2_checkIndex_2214a, Cond.code yJ2_checkIndex_2214a cJ2_checkIndex_2214a 2 none, Cond.methodLink RJ2 414 yJ0_checkIndex_df160, Cond.static yJ0_checkIndex_df160, Cond.code yJ0_checkIndex_df160 cJ0_checkIndex_df160 2 none, Cond.methodLink RJ0 1059 yJ3_checkIndex_8e157, Cond.static yJ3_checkIndex_8e157, Cond.code yJ3_checkIndex_8e157 cJ3_checkIndex_8e157 3 (some .int)]
def wsJ5_append_3fe6f : List Cond := .code yJ5_append_3fe6f cJ5_append_3fe6f 2 (some (.object "java/lang/AbstractStringBuilder")) :: ((wsJ5_append_3fe6f_r1 ++ (wsJ5_append_3fe6f_r2 ++ (wsJ5_append_3fe6f_r3 ++ (wsJ5_append_3fe6f_r4 ++ wsJ5_append_3fe6f_r5)))) ++ wsJ40)
def wsJ4_append_cf468_r1 : List Cond := [Cond.methodLink RJ4 50 yJ5_append_3fe6f, Cond.sameMethod "java/lang/AbstractStringBuilder" "java/lang/AbstractStringBuilder" "append" "(C)Ljava/lang/AbstractStringBuilder;", Cond.superclass RJ4 RJ5, Cond.instanceMethod yJ5_append_3fe6f, Cond.initialized RJ5, Cond.code yJ5_append_3fe6f cJ5_append_3fe6f 2 (some (.object "java/lang/AbstractStringBuilder")), Cond.fieldLink RJ5 79 "java/lang/AbstractStringBuilder" "count" "I", Cond.fieldLink RJ5 15 "java/lang/AbstractStringBuilder" "value" "[B", Cond.methodLink RJ5 100 ⟨"java/lang/AbstractStringBuilder", "ensureCapacityInternal", "(I)V"⟩, Cond.sameMethod "java/lang/AbstractStringBuilder" "java/lang/AbstractStringBuilder" "ensureCapacityInternal" "(I)V", Cond.selects RJ4 ⟨"java/lang/AbstractStringBuilder", "ensureCapacityInternal", "(I)V"⟩ yJ5_ensureCapacityInternal_d00df, Cond.instanceMethod yJ5_ensureCapacityInternal_d00df, Cond.code yJ5_ensureCapacityInternal_d00df cJ5_ensureCapacityInternal_d00df 3 none, Cond.fieldLink RJ5 22 "java/lang/AbstractStringBuilder" "coder" "B", Cond.methodLink RJ5 104 ⟨"java/lang/AbstractStringBuilder", "newCapacity", "(I)I"⟩, Cond.sameMethod "java/lang/AbstractStringBuilder" "java/lang/AbstractStringBuilder" "newCapacity" "(I)I", Cond.selects RJ4 ⟨"java/lang/AbstractStringBuilder", "newCapacity", "(I)I"⟩ yJ5_newCapacity_0f7a4, Cond.instanceMethod yJ5_newCapacity_0f7a4, Cond.code yJ5_newCapacity_0f7a4 cJ5_newCapacity_0f7a4 6 (some .int), Cond.constant RJ5 39 (2147483647), Cond.methodLink RJ5 114 yJ8_newLength_cabcc, Cond.static yJ8_newLength_cabcc, Cond.initialized RJ8, Cond.code yJ8_newLength_cabcc cJ8_newLength_cabcc 4 (some .int)]
def wsJ4_append_cf468_r2 : List Cond := [Cond.methodLink RJ8 194 Lib.Math.max.name, Cond.static Lib.Math.max.name, Cond.initialized "java/lang/Math", Cond.code Lib.Math.max.name Lib.Math.max.code 2 (some .int), Cond.constant RJ8 200 (2147483639), Cond.methodLink RJ8 201 yJ8_hugeLength_7cf53, Cond.static yJ8_hugeLength_7cf53, Cond.code yJ8_hugeLength_7cf53 cJ8_hugeLength_7cf53 3 (some .int), Cond.methodLink RJ5 108 yJ7_copyOf_9075b, Cond.static yJ7_copyOf_9075b, Cond.initialized RJ7, Cond.code yJ7_copyOf_9075b cJ7_copyOf_9075b 3 (some (.array .byte)), Cond.methodLink RJ7 310 ⟨"[B", "clone", "()Ljava/lang/Object;"⟩, Cond.sameMethod "[B" "java/lang/Object" "clone" "()Ljava/lang/Object;", Cond.native ⟨"java/lang/Object", "clone", "()Ljava/lang/Object;"⟩, Cond.instanceMethod ⟨"java/lang/Object", "clone", "()Ljava/lang/Object;"⟩, Cond.selects "[B" ⟨"[B", "clone", "()Ljava/lang/Object;"⟩ ⟨"java/lang/Object", "clone", "()Ljava/lang/Object;"⟩, Cond.classLink RJ7 311 "[B", Cond.arrayClass .byte, Cond.methodLink RJ7 304 Lib.Math.min.name, Cond.static Lib.Math.min.name, Cond.code Lib.Math.min.name Lib.Math.min.code 2 (some .int), Cond.methodLink RJ7 150 arraycopyName, Cond.native arraycopyName]
def wsJ4_append_cf468_r3 : List Cond := [Cond.static arraycopyName, Cond.initialized "java/lang/System", Cond.methodLink RJ5 83 ⟨"java/lang/AbstractStringBuilder", "isLatin1", "()Z"⟩, Cond.sameMethod "java/lang/AbstractStringBuilder" "java/lang/AbstractStringBuilder" "isLatin1" "()Z", Cond.selects RJ4 ⟨"java/lang/AbstractStringBuilder", "isLatin1", "()Z"⟩ yJ5_isLatin1_aae02, Cond.instanceMethod yJ5_isLatin1_aae02, Cond.code yJ5_isLatin1_aae02 cJ5_isLatin1_aae02 1 (some .boolean), Cond.fieldLink RJ5 18 "java/lang/String" "COMPACT_STRINGS" "Z", Cond.methodLink RJ5 191 yJ1_canEncode_fc78d, Cond.static yJ1_canEncode_fc78d, Cond.initialized RJ1, Cond.code yJ1_canEncode_fc78d cJ1_canEncode_fc78d 1 (some .boolean), Cond.methodLink RJ5 195 ⟨"java/lang/AbstractStringBuilder", "inflate", "()V"⟩, Cond.sameMethod "java/lang/AbstractStringBuilder" "java/lang/AbstractStringBuilder" "inflate" "()V", Cond.selects RJ4 ⟨"java/lang/AbstractStringBuilder", "inflate", "()V"⟩ yJ5_inflate_da8c8, Cond.instanceMethod yJ5_inflate_da8c8, Cond.code yJ5_inflate_da8c8 cJ5_inflate_da8c8 2 none, Cond.methodLink RJ5 26 yJ2_newBytesFor_77867, Cond.static yJ2_newBytesFor_77867, Cond.initialized RJ2, Cond.code yJ2_newBytesFor_77867 cJ2_newBytesFor_77867 1 (some (.array .byte)), Cond.methodLink RJ2 11 yJ2_newBytesLength_0f7a4, Cond.static yJ2_newBytesLength_0f7a4, Cond.code yJ2_newBytesLength_0f7a4 cJ2_newBytesLength_0f7a4 1 (some .int)]
def wsJ4_append_cf468_r4 : List Cond := [Cond.constant RJ2 20 (1073741823), Cond.methodLink RJ5 125 yJ1_inflate_0e8fd, Cond.static yJ1_inflate_0e8fd, Cond.code yJ1_inflate_0e8fd cJ1_inflate_0e8fd 5 none, Cond.methodLink RJ1 240 yJ2_inflate_0e8fd, Cond.static yJ2_inflate_0e8fd, Cond.code yJ2_inflate_0e8fd cJ2_inflate_0e8fd 6 none, Cond.methodLink RJ2 173 yJ2_checkBoundsOffCount_d044e, Cond.static yJ2_checkBoundsOffCount_d044e, Cond.code yJ2_checkBoundsOffCount_d044e cJ2_checkBoundsOffCount_d044e 3 none, Cond.methodLink RJ2 48 yJ2_length_9d52b, Cond.static yJ2_length_9d52b, Cond.code yJ2_length_9d52b cJ2_length_9d52b 1 (some .int), Cond.methodLink RJ2 419 yJ0_checkBoundsOffCount_cabcc, Cond.static yJ0_checkBoundsOffCount_cabcc, Cond.initialized RJ0, Cond.code yJ0_checkBoundsOffCount_cabcc cJ0_checkBoundsOffCount_cabcc 3 (some .int), Cond.fieldLink RJ0 1053 "jdk/internal/util/Preconditions" "SIOOBE_FORMATTER" "Ljava/util/function/BiFunction;", Cond.methodLink RJ0 1065 yJ3_checkFromIndexSize_8c36e, Cond.static yJ3_checkFromIndexSize_8c36e, Cond.initialized RJ3, Cond.code yJ3_checkFromIndexSize_8c36e cJ3_checkFromIndexSize_8c36e 4 (some .int), Cond.methodLink RJ2 111 yJ2_putChar_b72d1, Cond.static yJ2_putChar_b72d1]
def wsJ4_append_cf468_r5 : List Cond := [Cond.code yJ2_putChar_b72d1 cJ2_putChar_b72d1 3 none, Cond.fieldLink RJ2 44 "java/lang/StringUTF16" "$assertionsDisabled" "Z", Cond.fieldLink RJ2 59 "java/lang/StringUTF16" "HI_BYTE_SHIFT" "I", Cond.fieldLink RJ2 63 "java/lang/StringUTF16" "LO_BYTE_SHIFT" "I", Cond.methodLink RJ5 197 yJ2_putCharSB_b72d1, Cond.static yJ2_putCharSB_b72d1, Cond.code yJ2_putCharSB_b72d1 cJ2_putCharSB_b72d1 3 none, Cond.methodLink RJ2 67 yJ2_checkIndex_2214a, Cond.static yJ2_checkIndex_2214a, Cond.code yJ2_checkIndex_2214a cJ2_checkIndex_2214a 2 none, Cond.methodLink RJ2 414 yJ0_checkIndex_df160, Cond.static yJ0_checkIndex_df160, Cond.code yJ0_checkIndex_df160 cJ0_checkIndex_df160 2 none, Cond.methodLink RJ0 1059 yJ3_checkIndex_8e157, Cond.static yJ3_checkIndex_8e157, Cond.code yJ3_checkIndex_8e157 cJ3_checkIndex_8e157 3 (some .int)]
def wsJ4_append_cf468 : List Cond := .code yJ4_append_cf468 cJ4_append_cf468 2 (some (.object "java/lang/StringBuilder")) :: ((wsJ4_append_cf468_r1 ++ (wsJ4_append_cf468_r2 ++ (wsJ4_append_cf468_r3 ++ (wsJ4_append_cf468_r4 ++ wsJ4_append_cf468_r5)))) ++ wsJ40)
def wsJ5_getValue_6d5f1 : List Cond := .code yJ5_getValue_6d5f1 cJ5_getValue_6d5f1 1 (some (.array .byte)) :: ([.fieldLink RJ5 15 "java/lang/AbstractStringBuilder" "value" "[B"] ++ wsJ40)
def wsJ5_length_8abf5 : List Cond := .code yJ5_length_8abf5 cJ5_length_8abf5 1 (some .int) :: ([.fieldLink RJ5 79 "java/lang/AbstractStringBuilder" "count" "I"] ++ wsJ40)
def wsJ4_length_8abf5 : List Cond := .code yJ4_length_8abf5 cJ4_length_8abf5 1 (some .int) :: ([.methodLink RJ4 343 yJ5_length_8abf5, .sameMethod "java/lang/AbstractStringBuilder" "java/lang/AbstractStringBuilder" "length" "()I", .superclass RJ4 RJ5, .instanceMethod yJ5_length_8abf5, .initialized RJ5, .code yJ5_length_8abf5 cJ5_length_8abf5 1 (some .int), .fieldLink RJ5 79 "java/lang/AbstractStringBuilder" "count" "I"] ++ wsJ40)
def wsJ7_checkLength_df160 : List Cond := .code yJ7_checkLength_df160 cJ7_checkLength_df160 2 none :: ([.classLink RJ7 45 RJ4, .instantiable RJ4 4, .initialized RJ4] ++ wsJ40)
def wsJ7_copyOfRangeByte_39247 : List Cond := .code yJ7_copyOfRangeByte_39247 cJ7_copyOfRangeByte_39247 5 (some (.array .byte)) :: ([.arrayClass .byte, .methodLink RJ7 304 Lib.Math.min.name, .static Lib.Math.min.name, .initialized "java/lang/Math", .code Lib.Math.min.name Lib.Math.min.code 2 (some .int), .methodLink RJ7 150 arraycopyName, .native arraycopyName, .static arraycopyName, .initialized "java/lang/System", .methodLink RJ7 343 yJ7_checkLength_df160, .static yJ7_checkLength_df160, .initialized RJ7, .code yJ7_checkLength_df160 cJ7_checkLength_df160 2 none, .classLink RJ7 45 RJ4, .instantiable RJ4 4, .initialized RJ4] ++ wsJ40)
def wsJ7_copyOfRange_39247_r1 : List Cond := [Cond.methodLink RJ7 310 ⟨"[B", "clone", "()Ljava/lang/Object;"⟩, Cond.sameMethod "[B" "java/lang/Object" "clone" "()Ljava/lang/Object;", Cond.native ⟨"java/lang/Object", "clone", "()Ljava/lang/Object;"⟩, Cond.instanceMethod ⟨"java/lang/Object", "clone", "()Ljava/lang/Object;"⟩, Cond.selects "[B" ⟨"[B", "clone", "()Ljava/lang/Object;"⟩ ⟨"java/lang/Object", "clone", "()Ljava/lang/Object;"⟩, Cond.classLink RJ7 311 "[B", Cond.methodLink RJ7 339 yJ7_copyOfRangeByte_39247, Cond.static yJ7_copyOfRangeByte_39247, Cond.initialized RJ7, Cond.code yJ7_copyOfRangeByte_39247 cJ7_copyOfRangeByte_39247 5 (some (.array .byte)), Cond.arrayClass .byte, Cond.methodLink RJ7 304 Lib.Math.min.name, Cond.static Lib.Math.min.name, Cond.initialized "java/lang/Math", Cond.code Lib.Math.min.name Lib.Math.min.code 2 (some .int), Cond.methodLink RJ7 150 arraycopyName, Cond.native arraycopyName, Cond.static arraycopyName, Cond.initialized "java/lang/System", Cond.methodLink RJ7 343 yJ7_checkLength_df160, Cond.static yJ7_checkLength_df160, Cond.code yJ7_checkLength_df160 cJ7_checkLength_df160 2 none, Cond.classLink RJ7 45 RJ4, Cond.instantiable RJ4 4]
def wsJ7_copyOfRange_39247_r2 : List Cond := [Cond.initialized RJ4]
def wsJ7_copyOfRange_39247 : List Cond := .code yJ7_copyOfRange_39247 cJ7_copyOfRange_39247 3 (some (.array .byte)) :: ((wsJ7_copyOfRange_39247_r1 ++ wsJ7_copyOfRange_39247_r2) ++ wsJ40)
def wsJ2_getChar_3b067 : List Cond := .code yJ2_getChar_3b067 cJ2_getChar_3b067 2 (some .char) :: ([.fieldLink RJ2 44 "java/lang/StringUTF16" "$assertionsDisabled" "Z", .fieldLink RJ2 59 "java/lang/StringUTF16" "HI_BYTE_SHIFT" "I", .fieldLink RJ2 63 "java/lang/StringUTF16" "LO_BYTE_SHIFT" "I", .methodLink RJ2 48 yJ2_length_9d52b, .static yJ2_length_9d52b, .initialized RJ2, .code yJ2_length_9d52b cJ2_length_9d52b 1 (some .int)])
def wsJ2_compress_5af95 : List Cond := .code yJ2_compress_5af95 cJ2_compress_5af95 7 (some .int) :: ([.methodLink RJ2 173 yJ2_checkBoundsOffCount_d044e, .static yJ2_checkBoundsOffCount_d044e, .initialized RJ2, .code yJ2_checkBoundsOffCount_d044e cJ2_checkBoundsOffCount_d044e 3 none, .methodLink RJ2 48 yJ2_length_9d52b, .static yJ2_length_9d52b, .code yJ2_length_9d52b cJ2_length_9d52b 1 (some .int), .methodLink RJ2 419 yJ0_checkBoundsOffCount_cabcc, .static yJ0_checkBoundsOffCount_cabcc, .initialized RJ0, .code yJ0_checkBoundsOffCount_cabcc cJ0_checkBoundsOffCount_cabcc 3 (some .int), .fieldLink RJ0 1053 "jdk/internal/util/Preconditions" "SIOOBE_FORMATTER" "Ljava/util/function/BiFunction;", .methodLink RJ0 1065 yJ3_checkFromIndexSize_8c36e, .static yJ3_checkFromIndexSize_8c36e, .initialized RJ3, .code yJ3_checkFromIndexSize_8c36e cJ3_checkFromIndexSize_8c36e 4 (some .int), .methodLink RJ2 71 yJ2_getChar_3b067, .static yJ2_getChar_3b067, .code yJ2_getChar_3b067 cJ2_getChar_3b067 2 (some .char), .fieldLink RJ2 44 "java/lang/StringUTF16" "$assertionsDisabled" "Z", .fieldLink RJ2 59 "java/lang/StringUTF16" "HI_BYTE_SHIFT" "I", .fieldLink RJ2 63 "java/lang/StringUTF16" "LO_BYTE_SHIFT" "I"])
def wsJ2_compress_39247_r1 : List Cond := [Cond.arrayClass .byte, Cond.methodLink RJ2 123 yJ2_compress_5af95, Cond.static yJ2_compress_5af95, Cond.initialized RJ2, Cond.code yJ2_compress_5af95 cJ2_compress_5af95 7 (some .int), Cond.methodLink RJ2 173 yJ2_checkBoundsOffCount_d044e, Cond.static yJ2_checkBoundsOffCount_d044e, Cond.code yJ2_checkBoundsOffCount_d044e cJ2_checkBoundsOffCount_d044e 3 none, Cond.methodLink RJ2 48 yJ2_length_9d52b, Cond.static yJ2_length_9d52b, Cond.code yJ2_length_9d52b cJ2_length_9d52b 1 (some .int), Cond.methodLink RJ2 419 yJ0_checkBoundsOffCount_cabcc, Cond.static yJ0_checkBoundsOffCount_cabcc, Cond.initialized RJ0, Cond.code yJ0_checkBoundsOffCount_cabcc cJ0_checkBoundsOffCount_cabcc 3 (some .int), Cond.fieldLink RJ0 1053 "jdk/internal/util/Preconditions" "SIOOBE_FORMATTER" "Ljava/util/function/BiFunction;", Cond.methodLink RJ0 1065 yJ3_checkFromIndexSize_8c36e, Cond.static yJ3_checkFromIndexSize_8c36e, Cond.initialized RJ3, Cond.code yJ3_checkFromIndexSize_8c36e cJ3_checkFromIndexSize_8c36e 4 (some .int), Cond.methodLink RJ2 71 yJ2_getChar_3b067, Cond.static yJ2_getChar_3b067, Cond.code yJ2_getChar_3b067 cJ2_getChar_3b067 2 (some .char), Cond.fieldLink RJ2 44 "java/lang/StringUTF16" "$assertionsDisabled" "Z"]
def wsJ2_compress_39247_r2 : List Cond := [Cond.fieldLink RJ2 59 "java/lang/StringUTF16" "HI_BYTE_SHIFT" "I", Cond.fieldLink RJ2 63 "java/lang/StringUTF16" "LO_BYTE_SHIFT" "I", Cond.methodLink RJ2 11 yJ2_newBytesLength_0f7a4, Cond.static yJ2_newBytesLength_0f7a4, Cond.code yJ2_newBytesLength_0f7a4 cJ2_newBytesLength_0f7a4 1 (some .int), Cond.constant RJ2 20 (1073741823), Cond.methodLink RJ2 126 yJ7_copyOfRange_39247, Cond.static yJ7_copyOfRange_39247, Cond.initialized RJ7, Cond.code yJ7_copyOfRange_39247 cJ7_copyOfRange_39247 3 (some (.array .byte)), Cond.methodLink RJ7 310 ⟨"[B", "clone", "()Ljava/lang/Object;"⟩, Cond.sameMethod "[B" "java/lang/Object" "clone" "()Ljava/lang/Object;", Cond.native ⟨"java/lang/Object", "clone", "()Ljava/lang/Object;"⟩, Cond.instanceMethod ⟨"java/lang/Object", "clone", "()Ljava/lang/Object;"⟩, Cond.selects "[B" ⟨"[B", "clone", "()Ljava/lang/Object;"⟩ ⟨"java/lang/Object", "clone", "()Ljava/lang/Object;"⟩, Cond.classLink RJ7 311 "[B", Cond.methodLink RJ7 339 yJ7_copyOfRangeByte_39247, Cond.static yJ7_copyOfRangeByte_39247, Cond.code yJ7_copyOfRangeByte_39247 cJ7_copyOfRangeByte_39247 5 (some (.array .byte)), Cond.methodLink RJ7 304 Lib.Math.min.name, Cond.static Lib.Math.min.name, Cond.initialized "java/lang/Math", Cond.code Lib.Math.min.name Lib.Math.min.code 2 (some .int), Cond.methodLink RJ7 150 arraycopyName]
def wsJ2_compress_39247_r3 : List Cond := [Cond.native arraycopyName, Cond.static arraycopyName, Cond.initialized "java/lang/System", Cond.methodLink RJ7 343 yJ7_checkLength_df160, Cond.static yJ7_checkLength_df160, Cond.code yJ7_checkLength_df160 cJ7_checkLength_df160 2 none, Cond.classLink RJ7 45 RJ4, Cond.instantiable RJ4 4, Cond.initialized RJ4]
def wsJ2_compress_39247 : List Cond := .code yJ2_compress_39247 cJ2_compress_39247 6 (some (.array .byte)) :: ((wsJ2_compress_39247_r1 ++ (wsJ2_compress_39247_r2 ++ wsJ2_compress_39247_r3)) ++ wsJ40)
def wsJ2_coderFromArrayLen_85cad : List Cond := .code yJ2_coderFromArrayLen_85cad cJ2_coderFromArrayLen_85cad 2 (some .byte) :: ([])
def wsJ0_init_db425_r1 : List Cond := [Cond.methodLink RJ0 1 objectInit, Cond.instanceMethod objectInit, Cond.code objectInit ⟨#[0xb1]⟩ 1 none, Cond.fieldLink RJ0 15 "java/lang/String" "coder" "B", Cond.fieldLink RJ0 9 "java/lang/String" "value" "[B", Cond.fieldLink RJ0 38 "java/lang/String" "COMPACT_STRINGS" "Z", Cond.fieldLink RJ0 1048 "java/lang/AbstractStringBuilder" "maybeLatin1" "Z", Cond.methodLink RJ0 552 ⟨"java/lang/AbstractStringBuilder", "getValue", "()[B"⟩, Cond.sameMethod "java/lang/AbstractStringBuilder" "java/lang/AbstractStringBuilder" "getValue" "()[B", Cond.selects RJ4 ⟨"java/lang/AbstractStringBuilder", "getValue", "()[B"⟩ yJ5_getValue_6d5f1, Cond.instanceMethod yJ5_getValue_6d5f1, Cond.initialized RJ5, Cond.code yJ5_getValue_6d5f1 cJ5_getValue_6d5f1 1 (some (.array .byte)), Cond.fieldLink RJ5 15 "java/lang/AbstractStringBuilder" "value" "[B", Cond.methodLink RJ0 549 ⟨"java/lang/AbstractStringBuilder", "length", "()I"⟩, Cond.sameMethod "java/lang/AbstractStringBuilder" "java/lang/AbstractStringBuilder" "length" "()I", Cond.instanceMethod ⟨"java/lang/AbstractStringBuilder", "length", "()I"⟩, Cond.selects RJ4 ⟨"java/lang/AbstractStringBuilder", "length", "()I"⟩ yJ4_length_8abf5, Cond.instanceMethod yJ4_length_8abf5, Cond.initialized RJ4, Cond.code yJ4_length_8abf5 cJ4_length_8abf5 1 (some .int), Cond.methodLink RJ4 343 yJ5_length_8abf5, Cond.superclass RJ4 RJ5, Cond.instanceMethod yJ5_length_8abf5]
def wsJ0_init_db425_r2 : List Cond := [Cond.code yJ5_length_8abf5 cJ5_length_8abf5 1 (some .int), Cond.fieldLink RJ5 79 "java/lang/AbstractStringBuilder" "count" "I", Cond.methodLink RJ0 1047 ⟨"java/lang/AbstractStringBuilder", "isLatin1", "()Z"⟩, Cond.sameMethod "java/lang/AbstractStringBuilder" "java/lang/AbstractStringBuilder" "isLatin1" "()Z", Cond.selects RJ4 ⟨"java/lang/AbstractStringBuilder", "isLatin1", "()Z"⟩ yJ5_isLatin1_aae02, Cond.instanceMethod yJ5_isLatin1_aae02, Cond.code yJ5_isLatin1_aae02 cJ5_isLatin1_aae02 1 (some .boolean), Cond.fieldLink RJ5 18 "java/lang/String" "COMPACT_STRINGS" "Z", Cond.fieldLink RJ5 22 "java/lang/AbstractStringBuilder" "coder" "B", Cond.methodLink RJ0 54 yJ7_copyOfRange_39247, Cond.static yJ7_copyOfRange_39247, Cond.initialized RJ7, Cond.code yJ7_copyOfRange_39247 cJ7_copyOfRange_39247 3 (some (.array .byte)), Cond.methodLink RJ7 310 ⟨"[B", "clone", "()Ljava/lang/Object;"⟩, Cond.sameMethod "[B" "java/lang/Object" "clone" "()Ljava/lang/Object;", Cond.native ⟨"java/lang/Object", "clone", "()Ljava/lang/Object;"⟩, Cond.instanceMethod ⟨"java/lang/Object", "clone", "()Ljava/lang/Object;"⟩, Cond.selects "[B" ⟨"[B", "clone", "()Ljava/lang/Object;"⟩ ⟨"java/lang/Object", "clone", "()Ljava/lang/Object;"⟩, Cond.classLink RJ7 311 "[B", Cond.methodLink RJ7 339 yJ7_copyOfRangeByte_39247, Cond.static yJ7_copyOfRangeByte_39247, Cond.code yJ7_copyOfRangeByte_39247 cJ7_copyOfRangeByte_39247 5 (some (.array .byte)), Cond.arrayClass .byte, Cond.methodLink RJ7 304 Lib.Math.min.name]
def wsJ0_init_db425_r3 : List Cond := [Cond.static Lib.Math.min.name, Cond.initialized "java/lang/Math", Cond.code Lib.Math.min.name Lib.Math.min.code 2 (some .int), Cond.methodLink RJ7 150 arraycopyName, Cond.native arraycopyName, Cond.static arraycopyName, Cond.initialized "java/lang/System", Cond.methodLink RJ7 343 yJ7_checkLength_df160, Cond.static yJ7_checkLength_df160, Cond.code yJ7_checkLength_df160 cJ7_checkLength_df160 2 none, Cond.classLink RJ7 45 RJ4, Cond.instantiable RJ4 4, Cond.methodLink RJ0 1051 yJ2_compress_39247, Cond.static yJ2_compress_39247, Cond.initialized RJ2, Cond.code yJ2_compress_39247 cJ2_compress_39247 6 (some (.array .byte)), Cond.methodLink RJ2 123 yJ2_compress_5af95, Cond.static yJ2_compress_5af95, Cond.code yJ2_compress_5af95 cJ2_compress_5af95 7 (some .int), Cond.methodLink RJ2 173 yJ2_checkBoundsOffCount_d044e, Cond.static yJ2_checkBoundsOffCount_d044e, Cond.code yJ2_checkBoundsOffCount_d044e cJ2_checkBoundsOffCount_d044e 3 none, Cond.methodLink RJ2 48 yJ2_length_9d52b, Cond.static yJ2_length_9d52b]
def wsJ0_init_db425_r4 : List Cond := [Cond.code yJ2_length_9d52b cJ2_length_9d52b 1 (some .int), Cond.methodLink RJ2 419 yJ0_checkBoundsOffCount_cabcc, Cond.static yJ0_checkBoundsOffCount_cabcc, Cond.initialized RJ0, Cond.code yJ0_checkBoundsOffCount_cabcc cJ0_checkBoundsOffCount_cabcc 3 (some .int), Cond.fieldLink RJ0 1053 "jdk/internal/util/Preconditions" "SIOOBE_FORMATTER" "Ljava/util/function/BiFunction;", Cond.methodLink RJ0 1065 yJ3_checkFromIndexSize_8c36e, Cond.static yJ3_checkFromIndexSize_8c36e, Cond.initialized RJ3, Cond.code yJ3_checkFromIndexSize_8c36e cJ3_checkFromIndexSize_8c36e 4 (some .int), Cond.methodLink RJ2 71 yJ2_getChar_3b067, Cond.static yJ2_getChar_3b067, Cond.code yJ2_getChar_3b067 cJ2_getChar_3b067 2 (some .char), Cond.fieldLink RJ2 44 "java/lang/StringUTF16" "$assertionsDisabled" "Z", Cond.fieldLink RJ2 59 "java/lang/StringUTF16" "HI_BYTE_SHIFT" "I", Cond.fieldLink RJ2 63 "java/lang/StringUTF16" "LO_BYTE_SHIFT" "I", Cond.methodLink RJ2 11 yJ2_newBytesLength_0f7a4, Cond.static yJ2_newBytesLength_0f7a4, Cond.code yJ2_newBytesLength_0f7a4 cJ2_newBytesLength_0f7a4 1 (some .int), Cond.constant RJ2 20 (1073741823), Cond.methodLink RJ2 126 yJ7_copyOfRange_39247, Cond.methodLink RJ0 47 yJ2_coderFromArrayLen_85cad, Cond.static yJ2_coderFromArrayLen_85cad, Cond.code yJ2_coderFromArrayLen_85cad cJ2_coderFromArrayLen_85cad 2 (some .byte)]
def wsJ0_init_db425 : List Cond := .code yJ0_init_db425 cJ0_init_db425 5 none :: ((wsJ0_init_db425_r1 ++ (wsJ0_init_db425_r2 ++ (wsJ0_init_db425_r3 ++ wsJ0_init_db425_r4))) ++ wsJ00 ++ wsJ40)
def wsJ0_init_81219_r1 : List Cond := [Cond.methodLink RJ0 489 yJ0_init_db425, Cond.instanceMethod yJ0_init_db425, Cond.initialized RJ0, Cond.code yJ0_init_db425 cJ0_init_db425 5 none, Cond.methodLink RJ0 1 objectInit, Cond.instanceMethod objectInit, Cond.code objectInit ⟨#[0xb1]⟩ 1 none, Cond.fieldLink RJ0 15 "java/lang/String" "coder" "B", Cond.fieldLink RJ0 9 "java/lang/String" "value" "[B", Cond.fieldLink RJ0 38 "java/lang/String" "COMPACT_STRINGS" "Z", Cond.fieldLink RJ0 1048 "java/lang/AbstractStringBuilder" "maybeLatin1" "Z", Cond.methodLink RJ0 552 ⟨"java/lang/AbstractStringBuilder", "getValue", "()[B"⟩, Cond.sameMethod "java/lang/AbstractStringBuilder" "java/lang/AbstractStringBuilder" "getValue" "()[B", Cond.selects RJ4 ⟨"java/lang/AbstractStringBuilder", "getValue", "()[B"⟩ yJ5_getValue_6d5f1, Cond.instanceMethod yJ5_getValue_6d5f1, Cond.initialized RJ5, Cond.code yJ5_getValue_6d5f1 cJ5_getValue_6d5f1 1 (some (.array .byte)), Cond.fieldLink RJ5 15 "java/lang/AbstractStringBuilder" "value" "[B", Cond.methodLink RJ0 549 ⟨"java/lang/AbstractStringBuilder", "length", "()I"⟩, Cond.sameMethod "java/lang/AbstractStringBuilder" "java/lang/AbstractStringBuilder" "length" "()I", Cond.instanceMethod ⟨"java/lang/AbstractStringBuilder", "length", "()I"⟩, Cond.selects RJ4 ⟨"java/lang/AbstractStringBuilder", "length", "()I"⟩ yJ4_length_8abf5, Cond.instanceMethod yJ4_length_8abf5, Cond.initialized RJ4]
def wsJ0_init_81219_r2 : List Cond := [Cond.code yJ4_length_8abf5 cJ4_length_8abf5 1 (some .int), Cond.methodLink RJ4 343 yJ5_length_8abf5, Cond.superclass RJ4 RJ5, Cond.instanceMethod yJ5_length_8abf5, Cond.code yJ5_length_8abf5 cJ5_length_8abf5 1 (some .int), Cond.fieldLink RJ5 79 "java/lang/AbstractStringBuilder" "count" "I", Cond.methodLink RJ0 1047 ⟨"java/lang/AbstractStringBuilder", "isLatin1", "()Z"⟩, Cond.sameMethod "java/lang/AbstractStringBuilder" "java/lang/AbstractStringBuilder" "isLatin1" "()Z", Cond.selects RJ4 ⟨"java/lang/AbstractStringBuilder", "isLatin1", "()Z"⟩ yJ5_isLatin1_aae02, Cond.instanceMethod yJ5_isLatin1_aae02, Cond.code yJ5_isLatin1_aae02 cJ5_isLatin1_aae02 1 (some .boolean), Cond.fieldLink RJ5 18 "java/lang/String" "COMPACT_STRINGS" "Z", Cond.fieldLink RJ5 22 "java/lang/AbstractStringBuilder" "coder" "B", Cond.methodLink RJ0 54 yJ7_copyOfRange_39247, Cond.static yJ7_copyOfRange_39247, Cond.initialized RJ7, Cond.code yJ7_copyOfRange_39247 cJ7_copyOfRange_39247 3 (some (.array .byte)), Cond.methodLink RJ7 310 ⟨"[B", "clone", "()Ljava/lang/Object;"⟩, Cond.sameMethod "[B" "java/lang/Object" "clone" "()Ljava/lang/Object;", Cond.native ⟨"java/lang/Object", "clone", "()Ljava/lang/Object;"⟩, Cond.instanceMethod ⟨"java/lang/Object", "clone", "()Ljava/lang/Object;"⟩, Cond.selects "[B" ⟨"[B", "clone", "()Ljava/lang/Object;"⟩ ⟨"java/lang/Object", "clone", "()Ljava/lang/Object;"⟩, Cond.classLink RJ7 311 "[B", Cond.methodLink RJ7 339 yJ7_copyOfRangeByte_39247]
def wsJ0_init_81219_r3 : List Cond := [Cond.static yJ7_copyOfRangeByte_39247, Cond.code yJ7_copyOfRangeByte_39247 cJ7_copyOfRangeByte_39247 5 (some (.array .byte)), Cond.arrayClass .byte, Cond.methodLink RJ7 304 Lib.Math.min.name, Cond.static Lib.Math.min.name, Cond.initialized "java/lang/Math", Cond.code Lib.Math.min.name Lib.Math.min.code 2 (some .int), Cond.methodLink RJ7 150 arraycopyName, Cond.native arraycopyName, Cond.static arraycopyName, Cond.initialized "java/lang/System", Cond.methodLink RJ7 343 yJ7_checkLength_df160, Cond.static yJ7_checkLength_df160, Cond.code yJ7_checkLength_df160 cJ7_checkLength_df160 2 none, Cond.classLink RJ7 45 RJ4, Cond.instantiable RJ4 4, Cond.methodLink RJ0 1051 yJ2_compress_39247, Cond.static yJ2_compress_39247, Cond.initialized RJ2, Cond.code yJ2_compress_39247 cJ2_compress_39247 6 (some (.array .byte)), Cond.methodLink RJ2 123 yJ2_compress_5af95, Cond.static yJ2_compress_5af95, Cond.code yJ2_compress_5af95 cJ2_compress_5af95 7 (some .int), Cond.methodLink RJ2 173 yJ2_checkBoundsOffCount_d044e]
def wsJ0_init_81219_r4 : List Cond := [Cond.static yJ2_checkBoundsOffCount_d044e, Cond.code yJ2_checkBoundsOffCount_d044e cJ2_checkBoundsOffCount_d044e 3 none, Cond.methodLink RJ2 48 yJ2_length_9d52b, Cond.static yJ2_length_9d52b, Cond.code yJ2_length_9d52b cJ2_length_9d52b 1 (some .int), Cond.methodLink RJ2 419 yJ0_checkBoundsOffCount_cabcc, Cond.static yJ0_checkBoundsOffCount_cabcc, Cond.code yJ0_checkBoundsOffCount_cabcc cJ0_checkBoundsOffCount_cabcc 3 (some .int), Cond.fieldLink RJ0 1053 "jdk/internal/util/Preconditions" "SIOOBE_FORMATTER" "Ljava/util/function/BiFunction;", Cond.methodLink RJ0 1065 yJ3_checkFromIndexSize_8c36e, Cond.static yJ3_checkFromIndexSize_8c36e, Cond.initialized RJ3, Cond.code yJ3_checkFromIndexSize_8c36e cJ3_checkFromIndexSize_8c36e 4 (some .int), Cond.methodLink RJ2 71 yJ2_getChar_3b067, Cond.static yJ2_getChar_3b067, Cond.code yJ2_getChar_3b067 cJ2_getChar_3b067 2 (some .char), Cond.fieldLink RJ2 44 "java/lang/StringUTF16" "$assertionsDisabled" "Z", Cond.fieldLink RJ2 59 "java/lang/StringUTF16" "HI_BYTE_SHIFT" "I", Cond.fieldLink RJ2 63 "java/lang/StringUTF16" "LO_BYTE_SHIFT" "I", Cond.methodLink RJ2 11 yJ2_newBytesLength_0f7a4, Cond.static yJ2_newBytesLength_0f7a4, Cond.code yJ2_newBytesLength_0f7a4 cJ2_newBytesLength_0f7a4 1 (some .int), Cond.constant RJ2 20 (1073741823), Cond.methodLink RJ2 126 yJ7_copyOfRange_39247]
def wsJ0_init_81219_r5 : List Cond := [Cond.methodLink RJ0 47 yJ2_coderFromArrayLen_85cad, Cond.static yJ2_coderFromArrayLen_85cad, Cond.code yJ2_coderFromArrayLen_85cad cJ2_coderFromArrayLen_85cad 2 (some .byte)]
def wsJ0_init_81219 : List Cond := .code yJ0_init_81219 cJ0_init_81219 2 none :: ((wsJ0_init_81219_r1 ++ (wsJ0_init_81219_r2 ++ (wsJ0_init_81219_r3 ++ (wsJ0_init_81219_r4 ++ wsJ0_init_81219_r5)))) ++ wsJ00 ++ wsJ40)
def wsJ4_toString_0e30d_r1 : List Cond := [Cond.classLink RJ4 18 RJ0, Cond.instantiable RJ0 4, Cond.initialized RJ0, Cond.methodLink RJ4 137 yJ0_init_81219, Cond.instanceMethod yJ0_init_81219, Cond.code yJ0_init_81219 cJ0_init_81219 2 none, Cond.methodLink RJ0 489 yJ0_init_db425, Cond.instanceMethod yJ0_init_db425, Cond.code yJ0_init_db425 cJ0_init_db425 5 none, Cond.methodLink RJ0 1 objectInit, Cond.instanceMethod objectInit, Cond.code objectInit ⟨#[0xb1]⟩ 1 none, Cond.fieldLink RJ0 15 "java/lang/String" "coder" "B", Cond.fieldLink RJ0 9 "java/lang/String" "value" "[B", Cond.fieldLink RJ0 38 "java/lang/String" "COMPACT_STRINGS" "Z", Cond.fieldLink RJ0 1048 "java/lang/AbstractStringBuilder" "maybeLatin1" "Z", Cond.methodLink RJ0 552 ⟨"java/lang/AbstractStringBuilder", "getValue", "()[B"⟩, Cond.sameMethod "java/lang/AbstractStringBuilder" "java/lang/AbstractStringBuilder" "getValue" "()[B", Cond.selects RJ4 ⟨"java/lang/AbstractStringBuilder", "getValue", "()[B"⟩ yJ5_getValue_6d5f1, Cond.instanceMethod yJ5_getValue_6d5f1, Cond.initialized RJ5, Cond.code yJ5_getValue_6d5f1 cJ5_getValue_6d5f1 1 (some (.array .byte)), Cond.fieldLink RJ5 15 "java/lang/AbstractStringBuilder" "value" "[B", Cond.methodLink RJ0 549 ⟨"java/lang/AbstractStringBuilder", "length", "()I"⟩]
def wsJ4_toString_0e30d_r2 : List Cond := [Cond.sameMethod "java/lang/AbstractStringBuilder" "java/lang/AbstractStringBuilder" "length" "()I", Cond.instanceMethod ⟨"java/lang/AbstractStringBuilder", "length", "()I"⟩, Cond.selects RJ4 ⟨"java/lang/AbstractStringBuilder", "length", "()I"⟩ yJ4_length_8abf5, Cond.instanceMethod yJ4_length_8abf5, Cond.initialized RJ4, Cond.code yJ4_length_8abf5 cJ4_length_8abf5 1 (some .int), Cond.methodLink RJ4 343 yJ5_length_8abf5, Cond.superclass RJ4 RJ5, Cond.instanceMethod yJ5_length_8abf5, Cond.code yJ5_length_8abf5 cJ5_length_8abf5 1 (some .int), Cond.fieldLink RJ5 79 "java/lang/AbstractStringBuilder" "count" "I", Cond.methodLink RJ0 1047 ⟨"java/lang/AbstractStringBuilder", "isLatin1", "()Z"⟩, Cond.sameMethod "java/lang/AbstractStringBuilder" "java/lang/AbstractStringBuilder" "isLatin1" "()Z", Cond.selects RJ4 ⟨"java/lang/AbstractStringBuilder", "isLatin1", "()Z"⟩ yJ5_isLatin1_aae02, Cond.instanceMethod yJ5_isLatin1_aae02, Cond.code yJ5_isLatin1_aae02 cJ5_isLatin1_aae02 1 (some .boolean), Cond.fieldLink RJ5 18 "java/lang/String" "COMPACT_STRINGS" "Z", Cond.fieldLink RJ5 22 "java/lang/AbstractStringBuilder" "coder" "B", Cond.methodLink RJ0 54 yJ7_copyOfRange_39247, Cond.static yJ7_copyOfRange_39247, Cond.initialized RJ7, Cond.code yJ7_copyOfRange_39247 cJ7_copyOfRange_39247 3 (some (.array .byte)), Cond.methodLink RJ7 310 ⟨"[B", "clone", "()Ljava/lang/Object;"⟩, Cond.sameMethod "[B" "java/lang/Object" "clone" "()Ljava/lang/Object;"]
def wsJ4_toString_0e30d_r3 : List Cond := [Cond.native ⟨"java/lang/Object", "clone", "()Ljava/lang/Object;"⟩, Cond.instanceMethod ⟨"java/lang/Object", "clone", "()Ljava/lang/Object;"⟩, Cond.selects "[B" ⟨"[B", "clone", "()Ljava/lang/Object;"⟩ ⟨"java/lang/Object", "clone", "()Ljava/lang/Object;"⟩, Cond.classLink RJ7 311 "[B", Cond.methodLink RJ7 339 yJ7_copyOfRangeByte_39247, Cond.static yJ7_copyOfRangeByte_39247, Cond.code yJ7_copyOfRangeByte_39247 cJ7_copyOfRangeByte_39247 5 (some (.array .byte)), Cond.arrayClass .byte, Cond.methodLink RJ7 304 Lib.Math.min.name, Cond.static Lib.Math.min.name, Cond.initialized "java/lang/Math", Cond.code Lib.Math.min.name Lib.Math.min.code 2 (some .int), Cond.methodLink RJ7 150 arraycopyName, Cond.native arraycopyName, Cond.static arraycopyName, Cond.initialized "java/lang/System", Cond.methodLink RJ7 343 yJ7_checkLength_df160, Cond.static yJ7_checkLength_df160, Cond.code yJ7_checkLength_df160 cJ7_checkLength_df160 2 none, Cond.classLink RJ7 45 RJ4, Cond.instantiable RJ4 4, Cond.methodLink RJ0 1051 yJ2_compress_39247, Cond.static yJ2_compress_39247, Cond.initialized RJ2]
def wsJ4_toString_0e30d_r4 : List Cond := [Cond.code yJ2_compress_39247 cJ2_compress_39247 6 (some (.array .byte)), Cond.methodLink RJ2 123 yJ2_compress_5af95, Cond.static yJ2_compress_5af95, Cond.code yJ2_compress_5af95 cJ2_compress_5af95 7 (some .int), Cond.methodLink RJ2 173 yJ2_checkBoundsOffCount_d044e, Cond.static yJ2_checkBoundsOffCount_d044e, Cond.code yJ2_checkBoundsOffCount_d044e cJ2_checkBoundsOffCount_d044e 3 none, Cond.methodLink RJ2 48 yJ2_length_9d52b, Cond.static yJ2_length_9d52b, Cond.code yJ2_length_9d52b cJ2_length_9d52b 1 (some .int), Cond.methodLink RJ2 419 yJ0_checkBoundsOffCount_cabcc, Cond.static yJ0_checkBoundsOffCount_cabcc, Cond.code yJ0_checkBoundsOffCount_cabcc cJ0_checkBoundsOffCount_cabcc 3 (some .int), Cond.fieldLink RJ0 1053 "jdk/internal/util/Preconditions" "SIOOBE_FORMATTER" "Ljava/util/function/BiFunction;", Cond.methodLink RJ0 1065 yJ3_checkFromIndexSize_8c36e, Cond.static yJ3_checkFromIndexSize_8c36e, Cond.initialized RJ3, Cond.code yJ3_checkFromIndexSize_8c36e cJ3_checkFromIndexSize_8c36e 4 (some .int), Cond.methodLink RJ2 71 yJ2_getChar_3b067, Cond.static yJ2_getChar_3b067, Cond.code yJ2_getChar_3b067 cJ2_getChar_3b067 2 (some .char), Cond.fieldLink RJ2 44 "java/lang/StringUTF16" "$assertionsDisabled" "Z", Cond.fieldLink RJ2 59 "java/lang/StringUTF16" "HI_BYTE_SHIFT" "I", Cond.fieldLink RJ2 63 "java/lang/StringUTF16" "LO_BYTE_SHIFT" "I"]
def wsJ4_toString_0e30d_r5 : List Cond := [Cond.methodLink RJ2 11 yJ2_newBytesLength_0f7a4, Cond.static yJ2_newBytesLength_0f7a4, Cond.code yJ2_newBytesLength_0f7a4 cJ2_newBytesLength_0f7a4 1 (some .int), Cond.constant RJ2 20 (1073741823), Cond.methodLink RJ2 126 yJ7_copyOfRange_39247, Cond.methodLink RJ0 47 yJ2_coderFromArrayLen_85cad, Cond.static yJ2_coderFromArrayLen_85cad, Cond.code yJ2_coderFromArrayLen_85cad cJ2_coderFromArrayLen_85cad 2 (some .byte)]
def wsJ4_toString_0e30d : List Cond := .code yJ4_toString_0e30d cJ4_toString_0e30d 1 (some (.object "java/lang/String")) :: ((wsJ4_toString_0e30d_r1 ++ (wsJ4_toString_0e30d_r2 ++ (wsJ4_toString_0e30d_r3 ++ (wsJ4_toString_0e30d_r4 ++ wsJ4_toString_0e30d_r5)))) ++ wsJ00 ++ wsJ40)
def wsX5_init_r1 : List Cond := [Cond.methodLink RX5 3 objectInit, Cond.instanceMethod objectInit, Cond.code objectInit ⟨#[0xb1]⟩ 1 none, Cond.fieldLink RX5 9 "MarkChat$Task" "number" "I", Cond.fieldLink RX5 15 "MarkChat$Message" "number" "I", Cond.fieldLink RX5 18 "MarkChat$Task" "message" "I", Cond.fieldLink RX5 21 "MarkChat$Task" "doer" "LMarkChat$User;", Cond.fieldLink RX5 25 "MarkChat$Task" "untilHour" "I", Cond.classLink RX5 28 RJ4, Cond.instantiable RJ4 4, Cond.initialized RJ4, Cond.fieldLink RX5 38 "MarkChat$Message" "version" "I", Cond.fieldLink RX5 41 "MarkChat$User" "number" "I", Cond.fieldLink RX5 48 "MarkChat$Task" "text" "Ljava/lang/String;", Cond.fieldLink RX5 52 "MarkChat$Task" "state" "I", Cond.methodLink RX5 30 yJ4_init_da8c8, Cond.instanceMethod yJ4_init_da8c8, Cond.code yJ4_init_da8c8 cJ4_init_da8c8 1 none, Cond.methodLink RJ4 1 yJ5_init_d00df, Cond.instanceMethod yJ5_init_d00df, Cond.initialized RJ5, Cond.code yJ5_init_d00df cJ5_init_d00df 2 none, Cond.methodLink RJ5 3 objectInit, Cond.fieldLink RJ5 18 "java/lang/String" "COMPACT_STRINGS" "Z"]
def wsX5_init_r2 : List Cond := [Cond.arrayClass .byte, Cond.fieldLink RJ5 15 "java/lang/AbstractStringBuilder" "value" "[B", Cond.fieldLink RJ5 22 "java/lang/AbstractStringBuilder" "coder" "B", Cond.methodLink RJ5 26 yJ2_newBytesFor_77867, Cond.static yJ2_newBytesFor_77867, Cond.initialized RJ2, Cond.code yJ2_newBytesFor_77867 cJ2_newBytesFor_77867 1 (some (.array .byte)), Cond.methodLink RJ2 11 yJ2_newBytesLength_0f7a4, Cond.static yJ2_newBytesLength_0f7a4, Cond.code yJ2_newBytesLength_0f7a4 cJ2_newBytesLength_0f7a4 1 (some .int), Cond.constant RJ2 20 (1073741823), Cond.methodLink RX5 31 yJ4_append_bf812, Cond.instanceMethod yJ4_append_bf812, Cond.selects RJ4 yJ4_append_bf812 yJ4_append_bf812, Cond.code yJ4_append_bf812 cJ4_append_bf812 2 (some (.object "java/lang/StringBuilder")), Cond.methodLink RJ4 53 yJ5_append_c97b9, Cond.sameMethod "java/lang/AbstractStringBuilder" "java/lang/AbstractStringBuilder" "append" "(I)Ljava/lang/AbstractStringBuilder;", Cond.superclass RJ4 RJ5, Cond.instanceMethod yJ5_append_c97b9, Cond.code yJ5_append_c97b9 cJ5_append_c97b9 4 (some (.object "java/lang/AbstractStringBuilder")), Cond.fieldLink RJ5 79 "java/lang/AbstractStringBuilder" "count" "I", Cond.methodLink RJ5 245 yJ6_stringSize_0f7a4, Cond.static yJ6_stringSize_0f7a4, Cond.initialized RJ6]
def wsX5_init_r3 : List Cond := [Cond.code yJ6_stringSize_0f7a4 cJ6_stringSize_0f7a4 4 (some .int), Cond.methodLink RJ5 100 ⟨"java/lang/AbstractStringBuilder", "ensureCapacityInternal", "(I)V"⟩, Cond.sameMethod "java/lang/AbstractStringBuilder" "java/lang/AbstractStringBuilder" "ensureCapacityInternal" "(I)V", Cond.selects RJ4 ⟨"java/lang/AbstractStringBuilder", "ensureCapacityInternal", "(I)V"⟩ yJ5_ensureCapacityInternal_d00df, Cond.instanceMethod yJ5_ensureCapacityInternal_d00df, Cond.code yJ5_ensureCapacityInternal_d00df cJ5_ensureCapacityInternal_d00df 3 none, Cond.methodLink RJ5 104 ⟨"java/lang/AbstractStringBuilder", "newCapacity", "(I)I"⟩, Cond.sameMethod "java/lang/AbstractStringBuilder" "java/lang/AbstractStringBuilder" "newCapacity" "(I)I", Cond.selects RJ4 ⟨"java/lang/AbstractStringBuilder", "newCapacity", "(I)I"⟩ yJ5_newCapacity_0f7a4, Cond.instanceMethod yJ5_newCapacity_0f7a4, Cond.code yJ5_newCapacity_0f7a4 cJ5_newCapacity_0f7a4 6 (some .int), Cond.constant RJ5 39 (2147483647), Cond.methodLink RJ5 114 yJ8_newLength_cabcc, Cond.static yJ8_newLength_cabcc, Cond.initialized RJ8, Cond.code yJ8_newLength_cabcc cJ8_newLength_cabcc 4 (some .int), Cond.methodLink RJ8 194 Lib.Math.max.name, Cond.static Lib.Math.max.name, Cond.initialized "java/lang/Math", Cond.code Lib.Math.max.name Lib.Math.max.code 2 (some .int), Cond.constant RJ8 200 (2147483639), Cond.methodLink RJ8 201 yJ8_hugeLength_7cf53, Cond.static yJ8_hugeLength_7cf53, Cond.code yJ8_hugeLength_7cf53 cJ8_hugeLength_7cf53 3 (some .int)]
def wsX5_init_r4 : List Cond := [Cond.methodLink RJ5 108 yJ7_copyOf_9075b, Cond.static yJ7_copyOf_9075b, Cond.initialized RJ7, Cond.code yJ7_copyOf_9075b cJ7_copyOf_9075b 3 (some (.array .byte)), Cond.methodLink RJ7 310 ⟨"[B", "clone", "()Ljava/lang/Object;"⟩, Cond.sameMethod "[B" "java/lang/Object" "clone" "()Ljava/lang/Object;", Cond.native ⟨"java/lang/Object", "clone", "()Ljava/lang/Object;"⟩, Cond.instanceMethod ⟨"java/lang/Object", "clone", "()Ljava/lang/Object;"⟩, Cond.selects "[B" ⟨"[B", "clone", "()Ljava/lang/Object;"⟩ ⟨"java/lang/Object", "clone", "()Ljava/lang/Object;"⟩, Cond.classLink RJ7 311 "[B", Cond.methodLink RJ7 304 Lib.Math.min.name, Cond.static Lib.Math.min.name, Cond.code Lib.Math.min.name Lib.Math.min.code 2 (some .int), Cond.methodLink RJ7 150 arraycopyName, Cond.native arraycopyName, Cond.static arraycopyName, Cond.initialized "java/lang/System", Cond.methodLink RJ5 83 ⟨"java/lang/AbstractStringBuilder", "isLatin1", "()Z"⟩, Cond.sameMethod "java/lang/AbstractStringBuilder" "java/lang/AbstractStringBuilder" "isLatin1" "()Z", Cond.selects RJ4 ⟨"java/lang/AbstractStringBuilder", "isLatin1", "()Z"⟩ yJ5_isLatin1_aae02, Cond.instanceMethod yJ5_isLatin1_aae02, Cond.code yJ5_isLatin1_aae02 cJ5_isLatin1_aae02 1 (some .boolean), Cond.methodLink RJ5 248 yJ6_getChars_ba4f3, Cond.static yJ6_getChars_ba4f3]
def wsX5_init_r5 : List Cond := [Cond.code yJ6_getChars_ba4f3 cJ6_getChars_ba4f3 7 (some .int), Cond.fieldLink RJ6 83 "java/lang/Integer" "DigitOnes" "[B", Cond.fieldLink RJ6 87 "java/lang/Integer" "DigitTens" "[B", Cond.methodLink RJ5 251 yJ2_getChars_46870, Cond.static yJ2_getChars_46870, Cond.code yJ2_getChars_46870 cJ2_getChars_46870 5 (some .int), Cond.fieldLink RJ2 44 "java/lang/StringUTF16" "$assertionsDisabled" "Z", Cond.methodLink RJ2 96 yJ2_checkBoundsBeginEnd_d044e, Cond.static yJ2_checkBoundsBeginEnd_d044e, Cond.code yJ2_checkBoundsBeginEnd_d044e cJ2_checkBoundsBeginEnd_d044e 3 none, Cond.methodLink RJ2 48 yJ2_length_9d52b, Cond.static yJ2_length_9d52b, Cond.code yJ2_length_9d52b cJ2_length_9d52b 1 (some .int), Cond.methodLink RJ2 241 yJ0_checkBoundsBeginEnd_23922, Cond.static yJ0_checkBoundsBeginEnd_23922, Cond.initialized RJ0, Cond.code yJ0_checkBoundsBeginEnd_23922 cJ0_checkBoundsBeginEnd_23922 3 none, Cond.fieldLink RJ0 1053 "jdk/internal/util/Preconditions" "SIOOBE_FORMATTER" "Ljava/util/function/BiFunction;", Cond.methodLink RJ0 1062 yJ3_checkFromToIndex_8c36e, Cond.static yJ3_checkFromToIndex_8c36e, Cond.initialized RJ3, Cond.code yJ3_checkFromToIndex_8c36e cJ3_checkFromToIndex_8c36e 4 (some .int), Cond.methodLink RJ2 393 yJ2_getChars_ba4f3, Cond.static yJ2_getChars_ba4f3]
def wsX5_init_r6 : List Cond := [Cond.code yJ2_getChars_ba4f3 cJ2_getChars_ba4f3 7 (some .int), Cond.fieldLink RJ2 403 "java/lang/Integer" "DigitOnes" "[B", Cond.fieldLink RJ2 407 "java/lang/Integer" "DigitTens" "[B", Cond.methodLink RJ2 111 yJ2_putChar_b72d1, Cond.static yJ2_putChar_b72d1, Cond.code yJ2_putChar_b72d1 cJ2_putChar_b72d1 3 none, Cond.fieldLink RJ2 59 "java/lang/StringUTF16" "HI_BYTE_SHIFT" "I", Cond.fieldLink RJ2 63 "java/lang/StringUTF16" "LO_BYTE_SHIFT" "I", Cond.methodLink RX5 35 yJ4_append_cf468, Cond.instanceMethod yJ4_append_cf468, Cond.selects RJ4 yJ4_append_cf468 yJ4_append_cf468, Cond.code yJ4_append_cf468 cJ4_append_cf468 2 (some (.object "java/lang/StringBuilder")), Cond.methodLink RJ4 50 yJ5_append_3fe6f, Cond.sameMethod "java/lang/AbstractStringBuilder" "java/lang/AbstractStringBuilder" "append" "(C)Ljava/lang/AbstractStringBuilder;", Cond.instanceMethod yJ5_append_3fe6f, Cond.code yJ5_append_3fe6f cJ5_append_3fe6f 2 (some (.object "java/lang/AbstractStringBuilder")), Cond.methodLink RJ5 191 yJ1_canEncode_fc78d, Cond.static yJ1_canEncode_fc78d, Cond.initialized RJ1, Cond.code yJ1_canEncode_fc78d cJ1_canEncode_fc78d 1 (some .boolean), Cond.methodLink RJ5 195 ⟨"java/lang/AbstractStringBuilder", "inflate", "()V"⟩, Cond.sameMethod "java/lang/AbstractStringBuilder" "java/lang/AbstractStringBuilder" "inflate" "()V", Cond.selects RJ4 ⟨"java/lang/AbstractStringBuilder", "inflate", "()V"⟩ yJ5_inflate_da8c8, Cond.instanceMethod yJ5_inflate_da8c8]
def wsX5_init_r7 : List Cond := [Cond.code yJ5_inflate_da8c8 cJ5_inflate_da8c8 2 none, Cond.methodLink RJ5 125 yJ1_inflate_0e8fd, Cond.static yJ1_inflate_0e8fd, Cond.code yJ1_inflate_0e8fd cJ1_inflate_0e8fd 5 none, Cond.methodLink RJ1 240 yJ2_inflate_0e8fd, Cond.static yJ2_inflate_0e8fd, Cond.code yJ2_inflate_0e8fd cJ2_inflate_0e8fd 6 none, Cond.methodLink RJ2 173 yJ2_checkBoundsOffCount_d044e, Cond.static yJ2_checkBoundsOffCount_d044e, Cond.code yJ2_checkBoundsOffCount_d044e cJ2_checkBoundsOffCount_d044e 3 none, Cond.methodLink RJ2 419 yJ0_checkBoundsOffCount_cabcc, Cond.static yJ0_checkBoundsOffCount_cabcc, Cond.code yJ0_checkBoundsOffCount_cabcc cJ0_checkBoundsOffCount_cabcc 3 (some .int), Cond.methodLink RJ0 1065 yJ3_checkFromIndexSize_8c36e, Cond.static yJ3_checkFromIndexSize_8c36e, Cond.code yJ3_checkFromIndexSize_8c36e cJ3_checkFromIndexSize_8c36e 4 (some .int), Cond.methodLink RJ5 197 yJ2_putCharSB_b72d1, Cond.static yJ2_putCharSB_b72d1, Cond.code yJ2_putCharSB_b72d1 cJ2_putCharSB_b72d1 3 none, Cond.methodLink RJ2 67 yJ2_checkIndex_2214a, Cond.static yJ2_checkIndex_2214a, Cond.code yJ2_checkIndex_2214a cJ2_checkIndex_2214a 2 none, Cond.methodLink RJ2 414 yJ0_checkIndex_df160, Cond.static yJ0_checkIndex_df160]
def wsX5_init_r8 : List Cond := [Cond.code yJ0_checkIndex_df160 cJ0_checkIndex_df160 2 none, Cond.methodLink RJ0 1059 yJ3_checkIndex_8e157, Cond.static yJ3_checkIndex_8e157, Cond.code yJ3_checkIndex_8e157 cJ3_checkIndex_8e157 3 (some .int), Cond.methodLink RX5 44 yJ4_toString_0e30d, Cond.instanceMethod yJ4_toString_0e30d, Cond.selects RJ4 yJ4_toString_0e30d yJ4_toString_0e30d, Cond.code yJ4_toString_0e30d cJ4_toString_0e30d 1 (some (.object "java/lang/String")), Cond.classLink RJ4 18 RJ0, Cond.instantiable RJ0 4, Cond.methodLink RJ4 137 yJ0_init_81219, Cond.instanceMethod yJ0_init_81219, Cond.code yJ0_init_81219 cJ0_init_81219 2 none, Cond.methodLink RJ0 489 yJ0_init_db425, Cond.instanceMethod yJ0_init_db425, Cond.code yJ0_init_db425 cJ0_init_db425 5 none, Cond.methodLink RJ0 1 objectInit, Cond.fieldLink RJ0 15 "java/lang/String" "coder" "B", Cond.fieldLink RJ0 9 "java/lang/String" "value" "[B", Cond.fieldLink RJ0 38 "java/lang/String" "COMPACT_STRINGS" "Z", Cond.fieldLink RJ0 1048 "java/lang/AbstractStringBuilder" "maybeLatin1" "Z", Cond.methodLink RJ0 552 ⟨"java/lang/AbstractStringBuilder", "getValue", "()[B"⟩, Cond.sameMethod "java/lang/AbstractStringBuilder" "java/lang/AbstractStringBuilder" "getValue" "()[B", Cond.selects RJ4 ⟨"java/lang/AbstractStringBuilder", "getValue", "()[B"⟩ yJ5_getValue_6d5f1]
def wsX5_init_r9 : List Cond := [Cond.instanceMethod yJ5_getValue_6d5f1, Cond.code yJ5_getValue_6d5f1 cJ5_getValue_6d5f1 1 (some (.array .byte)), Cond.methodLink RJ0 549 ⟨"java/lang/AbstractStringBuilder", "length", "()I"⟩, Cond.sameMethod "java/lang/AbstractStringBuilder" "java/lang/AbstractStringBuilder" "length" "()I", Cond.instanceMethod ⟨"java/lang/AbstractStringBuilder", "length", "()I"⟩, Cond.selects RJ4 ⟨"java/lang/AbstractStringBuilder", "length", "()I"⟩ yJ4_length_8abf5, Cond.instanceMethod yJ4_length_8abf5, Cond.code yJ4_length_8abf5 cJ4_length_8abf5 1 (some .int), Cond.methodLink RJ4 343 yJ5_length_8abf5, Cond.instanceMethod yJ5_length_8abf5, Cond.code yJ5_length_8abf5 cJ5_length_8abf5 1 (some .int), Cond.methodLink RJ0 1047 ⟨"java/lang/AbstractStringBuilder", "isLatin1", "()Z"⟩, Cond.methodLink RJ0 54 yJ7_copyOfRange_39247, Cond.static yJ7_copyOfRange_39247, Cond.code yJ7_copyOfRange_39247 cJ7_copyOfRange_39247 3 (some (.array .byte)), Cond.methodLink RJ7 339 yJ7_copyOfRangeByte_39247, Cond.static yJ7_copyOfRangeByte_39247, Cond.code yJ7_copyOfRangeByte_39247 cJ7_copyOfRangeByte_39247 5 (some (.array .byte)), Cond.methodLink RJ7 343 yJ7_checkLength_df160, Cond.static yJ7_checkLength_df160, Cond.code yJ7_checkLength_df160 cJ7_checkLength_df160 2 none, Cond.classLink RJ7 45 RJ4, Cond.methodLink RJ0 1051 yJ2_compress_39247, Cond.static yJ2_compress_39247]
def wsX5_init_r10 : List Cond := [Cond.code yJ2_compress_39247 cJ2_compress_39247 6 (some (.array .byte)), Cond.methodLink RJ2 123 yJ2_compress_5af95, Cond.static yJ2_compress_5af95, Cond.code yJ2_compress_5af95 cJ2_compress_5af95 7 (some .int), Cond.methodLink RJ2 71 yJ2_getChar_3b067, Cond.static yJ2_getChar_3b067, Cond.code yJ2_getChar_3b067 cJ2_getChar_3b067 2 (some .char), Cond.methodLink RJ2 126 yJ7_copyOfRange_39247, Cond.methodLink RJ0 47 yJ2_coderFromArrayLen_85cad, Cond.static yJ2_coderFromArrayLen_85cad, Cond.code yJ2_coderFromArrayLen_85cad cJ2_coderFromArrayLen_85cad 2 (some .byte)]
def wsX5_init : List Cond := .code yX5_init cX5_init 5 none :: ((wsX5_init_r1 ++ (wsX5_init_r2 ++ (wsX5_init_r3 ++ (wsX5_init_r4 ++ (wsX5_init_r5 ++ (wsX5_init_r6 ++ (wsX5_init_r7 ++ (wsX5_init_r8 ++ (wsX5_init_r9 ++ wsX5_init_r10))))))))) ++ wsX50 ++ wsX30 ++ wsJ40 ++ wsX60 ++ wsJ00)
def wsX5_isOpenFor : List Cond := .code yX5_isOpenFor cX5_isOpenFor 2 (some .boolean) :: ([.fieldLink RX5 52 "MarkChat$Task" "state" "I", .fieldLink RX5 21 "MarkChat$Task" "doer" "LMarkChat$User;", .fieldLink RX5 41 "MarkChat$User" "number" "I"] ++ wsX50 ++ wsX60)
def wsX5_comesBefore : List Cond := .code yX5_comesBefore cX5_comesBefore 2 (some .boolean) :: ([.fieldLink RX5 25 "MarkChat$Task" "untilHour" "I", .fieldLink RX5 9 "MarkChat$Task" "number" "I"] ++ wsX50)
def wsX6_init : List Cond := .code yX6_init cX6_init 3 none :: ([.methodLink RX6 3 objectInit, .instanceMethod objectInit, .code objectInit ⟨#[0xb1]⟩ 1 none, .fieldLink RX6 9 "MarkChat$User" "number" "I", .fieldLink RX6 15 "MarkChat$User" "rank" "I", .fieldLink RX6 18 "MarkChat$User" "endHour" "I"] ++ wsX60)
def wsX6_isGoneAt : List Cond := .code yX6_isGoneAt cX6_isGoneAt 2 (some .boolean) :: ([.fieldLink RX6 18 "MarkChat$User" "endHour" "I"] ++ wsX60)
def wsX6_countsAt : List Cond := .code yX6_countsAt cX6_countsAt 2 (some .boolean) :: ([.fieldLink RX6 15 "MarkChat$User" "rank" "I", .methodLink RX6 21 yX6_isGoneAt, .instanceMethod yX6_isGoneAt, .selects RX6 yX6_isGoneAt yX6_isGoneAt, .initialized RX6, .code yX6_isGoneAt cX6_isGoneAt 2 (some .boolean), .fieldLink RX6 18 "MarkChat$User" "endHour" "I"] ++ wsX60)
def wsJxa1e45_init_da8c8 : List Cond := .code yJxa1e45_init_da8c8 cJxa1e45_init_da8c8 1 none :: ([.methodLink RJxa1e45 1 objectInit, .instanceMethod objectInit, .code objectInit ⟨#[0xb1]⟩ 1 none])
def wsJxc12de_init_da8c8 : List Cond := .code yJxc12de_init_da8c8 cJxc12de_init_da8c8 1 none :: ([.fieldLink RJxc12de 7 "java/util/AbstractList" "modCount" "I", .methodLink RJxc12de 1 yJxa1e45_init_da8c8, .instanceMethod yJxa1e45_init_da8c8, .initialized RJxa1e45, .code yJxa1e45_init_da8c8 cJxa1e45_init_da8c8 1 none, .methodLink RJxa1e45 1 objectInit, .instanceMethod objectInit, .code objectInit ⟨#[0xb1]⟩ 1 none] ++ wsJx4a65c0)
def wsJx4a65c_init_da8c8 : List Cond := .code yJx4a65c_init_da8c8 cJx4a65c_init_da8c8 1 none :: ([.fieldLink RJx4a65c 39 "java/util/ArrayList" "DEFAULTCAPACITY_EMPTY_ELEMENTDATA" "[Ljava/lang/Object;", .fieldLink RJx4a65c 9 "java/util/ArrayList" "elementData" "[Ljava/lang/Object;", .methodLink RJx4a65c 1 yJxc12de_init_da8c8, .instanceMethod yJxc12de_init_da8c8, .initialized RJxc12de, .code yJxc12de_init_da8c8 cJxc12de_init_da8c8 1 none, .fieldLink RJxc12de 7 "java/util/AbstractList" "modCount" "I", .methodLink RJxc12de 1 yJxa1e45_init_da8c8, .instanceMethod yJxa1e45_init_da8c8, .initialized RJxa1e45, .code yJxa1e45_init_da8c8 cJxa1e45_init_da8c8 1 none, .methodLink RJxa1e45 1 objectInit, .instanceMethod objectInit, .code objectInit ⟨#[0xb1]⟩ 1 none] ++ wsJx4a65c0)
def wsJ7_copyOf_6403c : List Cond := .code yJ7_copyOf_6403c cJ7_copyOf_6403c 4 (some (.array (.object "java/lang/Object"))) :: ([.classLink RJ7 110 "[Ljava/lang/Object;", .classLink RJ7 2 "java/lang/Object", .methodLink RJ7 304 Lib.Math.min.name, .static Lib.Math.min.name, .initialized "java/lang/Math", .code Lib.Math.min.name Lib.Math.min.code 2 (some .int), .methodLink RJ7 150 arraycopyName, .native arraycopyName, .static arraycopyName, .initialized "java/lang/System"])
def wsJ7_copyOf_1904c : List Cond := .code yJ7_copyOf_1904c cJ7_copyOf_1904c 2 (some (.array (.object "java/lang/Object"))) :: ([.methodLink RJ7 86 ⟨"java/lang/Object", "getClass", "()Ljava/lang/Class;"⟩, .selects "[Ljava/lang/Object;" ⟨"java/lang/Object", "getClass", "()Ljava/lang/Class;"⟩ ⟨"java/lang/Object", "getClass", "()Ljava/lang/Class;"⟩, .instanceMethod ⟨"java/lang/Object", "getClass", "()Ljava/lang/Class;"⟩, .native ⟨"java/lang/Object", "getClass", "()Ljava/lang/Class;"⟩, .methodLink RJ7 300 yJ7_copyOf_6403c, .static yJ7_copyOf_6403c, .initialized RJ7, .code yJ7_copyOf_6403c cJ7_copyOf_6403c 4 (some (.array (.object "java/lang/Object"))), .classLink RJ7 110 "[Ljava/lang/Object;", .classLink RJ7 2 "java/lang/Object", .methodLink RJ7 304 Lib.Math.min.name, .static Lib.Math.min.name, .initialized "java/lang/Math", .code Lib.Math.min.name Lib.Math.min.code 2 (some .int), .methodLink RJ7 150 arraycopyName, .native arraycopyName, .static arraycopyName, .initialized "java/lang/System"])
def wsJx4a65c_grow_92f84_r1 : List Cond := [Cond.fieldLink RJx4a65c 9 "java/util/ArrayList" "elementData" "[Ljava/lang/Object;", Cond.fieldLink RJx4a65c 39 "java/util/ArrayList" "DEFAULTCAPACITY_EMPTY_ELEMENTDATA" "[Ljava/lang/Object;", Cond.methodLink RJx4a65c 79 Lib.Math.max.name, Cond.static Lib.Math.max.name, Cond.initialized "java/lang/Math", Cond.code Lib.Math.max.name Lib.Math.max.code 2 (some .int), Cond.classLink RJx4a65c 7 "java/lang/Object", Cond.methodLink RJx4a65c 73 yJ8_newLength_cabcc, Cond.static yJ8_newLength_cabcc, Cond.initialized RJ8, Cond.code yJ8_newLength_cabcc cJ8_newLength_cabcc 4 (some .int), Cond.methodLink RJ8 194 Lib.Math.max.name, Cond.constant RJ8 200 (2147483639), Cond.methodLink RJ8 201 yJ8_hugeLength_7cf53, Cond.static yJ8_hugeLength_7cf53, Cond.code yJ8_hugeLength_7cf53 cJ8_hugeLength_7cf53 3 (some .int), Cond.methodLink RJx4a65c 66 yJ7_copyOf_1904c, Cond.static yJ7_copyOf_1904c, Cond.initialized RJ7, Cond.code yJ7_copyOf_1904c cJ7_copyOf_1904c 2 (some (.array (.object "java/lang/Object"))), Cond.methodLink RJ7 86 ⟨"java/lang/Object", "getClass", "()Ljava/lang/Class;"⟩, Cond.selects "[Ljava/lang/Object;" ⟨"java/lang/Object", "getClass", "()Ljava/lang/Class;"⟩ ⟨"java/lang/Object", "getClass", "()Ljava/lang/Class;"⟩, Cond.instanceMethod ⟨"java/lang/Object", "getClass", "()Ljava/lang/Class;"⟩, Cond.native ⟨"java/lang/Object", "getClass", "()Ljava/lang/Class;"⟩]
def wsJx4a65c_grow_92f84_r2 : List Cond := [Cond.methodLink RJ7 300 yJ7_copyOf_6403c, Cond.static yJ7_copyOf_6403c, Cond.code yJ7_copyOf_6403c cJ7_copyOf_6403c 4 (some (.array (.object "java/lang/Object"))), Cond.classLink RJ7 110 "[Ljava/lang/Object;", Cond.classLink RJ7 2 "java/lang/Object", Cond.methodLink RJ7 304 Lib.Math.min.name, Cond.static Lib.Math.min.name, Cond.code Lib.Math.min.name Lib.Math.min.code 2 (some .int), Cond.methodLink RJ7 150 arraycopyName, Cond.native arraycopyName, Cond.static arraycopyName, Cond.initialized "java/lang/System"]
def wsJx4a65c_grow_92f84 : List Cond := .code yJx4a65c_grow_92f84 cJx4a65c_grow_92f84 4 (some (.array (.object "java/lang/Object"))) :: ((wsJx4a65c_grow_92f84_r1 ++ wsJx4a65c_grow_92f84_r2) ++ wsJx4a65c0)
def wsJx4a65c_grow_d5877_r1 : List Cond := [Cond.fieldLink RJx4a65c 48 "java/util/ArrayList" "size" "I", Cond.methodLink RJx4a65c 69 yJx4a65c_grow_92f84, Cond.instanceMethod yJx4a65c_grow_92f84, Cond.selects RJx4a65c yJx4a65c_grow_92f84 yJx4a65c_grow_92f84, Cond.initialized RJx4a65c, Cond.code yJx4a65c_grow_92f84 cJx4a65c_grow_92f84 4 (some (.array (.object "java/lang/Object"))), Cond.fieldLink RJx4a65c 9 "java/util/ArrayList" "elementData" "[Ljava/lang/Object;", Cond.fieldLink RJx4a65c 39 "java/util/ArrayList" "DEFAULTCAPACITY_EMPTY_ELEMENTDATA" "[Ljava/lang/Object;", Cond.methodLink RJx4a65c 79 Lib.Math.max.name, Cond.static Lib.Math.max.name, Cond.initialized "java/lang/Math", Cond.code Lib.Math.max.name Lib.Math.max.code 2 (some .int), Cond.classLink RJx4a65c 7 "java/lang/Object", Cond.methodLink RJx4a65c 73 yJ8_newLength_cabcc, Cond.static yJ8_newLength_cabcc, Cond.initialized RJ8, Cond.code yJ8_newLength_cabcc cJ8_newLength_cabcc 4 (some .int), Cond.methodLink RJ8 194 Lib.Math.max.name, Cond.constant RJ8 200 (2147483639), Cond.methodLink RJ8 201 yJ8_hugeLength_7cf53, Cond.static yJ8_hugeLength_7cf53, Cond.code yJ8_hugeLength_7cf53 cJ8_hugeLength_7cf53 3 (some .int), Cond.methodLink RJx4a65c 66 yJ7_copyOf_1904c, Cond.static yJ7_copyOf_1904c]
def wsJx4a65c_grow_d5877_r2 : List Cond := [Cond.initialized RJ7, Cond.code yJ7_copyOf_1904c cJ7_copyOf_1904c 2 (some (.array (.object "java/lang/Object"))), Cond.methodLink RJ7 86 ⟨"java/lang/Object", "getClass", "()Ljava/lang/Class;"⟩, Cond.selects "[Ljava/lang/Object;" ⟨"java/lang/Object", "getClass", "()Ljava/lang/Class;"⟩ ⟨"java/lang/Object", "getClass", "()Ljava/lang/Class;"⟩, Cond.instanceMethod ⟨"java/lang/Object", "getClass", "()Ljava/lang/Class;"⟩, Cond.native ⟨"java/lang/Object", "getClass", "()Ljava/lang/Class;"⟩, Cond.methodLink RJ7 300 yJ7_copyOf_6403c, Cond.static yJ7_copyOf_6403c, Cond.code yJ7_copyOf_6403c cJ7_copyOf_6403c 4 (some (.array (.object "java/lang/Object"))), Cond.classLink RJ7 110 "[Ljava/lang/Object;", Cond.classLink RJ7 2 "java/lang/Object", Cond.methodLink RJ7 304 Lib.Math.min.name, Cond.static Lib.Math.min.name, Cond.code Lib.Math.min.name Lib.Math.min.code 2 (some .int), Cond.methodLink RJ7 150 arraycopyName, Cond.native arraycopyName, Cond.static arraycopyName, Cond.initialized "java/lang/System"]
def wsJx4a65c_grow_d5877 : List Cond := .code yJx4a65c_grow_d5877 cJx4a65c_grow_d5877 1 (some (.array (.object "java/lang/Object"))) :: ((wsJx4a65c_grow_d5877_r1 ++ wsJx4a65c_grow_d5877_r2) ++ wsJx4a65c0)
def wsJx4a65c_add_72be8_r1 : List Cond := [Cond.fieldLink RJx4a65c 48 "java/util/ArrayList" "size" "I", Cond.methodLink RJx4a65c 129 yJx4a65c_grow_d5877, Cond.instanceMethod yJx4a65c_grow_d5877, Cond.selects RJx4a65c yJx4a65c_grow_d5877 yJx4a65c_grow_d5877, Cond.initialized RJx4a65c, Cond.code yJx4a65c_grow_d5877 cJx4a65c_grow_d5877 1 (some (.array (.object "java/lang/Object"))), Cond.methodLink RJx4a65c 69 yJx4a65c_grow_92f84, Cond.instanceMethod yJx4a65c_grow_92f84, Cond.selects RJx4a65c yJx4a65c_grow_92f84 yJx4a65c_grow_92f84, Cond.code yJx4a65c_grow_92f84 cJx4a65c_grow_92f84 4 (some (.array (.object "java/lang/Object"))), Cond.fieldLink RJx4a65c 9 "java/util/ArrayList" "elementData" "[Ljava/lang/Object;", Cond.fieldLink RJx4a65c 39 "java/util/ArrayList" "DEFAULTCAPACITY_EMPTY_ELEMENTDATA" "[Ljava/lang/Object;", Cond.methodLink RJx4a65c 79 Lib.Math.max.name, Cond.static Lib.Math.max.name, Cond.initialized "java/lang/Math", Cond.code Lib.Math.max.name Lib.Math.max.code 2 (some .int), Cond.classLink RJx4a65c 7 "java/lang/Object", Cond.methodLink RJx4a65c 73 yJ8_newLength_cabcc, Cond.static yJ8_newLength_cabcc, Cond.initialized RJ8, Cond.code yJ8_newLength_cabcc cJ8_newLength_cabcc 4 (some .int), Cond.methodLink RJ8 194 Lib.Math.max.name, Cond.constant RJ8 200 (2147483639), Cond.methodLink RJ8 201 yJ8_hugeLength_7cf53]
def wsJx4a65c_add_72be8_r2 : List Cond := [Cond.static yJ8_hugeLength_7cf53, Cond.code yJ8_hugeLength_7cf53 cJ8_hugeLength_7cf53 3 (some .int), Cond.methodLink RJx4a65c 66 yJ7_copyOf_1904c, Cond.static yJ7_copyOf_1904c, Cond.initialized RJ7, Cond.code yJ7_copyOf_1904c cJ7_copyOf_1904c 2 (some (.array (.object "java/lang/Object"))), Cond.methodLink RJ7 86 ⟨"java/lang/Object", "getClass", "()Ljava/lang/Class;"⟩, Cond.selects "[Ljava/lang/Object;" ⟨"java/lang/Object", "getClass", "()Ljava/lang/Class;"⟩ ⟨"java/lang/Object", "getClass", "()Ljava/lang/Class;"⟩, Cond.instanceMethod ⟨"java/lang/Object", "getClass", "()Ljava/lang/Class;"⟩, Cond.native ⟨"java/lang/Object", "getClass", "()Ljava/lang/Class;"⟩, Cond.methodLink RJ7 300 yJ7_copyOf_6403c, Cond.static yJ7_copyOf_6403c, Cond.code yJ7_copyOf_6403c cJ7_copyOf_6403c 4 (some (.array (.object "java/lang/Object"))), Cond.classLink RJ7 110 "[Ljava/lang/Object;", Cond.classLink RJ7 2 "java/lang/Object", Cond.methodLink RJ7 304 Lib.Math.min.name, Cond.static Lib.Math.min.name, Cond.code Lib.Math.min.name Lib.Math.min.code 2 (some .int), Cond.methodLink RJ7 150 arraycopyName, Cond.native arraycopyName, Cond.static arraycopyName, Cond.initialized "java/lang/System"]
def wsJx4a65c_add_72be8 : List Cond := .code yJx4a65c_add_72be8 cJx4a65c_add_72be8 4 none :: ((wsJx4a65c_add_72be8_r1 ++ wsJx4a65c_add_72be8_r2) ++ wsJx4a65c0)
def wsJx4a65c_add_9ea2d_r1 : List Cond := [Cond.fieldLink RJx4a65c 63 "java/util/ArrayList" "modCount" "I", Cond.sameField "java/util/ArrayList" "java/util/AbstractList" "modCount" "I", Cond.fieldLink RJx4a65c 9 "java/util/ArrayList" "elementData" "[Ljava/lang/Object;", Cond.fieldLink RJx4a65c 48 "java/util/ArrayList" "size" "I", Cond.methodLink RJx4a65c 131 yJx4a65c_add_72be8, Cond.instanceMethod yJx4a65c_add_72be8, Cond.selects RJx4a65c yJx4a65c_add_72be8 yJx4a65c_add_72be8, Cond.initialized RJx4a65c, Cond.code yJx4a65c_add_72be8 cJx4a65c_add_72be8 4 none, Cond.methodLink RJx4a65c 129 yJx4a65c_grow_d5877, Cond.instanceMethod yJx4a65c_grow_d5877, Cond.selects RJx4a65c yJx4a65c_grow_d5877 yJx4a65c_grow_d5877, Cond.code yJx4a65c_grow_d5877 cJx4a65c_grow_d5877 1 (some (.array (.object "java/lang/Object"))), Cond.methodLink RJx4a65c 69 yJx4a65c_grow_92f84, Cond.instanceMethod yJx4a65c_grow_92f84, Cond.selects RJx4a65c yJx4a65c_grow_92f84 yJx4a65c_grow_92f84, Cond.code yJx4a65c_grow_92f84 cJx4a65c_grow_92f84 4 (some (.array (.object "java/lang/Object"))), Cond.fieldLink RJx4a65c 39 "java/util/ArrayList" "DEFAULTCAPACITY_EMPTY_ELEMENTDATA" "[Ljava/lang/Object;", Cond.methodLink RJx4a65c 79 Lib.Math.max.name, Cond.static Lib.Math.max.name, Cond.initialized "java/lang/Math", Cond.code Lib.Math.max.name Lib.Math.max.code 2 (some .int), Cond.classLink RJx4a65c 7 "java/lang/Object", Cond.methodLink RJx4a65c 73 yJ8_newLength_cabcc]
def wsJx4a65c_add_9ea2d_r2 : List Cond := [Cond.static yJ8_newLength_cabcc, Cond.initialized RJ8, Cond.code yJ8_newLength_cabcc cJ8_newLength_cabcc 4 (some .int), Cond.methodLink RJ8 194 Lib.Math.max.name, Cond.constant RJ8 200 (2147483639), Cond.methodLink RJ8 201 yJ8_hugeLength_7cf53, Cond.static yJ8_hugeLength_7cf53, Cond.code yJ8_hugeLength_7cf53 cJ8_hugeLength_7cf53 3 (some .int), Cond.methodLink RJx4a65c 66 yJ7_copyOf_1904c, Cond.static yJ7_copyOf_1904c, Cond.initialized RJ7, Cond.code yJ7_copyOf_1904c cJ7_copyOf_1904c 2 (some (.array (.object "java/lang/Object"))), Cond.methodLink RJ7 86 ⟨"java/lang/Object", "getClass", "()Ljava/lang/Class;"⟩, Cond.selects "[Ljava/lang/Object;" ⟨"java/lang/Object", "getClass", "()Ljava/lang/Class;"⟩ ⟨"java/lang/Object", "getClass", "()Ljava/lang/Class;"⟩, Cond.instanceMethod ⟨"java/lang/Object", "getClass", "()Ljava/lang/Class;"⟩, Cond.native ⟨"java/lang/Object", "getClass", "()Ljava/lang/Class;"⟩, Cond.methodLink RJ7 300 yJ7_copyOf_6403c, Cond.static yJ7_copyOf_6403c, Cond.code yJ7_copyOf_6403c cJ7_copyOf_6403c 4 (some (.array (.object "java/lang/Object"))), Cond.classLink RJ7 110 "[Ljava/lang/Object;", Cond.classLink RJ7 2 "java/lang/Object", Cond.methodLink RJ7 304 Lib.Math.min.name, Cond.static Lib.Math.min.name, Cond.code Lib.Math.min.name Lib.Math.min.code 2 (some .int)]
def wsJx4a65c_add_9ea2d_r3 : List Cond := [Cond.methodLink RJ7 150 arraycopyName, Cond.native arraycopyName, Cond.static arraycopyName, Cond.initialized "java/lang/System"]
def wsJx4a65c_add_9ea2d : List Cond := .code yJx4a65c_add_9ea2d cJx4a65c_add_9ea2d 2 (some .boolean) :: ((wsJx4a65c_add_9ea2d_r1 ++ (wsJx4a65c_add_9ea2d_r2 ++ wsJx4a65c_add_9ea2d_r3)) ++ wsJx4a65c0)
def wsX7_init_r1 : List Cond := [Cond.methodLink RX7 1 objectInit, Cond.instanceMethod objectInit, Cond.code objectInit ⟨#[0xb1]⟩ 1 none, Cond.classLink RX7 7 RJx4a65c, Cond.instantiable RJx4a65c 3, Cond.initialized RJx4a65c, Cond.fieldLink RX7 10 "MarkChat" "channels" "Ljava/util/ArrayList;", Cond.classLink RX7 16 RX0, Cond.instantiable RX0 3, Cond.initialized RX0, Cond.fieldLink RX7 25 "MarkChat" "users" "Ljava/util/ArrayList;", Cond.fieldLink RX7 28 "MarkChat" "messages" "Ljava/util/ArrayList;", Cond.fieldLink RX7 31 "MarkChat" "spends" "Ljava/util/ArrayList;", Cond.fieldLink RX7 34 "MarkChat" "tasks" "Ljava/util/ArrayList;", Cond.classLink RX7 37 RX1, Cond.instantiable RX1 4, Cond.initialized RX1, Cond.fieldLink RX7 40 "MarkChat" "log" "LMarkChat$Log;", Cond.classLink RX7 44 RX2, Cond.instantiable RX2 1, Cond.initialized RX2, Cond.fieldLink RX7 47 "MarkChat" "marksAnew" "LMarkChat$Marks;", Cond.fieldLink RX7 51 "MarkChat" "hour" "I", Cond.methodLink RX7 9 yJx4a65c_init_da8c8]
def wsX7_init_r2 : List Cond := [Cond.instanceMethod yJx4a65c_init_da8c8, Cond.code yJx4a65c_init_da8c8 cJx4a65c_init_da8c8 1 none, Cond.fieldLink RJx4a65c 39 "java/util/ArrayList" "DEFAULTCAPACITY_EMPTY_ELEMENTDATA" "[Ljava/lang/Object;", Cond.fieldLink RJx4a65c 9 "java/util/ArrayList" "elementData" "[Ljava/lang/Object;", Cond.methodLink RJx4a65c 1 yJxc12de_init_da8c8, Cond.instanceMethod yJxc12de_init_da8c8, Cond.initialized RJxc12de, Cond.code yJxc12de_init_da8c8 cJxc12de_init_da8c8 1 none, Cond.fieldLink RJxc12de 7 "java/util/AbstractList" "modCount" "I", Cond.methodLink RJxc12de 1 yJxa1e45_init_da8c8, Cond.instanceMethod yJxa1e45_init_da8c8, Cond.initialized RJxa1e45, Cond.code yJxa1e45_init_da8c8 cJxa1e45_init_da8c8 1 none, Cond.methodLink RJxa1e45 1 objectInit, Cond.methodLink RX7 18 yX0_init, Cond.instanceMethod yX0_init, Cond.code yX0_init cX0_init 2 none, Cond.methodLink RX0 1 objectInit, Cond.fieldLink RX0 7 "MarkChat$Channel" "number" "I", Cond.methodLink RX7 21 yJx4a65c_add_9ea2d, Cond.instanceMethod yJx4a65c_add_9ea2d, Cond.selects RJx4a65c yJx4a65c_add_9ea2d yJx4a65c_add_9ea2d, Cond.code yJx4a65c_add_9ea2d cJx4a65c_add_9ea2d 2 (some .boolean), Cond.fieldLink RJx4a65c 63 "java/util/ArrayList" "modCount" "I"]
def wsX7_init_r3 : List Cond := [Cond.sameField "java/util/ArrayList" "java/util/AbstractList" "modCount" "I", Cond.fieldLink RJx4a65c 48 "java/util/ArrayList" "size" "I", Cond.methodLink RJx4a65c 131 yJx4a65c_add_72be8, Cond.instanceMethod yJx4a65c_add_72be8, Cond.selects RJx4a65c yJx4a65c_add_72be8 yJx4a65c_add_72be8, Cond.code yJx4a65c_add_72be8 cJx4a65c_add_72be8 4 none, Cond.methodLink RJx4a65c 129 yJx4a65c_grow_d5877, Cond.instanceMethod yJx4a65c_grow_d5877, Cond.selects RJx4a65c yJx4a65c_grow_d5877 yJx4a65c_grow_d5877, Cond.code yJx4a65c_grow_d5877 cJx4a65c_grow_d5877 1 (some (.array (.object "java/lang/Object"))), Cond.methodLink RJx4a65c 69 yJx4a65c_grow_92f84, Cond.instanceMethod yJx4a65c_grow_92f84, Cond.selects RJx4a65c yJx4a65c_grow_92f84 yJx4a65c_grow_92f84, Cond.code yJx4a65c_grow_92f84 cJx4a65c_grow_92f84 4 (some (.array (.object "java/lang/Object"))), Cond.methodLink RJx4a65c 79 Lib.Math.max.name, Cond.static Lib.Math.max.name, Cond.initialized "java/lang/Math", Cond.code Lib.Math.max.name Lib.Math.max.code 2 (some .int), Cond.classLink RJx4a65c 7 "java/lang/Object", Cond.methodLink RJx4a65c 73 yJ8_newLength_cabcc, Cond.static yJ8_newLength_cabcc, Cond.initialized RJ8, Cond.code yJ8_newLength_cabcc cJ8_newLength_cabcc 4 (some .int), Cond.methodLink RJ8 194 Lib.Math.max.name]
def wsX7_init_r4 : List Cond := [Cond.constant RJ8 200 (2147483639), Cond.methodLink RJ8 201 yJ8_hugeLength_7cf53, Cond.static yJ8_hugeLength_7cf53, Cond.code yJ8_hugeLength_7cf53 cJ8_hugeLength_7cf53 3 (some .int), Cond.methodLink RJx4a65c 66 yJ7_copyOf_1904c, Cond.static yJ7_copyOf_1904c, Cond.initialized RJ7, Cond.code yJ7_copyOf_1904c cJ7_copyOf_1904c 2 (some (.array (.object "java/lang/Object"))), Cond.methodLink RJ7 86 ⟨"java/lang/Object", "getClass", "()Ljava/lang/Class;"⟩, Cond.selects "[Ljava/lang/Object;" ⟨"java/lang/Object", "getClass", "()Ljava/lang/Class;"⟩ ⟨"java/lang/Object", "getClass", "()Ljava/lang/Class;"⟩, Cond.instanceMethod ⟨"java/lang/Object", "getClass", "()Ljava/lang/Class;"⟩, Cond.native ⟨"java/lang/Object", "getClass", "()Ljava/lang/Class;"⟩, Cond.methodLink RJ7 300 yJ7_copyOf_6403c, Cond.static yJ7_copyOf_6403c, Cond.code yJ7_copyOf_6403c cJ7_copyOf_6403c 4 (some (.array (.object "java/lang/Object"))), Cond.classLink RJ7 110 "[Ljava/lang/Object;", Cond.classLink RJ7 2 "java/lang/Object", Cond.methodLink RJ7 304 Lib.Math.min.name, Cond.static Lib.Math.min.name, Cond.code Lib.Math.min.name Lib.Math.min.code 2 (some .int), Cond.methodLink RJ7 150 arraycopyName, Cond.native arraycopyName, Cond.static arraycopyName, Cond.initialized "java/lang/System"]
def wsX7_init_r5 : List Cond := [Cond.methodLink RX7 39 yX1_init, Cond.instanceMethod yX1_init, Cond.code yX1_init cX1_init 1 none, Cond.methodLink RX1 3 objectInit, Cond.arrayClass .int, Cond.fieldLink RX1 9 "MarkChat$Log" "messages" "[I", Cond.fieldLink RX1 15 "MarkChat$Log" "users" "[I", Cond.fieldLink RX1 18 "MarkChat$Log" "kinds" "[I", Cond.methodLink RX7 46 yX2_init, Cond.instanceMethod yX2_init, Cond.code yX2_init cX2_init 1 none, Cond.methodLink RX2 3 objectInit, Cond.fieldLink RX2 9 "MarkChat$Marks" "kinds" "[I", Cond.methodLink RX2 15 yJ7_fill_53178, Cond.static yJ7_fill_53178, Cond.code yJ7_fill_53178 cJ7_fill_53178 4 none]
def wsX7_init : List Cond := .code yX7_init cX7_init 2 none :: ((wsX7_init_r1 ++ (wsX7_init_r2 ++ (wsX7_init_r3 ++ (wsX7_init_r4 ++ wsX7_init_r5)))) ++ wsJx4a65c0 ++ wsX70 ++ wsX00 ++ wsX10 ++ wsX20)
def wsX7_checkRange : List Cond := .code yX7_checkRange cX7_checkRange 3 none :: ([.classLink RX7 227 "java/lang/IllegalArgumentException", .initialized "java/lang/IllegalArgumentException"] ++ (vx_atS RX7 231 "java/lang/IllegalArgumentException" ["java/lang/RuntimeException", "java/lang/Exception"]).filter goodWord)
def wsJx4a65c_size_8abf5 : List Cond := .code yJx4a65c_size_8abf5 cJx4a65c_size_8abf5 1 (some .int) :: ([.fieldLink RJx4a65c 48 "java/util/ArrayList" "size" "I"] ++ wsJx4a65c0)
def wsX7_refuseFull : List Cond := .code yX7_refuseFull cX7_refuseFull 2 none :: ([.classLink RX7 96 "java/lang/IllegalStateException", .initialized "java/lang/IllegalStateException"] ++ (vx_atS RX7 100 "java/lang/IllegalStateException" ["java/lang/RuntimeException", "java/lang/Exception"]).filter goodWord)
def wsX7_user_r1 : List Cond := [Cond.fieldLink RX7 25 "MarkChat" "users" "Ljava/util/ArrayList;", Cond.classLink RX7 67 RX6, Cond.instantiable RX6 3, Cond.initialized RX6, Cond.fieldLink RX7 71 "MarkChat$User" "number" "I", Cond.methodLink RX7 55 yX7_checkRange, Cond.static yX7_checkRange, Cond.initialized RX7, Cond.code yX7_checkRange cX7_checkRange 3 none, Cond.classLink RX7 227 "java/lang/IllegalArgumentException", Cond.initialized "java/lang/IllegalArgumentException", Cond.methodLink RX7 59 yJx4a65c_size_8abf5, Cond.instanceMethod yJx4a65c_size_8abf5, Cond.selects RJx4a65c yJx4a65c_size_8abf5 yJx4a65c_size_8abf5, Cond.initialized RJx4a65c, Cond.code yJx4a65c_size_8abf5 cJx4a65c_size_8abf5 1 (some .int), Cond.fieldLink RJx4a65c 48 "java/util/ArrayList" "size" "I", Cond.methodLink RX7 63 yX7_refuseFull, Cond.static yX7_refuseFull, Cond.code yX7_refuseFull cX7_refuseFull 2 none, Cond.classLink RX7 96 "java/lang/IllegalStateException", Cond.initialized "java/lang/IllegalStateException", Cond.methodLink RX7 69 yX6_init, Cond.instanceMethod yX6_init]
def wsX7_user_r2 : List Cond := [Cond.code yX6_init cX6_init 3 none, Cond.methodLink RX6 3 objectInit, Cond.instanceMethod objectInit, Cond.code objectInit ⟨#[0xb1]⟩ 1 none, Cond.fieldLink RX6 9 "MarkChat$User" "number" "I", Cond.fieldLink RX6 15 "MarkChat$User" "rank" "I", Cond.fieldLink RX6 18 "MarkChat$User" "endHour" "I", Cond.methodLink RX7 21 yJx4a65c_add_9ea2d, Cond.instanceMethod yJx4a65c_add_9ea2d, Cond.selects RJx4a65c yJx4a65c_add_9ea2d yJx4a65c_add_9ea2d, Cond.code yJx4a65c_add_9ea2d cJx4a65c_add_9ea2d 2 (some .boolean), Cond.fieldLink RJx4a65c 63 "java/util/ArrayList" "modCount" "I", Cond.sameField "java/util/ArrayList" "java/util/AbstractList" "modCount" "I", Cond.fieldLink RJx4a65c 9 "java/util/ArrayList" "elementData" "[Ljava/lang/Object;", Cond.methodLink RJx4a65c 131 yJx4a65c_add_72be8, Cond.instanceMethod yJx4a65c_add_72be8, Cond.selects RJx4a65c yJx4a65c_add_72be8 yJx4a65c_add_72be8, Cond.code yJx4a65c_add_72be8 cJx4a65c_add_72be8 4 none, Cond.methodLink RJx4a65c 129 yJx4a65c_grow_d5877, Cond.instanceMethod yJx4a65c_grow_d5877, Cond.selects RJx4a65c yJx4a65c_grow_d5877 yJx4a65c_grow_d5877, Cond.code yJx4a65c_grow_d5877 cJx4a65c_grow_d5877 1 (some (.array (.object "java/lang/Object"))), Cond.methodLink RJx4a65c 69 yJx4a65c_grow_92f84, Cond.instanceMethod yJx4a65c_grow_92f84]
def wsX7_user_r3 : List Cond := [Cond.selects RJx4a65c yJx4a65c_grow_92f84 yJx4a65c_grow_92f84, Cond.code yJx4a65c_grow_92f84 cJx4a65c_grow_92f84 4 (some (.array (.object "java/lang/Object"))), Cond.fieldLink RJx4a65c 39 "java/util/ArrayList" "DEFAULTCAPACITY_EMPTY_ELEMENTDATA" "[Ljava/lang/Object;", Cond.methodLink RJx4a65c 79 Lib.Math.max.name, Cond.static Lib.Math.max.name, Cond.initialized "java/lang/Math", Cond.code Lib.Math.max.name Lib.Math.max.code 2 (some .int), Cond.classLink RJx4a65c 7 "java/lang/Object", Cond.methodLink RJx4a65c 73 yJ8_newLength_cabcc, Cond.static yJ8_newLength_cabcc, Cond.initialized RJ8, Cond.code yJ8_newLength_cabcc cJ8_newLength_cabcc 4 (some .int), Cond.methodLink RJ8 194 Lib.Math.max.name, Cond.constant RJ8 200 (2147483639), Cond.methodLink RJ8 201 yJ8_hugeLength_7cf53, Cond.static yJ8_hugeLength_7cf53, Cond.code yJ8_hugeLength_7cf53 cJ8_hugeLength_7cf53 3 (some .int), Cond.methodLink RJx4a65c 66 yJ7_copyOf_1904c, Cond.static yJ7_copyOf_1904c, Cond.initialized RJ7, Cond.code yJ7_copyOf_1904c cJ7_copyOf_1904c 2 (some (.array (.object "java/lang/Object"))), Cond.methodLink RJ7 86 ⟨"java/lang/Object", "getClass", "()Ljava/lang/Class;"⟩, Cond.selects "[Ljava/lang/Object;" ⟨"java/lang/Object", "getClass", "()Ljava/lang/Class;"⟩ ⟨"java/lang/Object", "getClass", "()Ljava/lang/Class;"⟩, Cond.instanceMethod ⟨"java/lang/Object", "getClass", "()Ljava/lang/Class;"⟩]
def wsX7_user_r4 : List Cond := [Cond.native ⟨"java/lang/Object", "getClass", "()Ljava/lang/Class;"⟩, Cond.methodLink RJ7 300 yJ7_copyOf_6403c, Cond.static yJ7_copyOf_6403c, Cond.code yJ7_copyOf_6403c cJ7_copyOf_6403c 4 (some (.array (.object "java/lang/Object"))), Cond.classLink RJ7 110 "[Ljava/lang/Object;", Cond.classLink RJ7 2 "java/lang/Object", Cond.methodLink RJ7 304 Lib.Math.min.name, Cond.static Lib.Math.min.name, Cond.code Lib.Math.min.name Lib.Math.min.code 2 (some .int), Cond.methodLink RJ7 150 arraycopyName, Cond.native arraycopyName, Cond.static arraycopyName, Cond.initialized "java/lang/System"]
def wsX7_user : List Cond := .code yX7_user cX7_user 3 (some .int) :: ((wsX7_user_r1 ++ (wsX7_user_r2 ++ (wsX7_user_r3 ++ wsX7_user_r4))) ++ wsX70 ++ wsX60 ++ wsJx4a65c0 ++ (vx_atS RX7 231 "java/lang/IllegalArgumentException" ["java/lang/RuntimeException", "java/lang/Exception"]).filter goodWord ++ (vx_atS RX7 100 "java/lang/IllegalStateException" ["java/lang/RuntimeException", "java/lang/Exception"]).filter goodWord)
def wsJ15_checkIndex_7cf53 : List Cond := .code yJ15_checkIndex_7cf53 cJ15_checkIndex_7cf53 2 (some .int) :: ([.methodLink RJ15 105 yJ3_checkIndex_8e157, .static yJ3_checkIndex_8e157, .initialized RJ3, .code yJ3_checkIndex_8e157 cJ3_checkIndex_8e157 3 (some .int)])
def wsJx4a65c_elementData_915e3 : List Cond := .code yJx4a65c_elementData_915e3 cJx4a65c_elementData_915e3 2 (some (.object "java/lang/Object")) :: ([.fieldLink RJx4a65c 9 "java/util/ArrayList" "elementData" "[Ljava/lang/Object;"] ++ wsJx4a65c0)
def wsJx4a65c_get_915e3 : List Cond := .code yJx4a65c_get_915e3 cJx4a65c_get_915e3 2 (some (.object "java/lang/Object")) :: ([.fieldLink RJx4a65c 48 "java/util/ArrayList" "size" "I", .methodLink RJx4a65c 118 yJ15_checkIndex_7cf53, .static yJ15_checkIndex_7cf53, .initialized RJ15, .code yJ15_checkIndex_7cf53 cJ15_checkIndex_7cf53 2 (some .int), .methodLink RJ15 105 yJ3_checkIndex_8e157, .static yJ3_checkIndex_8e157, .initialized RJ3, .code yJ3_checkIndex_8e157 cJ3_checkIndex_8e157 3 (some .int), .methodLink RJx4a65c 123 yJx4a65c_elementData_915e3, .instanceMethod yJx4a65c_elementData_915e3, .selects RJx4a65c yJx4a65c_elementData_915e3 yJx4a65c_elementData_915e3, .initialized RJx4a65c, .code yJx4a65c_elementData_915e3 cJx4a65c_elementData_915e3 2 (some (.object "java/lang/Object")), .fieldLink RJx4a65c 9 "java/util/ArrayList" "elementData" "[Ljava/lang/Object;"] ++ wsJx4a65c0)
def wsX7_userAt_r1 : List Cond := [Cond.classLink RX7 251 "java/lang/IndexOutOfBoundsException", Cond.initialized "java/lang/IndexOutOfBoundsException", Cond.fieldLink RX7 25 "MarkChat" "users" "Ljava/util/ArrayList;", Cond.classLink RX7 67 "MarkChat$User", Cond.methodLink RX7 59 yJx4a65c_size_8abf5, Cond.instanceMethod yJx4a65c_size_8abf5, Cond.selects RJx4a65c yJx4a65c_size_8abf5 yJx4a65c_size_8abf5, Cond.initialized RJx4a65c, Cond.code yJx4a65c_size_8abf5 cJx4a65c_size_8abf5 1 (some .int), Cond.fieldLink RJx4a65c 48 "java/util/ArrayList" "size" "I", Cond.methodLink RX7 210 yJx4a65c_get_915e3, Cond.instanceMethod yJx4a65c_get_915e3, Cond.selects RJx4a65c yJx4a65c_get_915e3 yJx4a65c_get_915e3, Cond.code yJx4a65c_get_915e3 cJx4a65c_get_915e3 2 (some (.object "java/lang/Object")), Cond.methodLink RJx4a65c 118 yJ15_checkIndex_7cf53, Cond.static yJ15_checkIndex_7cf53, Cond.initialized RJ15, Cond.code yJ15_checkIndex_7cf53 cJ15_checkIndex_7cf53 2 (some .int), Cond.methodLink RJ15 105 yJ3_checkIndex_8e157, Cond.static yJ3_checkIndex_8e157, Cond.initialized RJ3, Cond.code yJ3_checkIndex_8e157 cJ3_checkIndex_8e157 3 (some .int), Cond.methodLink RJx4a65c 123 yJx4a65c_elementData_915e3, Cond.instanceMethod yJx4a65c_elementData_915e3]
def wsX7_userAt_r2 : List Cond := [Cond.selects RJx4a65c yJx4a65c_elementData_915e3 yJx4a65c_elementData_915e3, Cond.code yJx4a65c_elementData_915e3 cJx4a65c_elementData_915e3 2 (some (.object "java/lang/Object")), Cond.fieldLink RJx4a65c 9 "java/util/ArrayList" "elementData" "[Ljava/lang/Object;"]
def wsX7_userAt : List Cond := .code yX7_userAt cX7_userAt 2 (some (.object "MarkChat$User")) :: ((wsX7_userAt_r1 ++ wsX7_userAt_r2) ++ wsX70 ++ wsJx4a65c0 ++ (vx_atS RX7 255 "java/lang/IndexOutOfBoundsException" ["java/lang/RuntimeException", "java/lang/Exception"]).filter goodWord)
def wsX7_approve_r1 : List Cond := [Cond.fieldLink RX7 25 "MarkChat" "users" "Ljava/util/ArrayList;", Cond.classLink RX7 67 "MarkChat$User", Cond.fieldLink RX7 51 "MarkChat" "hour" "I", Cond.fieldLink RX7 78 "MarkChat$User" "rank" "I", Cond.fieldLink RX7 130 "MarkChat$Message" "author" "LMarkChat$User;", Cond.fieldLink RX7 71 "MarkChat$User" "number" "I", Cond.methodLink RX7 59 yJx4a65c_size_8abf5, Cond.instanceMethod yJx4a65c_size_8abf5, Cond.selects RJx4a65c yJx4a65c_size_8abf5 yJx4a65c_size_8abf5, Cond.initialized RJx4a65c, Cond.code yJx4a65c_size_8abf5 cJx4a65c_size_8abf5 1 (some .int), Cond.fieldLink RJx4a65c 48 "java/util/ArrayList" "size" "I", Cond.methodLink RX7 210 yJx4a65c_get_915e3, Cond.instanceMethod yJx4a65c_get_915e3, Cond.selects RJx4a65c yJx4a65c_get_915e3 yJx4a65c_get_915e3, Cond.code yJx4a65c_get_915e3 cJx4a65c_get_915e3 2 (some (.object "java/lang/Object")), Cond.methodLink RJx4a65c 118 yJ15_checkIndex_7cf53, Cond.static yJ15_checkIndex_7cf53, Cond.initialized RJ15, Cond.code yJ15_checkIndex_7cf53 cJ15_checkIndex_7cf53 2 (some .int), Cond.methodLink RJ15 105 yJ3_checkIndex_8e157, Cond.static yJ3_checkIndex_8e157, Cond.initialized RJ3, Cond.code yJ3_checkIndex_8e157 cJ3_checkIndex_8e157 3 (some .int)]
def wsX7_approve_r2 : List Cond := [Cond.methodLink RJx4a65c 123 yJx4a65c_elementData_915e3, Cond.instanceMethod yJx4a65c_elementData_915e3, Cond.selects RJx4a65c yJx4a65c_elementData_915e3 yJx4a65c_elementData_915e3, Cond.code yJx4a65c_elementData_915e3 cJx4a65c_elementData_915e3 2 (some (.object "java/lang/Object")), Cond.fieldLink RJx4a65c 9 "java/util/ArrayList" "elementData" "[Ljava/lang/Object;", Cond.methodLink RX7 151 yX2_kindOf, Cond.instanceMethod yX2_kindOf, Cond.selects RX2 yX2_kindOf yX2_kindOf, Cond.initialized RX2, Cond.code yX2_kindOf cX2_kindOf 2 (some .int), Cond.fieldLink RX2 9 "MarkChat$Marks" "kinds" "[I", Cond.methodLink RX7 301 yX6_countsAt, Cond.instanceMethod yX6_countsAt, Cond.selects RX6 yX6_countsAt yX6_countsAt, Cond.initialized RX6, Cond.code yX6_countsAt cX6_countsAt 2 (some .boolean), Cond.fieldLink RX6 15 "MarkChat$User" "rank" "I", Cond.methodLink RX6 21 yX6_isGoneAt, Cond.instanceMethod yX6_isGoneAt, Cond.selects RX6 yX6_isGoneAt yX6_isGoneAt, Cond.code yX6_isGoneAt cX6_isGoneAt 2 (some .boolean), Cond.fieldLink RX6 18 "MarkChat$User" "endHour" "I"]
def wsX7_approve : List Cond := .code yX7_approve cX7_approve 9 (some .boolean) :: ((wsX7_approve_r1 ++ wsX7_approve_r2) ++ wsX70 ++ wsX60 ++ wsX30 ++ wsJx4a65c0 ++ wsX20)
def wsX7_isStillDue_r1 : List Cond := [Cond.fieldLink RX7 241 "MarkChat$Spend" "message" "LMarkChat$Message;", Cond.fieldLink RX7 136 "MarkChat$Message" "version" "I", Cond.fieldLink RX7 245 "MarkChat$Spend" "version" "I", Cond.fieldLink RX7 139 "MarkChat$Message" "marks" "LMarkChat$Marks;", Cond.fieldLink RX7 246 "MarkChat$Spend" "amount" "I", Cond.methodLink RX7 167 yX7_approve, Cond.instanceMethod yX7_approve, Cond.selects RX7 yX7_approve yX7_approve, Cond.initialized RX7, Cond.code yX7_approve cX7_approve 9 (some .boolean), Cond.fieldLink RX7 25 "MarkChat" "users" "Ljava/util/ArrayList;", Cond.classLink RX7 67 "MarkChat$User", Cond.fieldLink RX7 51 "MarkChat" "hour" "I", Cond.fieldLink RX7 78 "MarkChat$User" "rank" "I", Cond.fieldLink RX7 130 "MarkChat$Message" "author" "LMarkChat$User;", Cond.fieldLink RX7 71 "MarkChat$User" "number" "I", Cond.methodLink RX7 59 yJx4a65c_size_8abf5, Cond.instanceMethod yJx4a65c_size_8abf5, Cond.selects RJx4a65c yJx4a65c_size_8abf5 yJx4a65c_size_8abf5, Cond.initialized RJx4a65c, Cond.code yJx4a65c_size_8abf5 cJx4a65c_size_8abf5 1 (some .int), Cond.fieldLink RJx4a65c 48 "java/util/ArrayList" "size" "I", Cond.methodLink RX7 210 yJx4a65c_get_915e3, Cond.instanceMethod yJx4a65c_get_915e3]
def wsX7_isStillDue_r2 : List Cond := [Cond.selects RJx4a65c yJx4a65c_get_915e3 yJx4a65c_get_915e3, Cond.code yJx4a65c_get_915e3 cJx4a65c_get_915e3 2 (some (.object "java/lang/Object")), Cond.methodLink RJx4a65c 118 yJ15_checkIndex_7cf53, Cond.static yJ15_checkIndex_7cf53, Cond.initialized RJ15, Cond.code yJ15_checkIndex_7cf53 cJ15_checkIndex_7cf53 2 (some .int), Cond.methodLink RJ15 105 yJ3_checkIndex_8e157, Cond.static yJ3_checkIndex_8e157, Cond.initialized RJ3, Cond.code yJ3_checkIndex_8e157 cJ3_checkIndex_8e157 3 (some .int), Cond.methodLink RJx4a65c 123 yJx4a65c_elementData_915e3, Cond.instanceMethod yJx4a65c_elementData_915e3, Cond.selects RJx4a65c yJx4a65c_elementData_915e3 yJx4a65c_elementData_915e3, Cond.code yJx4a65c_elementData_915e3 cJx4a65c_elementData_915e3 2 (some (.object "java/lang/Object")), Cond.fieldLink RJx4a65c 9 "java/util/ArrayList" "elementData" "[Ljava/lang/Object;", Cond.methodLink RX7 151 yX2_kindOf, Cond.instanceMethod yX2_kindOf, Cond.selects RX2 yX2_kindOf yX2_kindOf, Cond.initialized RX2, Cond.code yX2_kindOf cX2_kindOf 2 (some .int), Cond.fieldLink RX2 9 "MarkChat$Marks" "kinds" "[I", Cond.methodLink RX7 301 yX6_countsAt, Cond.instanceMethod yX6_countsAt, Cond.selects RX6 yX6_countsAt yX6_countsAt]
def wsX7_isStillDue_r3 : List Cond := [Cond.initialized RX6, Cond.code yX6_countsAt cX6_countsAt 2 (some .boolean), Cond.fieldLink RX6 15 "MarkChat$User" "rank" "I", Cond.methodLink RX6 21 yX6_isGoneAt, Cond.instanceMethod yX6_isGoneAt, Cond.selects RX6 yX6_isGoneAt yX6_isGoneAt, Cond.code yX6_isGoneAt cX6_isGoneAt 2 (some .boolean), Cond.fieldLink RX6 18 "MarkChat$User" "endHour" "I"]
def wsX7_isStillDue : List Cond := .code yX7_isStillDue cX7_isStillDue 3 (some .boolean) :: ((wsX7_isStillDue_r1 ++ (wsX7_isStillDue_r2 ++ wsX7_isStillDue_r3)) ++ wsX40 ++ wsX30 ++ wsX70 ++ wsX60 ++ wsJx4a65c0 ++ wsX20)
def wsX7_takeSpendsBack_r1 : List Cond := [Cond.fieldLink RX7 31 "MarkChat" "spends" "Ljava/util/ArrayList;", Cond.classLink RX7 175 "MarkChat$Spend", Cond.fieldLink RX7 240 "MarkChat$Spend" "state" "I", Cond.fieldLink RX7 241 "MarkChat$Spend" "message" "LMarkChat$Message;", Cond.fieldLink RX7 111 "MarkChat$Message" "channel" "LMarkChat$Channel;", Cond.fieldLink RX7 92 "MarkChat$Channel" "cents" "I", Cond.fieldLink RX7 246 "MarkChat$Spend" "amount" "I", Cond.methodLink RX7 59 yJx4a65c_size_8abf5, Cond.instanceMethod yJx4a65c_size_8abf5, Cond.selects RJx4a65c yJx4a65c_size_8abf5 yJx4a65c_size_8abf5, Cond.initialized RJx4a65c, Cond.code yJx4a65c_size_8abf5 cJx4a65c_size_8abf5 1 (some .int), Cond.fieldLink RJx4a65c 48 "java/util/ArrayList" "size" "I", Cond.methodLink RX7 210 yJx4a65c_get_915e3, Cond.instanceMethod yJx4a65c_get_915e3, Cond.selects RJx4a65c yJx4a65c_get_915e3 yJx4a65c_get_915e3, Cond.code yJx4a65c_get_915e3 cJx4a65c_get_915e3 2 (some (.object "java/lang/Object")), Cond.methodLink RJx4a65c 118 yJ15_checkIndex_7cf53, Cond.static yJ15_checkIndex_7cf53, Cond.initialized RJ15, Cond.code yJ15_checkIndex_7cf53 cJ15_checkIndex_7cf53 2 (some .int), Cond.methodLink RJ15 105 yJ3_checkIndex_8e157, Cond.static yJ3_checkIndex_8e157, Cond.initialized RJ3]
def wsX7_takeSpendsBack_r2 : List Cond := [Cond.code yJ3_checkIndex_8e157 cJ3_checkIndex_8e157 3 (some .int), Cond.methodLink RJx4a65c 123 yJx4a65c_elementData_915e3, Cond.instanceMethod yJx4a65c_elementData_915e3, Cond.selects RJx4a65c yJx4a65c_elementData_915e3 yJx4a65c_elementData_915e3, Cond.code yJx4a65c_elementData_915e3 cJx4a65c_elementData_915e3 2 (some (.object "java/lang/Object")), Cond.fieldLink RJx4a65c 9 "java/util/ArrayList" "elementData" "[Ljava/lang/Object;", Cond.methodLink RX7 304 yX7_isStillDue, Cond.instanceMethod yX7_isStillDue, Cond.selects RX7 yX7_isStillDue yX7_isStillDue, Cond.initialized RX7, Cond.code yX7_isStillDue cX7_isStillDue 3 (some .boolean), Cond.fieldLink RX7 136 "MarkChat$Message" "version" "I", Cond.fieldLink RX7 245 "MarkChat$Spend" "version" "I", Cond.fieldLink RX7 139 "MarkChat$Message" "marks" "LMarkChat$Marks;", Cond.methodLink RX7 167 yX7_approve, Cond.instanceMethod yX7_approve, Cond.selects RX7 yX7_approve yX7_approve, Cond.code yX7_approve cX7_approve 9 (some .boolean), Cond.fieldLink RX7 25 "MarkChat" "users" "Ljava/util/ArrayList;", Cond.classLink RX7 67 "MarkChat$User", Cond.fieldLink RX7 51 "MarkChat" "hour" "I", Cond.fieldLink RX7 78 "MarkChat$User" "rank" "I", Cond.fieldLink RX7 130 "MarkChat$Message" "author" "LMarkChat$User;", Cond.fieldLink RX7 71 "MarkChat$User" "number" "I"]
def wsX7_takeSpendsBack_r3 : List Cond := [Cond.methodLink RX7 151 yX2_kindOf, Cond.instanceMethod yX2_kindOf, Cond.selects RX2 yX2_kindOf yX2_kindOf, Cond.initialized RX2, Cond.code yX2_kindOf cX2_kindOf 2 (some .int), Cond.fieldLink RX2 9 "MarkChat$Marks" "kinds" "[I", Cond.methodLink RX7 301 yX6_countsAt, Cond.instanceMethod yX6_countsAt, Cond.selects RX6 yX6_countsAt yX6_countsAt, Cond.initialized RX6, Cond.code yX6_countsAt cX6_countsAt 2 (some .boolean), Cond.fieldLink RX6 15 "MarkChat$User" "rank" "I", Cond.methodLink RX6 21 yX6_isGoneAt, Cond.instanceMethod yX6_isGoneAt, Cond.selects RX6 yX6_isGoneAt yX6_isGoneAt, Cond.code yX6_isGoneAt cX6_isGoneAt 2 (some .boolean), Cond.fieldLink RX6 18 "MarkChat$User" "endHour" "I"]
def wsX7_takeSpendsBack : List Cond := .code yX7_takeSpendsBack cX7_takeSpendsBack 3 none :: ((wsX7_takeSpendsBack_r1 ++ (wsX7_takeSpendsBack_r2 ++ wsX7_takeSpendsBack_r3)) ++ wsX70 ++ wsX40 ++ wsX30 ++ wsX00 ++ wsJx4a65c0 ++ wsX60 ++ wsX20)
def wsX7_role_r1 : List Cond := [Cond.fieldLink RX7 78 "MarkChat$User" "rank" "I", Cond.methodLink RX7 74 yX7_userAt, Cond.instanceMethod yX7_userAt, Cond.selects RX7 yX7_userAt yX7_userAt, Cond.initialized RX7, Cond.code yX7_userAt cX7_userAt 2 (some (.object "MarkChat$User")), Cond.classLink RX7 251 "java/lang/IndexOutOfBoundsException", Cond.initialized "java/lang/IndexOutOfBoundsException", Cond.fieldLink RX7 25 "MarkChat" "users" "Ljava/util/ArrayList;", Cond.classLink RX7 67 "MarkChat$User", Cond.methodLink RX7 59 yJx4a65c_size_8abf5, Cond.instanceMethod yJx4a65c_size_8abf5, Cond.selects RJx4a65c yJx4a65c_size_8abf5 yJx4a65c_size_8abf5, Cond.initialized RJx4a65c, Cond.code yJx4a65c_size_8abf5 cJx4a65c_size_8abf5 1 (some .int), Cond.fieldLink RJx4a65c 48 "java/util/ArrayList" "size" "I", Cond.methodLink RX7 210 yJx4a65c_get_915e3, Cond.instanceMethod yJx4a65c_get_915e3, Cond.selects RJx4a65c yJx4a65c_get_915e3 yJx4a65c_get_915e3, Cond.code yJx4a65c_get_915e3 cJx4a65c_get_915e3 2 (some (.object "java/lang/Object")), Cond.methodLink RJx4a65c 118 yJ15_checkIndex_7cf53, Cond.static yJ15_checkIndex_7cf53, Cond.initialized RJ15, Cond.code yJ15_checkIndex_7cf53 cJ15_checkIndex_7cf53 2 (some .int)]
def wsX7_role_r2 : List Cond := [Cond.methodLink RJ15 105 yJ3_checkIndex_8e157, Cond.static yJ3_checkIndex_8e157, Cond.initialized RJ3, Cond.code yJ3_checkIndex_8e157 cJ3_checkIndex_8e157 3 (some .int), Cond.methodLink RJx4a65c 123 yJx4a65c_elementData_915e3, Cond.instanceMethod yJx4a65c_elementData_915e3, Cond.selects RJx4a65c yJx4a65c_elementData_915e3 yJx4a65c_elementData_915e3, Cond.code yJx4a65c_elementData_915e3 cJx4a65c_elementData_915e3 2 (some (.object "java/lang/Object")), Cond.fieldLink RJx4a65c 9 "java/util/ArrayList" "elementData" "[Ljava/lang/Object;", Cond.methodLink RX7 55 yX7_checkRange, Cond.static yX7_checkRange, Cond.code yX7_checkRange cX7_checkRange 3 none, Cond.classLink RX7 227 "java/lang/IllegalArgumentException", Cond.initialized "java/lang/IllegalArgumentException", Cond.methodLink RX7 81 yX7_takeSpendsBack, Cond.instanceMethod yX7_takeSpendsBack, Cond.selects RX7 yX7_takeSpendsBack yX7_takeSpendsBack, Cond.code yX7_takeSpendsBack cX7_takeSpendsBack 3 none, Cond.fieldLink RX7 31 "MarkChat" "spends" "Ljava/util/ArrayList;", Cond.classLink RX7 175 "MarkChat$Spend", Cond.fieldLink RX7 240 "MarkChat$Spend" "state" "I", Cond.fieldLink RX7 241 "MarkChat$Spend" "message" "LMarkChat$Message;", Cond.fieldLink RX7 111 "MarkChat$Message" "channel" "LMarkChat$Channel;", Cond.fieldLink RX7 92 "MarkChat$Channel" "cents" "I"]
def wsX7_role_r3 : List Cond := [Cond.fieldLink RX7 246 "MarkChat$Spend" "amount" "I", Cond.methodLink RX7 304 yX7_isStillDue, Cond.instanceMethod yX7_isStillDue, Cond.selects RX7 yX7_isStillDue yX7_isStillDue, Cond.code yX7_isStillDue cX7_isStillDue 3 (some .boolean), Cond.fieldLink RX7 136 "MarkChat$Message" "version" "I", Cond.fieldLink RX7 245 "MarkChat$Spend" "version" "I", Cond.fieldLink RX7 139 "MarkChat$Message" "marks" "LMarkChat$Marks;", Cond.methodLink RX7 167 yX7_approve, Cond.instanceMethod yX7_approve, Cond.selects RX7 yX7_approve yX7_approve, Cond.code yX7_approve cX7_approve 9 (some .boolean), Cond.fieldLink RX7 51 "MarkChat" "hour" "I", Cond.fieldLink RX7 130 "MarkChat$Message" "author" "LMarkChat$User;", Cond.fieldLink RX7 71 "MarkChat$User" "number" "I", Cond.methodLink RX7 151 yX2_kindOf, Cond.instanceMethod yX2_kindOf, Cond.selects RX2 yX2_kindOf yX2_kindOf, Cond.initialized RX2, Cond.code yX2_kindOf cX2_kindOf 2 (some .int), Cond.fieldLink RX2 9 "MarkChat$Marks" "kinds" "[I", Cond.methodLink RX7 301 yX6_countsAt, Cond.instanceMethod yX6_countsAt, Cond.selects RX6 yX6_countsAt yX6_countsAt]
def wsX7_role_r4 : List Cond := [Cond.initialized RX6, Cond.code yX6_countsAt cX6_countsAt 2 (some .boolean), Cond.fieldLink RX6 15 "MarkChat$User" "rank" "I", Cond.methodLink RX6 21 yX6_isGoneAt, Cond.instanceMethod yX6_isGoneAt, Cond.selects RX6 yX6_isGoneAt yX6_isGoneAt, Cond.code yX6_isGoneAt cX6_isGoneAt 2 (some .boolean), Cond.fieldLink RX6 18 "MarkChat$User" "endHour" "I"]
def wsX7_role : List Cond := .code yX7_role cX7_role 5 (some .int) :: ((wsX7_role_r1 ++ (wsX7_role_r2 ++ (wsX7_role_r3 ++ wsX7_role_r4))) ++ wsX60 ++ wsX70 ++ wsJx4a65c0 ++ wsX40 ++ wsX30 ++ wsX00 ++ wsX20 ++ (vx_atS RX7 255 "java/lang/IndexOutOfBoundsException" ["java/lang/RuntimeException", "java/lang/Exception"]).filter goodWord ++ (vx_atS RX7 231 "java/lang/IllegalArgumentException" ["java/lang/RuntimeException", "java/lang/Exception"]).filter goodWord)
def wsX7_ends_r1 : List Cond := [Cond.fieldLink RX7 51 "MarkChat" "hour" "I", Cond.fieldLink RX7 84 "MarkChat$User" "endHour" "I", Cond.methodLink RX7 74 yX7_userAt, Cond.instanceMethod yX7_userAt, Cond.selects RX7 yX7_userAt yX7_userAt, Cond.initialized RX7, Cond.code yX7_userAt cX7_userAt 2 (some (.object "MarkChat$User")), Cond.classLink RX7 251 "java/lang/IndexOutOfBoundsException", Cond.initialized "java/lang/IndexOutOfBoundsException", Cond.fieldLink RX7 25 "MarkChat" "users" "Ljava/util/ArrayList;", Cond.classLink RX7 67 "MarkChat$User", Cond.methodLink RX7 59 yJx4a65c_size_8abf5, Cond.instanceMethod yJx4a65c_size_8abf5, Cond.selects RJx4a65c yJx4a65c_size_8abf5 yJx4a65c_size_8abf5, Cond.initialized RJx4a65c, Cond.code yJx4a65c_size_8abf5 cJx4a65c_size_8abf5 1 (some .int), Cond.fieldLink RJx4a65c 48 "java/util/ArrayList" "size" "I", Cond.methodLink RX7 210 yJx4a65c_get_915e3, Cond.instanceMethod yJx4a65c_get_915e3, Cond.selects RJx4a65c yJx4a65c_get_915e3 yJx4a65c_get_915e3, Cond.code yJx4a65c_get_915e3 cJx4a65c_get_915e3 2 (some (.object "java/lang/Object")), Cond.methodLink RJx4a65c 118 yJ15_checkIndex_7cf53, Cond.static yJ15_checkIndex_7cf53, Cond.initialized RJ15]
def wsX7_ends_r2 : List Cond := [Cond.code yJ15_checkIndex_7cf53 cJ15_checkIndex_7cf53 2 (some .int), Cond.methodLink RJ15 105 yJ3_checkIndex_8e157, Cond.static yJ3_checkIndex_8e157, Cond.initialized RJ3, Cond.code yJ3_checkIndex_8e157 cJ3_checkIndex_8e157 3 (some .int), Cond.methodLink RJx4a65c 123 yJx4a65c_elementData_915e3, Cond.instanceMethod yJx4a65c_elementData_915e3, Cond.selects RJx4a65c yJx4a65c_elementData_915e3 yJx4a65c_elementData_915e3, Cond.code yJx4a65c_elementData_915e3 cJx4a65c_elementData_915e3 2 (some (.object "java/lang/Object")), Cond.fieldLink RJx4a65c 9 "java/util/ArrayList" "elementData" "[Ljava/lang/Object;", Cond.methodLink RX7 55 yX7_checkRange, Cond.static yX7_checkRange, Cond.code yX7_checkRange cX7_checkRange 3 none, Cond.classLink RX7 227 "java/lang/IllegalArgumentException", Cond.initialized "java/lang/IllegalArgumentException", Cond.methodLink RX7 81 yX7_takeSpendsBack, Cond.instanceMethod yX7_takeSpendsBack, Cond.selects RX7 yX7_takeSpendsBack yX7_takeSpendsBack, Cond.code yX7_takeSpendsBack cX7_takeSpendsBack 3 none, Cond.fieldLink RX7 31 "MarkChat" "spends" "Ljava/util/ArrayList;", Cond.classLink RX7 175 "MarkChat$Spend", Cond.fieldLink RX7 240 "MarkChat$Spend" "state" "I", Cond.fieldLink RX7 241 "MarkChat$Spend" "message" "LMarkChat$Message;", Cond.fieldLink RX7 111 "MarkChat$Message" "channel" "LMarkChat$Channel;"]
def wsX7_ends_r3 : List Cond := [Cond.fieldLink RX7 92 "MarkChat$Channel" "cents" "I", Cond.fieldLink RX7 246 "MarkChat$Spend" "amount" "I", Cond.methodLink RX7 304 yX7_isStillDue, Cond.instanceMethod yX7_isStillDue, Cond.selects RX7 yX7_isStillDue yX7_isStillDue, Cond.code yX7_isStillDue cX7_isStillDue 3 (some .boolean), Cond.fieldLink RX7 136 "MarkChat$Message" "version" "I", Cond.fieldLink RX7 245 "MarkChat$Spend" "version" "I", Cond.fieldLink RX7 139 "MarkChat$Message" "marks" "LMarkChat$Marks;", Cond.methodLink RX7 167 yX7_approve, Cond.instanceMethod yX7_approve, Cond.selects RX7 yX7_approve yX7_approve, Cond.code yX7_approve cX7_approve 9 (some .boolean), Cond.fieldLink RX7 78 "MarkChat$User" "rank" "I", Cond.fieldLink RX7 130 "MarkChat$Message" "author" "LMarkChat$User;", Cond.fieldLink RX7 71 "MarkChat$User" "number" "I", Cond.methodLink RX7 151 yX2_kindOf, Cond.instanceMethod yX2_kindOf, Cond.selects RX2 yX2_kindOf yX2_kindOf, Cond.initialized RX2, Cond.code yX2_kindOf cX2_kindOf 2 (some .int), Cond.fieldLink RX2 9 "MarkChat$Marks" "kinds" "[I", Cond.methodLink RX7 301 yX6_countsAt, Cond.instanceMethod yX6_countsAt]
def wsX7_ends_r4 : List Cond := [Cond.selects RX6 yX6_countsAt yX6_countsAt, Cond.initialized RX6, Cond.code yX6_countsAt cX6_countsAt 2 (some .boolean), Cond.fieldLink RX6 15 "MarkChat$User" "rank" "I", Cond.methodLink RX6 21 yX6_isGoneAt, Cond.instanceMethod yX6_isGoneAt, Cond.selects RX6 yX6_isGoneAt yX6_isGoneAt, Cond.code yX6_isGoneAt cX6_isGoneAt 2 (some .boolean), Cond.fieldLink RX6 18 "MarkChat$User" "endHour" "I"]
def wsX7_ends : List Cond := .code yX7_ends cX7_ends 4 (some .int) :: ((wsX7_ends_r1 ++ (wsX7_ends_r2 ++ (wsX7_ends_r3 ++ wsX7_ends_r4))) ++ wsX70 ++ wsX60 ++ wsJx4a65c0 ++ wsX40 ++ wsX30 ++ wsX00 ++ wsX20 ++ (vx_atS RX7 255 "java/lang/IndexOutOfBoundsException" ["java/lang/RuntimeException", "java/lang/Exception"]).filter goodWord ++ (vx_atS RX7 231 "java/lang/IllegalArgumentException" ["java/lang/RuntimeException", "java/lang/Exception"]).filter goodWord)
def wsX7_channelAt_r1 : List Cond := [Cond.classLink RX7 251 "java/lang/IndexOutOfBoundsException", Cond.initialized "java/lang/IndexOutOfBoundsException", Cond.fieldLink RX7 10 "MarkChat" "channels" "Ljava/util/ArrayList;", Cond.classLink RX7 16 "MarkChat$Channel", Cond.methodLink RX7 59 yJx4a65c_size_8abf5, Cond.instanceMethod yJx4a65c_size_8abf5, Cond.selects RJx4a65c yJx4a65c_size_8abf5 yJx4a65c_size_8abf5, Cond.initialized RJx4a65c, Cond.code yJx4a65c_size_8abf5 cJx4a65c_size_8abf5 1 (some .int), Cond.fieldLink RJx4a65c 48 "java/util/ArrayList" "size" "I", Cond.methodLink RX7 210 yJx4a65c_get_915e3, Cond.instanceMethod yJx4a65c_get_915e3, Cond.selects RJx4a65c yJx4a65c_get_915e3 yJx4a65c_get_915e3, Cond.code yJx4a65c_get_915e3 cJx4a65c_get_915e3 2 (some (.object "java/lang/Object")), Cond.methodLink RJx4a65c 118 yJ15_checkIndex_7cf53, Cond.static yJ15_checkIndex_7cf53, Cond.initialized RJ15, Cond.code yJ15_checkIndex_7cf53 cJ15_checkIndex_7cf53 2 (some .int), Cond.methodLink RJ15 105 yJ3_checkIndex_8e157, Cond.static yJ3_checkIndex_8e157, Cond.initialized RJ3, Cond.code yJ3_checkIndex_8e157 cJ3_checkIndex_8e157 3 (some .int), Cond.methodLink RJx4a65c 123 yJx4a65c_elementData_915e3, Cond.instanceMethod yJx4a65c_elementData_915e3]
def wsX7_channelAt_r2 : List Cond := [Cond.selects RJx4a65c yJx4a65c_elementData_915e3 yJx4a65c_elementData_915e3, Cond.code yJx4a65c_elementData_915e3 cJx4a65c_elementData_915e3 2 (some (.object "java/lang/Object")), Cond.fieldLink RJx4a65c 9 "java/util/ArrayList" "elementData" "[Ljava/lang/Object;"]
def wsX7_channelAt : List Cond := .code yX7_channelAt cX7_channelAt 2 (some (.object "MarkChat$Channel")) :: ((wsX7_channelAt_r1 ++ wsX7_channelAt_r2) ++ wsX70 ++ wsJx4a65c0 ++ (vx_atS RX7 255 "java/lang/IndexOutOfBoundsException" ["java/lang/RuntimeException", "java/lang/Exception"]).filter goodWord)
def wsX7_budget_r1 : List Cond := [Cond.classLink RX7 96 "java/lang/IllegalStateException", Cond.initialized "java/lang/IllegalStateException", Cond.constant RX7 91 (1000000), Cond.fieldLink RX7 92 "MarkChat$Channel" "cents" "I", Cond.constant RX7 95 (1000000000), Cond.methodLink RX7 87 yX7_channelAt, Cond.instanceMethod yX7_channelAt, Cond.selects RX7 yX7_channelAt yX7_channelAt, Cond.initialized RX7, Cond.code yX7_channelAt cX7_channelAt 2 (some (.object "MarkChat$Channel")), Cond.classLink RX7 251 "java/lang/IndexOutOfBoundsException", Cond.initialized "java/lang/IndexOutOfBoundsException", Cond.fieldLink RX7 10 "MarkChat" "channels" "Ljava/util/ArrayList;", Cond.classLink RX7 16 "MarkChat$Channel", Cond.methodLink RX7 59 yJx4a65c_size_8abf5, Cond.instanceMethod yJx4a65c_size_8abf5, Cond.selects RJx4a65c yJx4a65c_size_8abf5 yJx4a65c_size_8abf5, Cond.initialized RJx4a65c, Cond.code yJx4a65c_size_8abf5 cJx4a65c_size_8abf5 1 (some .int), Cond.fieldLink RJx4a65c 48 "java/util/ArrayList" "size" "I", Cond.methodLink RX7 210 yJx4a65c_get_915e3, Cond.instanceMethod yJx4a65c_get_915e3, Cond.selects RJx4a65c yJx4a65c_get_915e3 yJx4a65c_get_915e3, Cond.code yJx4a65c_get_915e3 cJx4a65c_get_915e3 2 (some (.object "java/lang/Object"))]
def wsX7_budget_r2 : List Cond := [Cond.methodLink RJx4a65c 118 yJ15_checkIndex_7cf53, Cond.static yJ15_checkIndex_7cf53, Cond.initialized RJ15, Cond.code yJ15_checkIndex_7cf53 cJ15_checkIndex_7cf53 2 (some .int), Cond.methodLink RJ15 105 yJ3_checkIndex_8e157, Cond.static yJ3_checkIndex_8e157, Cond.initialized RJ3, Cond.code yJ3_checkIndex_8e157 cJ3_checkIndex_8e157 3 (some .int), Cond.methodLink RJx4a65c 123 yJx4a65c_elementData_915e3, Cond.instanceMethod yJx4a65c_elementData_915e3, Cond.selects RJx4a65c yJx4a65c_elementData_915e3 yJx4a65c_elementData_915e3, Cond.code yJx4a65c_elementData_915e3 cJx4a65c_elementData_915e3 2 (some (.object "java/lang/Object")), Cond.fieldLink RJx4a65c 9 "java/util/ArrayList" "elementData" "[Ljava/lang/Object;", Cond.methodLink RX7 55 yX7_checkRange, Cond.static yX7_checkRange, Cond.code yX7_checkRange cX7_checkRange 3 none, Cond.classLink RX7 227 "java/lang/IllegalArgumentException", Cond.initialized "java/lang/IllegalArgumentException"]
def wsX7_budget : List Cond := .code yX7_budget cX7_budget 4 (some .int) :: ((wsX7_budget_r1 ++ wsX7_budget_r2) ++ wsX00 ++ wsX70 ++ wsJx4a65c0 ++ (vx_atS RX7 100 "java/lang/IllegalStateException" ["java/lang/RuntimeException", "java/lang/Exception"]).filter goodWord ++ (vx_atS RX7 255 "java/lang/IndexOutOfBoundsException" ["java/lang/RuntimeException", "java/lang/Exception"]).filter goodWord ++ (vx_atS RX7 231 "java/lang/IllegalArgumentException" ["java/lang/RuntimeException", "java/lang/Exception"]).filter goodWord)
def wsX7_messageAt_r1 : List Cond := [Cond.classLink RX7 251 "java/lang/IndexOutOfBoundsException", Cond.initialized "java/lang/IndexOutOfBoundsException", Cond.fieldLink RX7 28 "MarkChat" "messages" "Ljava/util/ArrayList;", Cond.classLink RX7 112 "MarkChat$Message", Cond.methodLink RX7 59 yJx4a65c_size_8abf5, Cond.instanceMethod yJx4a65c_size_8abf5, Cond.selects RJx4a65c yJx4a65c_size_8abf5 yJx4a65c_size_8abf5, Cond.initialized RJx4a65c, Cond.code yJx4a65c_size_8abf5 cJx4a65c_size_8abf5 1 (some .int), Cond.fieldLink RJx4a65c 48 "java/util/ArrayList" "size" "I", Cond.methodLink RX7 210 yJx4a65c_get_915e3, Cond.instanceMethod yJx4a65c_get_915e3, Cond.selects RJx4a65c yJx4a65c_get_915e3 yJx4a65c_get_915e3, Cond.code yJx4a65c_get_915e3 cJx4a65c_get_915e3 2 (some (.object "java/lang/Object")), Cond.methodLink RJx4a65c 118 yJ15_checkIndex_7cf53, Cond.static yJ15_checkIndex_7cf53, Cond.initialized RJ15, Cond.code yJ15_checkIndex_7cf53 cJ15_checkIndex_7cf53 2 (some .int), Cond.methodLink RJ15 105 yJ3_checkIndex_8e157, Cond.static yJ3_checkIndex_8e157, Cond.initialized RJ3, Cond.code yJ3_checkIndex_8e157 cJ3_checkIndex_8e157 3 (some .int), Cond.methodLink RJx4a65c 123 yJx4a65c_elementData_915e3, Cond.instanceMethod yJx4a65c_elementData_915e3]
def wsX7_messageAt_r2 : List Cond := [Cond.selects RJx4a65c yJx4a65c_elementData_915e3 yJx4a65c_elementData_915e3, Cond.code yJx4a65c_elementData_915e3 cJx4a65c_elementData_915e3 2 (some (.object "java/lang/Object")), Cond.fieldLink RJx4a65c 9 "java/util/ArrayList" "elementData" "[Ljava/lang/Object;"]
def wsX7_messageAt : List Cond := .code yX7_messageAt cX7_messageAt 2 (some (.object "MarkChat$Message")) :: ((wsX7_messageAt_r1 ++ wsX7_messageAt_r2) ++ wsX70 ++ wsJx4a65c0 ++ (vx_atS RX7 255 "java/lang/IndexOutOfBoundsException" ["java/lang/RuntimeException", "java/lang/Exception"]).filter goodWord)
def wsX7_refuseArchived : List Cond := .code yX7_refuseArchived cX7_refuseArchived 1 none :: ([.classLink RX7 96 "java/lang/IllegalStateException", .initialized "java/lang/IllegalStateException", .fieldLink RX7 218 "MarkChat$Message" "isArchived" "Z"] ++ wsX30 ++ (vx_atS RX7 100 "java/lang/IllegalStateException" ["java/lang/RuntimeException", "java/lang/Exception"]).filter goodWord)
def wsX7_refuseGone : List Cond := .code yX7_refuseGone cX7_refuseGone 2 none :: ([.classLink RX7 96 "java/lang/IllegalStateException", .initialized "java/lang/IllegalStateException", .fieldLink RX7 51 "MarkChat" "hour" "I", .methodLink RX7 293 yX6_isGoneAt, .instanceMethod yX6_isGoneAt, .selects RX6 yX6_isGoneAt yX6_isGoneAt, .initialized RX6, .code yX6_isGoneAt cX6_isGoneAt 2 (some .boolean), .fieldLink RX6 18 "MarkChat$User" "endHour" "I"] ++ wsX70 ++ wsX60 ++ (vx_atS RX7 100 "java/lang/IllegalStateException" ["java/lang/RuntimeException", "java/lang/Exception"]).filter goodWord)
def wsX7_post_r1 : List Cond := [Cond.classLink RX7 96 "java/lang/IllegalStateException", Cond.initialized "java/lang/IllegalStateException", Cond.fieldLink RX7 111 "MarkChat$Message" "channel" "LMarkChat$Channel;", Cond.fieldLink RX7 117 "MarkChat$Channel" "number" "I", Cond.fieldLink RX7 28 "MarkChat" "messages" "Ljava/util/ArrayList;", Cond.classLink RX7 112 RX3, Cond.instantiable RX3 8, Cond.initialized RX3, Cond.fieldLink RX7 51 "MarkChat" "hour" "I", Cond.fieldLink RX7 127 "MarkChat$Message" "number" "I", Cond.methodLink RX7 74 yX7_userAt, Cond.instanceMethod yX7_userAt, Cond.selects RX7 yX7_userAt yX7_userAt, Cond.initialized RX7, Cond.code yX7_userAt cX7_userAt 2 (some (.object "MarkChat$User")), Cond.classLink RX7 251 "java/lang/IndexOutOfBoundsException", Cond.initialized "java/lang/IndexOutOfBoundsException", Cond.fieldLink RX7 25 "MarkChat" "users" "Ljava/util/ArrayList;", Cond.classLink RX7 67 "MarkChat$User", Cond.methodLink RX7 59 yJx4a65c_size_8abf5, Cond.instanceMethod yJx4a65c_size_8abf5, Cond.selects RJx4a65c yJx4a65c_size_8abf5 yJx4a65c_size_8abf5, Cond.initialized RJx4a65c, Cond.code yJx4a65c_size_8abf5 cJx4a65c_size_8abf5 1 (some .int)]
def wsX7_post_r2 : List Cond := [Cond.fieldLink RJx4a65c 48 "java/util/ArrayList" "size" "I", Cond.methodLink RX7 210 yJx4a65c_get_915e3, Cond.instanceMethod yJx4a65c_get_915e3, Cond.selects RJx4a65c yJx4a65c_get_915e3 yJx4a65c_get_915e3, Cond.code yJx4a65c_get_915e3 cJx4a65c_get_915e3 2 (some (.object "java/lang/Object")), Cond.methodLink RJx4a65c 118 yJ15_checkIndex_7cf53, Cond.static yJ15_checkIndex_7cf53, Cond.initialized RJ15, Cond.code yJ15_checkIndex_7cf53 cJ15_checkIndex_7cf53 2 (some .int), Cond.methodLink RJ15 105 yJ3_checkIndex_8e157, Cond.static yJ3_checkIndex_8e157, Cond.initialized RJ3, Cond.code yJ3_checkIndex_8e157 cJ3_checkIndex_8e157 3 (some .int), Cond.methodLink RJx4a65c 123 yJx4a65c_elementData_915e3, Cond.instanceMethod yJx4a65c_elementData_915e3, Cond.selects RJx4a65c yJx4a65c_elementData_915e3 yJx4a65c_elementData_915e3, Cond.code yJx4a65c_elementData_915e3 cJx4a65c_elementData_915e3 2 (some (.object "java/lang/Object")), Cond.fieldLink RJx4a65c 9 "java/util/ArrayList" "elementData" "[Ljava/lang/Object;", Cond.methodLink RX7 87 yX7_channelAt, Cond.instanceMethod yX7_channelAt, Cond.selects RX7 yX7_channelAt yX7_channelAt, Cond.code yX7_channelAt cX7_channelAt 2 (some (.object "MarkChat$Channel")), Cond.fieldLink RX7 10 "MarkChat" "channels" "Ljava/util/ArrayList;", Cond.classLink RX7 16 "MarkChat$Channel"]
def wsX7_post_r3 : List Cond := [Cond.methodLink RX7 103 yX7_messageAt, Cond.instanceMethod yX7_messageAt, Cond.selects RX7 yX7_messageAt yX7_messageAt, Cond.code yX7_messageAt cX7_messageAt 2 (some (.object "MarkChat$Message")), Cond.classLink RX7 112 "MarkChat$Message", Cond.methodLink RX7 107 yX7_refuseArchived, Cond.static yX7_refuseArchived, Cond.code yX7_refuseArchived cX7_refuseArchived 1 none, Cond.fieldLink RX7 218 "MarkChat$Message" "isArchived" "Z", Cond.methodLink RX7 120 yX7_refuseGone, Cond.instanceMethod yX7_refuseGone, Cond.selects RX7 yX7_refuseGone yX7_refuseGone, Cond.code yX7_refuseGone cX7_refuseGone 2 none, Cond.methodLink RX7 293 yX6_isGoneAt, Cond.instanceMethod yX6_isGoneAt, Cond.selects RX6 yX6_isGoneAt yX6_isGoneAt, Cond.initialized RX6, Cond.code yX6_isGoneAt cX6_isGoneAt 2 (some .boolean), Cond.fieldLink RX6 18 "MarkChat$User" "endHour" "I", Cond.methodLink RX7 63 yX7_refuseFull, Cond.static yX7_refuseFull, Cond.code yX7_refuseFull cX7_refuseFull 2 none, Cond.methodLink RX7 124 yX3_init, Cond.instanceMethod yX3_init]
def wsX7_post_r4 : List Cond := [Cond.code yX3_init cX3_init 6 none, Cond.methodLink RX3 1 objectInit, Cond.instanceMethod objectInit, Cond.code objectInit ⟨#[0xb1]⟩ 1 none, Cond.fieldLink RX3 7 "MarkChat$Message" "number" "I", Cond.fieldLink RX3 13 "MarkChat$Message" "author" "LMarkChat$User;", Cond.fieldLink RX3 17 "MarkChat$Message" "channel" "LMarkChat$Channel;", Cond.fieldLink RX3 21 "MarkChat$Message" "parent" "I", Cond.fieldLink RX3 24 "MarkChat$Message" "postHour" "I", Cond.classLink RX3 27 RX2, Cond.instantiable RX2 1, Cond.initialized RX2, Cond.fieldLink RX3 30 "MarkChat$Message" "marks" "LMarkChat$Marks;", Cond.methodLink RX3 29 yX2_init, Cond.instanceMethod yX2_init, Cond.code yX2_init cX2_init 1 none, Cond.methodLink RX2 3 objectInit, Cond.arrayClass .int, Cond.fieldLink RX2 9 "MarkChat$Marks" "kinds" "[I", Cond.methodLink RX2 15 yJ7_fill_53178, Cond.static yJ7_fill_53178, Cond.initialized RJ7, Cond.code yJ7_fill_53178 cJ7_fill_53178 4 none, Cond.methodLink RX7 21 yJx4a65c_add_9ea2d]
def wsX7_post_r5 : List Cond := [Cond.instanceMethod yJx4a65c_add_9ea2d, Cond.selects RJx4a65c yJx4a65c_add_9ea2d yJx4a65c_add_9ea2d, Cond.code yJx4a65c_add_9ea2d cJx4a65c_add_9ea2d 2 (some .boolean), Cond.fieldLink RJx4a65c 63 "java/util/ArrayList" "modCount" "I", Cond.sameField "java/util/ArrayList" "java/util/AbstractList" "modCount" "I", Cond.methodLink RJx4a65c 131 yJx4a65c_add_72be8, Cond.instanceMethod yJx4a65c_add_72be8, Cond.selects RJx4a65c yJx4a65c_add_72be8 yJx4a65c_add_72be8, Cond.code yJx4a65c_add_72be8 cJx4a65c_add_72be8 4 none, Cond.methodLink RJx4a65c 129 yJx4a65c_grow_d5877, Cond.instanceMethod yJx4a65c_grow_d5877, Cond.selects RJx4a65c yJx4a65c_grow_d5877 yJx4a65c_grow_d5877, Cond.code yJx4a65c_grow_d5877 cJx4a65c_grow_d5877 1 (some (.array (.object "java/lang/Object"))), Cond.methodLink RJx4a65c 69 yJx4a65c_grow_92f84, Cond.instanceMethod yJx4a65c_grow_92f84, Cond.selects RJx4a65c yJx4a65c_grow_92f84 yJx4a65c_grow_92f84, Cond.code yJx4a65c_grow_92f84 cJx4a65c_grow_92f84 4 (some (.array (.object "java/lang/Object"))), Cond.fieldLink RJx4a65c 39 "java/util/ArrayList" "DEFAULTCAPACITY_EMPTY_ELEMENTDATA" "[Ljava/lang/Object;", Cond.methodLink RJx4a65c 79 Lib.Math.max.name, Cond.static Lib.Math.max.name, Cond.initialized "java/lang/Math", Cond.code Lib.Math.max.name Lib.Math.max.code 2 (some .int), Cond.classLink RJx4a65c 7 "java/lang/Object", Cond.methodLink RJx4a65c 73 yJ8_newLength_cabcc]
def wsX7_post_r6 : List Cond := [Cond.static yJ8_newLength_cabcc, Cond.initialized RJ8, Cond.code yJ8_newLength_cabcc cJ8_newLength_cabcc 4 (some .int), Cond.methodLink RJ8 194 Lib.Math.max.name, Cond.constant RJ8 200 (2147483639), Cond.methodLink RJ8 201 yJ8_hugeLength_7cf53, Cond.static yJ8_hugeLength_7cf53, Cond.code yJ8_hugeLength_7cf53 cJ8_hugeLength_7cf53 3 (some .int), Cond.methodLink RJx4a65c 66 yJ7_copyOf_1904c, Cond.static yJ7_copyOf_1904c, Cond.code yJ7_copyOf_1904c cJ7_copyOf_1904c 2 (some (.array (.object "java/lang/Object"))), Cond.methodLink RJ7 86 ⟨"java/lang/Object", "getClass", "()Ljava/lang/Class;"⟩, Cond.selects "[Ljava/lang/Object;" ⟨"java/lang/Object", "getClass", "()Ljava/lang/Class;"⟩ ⟨"java/lang/Object", "getClass", "()Ljava/lang/Class;"⟩, Cond.instanceMethod ⟨"java/lang/Object", "getClass", "()Ljava/lang/Class;"⟩, Cond.native ⟨"java/lang/Object", "getClass", "()Ljava/lang/Class;"⟩, Cond.methodLink RJ7 300 yJ7_copyOf_6403c, Cond.static yJ7_copyOf_6403c, Cond.code yJ7_copyOf_6403c cJ7_copyOf_6403c 4 (some (.array (.object "java/lang/Object"))), Cond.classLink RJ7 110 "[Ljava/lang/Object;", Cond.classLink RJ7 2 "java/lang/Object", Cond.methodLink RJ7 304 Lib.Math.min.name, Cond.static Lib.Math.min.name, Cond.code Lib.Math.min.name Lib.Math.min.code 2 (some .int), Cond.methodLink RJ7 150 arraycopyName]
def wsX7_post_r7 : List Cond := [Cond.native arraycopyName, Cond.static arraycopyName, Cond.initialized "java/lang/System"]
def wsX7_post : List Cond := .code yX7_post cX7_post 7 (some .int) :: ((wsX7_post_r1 ++ (wsX7_post_r2 ++ (wsX7_post_r3 ++ (wsX7_post_r4 ++ (wsX7_post_r5 ++ (wsX7_post_r6 ++ wsX7_post_r7)))))) ++ wsX30 ++ wsX00 ++ wsX70 ++ wsJx4a65c0 ++ wsX60 ++ wsX20 ++ (vx_atS RX7 100 "java/lang/IllegalStateException" ["java/lang/RuntimeException", "java/lang/Exception"]).filter goodWord ++ (vx_atS RX7 255 "java/lang/IndexOutOfBoundsException" ["java/lang/RuntimeException", "java/lang/Exception"]).filter goodWord)
def wsX7_dropTasksOf_r1 : List Cond := [Cond.fieldLink RX7 34 "MarkChat" "tasks" "Ljava/util/ArrayList;", Cond.classLink RX7 181 "MarkChat$Task", Cond.fieldLink RX7 308 "MarkChat$Task" "message" "I", Cond.fieldLink RX7 196 "MarkChat$Task" "state" "I", Cond.methodLink RX7 59 yJx4a65c_size_8abf5, Cond.instanceMethod yJx4a65c_size_8abf5, Cond.selects RJx4a65c yJx4a65c_size_8abf5 yJx4a65c_size_8abf5, Cond.initialized RJx4a65c, Cond.code yJx4a65c_size_8abf5 cJx4a65c_size_8abf5 1 (some .int), Cond.fieldLink RJx4a65c 48 "java/util/ArrayList" "size" "I", Cond.methodLink RX7 210 yJx4a65c_get_915e3, Cond.instanceMethod yJx4a65c_get_915e3, Cond.selects RJx4a65c yJx4a65c_get_915e3 yJx4a65c_get_915e3, Cond.code yJx4a65c_get_915e3 cJx4a65c_get_915e3 2 (some (.object "java/lang/Object")), Cond.methodLink RJx4a65c 118 yJ15_checkIndex_7cf53, Cond.static yJ15_checkIndex_7cf53, Cond.initialized RJ15, Cond.code yJ15_checkIndex_7cf53 cJ15_checkIndex_7cf53 2 (some .int), Cond.methodLink RJ15 105 yJ3_checkIndex_8e157, Cond.static yJ3_checkIndex_8e157, Cond.initialized RJ3, Cond.code yJ3_checkIndex_8e157 cJ3_checkIndex_8e157 3 (some .int), Cond.methodLink RJx4a65c 123 yJx4a65c_elementData_915e3, Cond.instanceMethod yJx4a65c_elementData_915e3]
def wsX7_dropTasksOf_r2 : List Cond := [Cond.selects RJx4a65c yJx4a65c_elementData_915e3 yJx4a65c_elementData_915e3, Cond.code yJx4a65c_elementData_915e3 cJx4a65c_elementData_915e3 2 (some (.object "java/lang/Object")), Cond.fieldLink RJx4a65c 9 "java/util/ArrayList" "elementData" "[Ljava/lang/Object;"]
def wsX7_dropTasksOf : List Cond := .code yX7_dropTasksOf cX7_dropTasksOf 4 none :: ((wsX7_dropTasksOf_r1 ++ wsX7_dropTasksOf_r2) ++ wsX70 ++ wsX50 ++ wsJx4a65c0)
def wsX7_edit_r1 : List Cond := [Cond.classLink RX7 96 "java/lang/IllegalStateException", Cond.initialized "java/lang/IllegalStateException", Cond.fieldLink RX7 40 "MarkChat" "log" "LMarkChat$Log;", Cond.fieldLink RX7 128 "MarkChat$Log" "size" "I", Cond.fieldLink RX7 130 "MarkChat$Message" "author" "LMarkChat$User;", Cond.fieldLink RX7 71 "MarkChat$User" "number" "I", Cond.fieldLink RX7 136 "MarkChat$Message" "version" "I", Cond.fieldLink RX7 139 "MarkChat$Message" "marks" "LMarkChat$Marks;", Cond.methodLink RX7 74 yX7_userAt, Cond.instanceMethod yX7_userAt, Cond.selects RX7 yX7_userAt yX7_userAt, Cond.initialized RX7, Cond.code yX7_userAt cX7_userAt 2 (some (.object "MarkChat$User")), Cond.classLink RX7 251 "java/lang/IndexOutOfBoundsException", Cond.initialized "java/lang/IndexOutOfBoundsException", Cond.fieldLink RX7 25 "MarkChat" "users" "Ljava/util/ArrayList;", Cond.classLink RX7 67 "MarkChat$User", Cond.methodLink RX7 59 yJx4a65c_size_8abf5, Cond.instanceMethod yJx4a65c_size_8abf5, Cond.selects RJx4a65c yJx4a65c_size_8abf5 yJx4a65c_size_8abf5, Cond.initialized RJx4a65c, Cond.code yJx4a65c_size_8abf5 cJx4a65c_size_8abf5 1 (some .int), Cond.fieldLink RJx4a65c 48 "java/util/ArrayList" "size" "I", Cond.methodLink RX7 210 yJx4a65c_get_915e3]
def wsX7_edit_r2 : List Cond := [Cond.instanceMethod yJx4a65c_get_915e3, Cond.selects RJx4a65c yJx4a65c_get_915e3 yJx4a65c_get_915e3, Cond.code yJx4a65c_get_915e3 cJx4a65c_get_915e3 2 (some (.object "java/lang/Object")), Cond.methodLink RJx4a65c 118 yJ15_checkIndex_7cf53, Cond.static yJ15_checkIndex_7cf53, Cond.initialized RJ15, Cond.code yJ15_checkIndex_7cf53 cJ15_checkIndex_7cf53 2 (some .int), Cond.methodLink RJ15 105 yJ3_checkIndex_8e157, Cond.static yJ3_checkIndex_8e157, Cond.initialized RJ3, Cond.code yJ3_checkIndex_8e157 cJ3_checkIndex_8e157 3 (some .int), Cond.methodLink RJx4a65c 123 yJx4a65c_elementData_915e3, Cond.instanceMethod yJx4a65c_elementData_915e3, Cond.selects RJx4a65c yJx4a65c_elementData_915e3 yJx4a65c_elementData_915e3, Cond.code yJx4a65c_elementData_915e3 cJx4a65c_elementData_915e3 2 (some (.object "java/lang/Object")), Cond.fieldLink RJx4a65c 9 "java/util/ArrayList" "elementData" "[Ljava/lang/Object;", Cond.methodLink RX7 103 yX7_messageAt, Cond.instanceMethod yX7_messageAt, Cond.selects RX7 yX7_messageAt yX7_messageAt, Cond.code yX7_messageAt cX7_messageAt 2 (some (.object "MarkChat$Message")), Cond.fieldLink RX7 28 "MarkChat" "messages" "Ljava/util/ArrayList;", Cond.classLink RX7 112 "MarkChat$Message", Cond.methodLink RX7 120 yX7_refuseGone, Cond.instanceMethod yX7_refuseGone]
def wsX7_edit_r3 : List Cond := [Cond.selects RX7 yX7_refuseGone yX7_refuseGone, Cond.code yX7_refuseGone cX7_refuseGone 2 none, Cond.fieldLink RX7 51 "MarkChat" "hour" "I", Cond.methodLink RX7 293 yX6_isGoneAt, Cond.instanceMethod yX6_isGoneAt, Cond.selects RX6 yX6_isGoneAt yX6_isGoneAt, Cond.initialized RX6, Cond.code yX6_isGoneAt cX6_isGoneAt 2 (some .boolean), Cond.fieldLink RX6 18 "MarkChat$User" "endHour" "I", Cond.methodLink RX7 107 yX7_refuseArchived, Cond.static yX7_refuseArchived, Cond.code yX7_refuseArchived cX7_refuseArchived 1 none, Cond.fieldLink RX7 218 "MarkChat$Message" "isArchived" "Z", Cond.methodLink RX7 63 yX7_refuseFull, Cond.static yX7_refuseFull, Cond.code yX7_refuseFull cX7_refuseFull 2 none, Cond.methodLink RX7 142 yX2_clear, Cond.instanceMethod yX2_clear, Cond.selects RX2 yX2_clear yX2_clear, Cond.initialized RX2, Cond.code yX2_clear cX2_clear 1 none, Cond.fieldLink RX2 9 "MarkChat$Marks" "kinds" "[I", Cond.methodLink RX2 15 yJ7_fill_53178, Cond.static yJ7_fill_53178]
def wsX7_edit_r4 : List Cond := [Cond.initialized RJ7, Cond.code yJ7_fill_53178 cJ7_fill_53178 4 none, Cond.methodLink RX7 145 yX1_writeEdit, Cond.instanceMethod yX1_writeEdit, Cond.selects RX1 yX1_writeEdit yX1_writeEdit, Cond.initialized RX1, Cond.code yX1_writeEdit cX1_writeEdit 2 none, Cond.methodLink RX1 21 yX1_write, Cond.instanceMethod yX1_write, Cond.selects RX1 yX1_write yX1_write, Cond.code yX1_write cX1_write 4 none, Cond.fieldLink RX1 25 "MarkChat$Log" "size" "I", Cond.fieldLink RX1 9 "MarkChat$Log" "messages" "[I", Cond.fieldLink RX1 15 "MarkChat$Log" "users" "[I", Cond.fieldLink RX1 18 "MarkChat$Log" "kinds" "[I", Cond.methodLink RX7 148 yX7_dropTasksOf, Cond.instanceMethod yX7_dropTasksOf, Cond.selects RX7 yX7_dropTasksOf yX7_dropTasksOf, Cond.code yX7_dropTasksOf cX7_dropTasksOf 4 none, Cond.fieldLink RX7 34 "MarkChat" "tasks" "Ljava/util/ArrayList;", Cond.classLink RX7 181 "MarkChat$Task", Cond.fieldLink RX7 308 "MarkChat$Task" "message" "I", Cond.fieldLink RX7 196 "MarkChat$Task" "state" "I", Cond.methodLink RX7 81 yX7_takeSpendsBack]
def wsX7_edit_r5 : List Cond := [Cond.instanceMethod yX7_takeSpendsBack, Cond.selects RX7 yX7_takeSpendsBack yX7_takeSpendsBack, Cond.code yX7_takeSpendsBack cX7_takeSpendsBack 3 none, Cond.fieldLink RX7 31 "MarkChat" "spends" "Ljava/util/ArrayList;", Cond.classLink RX7 175 "MarkChat$Spend", Cond.fieldLink RX7 240 "MarkChat$Spend" "state" "I", Cond.fieldLink RX7 241 "MarkChat$Spend" "message" "LMarkChat$Message;", Cond.fieldLink RX7 111 "MarkChat$Message" "channel" "LMarkChat$Channel;", Cond.fieldLink RX7 92 "MarkChat$Channel" "cents" "I", Cond.fieldLink RX7 246 "MarkChat$Spend" "amount" "I", Cond.methodLink RX7 304 yX7_isStillDue, Cond.instanceMethod yX7_isStillDue, Cond.selects RX7 yX7_isStillDue yX7_isStillDue, Cond.code yX7_isStillDue cX7_isStillDue 3 (some .boolean), Cond.fieldLink RX7 245 "MarkChat$Spend" "version" "I", Cond.methodLink RX7 167 yX7_approve, Cond.instanceMethod yX7_approve, Cond.selects RX7 yX7_approve yX7_approve, Cond.code yX7_approve cX7_approve 9 (some .boolean), Cond.fieldLink RX7 78 "MarkChat$User" "rank" "I", Cond.methodLink RX7 151 yX2_kindOf, Cond.instanceMethod yX2_kindOf, Cond.selects RX2 yX2_kindOf yX2_kindOf, Cond.code yX2_kindOf cX2_kindOf 2 (some .int)]
def wsX7_edit_r6 : List Cond := [Cond.methodLink RX7 301 yX6_countsAt, Cond.instanceMethod yX6_countsAt, Cond.selects RX6 yX6_countsAt yX6_countsAt, Cond.code yX6_countsAt cX6_countsAt 2 (some .boolean), Cond.fieldLink RX6 15 "MarkChat$User" "rank" "I", Cond.methodLink RX6 21 yX6_isGoneAt]
def wsX7_edit : List Cond := .code yX7_edit cX7_edit 5 (some .int) :: ((wsX7_edit_r1 ++ (wsX7_edit_r2 ++ (wsX7_edit_r3 ++ (wsX7_edit_r4 ++ (wsX7_edit_r5 ++ wsX7_edit_r6))))) ++ wsX70 ++ wsX10 ++ wsX30 ++ wsX60 ++ wsJx4a65c0 ++ wsX20 ++ wsX50 ++ wsX40 ++ wsX00 ++ (vx_atS RX7 100 "java/lang/IllegalStateException" ["java/lang/RuntimeException", "java/lang/Exception"]).filter goodWord ++ (vx_atS RX7 255 "java/lang/IndexOutOfBoundsException" ["java/lang/RuntimeException", "java/lang/Exception"]).filter goodWord)
def wsX7_countMarks_r1 : List Cond := [Cond.fieldLink RX7 25 "MarkChat" "users" "Ljava/util/ArrayList;", Cond.classLink RX7 67 "MarkChat$User", Cond.fieldLink RX7 51 "MarkChat" "hour" "I", Cond.methodLink RX7 59 yJx4a65c_size_8abf5, Cond.instanceMethod yJx4a65c_size_8abf5, Cond.selects RJx4a65c yJx4a65c_size_8abf5 yJx4a65c_size_8abf5, Cond.initialized RJx4a65c, Cond.code yJx4a65c_size_8abf5 cJx4a65c_size_8abf5 1 (some .int), Cond.fieldLink RJx4a65c 48 "java/util/ArrayList" "size" "I", Cond.methodLink RX7 151 yX2_kindOf, Cond.instanceMethod yX2_kindOf, Cond.selects RX2 yX2_kindOf yX2_kindOf, Cond.initialized RX2, Cond.code yX2_kindOf cX2_kindOf 2 (some .int), Cond.fieldLink RX2 9 "MarkChat$Marks" "kinds" "[I", Cond.methodLink RX7 210 yJx4a65c_get_915e3, Cond.instanceMethod yJx4a65c_get_915e3, Cond.selects RJx4a65c yJx4a65c_get_915e3 yJx4a65c_get_915e3, Cond.code yJx4a65c_get_915e3 cJx4a65c_get_915e3 2 (some (.object "java/lang/Object")), Cond.methodLink RJx4a65c 118 yJ15_checkIndex_7cf53, Cond.static yJ15_checkIndex_7cf53, Cond.initialized RJ15, Cond.code yJ15_checkIndex_7cf53 cJ15_checkIndex_7cf53 2 (some .int), Cond.methodLink RJ15 105 yJ3_checkIndex_8e157]
def wsX7_countMarks_r2 : List Cond := [Cond.static yJ3_checkIndex_8e157, Cond.initialized RJ3, Cond.code yJ3_checkIndex_8e157 cJ3_checkIndex_8e157 3 (some .int), Cond.methodLink RJx4a65c 123 yJx4a65c_elementData_915e3, Cond.instanceMethod yJx4a65c_elementData_915e3, Cond.selects RJx4a65c yJx4a65c_elementData_915e3 yJx4a65c_elementData_915e3, Cond.code yJx4a65c_elementData_915e3 cJx4a65c_elementData_915e3 2 (some (.object "java/lang/Object")), Cond.fieldLink RJx4a65c 9 "java/util/ArrayList" "elementData" "[Ljava/lang/Object;", Cond.methodLink RX7 301 yX6_countsAt, Cond.instanceMethod yX6_countsAt, Cond.selects RX6 yX6_countsAt yX6_countsAt, Cond.initialized RX6, Cond.code yX6_countsAt cX6_countsAt 2 (some .boolean), Cond.fieldLink RX6 15 "MarkChat$User" "rank" "I", Cond.methodLink RX6 21 yX6_isGoneAt, Cond.instanceMethod yX6_isGoneAt, Cond.selects RX6 yX6_isGoneAt yX6_isGoneAt, Cond.code yX6_isGoneAt cX6_isGoneAt 2 (some .boolean), Cond.fieldLink RX6 18 "MarkChat$User" "endHour" "I"]
def wsX7_countMarks : List Cond := .code yX7_countMarks cX7_countMarks 4 (some .int) :: ((wsX7_countMarks_r1 ++ wsX7_countMarks_r2) ++ wsX70 ++ wsJx4a65c0 ++ wsX20 ++ wsX60)
def wsX7_mark_r1 : List Cond := [Cond.classLink RX7 96 "java/lang/IllegalStateException", Cond.initialized "java/lang/IllegalStateException", Cond.fieldLink RX7 40 "MarkChat" "log" "LMarkChat$Log;", Cond.fieldLink RX7 128 "MarkChat$Log" "size" "I", Cond.fieldLink RX7 139 "MarkChat$Message" "marks" "LMarkChat$Marks;", Cond.methodLink RX7 74 yX7_userAt, Cond.instanceMethod yX7_userAt, Cond.selects RX7 yX7_userAt yX7_userAt, Cond.initialized RX7, Cond.code yX7_userAt cX7_userAt 2 (some (.object "MarkChat$User")), Cond.classLink RX7 251 "java/lang/IndexOutOfBoundsException", Cond.initialized "java/lang/IndexOutOfBoundsException", Cond.fieldLink RX7 25 "MarkChat" "users" "Ljava/util/ArrayList;", Cond.classLink RX7 67 "MarkChat$User", Cond.methodLink RX7 59 yJx4a65c_size_8abf5, Cond.instanceMethod yJx4a65c_size_8abf5, Cond.selects RJx4a65c yJx4a65c_size_8abf5 yJx4a65c_size_8abf5, Cond.initialized RJx4a65c, Cond.code yJx4a65c_size_8abf5 cJx4a65c_size_8abf5 1 (some .int), Cond.fieldLink RJx4a65c 48 "java/util/ArrayList" "size" "I", Cond.methodLink RX7 210 yJx4a65c_get_915e3, Cond.instanceMethod yJx4a65c_get_915e3, Cond.selects RJx4a65c yJx4a65c_get_915e3 yJx4a65c_get_915e3, Cond.code yJx4a65c_get_915e3 cJx4a65c_get_915e3 2 (some (.object "java/lang/Object"))]
def wsX7_mark_r2 : List Cond := [Cond.methodLink RJx4a65c 118 yJ15_checkIndex_7cf53, Cond.static yJ15_checkIndex_7cf53, Cond.initialized RJ15, Cond.code yJ15_checkIndex_7cf53 cJ15_checkIndex_7cf53 2 (some .int), Cond.methodLink RJ15 105 yJ3_checkIndex_8e157, Cond.static yJ3_checkIndex_8e157, Cond.initialized RJ3, Cond.code yJ3_checkIndex_8e157 cJ3_checkIndex_8e157 3 (some .int), Cond.methodLink RJx4a65c 123 yJx4a65c_elementData_915e3, Cond.instanceMethod yJx4a65c_elementData_915e3, Cond.selects RJx4a65c yJx4a65c_elementData_915e3 yJx4a65c_elementData_915e3, Cond.code yJx4a65c_elementData_915e3 cJx4a65c_elementData_915e3 2 (some (.object "java/lang/Object")), Cond.fieldLink RJx4a65c 9 "java/util/ArrayList" "elementData" "[Ljava/lang/Object;", Cond.methodLink RX7 103 yX7_messageAt, Cond.instanceMethod yX7_messageAt, Cond.selects RX7 yX7_messageAt yX7_messageAt, Cond.code yX7_messageAt cX7_messageAt 2 (some (.object "MarkChat$Message")), Cond.fieldLink RX7 28 "MarkChat" "messages" "Ljava/util/ArrayList;", Cond.classLink RX7 112 "MarkChat$Message", Cond.methodLink RX7 55 yX7_checkRange, Cond.static yX7_checkRange, Cond.code yX7_checkRange cX7_checkRange 3 none, Cond.classLink RX7 227 "java/lang/IllegalArgumentException", Cond.initialized "java/lang/IllegalArgumentException"]
def wsX7_mark_r3 : List Cond := [Cond.methodLink RX7 120 yX7_refuseGone, Cond.instanceMethod yX7_refuseGone, Cond.selects RX7 yX7_refuseGone yX7_refuseGone, Cond.code yX7_refuseGone cX7_refuseGone 2 none, Cond.fieldLink RX7 51 "MarkChat" "hour" "I", Cond.methodLink RX7 293 yX6_isGoneAt, Cond.instanceMethod yX6_isGoneAt, Cond.selects RX6 yX6_isGoneAt yX6_isGoneAt, Cond.initialized RX6, Cond.code yX6_isGoneAt cX6_isGoneAt 2 (some .boolean), Cond.fieldLink RX6 18 "MarkChat$User" "endHour" "I", Cond.methodLink RX7 107 yX7_refuseArchived, Cond.static yX7_refuseArchived, Cond.code yX7_refuseArchived cX7_refuseArchived 1 none, Cond.fieldLink RX7 218 "MarkChat$Message" "isArchived" "Z", Cond.methodLink RX7 63 yX7_refuseFull, Cond.static yX7_refuseFull, Cond.code yX7_refuseFull cX7_refuseFull 2 none, Cond.methodLink RX7 151 yX2_kindOf, Cond.instanceMethod yX2_kindOf, Cond.selects RX2 yX2_kindOf yX2_kindOf, Cond.initialized RX2, Cond.code yX2_kindOf cX2_kindOf 2 (some .int), Cond.fieldLink RX2 9 "MarkChat$Marks" "kinds" "[I"]
def wsX7_mark_r4 : List Cond := [Cond.methodLink RX7 157 yX2_put, Cond.instanceMethod yX2_put, Cond.selects RX2 yX2_put yX2_put, Cond.code yX2_put cX2_put 3 none, Cond.methodLink RX7 160 yX1_writeMark, Cond.instanceMethod yX1_writeMark, Cond.selects RX1 yX1_writeMark yX1_writeMark, Cond.initialized RX1, Cond.code yX1_writeMark cX1_writeMark 4 none, Cond.methodLink RX1 21 yX1_write, Cond.instanceMethod yX1_write, Cond.selects RX1 yX1_write yX1_write, Cond.code yX1_write cX1_write 4 none, Cond.fieldLink RX1 25 "MarkChat$Log" "size" "I", Cond.fieldLink RX1 9 "MarkChat$Log" "messages" "[I", Cond.fieldLink RX1 15 "MarkChat$Log" "users" "[I", Cond.fieldLink RX1 18 "MarkChat$Log" "kinds" "[I", Cond.methodLink RX7 81 yX7_takeSpendsBack, Cond.instanceMethod yX7_takeSpendsBack, Cond.selects RX7 yX7_takeSpendsBack yX7_takeSpendsBack, Cond.code yX7_takeSpendsBack cX7_takeSpendsBack 3 none, Cond.fieldLink RX7 31 "MarkChat" "spends" "Ljava/util/ArrayList;", Cond.classLink RX7 175 "MarkChat$Spend", Cond.fieldLink RX7 240 "MarkChat$Spend" "state" "I"]
def wsX7_mark_r5 : List Cond := [Cond.fieldLink RX7 241 "MarkChat$Spend" "message" "LMarkChat$Message;", Cond.fieldLink RX7 111 "MarkChat$Message" "channel" "LMarkChat$Channel;", Cond.fieldLink RX7 92 "MarkChat$Channel" "cents" "I", Cond.fieldLink RX7 246 "MarkChat$Spend" "amount" "I", Cond.methodLink RX7 304 yX7_isStillDue, Cond.instanceMethod yX7_isStillDue, Cond.selects RX7 yX7_isStillDue yX7_isStillDue, Cond.code yX7_isStillDue cX7_isStillDue 3 (some .boolean), Cond.fieldLink RX7 136 "MarkChat$Message" "version" "I", Cond.fieldLink RX7 245 "MarkChat$Spend" "version" "I", Cond.methodLink RX7 167 yX7_approve, Cond.instanceMethod yX7_approve, Cond.selects RX7 yX7_approve yX7_approve, Cond.code yX7_approve cX7_approve 9 (some .boolean), Cond.fieldLink RX7 78 "MarkChat$User" "rank" "I", Cond.fieldLink RX7 130 "MarkChat$Message" "author" "LMarkChat$User;", Cond.fieldLink RX7 71 "MarkChat$User" "number" "I", Cond.methodLink RX7 301 yX6_countsAt, Cond.instanceMethod yX6_countsAt, Cond.selects RX6 yX6_countsAt yX6_countsAt, Cond.code yX6_countsAt cX6_countsAt 2 (some .boolean), Cond.fieldLink RX6 15 "MarkChat$User" "rank" "I", Cond.methodLink RX6 21 yX6_isGoneAt, Cond.methodLink RX7 163 yX7_countMarks]
def wsX7_mark_r6 : List Cond := [Cond.instanceMethod yX7_countMarks, Cond.selects RX7 yX7_countMarks yX7_countMarks, Cond.code yX7_countMarks cX7_countMarks 4 (some .int)]
def wsX7_mark : List Cond := .code yX7_mark cX7_mark 6 (some .int) :: ((wsX7_mark_r1 ++ (wsX7_mark_r2 ++ (wsX7_mark_r3 ++ (wsX7_mark_r4 ++ (wsX7_mark_r5 ++ wsX7_mark_r6))))) ++ wsX70 ++ wsX10 ++ wsX30 ++ wsJx4a65c0 ++ wsX60 ++ wsX20 ++ wsX40 ++ wsX00 ++ (vx_atS RX7 100 "java/lang/IllegalStateException" ["java/lang/RuntimeException", "java/lang/Exception"]).filter goodWord ++ (vx_atS RX7 255 "java/lang/IndexOutOfBoundsException" ["java/lang/RuntimeException", "java/lang/Exception"]).filter goodWord ++ (vx_atS RX7 231 "java/lang/IllegalArgumentException" ["java/lang/RuntimeException", "java/lang/Exception"]).filter goodWord)
def wsX7_spend_r1 : List Cond := [Cond.classLink RX7 96 "java/lang/IllegalStateException", Cond.initialized "java/lang/IllegalStateException", Cond.constant RX7 91 (1000000), Cond.fieldLink RX7 31 "MarkChat" "spends" "Ljava/util/ArrayList;", Cond.fieldLink RX7 139 "MarkChat$Message" "marks" "LMarkChat$Marks;", Cond.fieldLink RX7 111 "MarkChat$Message" "channel" "LMarkChat$Channel;", Cond.fieldLink RX7 92 "MarkChat$Channel" "cents" "I", Cond.classLink RX7 175 RX4, Cond.instantiable RX4 5, Cond.initialized RX4, Cond.fieldLink RX7 180 "MarkChat$Spend" "number" "I", Cond.methodLink RX7 74 yX7_userAt, Cond.instanceMethod yX7_userAt, Cond.selects RX7 yX7_userAt yX7_userAt, Cond.initialized RX7, Cond.code yX7_userAt cX7_userAt 2 (some (.object "MarkChat$User")), Cond.classLink RX7 251 "java/lang/IndexOutOfBoundsException", Cond.initialized "java/lang/IndexOutOfBoundsException", Cond.fieldLink RX7 25 "MarkChat" "users" "Ljava/util/ArrayList;", Cond.classLink RX7 67 "MarkChat$User", Cond.methodLink RX7 59 yJx4a65c_size_8abf5, Cond.instanceMethod yJx4a65c_size_8abf5, Cond.selects RJx4a65c yJx4a65c_size_8abf5 yJx4a65c_size_8abf5, Cond.initialized RJx4a65c]
def wsX7_spend_r2 : List Cond := [Cond.code yJx4a65c_size_8abf5 cJx4a65c_size_8abf5 1 (some .int), Cond.fieldLink RJx4a65c 48 "java/util/ArrayList" "size" "I", Cond.methodLink RX7 210 yJx4a65c_get_915e3, Cond.instanceMethod yJx4a65c_get_915e3, Cond.selects RJx4a65c yJx4a65c_get_915e3 yJx4a65c_get_915e3, Cond.code yJx4a65c_get_915e3 cJx4a65c_get_915e3 2 (some (.object "java/lang/Object")), Cond.methodLink RJx4a65c 118 yJ15_checkIndex_7cf53, Cond.static yJ15_checkIndex_7cf53, Cond.initialized RJ15, Cond.code yJ15_checkIndex_7cf53 cJ15_checkIndex_7cf53 2 (some .int), Cond.methodLink RJ15 105 yJ3_checkIndex_8e157, Cond.static yJ3_checkIndex_8e157, Cond.initialized RJ3, Cond.code yJ3_checkIndex_8e157 cJ3_checkIndex_8e157 3 (some .int), Cond.methodLink RJx4a65c 123 yJx4a65c_elementData_915e3, Cond.instanceMethod yJx4a65c_elementData_915e3, Cond.selects RJx4a65c yJx4a65c_elementData_915e3 yJx4a65c_elementData_915e3, Cond.code yJx4a65c_elementData_915e3 cJx4a65c_elementData_915e3 2 (some (.object "java/lang/Object")), Cond.fieldLink RJx4a65c 9 "java/util/ArrayList" "elementData" "[Ljava/lang/Object;", Cond.methodLink RX7 103 yX7_messageAt, Cond.instanceMethod yX7_messageAt, Cond.selects RX7 yX7_messageAt yX7_messageAt, Cond.code yX7_messageAt cX7_messageAt 2 (some (.object "MarkChat$Message")), Cond.fieldLink RX7 28 "MarkChat" "messages" "Ljava/util/ArrayList;"]
def wsX7_spend_r3 : List Cond := [Cond.classLink RX7 112 "MarkChat$Message", Cond.methodLink RX7 55 yX7_checkRange, Cond.static yX7_checkRange, Cond.code yX7_checkRange cX7_checkRange 3 none, Cond.classLink RX7 227 "java/lang/IllegalArgumentException", Cond.initialized "java/lang/IllegalArgumentException", Cond.methodLink RX7 120 yX7_refuseGone, Cond.instanceMethod yX7_refuseGone, Cond.selects RX7 yX7_refuseGone yX7_refuseGone, Cond.code yX7_refuseGone cX7_refuseGone 2 none, Cond.fieldLink RX7 51 "MarkChat" "hour" "I", Cond.methodLink RX7 293 yX6_isGoneAt, Cond.instanceMethod yX6_isGoneAt, Cond.selects RX6 yX6_isGoneAt yX6_isGoneAt, Cond.initialized RX6, Cond.code yX6_isGoneAt cX6_isGoneAt 2 (some .boolean), Cond.fieldLink RX6 18 "MarkChat$User" "endHour" "I", Cond.methodLink RX7 107 yX7_refuseArchived, Cond.static yX7_refuseArchived, Cond.code yX7_refuseArchived cX7_refuseArchived 1 none, Cond.fieldLink RX7 218 "MarkChat$Message" "isArchived" "Z", Cond.methodLink RX7 63 yX7_refuseFull, Cond.static yX7_refuseFull, Cond.code yX7_refuseFull cX7_refuseFull 2 none]
def wsX7_spend_r4 : List Cond := [Cond.methodLink RX7 167 yX7_approve, Cond.instanceMethod yX7_approve, Cond.selects RX7 yX7_approve yX7_approve, Cond.code yX7_approve cX7_approve 9 (some .boolean), Cond.fieldLink RX7 78 "MarkChat$User" "rank" "I", Cond.fieldLink RX7 130 "MarkChat$Message" "author" "LMarkChat$User;", Cond.fieldLink RX7 71 "MarkChat$User" "number" "I", Cond.methodLink RX7 151 yX2_kindOf, Cond.instanceMethod yX2_kindOf, Cond.selects RX2 yX2_kindOf yX2_kindOf, Cond.initialized RX2, Cond.code yX2_kindOf cX2_kindOf 2 (some .int), Cond.fieldLink RX2 9 "MarkChat$Marks" "kinds" "[I", Cond.methodLink RX7 301 yX6_countsAt, Cond.instanceMethod yX6_countsAt, Cond.selects RX6 yX6_countsAt yX6_countsAt, Cond.code yX6_countsAt cX6_countsAt 2 (some .boolean), Cond.fieldLink RX6 15 "MarkChat$User" "rank" "I", Cond.methodLink RX6 21 yX6_isGoneAt, Cond.methodLink RX7 177 yX4_init, Cond.instanceMethod yX4_init, Cond.code yX4_init cX4_init 4 none, Cond.methodLink RX4 3 objectInit, Cond.instanceMethod objectInit]
def wsX7_spend_r5 : List Cond := [Cond.code objectInit ⟨#[0xb1]⟩ 1 none, Cond.fieldLink RX4 9 "MarkChat$Spend" "number" "I", Cond.fieldLink RX4 15 "MarkChat$Spend" "message" "LMarkChat$Message;", Cond.fieldLink RX4 19 "MarkChat$Message" "version" "I", Cond.fieldLink RX4 24 "MarkChat$Spend" "version" "I", Cond.fieldLink RX4 25 "MarkChat$Spend" "amount" "I", Cond.fieldLink RX4 28 "MarkChat$Spend" "state" "I", Cond.methodLink RX7 21 yJx4a65c_add_9ea2d, Cond.instanceMethod yJx4a65c_add_9ea2d, Cond.selects RJx4a65c yJx4a65c_add_9ea2d yJx4a65c_add_9ea2d, Cond.code yJx4a65c_add_9ea2d cJx4a65c_add_9ea2d 2 (some .boolean), Cond.fieldLink RJx4a65c 63 "java/util/ArrayList" "modCount" "I", Cond.sameField "java/util/ArrayList" "java/util/AbstractList" "modCount" "I", Cond.methodLink RJx4a65c 131 yJx4a65c_add_72be8, Cond.instanceMethod yJx4a65c_add_72be8, Cond.selects RJx4a65c yJx4a65c_add_72be8 yJx4a65c_add_72be8, Cond.code yJx4a65c_add_72be8 cJx4a65c_add_72be8 4 none, Cond.methodLink RJx4a65c 129 yJx4a65c_grow_d5877, Cond.instanceMethod yJx4a65c_grow_d5877, Cond.selects RJx4a65c yJx4a65c_grow_d5877 yJx4a65c_grow_d5877, Cond.code yJx4a65c_grow_d5877 cJx4a65c_grow_d5877 1 (some (.array (.object "java/lang/Object"))), Cond.methodLink RJx4a65c 69 yJx4a65c_grow_92f84, Cond.instanceMethod yJx4a65c_grow_92f84, Cond.selects RJx4a65c yJx4a65c_grow_92f84 yJx4a65c_grow_92f84]
def wsX7_spend_r6 : List Cond := [Cond.code yJx4a65c_grow_92f84 cJx4a65c_grow_92f84 4 (some (.array (.object "java/lang/Object"))), Cond.fieldLink RJx4a65c 39 "java/util/ArrayList" "DEFAULTCAPACITY_EMPTY_ELEMENTDATA" "[Ljava/lang/Object;", Cond.methodLink RJx4a65c 79 Lib.Math.max.name, Cond.static Lib.Math.max.name, Cond.initialized "java/lang/Math", Cond.code Lib.Math.max.name Lib.Math.max.code 2 (some .int), Cond.classLink RJx4a65c 7 "java/lang/Object", Cond.methodLink RJx4a65c 73 yJ8_newLength_cabcc, Cond.static yJ8_newLength_cabcc, Cond.initialized RJ8, Cond.code yJ8_newLength_cabcc cJ8_newLength_cabcc 4 (some .int), Cond.methodLink RJ8 194 Lib.Math.max.name, Cond.constant RJ8 200 (2147483639), Cond.methodLink RJ8 201 yJ8_hugeLength_7cf53, Cond.static yJ8_hugeLength_7cf53, Cond.code yJ8_hugeLength_7cf53 cJ8_hugeLength_7cf53 3 (some .int), Cond.methodLink RJx4a65c 66 yJ7_copyOf_1904c, Cond.static yJ7_copyOf_1904c, Cond.initialized RJ7, Cond.code yJ7_copyOf_1904c cJ7_copyOf_1904c 2 (some (.array (.object "java/lang/Object"))), Cond.methodLink RJ7 86 ⟨"java/lang/Object", "getClass", "()Ljava/lang/Class;"⟩, Cond.selects "[Ljava/lang/Object;" ⟨"java/lang/Object", "getClass", "()Ljava/lang/Class;"⟩ ⟨"java/lang/Object", "getClass", "()Ljava/lang/Class;"⟩, Cond.instanceMethod ⟨"java/lang/Object", "getClass", "()Ljava/lang/Class;"⟩, Cond.native ⟨"java/lang/Object", "getClass", "()Ljava/lang/Class;"⟩]
def wsX7_spend_r7 : List Cond := [Cond.methodLink RJ7 300 yJ7_copyOf_6403c, Cond.static yJ7_copyOf_6403c, Cond.code yJ7_copyOf_6403c cJ7_copyOf_6403c 4 (some (.array (.object "java/lang/Object"))), Cond.classLink RJ7 110 "[Ljava/lang/Object;", Cond.classLink RJ7 2 "java/lang/Object", Cond.methodLink RJ7 304 Lib.Math.min.name, Cond.static Lib.Math.min.name, Cond.code Lib.Math.min.name Lib.Math.min.code 2 (some .int), Cond.methodLink RJ7 150 arraycopyName, Cond.native arraycopyName, Cond.static arraycopyName, Cond.initialized "java/lang/System"]
def wsX7_spend : List Cond := .code yX7_spend cX7_spend 7 (some .int) :: ((wsX7_spend_r1 ++ (wsX7_spend_r2 ++ (wsX7_spend_r3 ++ (wsX7_spend_r4 ++ (wsX7_spend_r5 ++ (wsX7_spend_r6 ++ wsX7_spend_r7)))))) ++ wsX70 ++ wsX30 ++ wsX00 ++ wsX40 ++ wsJx4a65c0 ++ wsX60 ++ wsX20 ++ (vx_atS RX7 100 "java/lang/IllegalStateException" ["java/lang/RuntimeException", "java/lang/Exception"]).filter goodWord ++ (vx_atS RX7 255 "java/lang/IndexOutOfBoundsException" ["java/lang/RuntimeException", "java/lang/Exception"]).filter goodWord ++ (vx_atS RX7 231 "java/lang/IllegalArgumentException" ["java/lang/RuntimeException", "java/lang/Exception"]).filter goodWord)
def wsX7_task_r1 : List Cond := [Cond.fieldLink RX7 34 "MarkChat" "tasks" "Ljava/util/ArrayList;", Cond.classLink RX7 181 RX5, Cond.instantiable RX5 6, Cond.initialized RX5, Cond.fieldLink RX7 51 "MarkChat" "hour" "I", Cond.fieldLink RX7 186 "MarkChat$Task" "number" "I", Cond.methodLink RX7 74 yX7_userAt, Cond.instanceMethod yX7_userAt, Cond.selects RX7 yX7_userAt yX7_userAt, Cond.initialized RX7, Cond.code yX7_userAt cX7_userAt 2 (some (.object "MarkChat$User")), Cond.classLink RX7 251 "java/lang/IndexOutOfBoundsException", Cond.initialized "java/lang/IndexOutOfBoundsException", Cond.fieldLink RX7 25 "MarkChat" "users" "Ljava/util/ArrayList;", Cond.classLink RX7 67 "MarkChat$User", Cond.methodLink RX7 59 yJx4a65c_size_8abf5, Cond.instanceMethod yJx4a65c_size_8abf5, Cond.selects RJx4a65c yJx4a65c_size_8abf5 yJx4a65c_size_8abf5, Cond.initialized RJx4a65c, Cond.code yJx4a65c_size_8abf5 cJx4a65c_size_8abf5 1 (some .int), Cond.fieldLink RJx4a65c 48 "java/util/ArrayList" "size" "I", Cond.methodLink RX7 210 yJx4a65c_get_915e3, Cond.instanceMethod yJx4a65c_get_915e3, Cond.selects RJx4a65c yJx4a65c_get_915e3 yJx4a65c_get_915e3]
def wsX7_task_r2 : List Cond := [Cond.code yJx4a65c_get_915e3 cJx4a65c_get_915e3 2 (some (.object "java/lang/Object")), Cond.methodLink RJx4a65c 118 yJ15_checkIndex_7cf53, Cond.static yJ15_checkIndex_7cf53, Cond.initialized RJ15, Cond.code yJ15_checkIndex_7cf53 cJ15_checkIndex_7cf53 2 (some .int), Cond.methodLink RJ15 105 yJ3_checkIndex_8e157, Cond.static yJ3_checkIndex_8e157, Cond.initialized RJ3, Cond.code yJ3_checkIndex_8e157 cJ3_checkIndex_8e157 3 (some .int), Cond.methodLink RJx4a65c 123 yJx4a65c_elementData_915e3, Cond.instanceMethod yJx4a65c_elementData_915e3, Cond.selects RJx4a65c yJx4a65c_elementData_915e3 yJx4a65c_elementData_915e3, Cond.code yJx4a65c_elementData_915e3 cJx4a65c_elementData_915e3 2 (some (.object "java/lang/Object")), Cond.fieldLink RJx4a65c 9 "java/util/ArrayList" "elementData" "[Ljava/lang/Object;", Cond.methodLink RX7 103 yX7_messageAt, Cond.instanceMethod yX7_messageAt, Cond.selects RX7 yX7_messageAt yX7_messageAt, Cond.code yX7_messageAt cX7_messageAt 2 (some (.object "MarkChat$Message")), Cond.fieldLink RX7 28 "MarkChat" "messages" "Ljava/util/ArrayList;", Cond.classLink RX7 112 "MarkChat$Message", Cond.methodLink RX7 55 yX7_checkRange, Cond.static yX7_checkRange, Cond.code yX7_checkRange cX7_checkRange 3 none, Cond.classLink RX7 227 "java/lang/IllegalArgumentException"]
def wsX7_task_r3 : List Cond := [Cond.initialized "java/lang/IllegalArgumentException", Cond.methodLink RX7 120 yX7_refuseGone, Cond.instanceMethod yX7_refuseGone, Cond.selects RX7 yX7_refuseGone yX7_refuseGone, Cond.code yX7_refuseGone cX7_refuseGone 2 none, Cond.classLink RX7 96 "java/lang/IllegalStateException", Cond.initialized "java/lang/IllegalStateException", Cond.methodLink RX7 293 yX6_isGoneAt, Cond.instanceMethod yX6_isGoneAt, Cond.selects RX6 yX6_isGoneAt yX6_isGoneAt, Cond.initialized RX6, Cond.code yX6_isGoneAt cX6_isGoneAt 2 (some .boolean), Cond.fieldLink RX6 18 "MarkChat$User" "endHour" "I", Cond.methodLink RX7 107 yX7_refuseArchived, Cond.static yX7_refuseArchived, Cond.code yX7_refuseArchived cX7_refuseArchived 1 none, Cond.fieldLink RX7 218 "MarkChat$Message" "isArchived" "Z", Cond.methodLink RX7 63 yX7_refuseFull, Cond.static yX7_refuseFull, Cond.code yX7_refuseFull cX7_refuseFull 2 none, Cond.methodLink RX7 183 yX5_init, Cond.instanceMethod yX5_init, Cond.code yX5_init cX5_init 5 none, Cond.methodLink RX5 3 objectInit]
def wsX7_task_r4 : List Cond := [Cond.instanceMethod objectInit, Cond.code objectInit ⟨#[0xb1]⟩ 1 none, Cond.fieldLink RX5 9 "MarkChat$Task" "number" "I", Cond.fieldLink RX5 15 "MarkChat$Message" "number" "I", Cond.fieldLink RX5 18 "MarkChat$Task" "message" "I", Cond.fieldLink RX5 21 "MarkChat$Task" "doer" "LMarkChat$User;", Cond.fieldLink RX5 25 "MarkChat$Task" "untilHour" "I", Cond.classLink RX5 28 RJ4, Cond.instantiable RJ4 4, Cond.initialized RJ4, Cond.fieldLink RX5 38 "MarkChat$Message" "version" "I", Cond.fieldLink RX5 41 "MarkChat$User" "number" "I", Cond.fieldLink RX5 48 "MarkChat$Task" "text" "Ljava/lang/String;", Cond.fieldLink RX5 52 "MarkChat$Task" "state" "I", Cond.methodLink RX5 30 yJ4_init_da8c8, Cond.instanceMethod yJ4_init_da8c8, Cond.code yJ4_init_da8c8 cJ4_init_da8c8 1 none, Cond.methodLink RJ4 1 yJ5_init_d00df, Cond.instanceMethod yJ5_init_d00df, Cond.initialized RJ5, Cond.code yJ5_init_d00df cJ5_init_d00df 2 none, Cond.methodLink RJ5 3 objectInit, Cond.fieldLink RJ5 18 "java/lang/String" "COMPACT_STRINGS" "Z", Cond.arrayClass .byte]
def wsX7_task_r5 : List Cond := [Cond.fieldLink RJ5 15 "java/lang/AbstractStringBuilder" "value" "[B", Cond.fieldLink RJ5 22 "java/lang/AbstractStringBuilder" "coder" "B", Cond.methodLink RJ5 26 yJ2_newBytesFor_77867, Cond.static yJ2_newBytesFor_77867, Cond.initialized RJ2, Cond.code yJ2_newBytesFor_77867 cJ2_newBytesFor_77867 1 (some (.array .byte)), Cond.methodLink RJ2 11 yJ2_newBytesLength_0f7a4, Cond.static yJ2_newBytesLength_0f7a4, Cond.code yJ2_newBytesLength_0f7a4 cJ2_newBytesLength_0f7a4 1 (some .int), Cond.constant RJ2 20 (1073741823), Cond.methodLink RX5 31 yJ4_append_bf812, Cond.instanceMethod yJ4_append_bf812, Cond.selects RJ4 yJ4_append_bf812 yJ4_append_bf812, Cond.code yJ4_append_bf812 cJ4_append_bf812 2 (some (.object "java/lang/StringBuilder")), Cond.methodLink RJ4 53 yJ5_append_c97b9, Cond.sameMethod "java/lang/AbstractStringBuilder" "java/lang/AbstractStringBuilder" "append" "(I)Ljava/lang/AbstractStringBuilder;", Cond.superclass RJ4 RJ5, Cond.instanceMethod yJ5_append_c97b9, Cond.code yJ5_append_c97b9 cJ5_append_c97b9 4 (some (.object "java/lang/AbstractStringBuilder")), Cond.fieldLink RJ5 79 "java/lang/AbstractStringBuilder" "count" "I", Cond.methodLink RJ5 245 yJ6_stringSize_0f7a4, Cond.static yJ6_stringSize_0f7a4, Cond.initialized RJ6, Cond.code yJ6_stringSize_0f7a4 cJ6_stringSize_0f7a4 4 (some .int)]
def wsX7_task_r6 : List Cond := [Cond.methodLink RJ5 100 ⟨"java/lang/AbstractStringBuilder", "ensureCapacityInternal", "(I)V"⟩, Cond.sameMethod "java/lang/AbstractStringBuilder" "java/lang/AbstractStringBuilder" "ensureCapacityInternal" "(I)V", Cond.selects RJ4 ⟨"java/lang/AbstractStringBuilder", "ensureCapacityInternal", "(I)V"⟩ yJ5_ensureCapacityInternal_d00df, Cond.instanceMethod yJ5_ensureCapacityInternal_d00df, Cond.code yJ5_ensureCapacityInternal_d00df cJ5_ensureCapacityInternal_d00df 3 none, Cond.methodLink RJ5 104 ⟨"java/lang/AbstractStringBuilder", "newCapacity", "(I)I"⟩, Cond.sameMethod "java/lang/AbstractStringBuilder" "java/lang/AbstractStringBuilder" "newCapacity" "(I)I", Cond.selects RJ4 ⟨"java/lang/AbstractStringBuilder", "newCapacity", "(I)I"⟩ yJ5_newCapacity_0f7a4, Cond.instanceMethod yJ5_newCapacity_0f7a4, Cond.code yJ5_newCapacity_0f7a4 cJ5_newCapacity_0f7a4 6 (some .int), Cond.constant RJ5 39 (2147483647), Cond.methodLink RJ5 114 yJ8_newLength_cabcc, Cond.static yJ8_newLength_cabcc, Cond.initialized RJ8, Cond.code yJ8_newLength_cabcc cJ8_newLength_cabcc 4 (some .int), Cond.methodLink RJ8 194 Lib.Math.max.name, Cond.static Lib.Math.max.name, Cond.initialized "java/lang/Math", Cond.code Lib.Math.max.name Lib.Math.max.code 2 (some .int), Cond.constant RJ8 200 (2147483639), Cond.methodLink RJ8 201 yJ8_hugeLength_7cf53, Cond.static yJ8_hugeLength_7cf53, Cond.code yJ8_hugeLength_7cf53 cJ8_hugeLength_7cf53 3 (some .int), Cond.methodLink RJ5 108 yJ7_copyOf_9075b]
def wsX7_task_r7 : List Cond := [Cond.static yJ7_copyOf_9075b, Cond.initialized RJ7, Cond.code yJ7_copyOf_9075b cJ7_copyOf_9075b 3 (some (.array .byte)), Cond.methodLink RJ7 310 ⟨"[B", "clone", "()Ljava/lang/Object;"⟩, Cond.sameMethod "[B" "java/lang/Object" "clone" "()Ljava/lang/Object;", Cond.native ⟨"java/lang/Object", "clone", "()Ljava/lang/Object;"⟩, Cond.instanceMethod ⟨"java/lang/Object", "clone", "()Ljava/lang/Object;"⟩, Cond.selects "[B" ⟨"[B", "clone", "()Ljava/lang/Object;"⟩ ⟨"java/lang/Object", "clone", "()Ljava/lang/Object;"⟩, Cond.classLink RJ7 311 "[B", Cond.methodLink RJ7 304 Lib.Math.min.name, Cond.static Lib.Math.min.name, Cond.code Lib.Math.min.name Lib.Math.min.code 2 (some .int), Cond.methodLink RJ7 150 arraycopyName, Cond.native arraycopyName, Cond.static arraycopyName, Cond.initialized "java/lang/System", Cond.methodLink RJ5 83 ⟨"java/lang/AbstractStringBuilder", "isLatin1", "()Z"⟩, Cond.sameMethod "java/lang/AbstractStringBuilder" "java/lang/AbstractStringBuilder" "isLatin1" "()Z", Cond.selects RJ4 ⟨"java/lang/AbstractStringBuilder", "isLatin1", "()Z"⟩ yJ5_isLatin1_aae02, Cond.instanceMethod yJ5_isLatin1_aae02, Cond.code yJ5_isLatin1_aae02 cJ5_isLatin1_aae02 1 (some .boolean), Cond.methodLink RJ5 248 yJ6_getChars_ba4f3, Cond.static yJ6_getChars_ba4f3, Cond.code yJ6_getChars_ba4f3 cJ6_getChars_ba4f3 7 (some .int)]
def wsX7_task_r8 : List Cond := [Cond.fieldLink RJ6 83 "java/lang/Integer" "DigitOnes" "[B", Cond.fieldLink RJ6 87 "java/lang/Integer" "DigitTens" "[B", Cond.methodLink RJ5 251 yJ2_getChars_46870, Cond.static yJ2_getChars_46870, Cond.code yJ2_getChars_46870 cJ2_getChars_46870 5 (some .int), Cond.fieldLink RJ2 44 "java/lang/StringUTF16" "$assertionsDisabled" "Z", Cond.methodLink RJ2 96 yJ2_checkBoundsBeginEnd_d044e, Cond.static yJ2_checkBoundsBeginEnd_d044e, Cond.code yJ2_checkBoundsBeginEnd_d044e cJ2_checkBoundsBeginEnd_d044e 3 none, Cond.methodLink RJ2 48 yJ2_length_9d52b, Cond.static yJ2_length_9d52b, Cond.code yJ2_length_9d52b cJ2_length_9d52b 1 (some .int), Cond.methodLink RJ2 241 yJ0_checkBoundsBeginEnd_23922, Cond.static yJ0_checkBoundsBeginEnd_23922, Cond.initialized RJ0, Cond.code yJ0_checkBoundsBeginEnd_23922 cJ0_checkBoundsBeginEnd_23922 3 none, Cond.fieldLink RJ0 1053 "jdk/internal/util/Preconditions" "SIOOBE_FORMATTER" "Ljava/util/function/BiFunction;", Cond.methodLink RJ0 1062 yJ3_checkFromToIndex_8c36e, Cond.static yJ3_checkFromToIndex_8c36e, Cond.code yJ3_checkFromToIndex_8c36e cJ3_checkFromToIndex_8c36e 4 (some .int), Cond.methodLink RJ2 393 yJ2_getChars_ba4f3, Cond.static yJ2_getChars_ba4f3, Cond.code yJ2_getChars_ba4f3 cJ2_getChars_ba4f3 7 (some .int), Cond.fieldLink RJ2 403 "java/lang/Integer" "DigitOnes" "[B"]
def wsX7_task_r9 : List Cond := [Cond.fieldLink RJ2 407 "java/lang/Integer" "DigitTens" "[B", Cond.methodLink RJ2 111 yJ2_putChar_b72d1, Cond.static yJ2_putChar_b72d1, Cond.code yJ2_putChar_b72d1 cJ2_putChar_b72d1 3 none, Cond.fieldLink RJ2 59 "java/lang/StringUTF16" "HI_BYTE_SHIFT" "I", Cond.fieldLink RJ2 63 "java/lang/StringUTF16" "LO_BYTE_SHIFT" "I", Cond.methodLink RX5 35 yJ4_append_cf468, Cond.instanceMethod yJ4_append_cf468, Cond.selects RJ4 yJ4_append_cf468 yJ4_append_cf468, Cond.code yJ4_append_cf468 cJ4_append_cf468 2 (some (.object "java/lang/StringBuilder")), Cond.methodLink RJ4 50 yJ5_append_3fe6f, Cond.sameMethod "java/lang/AbstractStringBuilder" "java/lang/AbstractStringBuilder" "append" "(C)Ljava/lang/AbstractStringBuilder;", Cond.instanceMethod yJ5_append_3fe6f, Cond.code yJ5_append_3fe6f cJ5_append_3fe6f 2 (some (.object "java/lang/AbstractStringBuilder")), Cond.methodLink RJ5 191 yJ1_canEncode_fc78d, Cond.static yJ1_canEncode_fc78d, Cond.initialized RJ1, Cond.code yJ1_canEncode_fc78d cJ1_canEncode_fc78d 1 (some .boolean), Cond.methodLink RJ5 195 ⟨"java/lang/AbstractStringBuilder", "inflate", "()V"⟩, Cond.sameMethod "java/lang/AbstractStringBuilder" "java/lang/AbstractStringBuilder" "inflate" "()V", Cond.selects RJ4 ⟨"java/lang/AbstractStringBuilder", "inflate", "()V"⟩ yJ5_inflate_da8c8, Cond.instanceMethod yJ5_inflate_da8c8, Cond.code yJ5_inflate_da8c8 cJ5_inflate_da8c8 2 none, Cond.methodLink RJ5 125 yJ1_inflate_0e8fd]
def wsX7_task_r10 : List Cond := [Cond.static yJ1_inflate_0e8fd, Cond.code yJ1_inflate_0e8fd cJ1_inflate_0e8fd 5 none, Cond.methodLink RJ1 240 yJ2_inflate_0e8fd, Cond.static yJ2_inflate_0e8fd, Cond.code yJ2_inflate_0e8fd cJ2_inflate_0e8fd 6 none, Cond.methodLink RJ2 173 yJ2_checkBoundsOffCount_d044e, Cond.static yJ2_checkBoundsOffCount_d044e, Cond.code yJ2_checkBoundsOffCount_d044e cJ2_checkBoundsOffCount_d044e 3 none, Cond.methodLink RJ2 419 yJ0_checkBoundsOffCount_cabcc, Cond.static yJ0_checkBoundsOffCount_cabcc, Cond.code yJ0_checkBoundsOffCount_cabcc cJ0_checkBoundsOffCount_cabcc 3 (some .int), Cond.methodLink RJ0 1065 yJ3_checkFromIndexSize_8c36e, Cond.static yJ3_checkFromIndexSize_8c36e, Cond.code yJ3_checkFromIndexSize_8c36e cJ3_checkFromIndexSize_8c36e 4 (some .int), Cond.methodLink RJ5 197 yJ2_putCharSB_b72d1, Cond.static yJ2_putCharSB_b72d1, Cond.code yJ2_putCharSB_b72d1 cJ2_putCharSB_b72d1 3 none, Cond.methodLink RJ2 67 yJ2_checkIndex_2214a, Cond.static yJ2_checkIndex_2214a, Cond.code yJ2_checkIndex_2214a cJ2_checkIndex_2214a 2 none, Cond.methodLink RJ2 414 yJ0_checkIndex_df160, Cond.static yJ0_checkIndex_df160, Cond.code yJ0_checkIndex_df160 cJ0_checkIndex_df160 2 none, Cond.methodLink RJ0 1059 yJ3_checkIndex_8e157]
def wsX7_task_r11 : List Cond := [Cond.methodLink RX5 44 yJ4_toString_0e30d, Cond.instanceMethod yJ4_toString_0e30d, Cond.selects RJ4 yJ4_toString_0e30d yJ4_toString_0e30d, Cond.code yJ4_toString_0e30d cJ4_toString_0e30d 1 (some (.object "java/lang/String")), Cond.classLink RJ4 18 RJ0, Cond.instantiable RJ0 4, Cond.methodLink RJ4 137 yJ0_init_81219, Cond.instanceMethod yJ0_init_81219, Cond.code yJ0_init_81219 cJ0_init_81219 2 none, Cond.methodLink RJ0 489 yJ0_init_db425, Cond.instanceMethod yJ0_init_db425, Cond.code yJ0_init_db425 cJ0_init_db425 5 none, Cond.methodLink RJ0 1 objectInit, Cond.fieldLink RJ0 15 "java/lang/String" "coder" "B", Cond.fieldLink RJ0 9 "java/lang/String" "value" "[B", Cond.fieldLink RJ0 38 "java/lang/String" "COMPACT_STRINGS" "Z", Cond.fieldLink RJ0 1048 "java/lang/AbstractStringBuilder" "maybeLatin1" "Z", Cond.methodLink RJ0 552 ⟨"java/lang/AbstractStringBuilder", "getValue", "()[B"⟩, Cond.sameMethod "java/lang/AbstractStringBuilder" "java/lang/AbstractStringBuilder" "getValue" "()[B", Cond.selects RJ4 ⟨"java/lang/AbstractStringBuilder", "getValue", "()[B"⟩ yJ5_getValue_6d5f1, Cond.instanceMethod yJ5_getValue_6d5f1, Cond.code yJ5_getValue_6d5f1 cJ5_getValue_6d5f1 1 (some (.array .byte)), Cond.methodLink RJ0 549 ⟨"java/lang/AbstractStringBuilder", "length", "()I"⟩, Cond.sameMethod "java/lang/AbstractStringBuilder" "java/lang/AbstractStringBuilder" "length" "()I"]
def wsX7_task_r12 : List Cond := [Cond.instanceMethod ⟨"java/lang/AbstractStringBuilder", "length", "()I"⟩, Cond.selects RJ4 ⟨"java/lang/AbstractStringBuilder", "length", "()I"⟩ yJ4_length_8abf5, Cond.instanceMethod yJ4_length_8abf5, Cond.code yJ4_length_8abf5 cJ4_length_8abf5 1 (some .int), Cond.methodLink RJ4 343 yJ5_length_8abf5, Cond.instanceMethod yJ5_length_8abf5, Cond.code yJ5_length_8abf5 cJ5_length_8abf5 1 (some .int), Cond.methodLink RJ0 1047 ⟨"java/lang/AbstractStringBuilder", "isLatin1", "()Z"⟩, Cond.methodLink RJ0 54 yJ7_copyOfRange_39247, Cond.static yJ7_copyOfRange_39247, Cond.code yJ7_copyOfRange_39247 cJ7_copyOfRange_39247 3 (some (.array .byte)), Cond.methodLink RJ7 339 yJ7_copyOfRangeByte_39247, Cond.static yJ7_copyOfRangeByte_39247, Cond.code yJ7_copyOfRangeByte_39247 cJ7_copyOfRangeByte_39247 5 (some (.array .byte)), Cond.methodLink RJ7 343 yJ7_checkLength_df160, Cond.static yJ7_checkLength_df160, Cond.code yJ7_checkLength_df160 cJ7_checkLength_df160 2 none, Cond.classLink RJ7 45 RJ4, Cond.methodLink RJ0 1051 yJ2_compress_39247, Cond.static yJ2_compress_39247, Cond.code yJ2_compress_39247 cJ2_compress_39247 6 (some (.array .byte)), Cond.methodLink RJ2 123 yJ2_compress_5af95, Cond.static yJ2_compress_5af95, Cond.code yJ2_compress_5af95 cJ2_compress_5af95 7 (some .int)]
def wsX7_task_r13 : List Cond := [Cond.methodLink RJ2 71 yJ2_getChar_3b067, Cond.static yJ2_getChar_3b067, Cond.code yJ2_getChar_3b067 cJ2_getChar_3b067 2 (some .char), Cond.methodLink RJ2 126 yJ7_copyOfRange_39247, Cond.methodLink RJ0 47 yJ2_coderFromArrayLen_85cad, Cond.static yJ2_coderFromArrayLen_85cad, Cond.code yJ2_coderFromArrayLen_85cad cJ2_coderFromArrayLen_85cad 2 (some .byte), Cond.methodLink RX7 21 yJx4a65c_add_9ea2d, Cond.instanceMethod yJx4a65c_add_9ea2d, Cond.selects RJx4a65c yJx4a65c_add_9ea2d yJx4a65c_add_9ea2d, Cond.code yJx4a65c_add_9ea2d cJx4a65c_add_9ea2d 2 (some .boolean), Cond.fieldLink RJx4a65c 63 "java/util/ArrayList" "modCount" "I", Cond.sameField "java/util/ArrayList" "java/util/AbstractList" "modCount" "I", Cond.methodLink RJx4a65c 131 yJx4a65c_add_72be8, Cond.instanceMethod yJx4a65c_add_72be8, Cond.selects RJx4a65c yJx4a65c_add_72be8 yJx4a65c_add_72be8, Cond.code yJx4a65c_add_72be8 cJx4a65c_add_72be8 4 none, Cond.methodLink RJx4a65c 129 yJx4a65c_grow_d5877, Cond.instanceMethod yJx4a65c_grow_d5877, Cond.selects RJx4a65c yJx4a65c_grow_d5877 yJx4a65c_grow_d5877, Cond.code yJx4a65c_grow_d5877 cJx4a65c_grow_d5877 1 (some (.array (.object "java/lang/Object"))), Cond.methodLink RJx4a65c 69 yJx4a65c_grow_92f84, Cond.instanceMethod yJx4a65c_grow_92f84, Cond.selects RJx4a65c yJx4a65c_grow_92f84 yJx4a65c_grow_92f84]
def wsX7_task_r14 : List Cond := [Cond.code yJx4a65c_grow_92f84 cJx4a65c_grow_92f84 4 (some (.array (.object "java/lang/Object"))), Cond.fieldLink RJx4a65c 39 "java/util/ArrayList" "DEFAULTCAPACITY_EMPTY_ELEMENTDATA" "[Ljava/lang/Object;", Cond.methodLink RJx4a65c 79 Lib.Math.max.name, Cond.classLink RJx4a65c 7 "java/lang/Object", Cond.methodLink RJx4a65c 73 yJ8_newLength_cabcc, Cond.methodLink RJx4a65c 66 yJ7_copyOf_1904c, Cond.static yJ7_copyOf_1904c, Cond.code yJ7_copyOf_1904c cJ7_copyOf_1904c 2 (some (.array (.object "java/lang/Object"))), Cond.methodLink RJ7 86 ⟨"java/lang/Object", "getClass", "()Ljava/lang/Class;"⟩, Cond.selects "[Ljava/lang/Object;" ⟨"java/lang/Object", "getClass", "()Ljava/lang/Class;"⟩ ⟨"java/lang/Object", "getClass", "()Ljava/lang/Class;"⟩, Cond.instanceMethod ⟨"java/lang/Object", "getClass", "()Ljava/lang/Class;"⟩, Cond.native ⟨"java/lang/Object", "getClass", "()Ljava/lang/Class;"⟩, Cond.methodLink RJ7 300 yJ7_copyOf_6403c, Cond.static yJ7_copyOf_6403c, Cond.code yJ7_copyOf_6403c cJ7_copyOf_6403c 4 (some (.array (.object "java/lang/Object"))), Cond.classLink RJ7 110 "[Ljava/lang/Object;", Cond.classLink RJ7 2 "java/lang/Object"]
def wsX7_task : List Cond := .code yX7_task cX7_task 9 (some .int) :: ((wsX7_task_r1 ++ (wsX7_task_r2 ++ (wsX7_task_r3 ++ (wsX7_task_r4 ++ (wsX7_task_r5 ++ (wsX7_task_r6 ++ (wsX7_task_r7 ++ (wsX7_task_r8 ++ (wsX7_task_r9 ++ (wsX7_task_r10 ++ (wsX7_task_r11 ++ (wsX7_task_r12 ++ (wsX7_task_r13 ++ wsX7_task_r14))))))))))))) ++ wsX70 ++ wsX50 ++ wsJx4a65c0 ++ wsX60 ++ wsX30 ++ wsJ40 ++ wsJ00 ++ (vx_atS RX7 255 "java/lang/IndexOutOfBoundsException" ["java/lang/RuntimeException", "java/lang/Exception"]).filter goodWord ++ (vx_atS RX7 231 "java/lang/IllegalArgumentException" ["java/lang/RuntimeException", "java/lang/Exception"]).filter goodWord ++ (vx_atS RX7 100 "java/lang/IllegalStateException" ["java/lang/RuntimeException", "java/lang/Exception"]).filter goodWord)
def wsX7_taskAt_r1 : List Cond := [Cond.classLink RX7 251 "java/lang/IndexOutOfBoundsException", Cond.initialized "java/lang/IndexOutOfBoundsException", Cond.fieldLink RX7 34 "MarkChat" "tasks" "Ljava/util/ArrayList;", Cond.classLink RX7 181 "MarkChat$Task", Cond.methodLink RX7 59 yJx4a65c_size_8abf5, Cond.instanceMethod yJx4a65c_size_8abf5, Cond.selects RJx4a65c yJx4a65c_size_8abf5 yJx4a65c_size_8abf5, Cond.initialized RJx4a65c, Cond.code yJx4a65c_size_8abf5 cJx4a65c_size_8abf5 1 (some .int), Cond.fieldLink RJx4a65c 48 "java/util/ArrayList" "size" "I", Cond.methodLink RX7 210 yJx4a65c_get_915e3, Cond.instanceMethod yJx4a65c_get_915e3, Cond.selects RJx4a65c yJx4a65c_get_915e3 yJx4a65c_get_915e3, Cond.code yJx4a65c_get_915e3 cJx4a65c_get_915e3 2 (some (.object "java/lang/Object")), Cond.methodLink RJx4a65c 118 yJ15_checkIndex_7cf53, Cond.static yJ15_checkIndex_7cf53, Cond.initialized RJ15, Cond.code yJ15_checkIndex_7cf53 cJ15_checkIndex_7cf53 2 (some .int), Cond.methodLink RJ15 105 yJ3_checkIndex_8e157, Cond.static yJ3_checkIndex_8e157, Cond.initialized RJ3, Cond.code yJ3_checkIndex_8e157 cJ3_checkIndex_8e157 3 (some .int), Cond.methodLink RJx4a65c 123 yJx4a65c_elementData_915e3, Cond.instanceMethod yJx4a65c_elementData_915e3]
def wsX7_taskAt_r2 : List Cond := [Cond.selects RJx4a65c yJx4a65c_elementData_915e3 yJx4a65c_elementData_915e3, Cond.code yJx4a65c_elementData_915e3 cJx4a65c_elementData_915e3 2 (some (.object "java/lang/Object")), Cond.fieldLink RJx4a65c 9 "java/util/ArrayList" "elementData" "[Ljava/lang/Object;"]
def wsX7_taskAt : List Cond := .code yX7_taskAt cX7_taskAt 2 (some (.object "MarkChat$Task")) :: ((wsX7_taskAt_r1 ++ wsX7_taskAt_r2) ++ wsX70 ++ wsJx4a65c0 ++ (vx_atS RX7 255 "java/lang/IndexOutOfBoundsException" ["java/lang/RuntimeException", "java/lang/Exception"]).filter goodWord)
def wsX7_done_r1 : List Cond := [Cond.classLink RX7 96 "java/lang/IllegalStateException", Cond.initialized "java/lang/IllegalStateException", Cond.fieldLink RX7 191 "MarkChat$Task" "doer" "LMarkChat$User;", Cond.fieldLink RX7 71 "MarkChat$User" "number" "I", Cond.fieldLink RX7 196 "MarkChat$Task" "state" "I", Cond.fieldLink RX7 201 "MarkChat$Task" "untilHour" "I", Cond.fieldLink RX7 51 "MarkChat" "hour" "I", Cond.methodLink RX7 74 yX7_userAt, Cond.instanceMethod yX7_userAt, Cond.selects RX7 yX7_userAt yX7_userAt, Cond.initialized RX7, Cond.code yX7_userAt cX7_userAt 2 (some (.object "MarkChat$User")), Cond.classLink RX7 251 "java/lang/IndexOutOfBoundsException", Cond.initialized "java/lang/IndexOutOfBoundsException", Cond.fieldLink RX7 25 "MarkChat" "users" "Ljava/util/ArrayList;", Cond.classLink RX7 67 "MarkChat$User", Cond.methodLink RX7 59 yJx4a65c_size_8abf5, Cond.instanceMethod yJx4a65c_size_8abf5, Cond.selects RJx4a65c yJx4a65c_size_8abf5 yJx4a65c_size_8abf5, Cond.initialized RJx4a65c, Cond.code yJx4a65c_size_8abf5 cJx4a65c_size_8abf5 1 (some .int), Cond.fieldLink RJx4a65c 48 "java/util/ArrayList" "size" "I", Cond.methodLink RX7 210 yJx4a65c_get_915e3, Cond.instanceMethod yJx4a65c_get_915e3]
def wsX7_done_r2 : List Cond := [Cond.selects RJx4a65c yJx4a65c_get_915e3 yJx4a65c_get_915e3, Cond.code yJx4a65c_get_915e3 cJx4a65c_get_915e3 2 (some (.object "java/lang/Object")), Cond.methodLink RJx4a65c 118 yJ15_checkIndex_7cf53, Cond.static yJ15_checkIndex_7cf53, Cond.initialized RJ15, Cond.code yJ15_checkIndex_7cf53 cJ15_checkIndex_7cf53 2 (some .int), Cond.methodLink RJ15 105 yJ3_checkIndex_8e157, Cond.static yJ3_checkIndex_8e157, Cond.initialized RJ3, Cond.code yJ3_checkIndex_8e157 cJ3_checkIndex_8e157 3 (some .int), Cond.methodLink RJx4a65c 123 yJx4a65c_elementData_915e3, Cond.instanceMethod yJx4a65c_elementData_915e3, Cond.selects RJx4a65c yJx4a65c_elementData_915e3 yJx4a65c_elementData_915e3, Cond.code yJx4a65c_elementData_915e3 cJx4a65c_elementData_915e3 2 (some (.object "java/lang/Object")), Cond.fieldLink RJx4a65c 9 "java/util/ArrayList" "elementData" "[Ljava/lang/Object;", Cond.methodLink RX7 187 yX7_taskAt, Cond.instanceMethod yX7_taskAt, Cond.selects RX7 yX7_taskAt yX7_taskAt, Cond.code yX7_taskAt cX7_taskAt 2 (some (.object "MarkChat$Task")), Cond.fieldLink RX7 34 "MarkChat" "tasks" "Ljava/util/ArrayList;", Cond.classLink RX7 181 "MarkChat$Task", Cond.methodLink RX7 120 yX7_refuseGone, Cond.instanceMethod yX7_refuseGone, Cond.selects RX7 yX7_refuseGone yX7_refuseGone]
def wsX7_done_r3 : List Cond := [Cond.code yX7_refuseGone cX7_refuseGone 2 none, Cond.methodLink RX7 293 yX6_isGoneAt, Cond.instanceMethod yX6_isGoneAt, Cond.selects RX6 yX6_isGoneAt yX6_isGoneAt, Cond.initialized RX6, Cond.code yX6_isGoneAt cX6_isGoneAt 2 (some .boolean), Cond.fieldLink RX6 18 "MarkChat$User" "endHour" "I"]
def wsX7_done : List Cond := .code yX7_done cX7_done 5 (some .int) :: ((wsX7_done_r1 ++ (wsX7_done_r2 ++ wsX7_done_r3)) ++ wsX50 ++ wsX60 ++ wsX70 ++ wsJx4a65c0 ++ (vx_atS RX7 100 "java/lang/IllegalStateException" ["java/lang/RuntimeException", "java/lang/Exception"]).filter goodWord ++ (vx_atS RX7 255 "java/lang/IndexOutOfBoundsException" ["java/lang/RuntimeException", "java/lang/Exception"]).filter goodWord)
def wsX7_hold_r1 : List Cond := [Cond.fieldLink RX7 204 "MarkChat$Channel" "isOnHold" "Z", Cond.methodLink RX7 87 yX7_channelAt, Cond.instanceMethod yX7_channelAt, Cond.selects RX7 yX7_channelAt yX7_channelAt, Cond.initialized RX7, Cond.code yX7_channelAt cX7_channelAt 2 (some (.object "MarkChat$Channel")), Cond.classLink RX7 251 "java/lang/IndexOutOfBoundsException", Cond.initialized "java/lang/IndexOutOfBoundsException", Cond.fieldLink RX7 10 "MarkChat" "channels" "Ljava/util/ArrayList;", Cond.classLink RX7 16 "MarkChat$Channel", Cond.methodLink RX7 59 yJx4a65c_size_8abf5, Cond.instanceMethod yJx4a65c_size_8abf5, Cond.selects RJx4a65c yJx4a65c_size_8abf5 yJx4a65c_size_8abf5, Cond.initialized RJx4a65c, Cond.code yJx4a65c_size_8abf5 cJx4a65c_size_8abf5 1 (some .int), Cond.fieldLink RJx4a65c 48 "java/util/ArrayList" "size" "I", Cond.methodLink RX7 210 yJx4a65c_get_915e3, Cond.instanceMethod yJx4a65c_get_915e3, Cond.selects RJx4a65c yJx4a65c_get_915e3 yJx4a65c_get_915e3, Cond.code yJx4a65c_get_915e3 cJx4a65c_get_915e3 2 (some (.object "java/lang/Object")), Cond.methodLink RJx4a65c 118 yJ15_checkIndex_7cf53, Cond.static yJ15_checkIndex_7cf53, Cond.initialized RJ15, Cond.code yJ15_checkIndex_7cf53 cJ15_checkIndex_7cf53 2 (some .int)]
def wsX7_hold_r2 : List Cond := [Cond.methodLink RJ15 105 yJ3_checkIndex_8e157, Cond.static yJ3_checkIndex_8e157, Cond.initialized RJ3, Cond.code yJ3_checkIndex_8e157 cJ3_checkIndex_8e157 3 (some .int), Cond.methodLink RJx4a65c 123 yJx4a65c_elementData_915e3, Cond.instanceMethod yJx4a65c_elementData_915e3, Cond.selects RJx4a65c yJx4a65c_elementData_915e3 yJx4a65c_elementData_915e3, Cond.code yJx4a65c_elementData_915e3 cJx4a65c_elementData_915e3 2 (some (.object "java/lang/Object")), Cond.fieldLink RJx4a65c 9 "java/util/ArrayList" "elementData" "[Ljava/lang/Object;"]
def wsX7_hold : List Cond := .code yX7_hold cX7_hold 3 (some .boolean) :: ((wsX7_hold_r1 ++ wsX7_hold_r2) ++ wsX00 ++ wsX70 ++ wsJx4a65c0 ++ (vx_atS RX7 255 "java/lang/IndexOutOfBoundsException" ["java/lang/RuntimeException", "java/lang/Exception"]).filter goodWord)
def wsX7_hasStandingSpend_r1 : List Cond := [Cond.fieldLink RX7 31 "MarkChat" "spends" "Ljava/util/ArrayList;", Cond.classLink RX7 175 "MarkChat$Spend", Cond.fieldLink RX7 241 "MarkChat$Spend" "message" "LMarkChat$Message;", Cond.fieldLink RX7 127 "MarkChat$Message" "number" "I", Cond.fieldLink RX7 240 "MarkChat$Spend" "state" "I", Cond.methodLink RX7 59 yJx4a65c_size_8abf5, Cond.instanceMethod yJx4a65c_size_8abf5, Cond.selects RJx4a65c yJx4a65c_size_8abf5 yJx4a65c_size_8abf5, Cond.initialized RJx4a65c, Cond.code yJx4a65c_size_8abf5 cJx4a65c_size_8abf5 1 (some .int), Cond.fieldLink RJx4a65c 48 "java/util/ArrayList" "size" "I", Cond.methodLink RX7 210 yJx4a65c_get_915e3, Cond.instanceMethod yJx4a65c_get_915e3, Cond.selects RJx4a65c yJx4a65c_get_915e3 yJx4a65c_get_915e3, Cond.code yJx4a65c_get_915e3 cJx4a65c_get_915e3 2 (some (.object "java/lang/Object")), Cond.methodLink RJx4a65c 118 yJ15_checkIndex_7cf53, Cond.static yJ15_checkIndex_7cf53, Cond.initialized RJ15, Cond.code yJ15_checkIndex_7cf53 cJ15_checkIndex_7cf53 2 (some .int), Cond.methodLink RJ15 105 yJ3_checkIndex_8e157, Cond.static yJ3_checkIndex_8e157, Cond.initialized RJ3, Cond.code yJ3_checkIndex_8e157 cJ3_checkIndex_8e157 3 (some .int), Cond.methodLink RJx4a65c 123 yJx4a65c_elementData_915e3]
def wsX7_hasStandingSpend_r2 : List Cond := [Cond.instanceMethod yJx4a65c_elementData_915e3, Cond.selects RJx4a65c yJx4a65c_elementData_915e3 yJx4a65c_elementData_915e3, Cond.code yJx4a65c_elementData_915e3 cJx4a65c_elementData_915e3 2 (some (.object "java/lang/Object")), Cond.fieldLink RJx4a65c 9 "java/util/ArrayList" "elementData" "[Ljava/lang/Object;"]
def wsX7_hasStandingSpend : List Cond := .code yX7_hasStandingSpend cX7_hasStandingSpend 4 (some .boolean) :: ((wsX7_hasStandingSpend_r1 ++ wsX7_hasStandingSpend_r2) ++ wsX70 ++ wsX40 ++ wsX30 ++ wsJx4a65c0)
def wsX7_hasOpenTask_r1 : List Cond := [Cond.fieldLink RX7 34 "MarkChat" "tasks" "Ljava/util/ArrayList;", Cond.classLink RX7 181 "MarkChat$Task", Cond.fieldLink RX7 308 "MarkChat$Task" "message" "I", Cond.fieldLink RX7 196 "MarkChat$Task" "state" "I", Cond.methodLink RX7 59 yJx4a65c_size_8abf5, Cond.instanceMethod yJx4a65c_size_8abf5, Cond.selects RJx4a65c yJx4a65c_size_8abf5 yJx4a65c_size_8abf5, Cond.initialized RJx4a65c, Cond.code yJx4a65c_size_8abf5 cJx4a65c_size_8abf5 1 (some .int), Cond.fieldLink RJx4a65c 48 "java/util/ArrayList" "size" "I", Cond.methodLink RX7 210 yJx4a65c_get_915e3, Cond.instanceMethod yJx4a65c_get_915e3, Cond.selects RJx4a65c yJx4a65c_get_915e3 yJx4a65c_get_915e3, Cond.code yJx4a65c_get_915e3 cJx4a65c_get_915e3 2 (some (.object "java/lang/Object")), Cond.methodLink RJx4a65c 118 yJ15_checkIndex_7cf53, Cond.static yJ15_checkIndex_7cf53, Cond.initialized RJ15, Cond.code yJ15_checkIndex_7cf53 cJ15_checkIndex_7cf53 2 (some .int), Cond.methodLink RJ15 105 yJ3_checkIndex_8e157, Cond.static yJ3_checkIndex_8e157, Cond.initialized RJ3, Cond.code yJ3_checkIndex_8e157 cJ3_checkIndex_8e157 3 (some .int), Cond.methodLink RJx4a65c 123 yJx4a65c_elementData_915e3, Cond.instanceMethod yJx4a65c_elementData_915e3]
def wsX7_hasOpenTask_r2 : List Cond := [Cond.selects RJx4a65c yJx4a65c_elementData_915e3 yJx4a65c_elementData_915e3, Cond.code yJx4a65c_elementData_915e3 cJx4a65c_elementData_915e3 2 (some (.object "java/lang/Object")), Cond.fieldLink RJx4a65c 9 "java/util/ArrayList" "elementData" "[Ljava/lang/Object;"]
def wsX7_hasOpenTask : List Cond := .code yX7_hasOpenTask cX7_hasOpenTask 4 (some .boolean) :: ((wsX7_hasOpenTask_r1 ++ wsX7_hasOpenTask_r2) ++ wsX70 ++ wsX50 ++ wsJx4a65c0)
def wsX7_hasReplyLeft_r1 : List Cond := [Cond.fieldLink RX7 28 "MarkChat" "messages" "Ljava/util/ArrayList;", Cond.classLink RX7 112 "MarkChat$Message", Cond.fieldLink RX7 221 "MarkChat$Message" "parent" "I", Cond.fieldLink RX7 218 "MarkChat$Message" "isArchived" "Z", Cond.methodLink RX7 59 yJx4a65c_size_8abf5, Cond.instanceMethod yJx4a65c_size_8abf5, Cond.selects RJx4a65c yJx4a65c_size_8abf5 yJx4a65c_size_8abf5, Cond.initialized RJx4a65c, Cond.code yJx4a65c_size_8abf5 cJx4a65c_size_8abf5 1 (some .int), Cond.fieldLink RJx4a65c 48 "java/util/ArrayList" "size" "I", Cond.methodLink RX7 210 yJx4a65c_get_915e3, Cond.instanceMethod yJx4a65c_get_915e3, Cond.selects RJx4a65c yJx4a65c_get_915e3 yJx4a65c_get_915e3, Cond.code yJx4a65c_get_915e3 cJx4a65c_get_915e3 2 (some (.object "java/lang/Object")), Cond.methodLink RJx4a65c 118 yJ15_checkIndex_7cf53, Cond.static yJ15_checkIndex_7cf53, Cond.initialized RJ15, Cond.code yJ15_checkIndex_7cf53 cJ15_checkIndex_7cf53 2 (some .int), Cond.methodLink RJ15 105 yJ3_checkIndex_8e157, Cond.static yJ3_checkIndex_8e157, Cond.initialized RJ3, Cond.code yJ3_checkIndex_8e157 cJ3_checkIndex_8e157 3 (some .int), Cond.methodLink RJx4a65c 123 yJx4a65c_elementData_915e3, Cond.instanceMethod yJx4a65c_elementData_915e3]
def wsX7_hasReplyLeft_r2 : List Cond := [Cond.selects RJx4a65c yJx4a65c_elementData_915e3 yJx4a65c_elementData_915e3, Cond.code yJx4a65c_elementData_915e3 cJx4a65c_elementData_915e3 2 (some (.object "java/lang/Object")), Cond.fieldLink RJx4a65c 9 "java/util/ArrayList" "elementData" "[Ljava/lang/Object;"]
def wsX7_hasReplyLeft : List Cond := .code yX7_hasReplyLeft cX7_hasReplyLeft 4 (some .boolean) :: ((wsX7_hasReplyLeft_r1 ++ wsX7_hasReplyLeft_r2) ++ wsX70 ++ wsX30 ++ wsJx4a65c0)
def wsX7_mayBeArchived_r1 : List Cond := [Cond.fieldLink RX7 218 "MarkChat$Message" "isArchived" "Z", Cond.fieldLink RX7 51 "MarkChat" "hour" "I", Cond.fieldLink RX7 224 "MarkChat$Message" "postHour" "I", Cond.fieldLink RX7 127 "MarkChat$Message" "number" "I", Cond.methodLink RX7 314 yX7_hasStandingSpend, Cond.instanceMethod yX7_hasStandingSpend, Cond.selects RX7 yX7_hasStandingSpend yX7_hasStandingSpend, Cond.initialized RX7, Cond.code yX7_hasStandingSpend cX7_hasStandingSpend 4 (some .boolean), Cond.fieldLink RX7 31 "MarkChat" "spends" "Ljava/util/ArrayList;", Cond.classLink RX7 175 "MarkChat$Spend", Cond.fieldLink RX7 241 "MarkChat$Spend" "message" "LMarkChat$Message;", Cond.fieldLink RX7 240 "MarkChat$Spend" "state" "I", Cond.methodLink RX7 59 yJx4a65c_size_8abf5, Cond.instanceMethod yJx4a65c_size_8abf5, Cond.selects RJx4a65c yJx4a65c_size_8abf5 yJx4a65c_size_8abf5, Cond.initialized RJx4a65c, Cond.code yJx4a65c_size_8abf5 cJx4a65c_size_8abf5 1 (some .int), Cond.fieldLink RJx4a65c 48 "java/util/ArrayList" "size" "I", Cond.methodLink RX7 210 yJx4a65c_get_915e3, Cond.instanceMethod yJx4a65c_get_915e3, Cond.selects RJx4a65c yJx4a65c_get_915e3 yJx4a65c_get_915e3, Cond.code yJx4a65c_get_915e3 cJx4a65c_get_915e3 2 (some (.object "java/lang/Object")), Cond.methodLink RJx4a65c 118 yJ15_checkIndex_7cf53]
def wsX7_mayBeArchived_r2 : List Cond := [Cond.static yJ15_checkIndex_7cf53, Cond.initialized RJ15, Cond.code yJ15_checkIndex_7cf53 cJ15_checkIndex_7cf53 2 (some .int), Cond.methodLink RJ15 105 yJ3_checkIndex_8e157, Cond.static yJ3_checkIndex_8e157, Cond.initialized RJ3, Cond.code yJ3_checkIndex_8e157 cJ3_checkIndex_8e157 3 (some .int), Cond.methodLink RJx4a65c 123 yJx4a65c_elementData_915e3, Cond.instanceMethod yJx4a65c_elementData_915e3, Cond.selects RJx4a65c yJx4a65c_elementData_915e3 yJx4a65c_elementData_915e3, Cond.code yJx4a65c_elementData_915e3 cJx4a65c_elementData_915e3 2 (some (.object "java/lang/Object")), Cond.fieldLink RJx4a65c 9 "java/util/ArrayList" "elementData" "[Ljava/lang/Object;", Cond.methodLink RX7 317 yX7_hasOpenTask, Cond.instanceMethod yX7_hasOpenTask, Cond.selects RX7 yX7_hasOpenTask yX7_hasOpenTask, Cond.code yX7_hasOpenTask cX7_hasOpenTask 4 (some .boolean), Cond.fieldLink RX7 34 "MarkChat" "tasks" "Ljava/util/ArrayList;", Cond.classLink RX7 181 "MarkChat$Task", Cond.fieldLink RX7 308 "MarkChat$Task" "message" "I", Cond.fieldLink RX7 196 "MarkChat$Task" "state" "I", Cond.methodLink RX7 320 yX7_hasReplyLeft, Cond.instanceMethod yX7_hasReplyLeft, Cond.selects RX7 yX7_hasReplyLeft yX7_hasReplyLeft, Cond.code yX7_hasReplyLeft cX7_hasReplyLeft 4 (some .boolean)]
def wsX7_mayBeArchived_r3 : List Cond := [Cond.fieldLink RX7 28 "MarkChat" "messages" "Ljava/util/ArrayList;", Cond.classLink RX7 112 "MarkChat$Message", Cond.fieldLink RX7 221 "MarkChat$Message" "parent" "I"]
def wsX7_mayBeArchived : List Cond := .code yX7_mayBeArchived cX7_mayBeArchived 2 (some .boolean) :: ((wsX7_mayBeArchived_r1 ++ (wsX7_mayBeArchived_r2 ++ wsX7_mayBeArchived_r3)) ++ wsX30 ++ wsX70 ++ wsX40 ++ wsJx4a65c0 ++ wsX50)
def wsX7_archive_r1 : List Cond := [Cond.classLink RX7 96 "java/lang/IllegalStateException", Cond.initialized "java/lang/IllegalStateException", Cond.fieldLink RX7 204 "MarkChat$Channel" "isOnHold" "Z", Cond.fieldLink RX7 28 "MarkChat" "messages" "Ljava/util/ArrayList;", Cond.classLink RX7 112 "MarkChat$Message", Cond.fieldLink RX7 111 "MarkChat$Message" "channel" "LMarkChat$Channel;", Cond.fieldLink RX7 117 "MarkChat$Channel" "number" "I", Cond.fieldLink RX7 218 "MarkChat$Message" "isArchived" "Z", Cond.methodLink RX7 87 yX7_channelAt, Cond.instanceMethod yX7_channelAt, Cond.selects RX7 yX7_channelAt yX7_channelAt, Cond.initialized RX7, Cond.code yX7_channelAt cX7_channelAt 2 (some (.object "MarkChat$Channel")), Cond.classLink RX7 251 "java/lang/IndexOutOfBoundsException", Cond.initialized "java/lang/IndexOutOfBoundsException", Cond.fieldLink RX7 10 "MarkChat" "channels" "Ljava/util/ArrayList;", Cond.classLink RX7 16 "MarkChat$Channel", Cond.methodLink RX7 59 yJx4a65c_size_8abf5, Cond.instanceMethod yJx4a65c_size_8abf5, Cond.selects RJx4a65c yJx4a65c_size_8abf5 yJx4a65c_size_8abf5, Cond.initialized RJx4a65c, Cond.code yJx4a65c_size_8abf5 cJx4a65c_size_8abf5 1 (some .int), Cond.fieldLink RJx4a65c 48 "java/util/ArrayList" "size" "I", Cond.methodLink RX7 210 yJx4a65c_get_915e3]
def wsX7_archive_r2 : List Cond := [Cond.instanceMethod yJx4a65c_get_915e3, Cond.selects RJx4a65c yJx4a65c_get_915e3 yJx4a65c_get_915e3, Cond.code yJx4a65c_get_915e3 cJx4a65c_get_915e3 2 (some (.object "java/lang/Object")), Cond.methodLink RJx4a65c 118 yJ15_checkIndex_7cf53, Cond.static yJ15_checkIndex_7cf53, Cond.initialized RJ15, Cond.code yJ15_checkIndex_7cf53 cJ15_checkIndex_7cf53 2 (some .int), Cond.methodLink RJ15 105 yJ3_checkIndex_8e157, Cond.static yJ3_checkIndex_8e157, Cond.initialized RJ3, Cond.code yJ3_checkIndex_8e157 cJ3_checkIndex_8e157 3 (some .int), Cond.methodLink RJx4a65c 123 yJx4a65c_elementData_915e3, Cond.instanceMethod yJx4a65c_elementData_915e3, Cond.selects RJx4a65c yJx4a65c_elementData_915e3 yJx4a65c_elementData_915e3, Cond.code yJx4a65c_elementData_915e3 cJx4a65c_elementData_915e3 2 (some (.object "java/lang/Object")), Cond.fieldLink RJx4a65c 9 "java/util/ArrayList" "elementData" "[Ljava/lang/Object;", Cond.methodLink RX7 214 yX7_mayBeArchived, Cond.instanceMethod yX7_mayBeArchived, Cond.selects RX7 yX7_mayBeArchived yX7_mayBeArchived, Cond.code yX7_mayBeArchived cX7_mayBeArchived 2 (some .boolean), Cond.fieldLink RX7 51 "MarkChat" "hour" "I", Cond.fieldLink RX7 224 "MarkChat$Message" "postHour" "I", Cond.fieldLink RX7 127 "MarkChat$Message" "number" "I", Cond.methodLink RX7 314 yX7_hasStandingSpend]
def wsX7_archive_r3 : List Cond := [Cond.instanceMethod yX7_hasStandingSpend, Cond.selects RX7 yX7_hasStandingSpend yX7_hasStandingSpend, Cond.code yX7_hasStandingSpend cX7_hasStandingSpend 4 (some .boolean), Cond.fieldLink RX7 31 "MarkChat" "spends" "Ljava/util/ArrayList;", Cond.classLink RX7 175 "MarkChat$Spend", Cond.fieldLink RX7 241 "MarkChat$Spend" "message" "LMarkChat$Message;", Cond.fieldLink RX7 240 "MarkChat$Spend" "state" "I", Cond.methodLink RX7 317 yX7_hasOpenTask, Cond.instanceMethod yX7_hasOpenTask, Cond.selects RX7 yX7_hasOpenTask yX7_hasOpenTask, Cond.code yX7_hasOpenTask cX7_hasOpenTask 4 (some .boolean), Cond.fieldLink RX7 34 "MarkChat" "tasks" "Ljava/util/ArrayList;", Cond.classLink RX7 181 "MarkChat$Task", Cond.fieldLink RX7 308 "MarkChat$Task" "message" "I", Cond.fieldLink RX7 196 "MarkChat$Task" "state" "I", Cond.methodLink RX7 320 yX7_hasReplyLeft, Cond.instanceMethod yX7_hasReplyLeft, Cond.selects RX7 yX7_hasReplyLeft yX7_hasReplyLeft, Cond.code yX7_hasReplyLeft cX7_hasReplyLeft 4 (some .boolean), Cond.fieldLink RX7 221 "MarkChat$Message" "parent" "I"]
def wsX7_archive : List Cond := .code yX7_archive cX7_archive 6 (some .int) :: ((wsX7_archive_r1 ++ (wsX7_archive_r2 ++ wsX7_archive_r3)) ++ wsX00 ++ wsX70 ++ wsX30 ++ wsJx4a65c0 ++ wsX40 ++ wsX50 ++ (vx_atS RX7 100 "java/lang/IllegalStateException" ["java/lang/RuntimeException", "java/lang/Exception"]).filter goodWord ++ (vx_atS RX7 255 "java/lang/IndexOutOfBoundsException" ["java/lang/RuntimeException", "java/lang/Exception"]).filter goodWord)
def wsX7_pass_r1 : List Cond := [Cond.fieldLink RX7 51 "MarkChat" "hour" "I", Cond.methodLink RX7 55 yX7_checkRange, Cond.static yX7_checkRange, Cond.initialized RX7, Cond.code yX7_checkRange cX7_checkRange 3 none, Cond.classLink RX7 227 "java/lang/IllegalArgumentException", Cond.initialized "java/lang/IllegalArgumentException", Cond.methodLink RX7 81 yX7_takeSpendsBack, Cond.instanceMethod yX7_takeSpendsBack, Cond.selects RX7 yX7_takeSpendsBack yX7_takeSpendsBack, Cond.code yX7_takeSpendsBack cX7_takeSpendsBack 3 none, Cond.fieldLink RX7 31 "MarkChat" "spends" "Ljava/util/ArrayList;", Cond.classLink RX7 175 "MarkChat$Spend", Cond.fieldLink RX7 240 "MarkChat$Spend" "state" "I", Cond.fieldLink RX7 241 "MarkChat$Spend" "message" "LMarkChat$Message;", Cond.fieldLink RX7 111 "MarkChat$Message" "channel" "LMarkChat$Channel;", Cond.fieldLink RX7 92 "MarkChat$Channel" "cents" "I", Cond.fieldLink RX7 246 "MarkChat$Spend" "amount" "I", Cond.methodLink RX7 59 yJx4a65c_size_8abf5, Cond.instanceMethod yJx4a65c_size_8abf5, Cond.selects RJx4a65c yJx4a65c_size_8abf5 yJx4a65c_size_8abf5, Cond.initialized RJx4a65c, Cond.code yJx4a65c_size_8abf5 cJx4a65c_size_8abf5 1 (some .int), Cond.fieldLink RJx4a65c 48 "java/util/ArrayList" "size" "I"]
def wsX7_pass_r2 : List Cond := [Cond.methodLink RX7 210 yJx4a65c_get_915e3, Cond.instanceMethod yJx4a65c_get_915e3, Cond.selects RJx4a65c yJx4a65c_get_915e3 yJx4a65c_get_915e3, Cond.code yJx4a65c_get_915e3 cJx4a65c_get_915e3 2 (some (.object "java/lang/Object")), Cond.methodLink RJx4a65c 118 yJ15_checkIndex_7cf53, Cond.static yJ15_checkIndex_7cf53, Cond.initialized RJ15, Cond.code yJ15_checkIndex_7cf53 cJ15_checkIndex_7cf53 2 (some .int), Cond.methodLink RJ15 105 yJ3_checkIndex_8e157, Cond.static yJ3_checkIndex_8e157, Cond.initialized RJ3, Cond.code yJ3_checkIndex_8e157 cJ3_checkIndex_8e157 3 (some .int), Cond.methodLink RJx4a65c 123 yJx4a65c_elementData_915e3, Cond.instanceMethod yJx4a65c_elementData_915e3, Cond.selects RJx4a65c yJx4a65c_elementData_915e3 yJx4a65c_elementData_915e3, Cond.code yJx4a65c_elementData_915e3 cJx4a65c_elementData_915e3 2 (some (.object "java/lang/Object")), Cond.fieldLink RJx4a65c 9 "java/util/ArrayList" "elementData" "[Ljava/lang/Object;", Cond.methodLink RX7 304 yX7_isStillDue, Cond.instanceMethod yX7_isStillDue, Cond.selects RX7 yX7_isStillDue yX7_isStillDue, Cond.code yX7_isStillDue cX7_isStillDue 3 (some .boolean), Cond.fieldLink RX7 136 "MarkChat$Message" "version" "I", Cond.fieldLink RX7 245 "MarkChat$Spend" "version" "I", Cond.fieldLink RX7 139 "MarkChat$Message" "marks" "LMarkChat$Marks;"]
def wsX7_pass_r3 : List Cond := [Cond.methodLink RX7 167 yX7_approve, Cond.instanceMethod yX7_approve, Cond.selects RX7 yX7_approve yX7_approve, Cond.code yX7_approve cX7_approve 9 (some .boolean), Cond.fieldLink RX7 25 "MarkChat" "users" "Ljava/util/ArrayList;", Cond.classLink RX7 67 "MarkChat$User", Cond.fieldLink RX7 78 "MarkChat$User" "rank" "I", Cond.fieldLink RX7 130 "MarkChat$Message" "author" "LMarkChat$User;", Cond.fieldLink RX7 71 "MarkChat$User" "number" "I", Cond.methodLink RX7 151 yX2_kindOf, Cond.instanceMethod yX2_kindOf, Cond.selects RX2 yX2_kindOf yX2_kindOf, Cond.initialized RX2, Cond.code yX2_kindOf cX2_kindOf 2 (some .int), Cond.fieldLink RX2 9 "MarkChat$Marks" "kinds" "[I", Cond.methodLink RX7 301 yX6_countsAt, Cond.instanceMethod yX6_countsAt, Cond.selects RX6 yX6_countsAt yX6_countsAt, Cond.initialized RX6, Cond.code yX6_countsAt cX6_countsAt 2 (some .boolean), Cond.fieldLink RX6 15 "MarkChat$User" "rank" "I", Cond.methodLink RX6 21 yX6_isGoneAt, Cond.instanceMethod yX6_isGoneAt, Cond.selects RX6 yX6_isGoneAt yX6_isGoneAt]
def wsX7_pass_r4 : List Cond := [Cond.code yX6_isGoneAt cX6_isGoneAt 2 (some .boolean), Cond.fieldLink RX6 18 "MarkChat$User" "endHour" "I"]
def wsX7_pass : List Cond := .code yX7_pass cX7_pass 2 (some .int) :: ((wsX7_pass_r1 ++ (wsX7_pass_r2 ++ (wsX7_pass_r3 ++ wsX7_pass_r4))) ++ wsX70 ++ wsX40 ++ wsX30 ++ wsX00 ++ wsJx4a65c0 ++ wsX60 ++ wsX20 ++ (vx_atS RX7 231 "java/lang/IllegalArgumentException" ["java/lang/RuntimeException", "java/lang/Exception"]).filter goodWord)
def wsX7_messageOf_r1 : List Cond := [Cond.classLink RX7 227 "java/lang/IllegalArgumentException", Cond.initialized "java/lang/IllegalArgumentException", Cond.fieldLink RX7 130 "MarkChat$Message" "author" "LMarkChat$User;", Cond.fieldLink RX7 71 "MarkChat$User" "number" "I", Cond.fieldLink RX7 111 "MarkChat$Message" "channel" "LMarkChat$Channel;", Cond.fieldLink RX7 117 "MarkChat$Channel" "number" "I", Cond.fieldLink RX7 221 "MarkChat$Message" "parent" "I", Cond.fieldLink RX7 136 "MarkChat$Message" "version" "I", Cond.fieldLink RX7 224 "MarkChat$Message" "postHour" "I", Cond.fieldLink RX7 218 "MarkChat$Message" "isArchived" "Z", Cond.fieldLink RX7 139 "MarkChat$Message" "marks" "LMarkChat$Marks;", Cond.methodLink RX7 103 yX7_messageAt, Cond.instanceMethod yX7_messageAt, Cond.selects RX7 yX7_messageAt yX7_messageAt, Cond.initialized RX7, Cond.code yX7_messageAt cX7_messageAt 2 (some (.object "MarkChat$Message")), Cond.classLink RX7 251 "java/lang/IndexOutOfBoundsException", Cond.initialized "java/lang/IndexOutOfBoundsException", Cond.fieldLink RX7 28 "MarkChat" "messages" "Ljava/util/ArrayList;", Cond.classLink RX7 112 "MarkChat$Message", Cond.methodLink RX7 59 yJx4a65c_size_8abf5, Cond.instanceMethod yJx4a65c_size_8abf5, Cond.selects RJx4a65c yJx4a65c_size_8abf5 yJx4a65c_size_8abf5, Cond.initialized RJx4a65c]
def wsX7_messageOf_r2 : List Cond := [Cond.code yJx4a65c_size_8abf5 cJx4a65c_size_8abf5 1 (some .int), Cond.fieldLink RJx4a65c 48 "java/util/ArrayList" "size" "I", Cond.methodLink RX7 210 yJx4a65c_get_915e3, Cond.instanceMethod yJx4a65c_get_915e3, Cond.selects RJx4a65c yJx4a65c_get_915e3 yJx4a65c_get_915e3, Cond.code yJx4a65c_get_915e3 cJx4a65c_get_915e3 2 (some (.object "java/lang/Object")), Cond.methodLink RJx4a65c 118 yJ15_checkIndex_7cf53, Cond.static yJ15_checkIndex_7cf53, Cond.initialized RJ15, Cond.code yJ15_checkIndex_7cf53 cJ15_checkIndex_7cf53 2 (some .int), Cond.methodLink RJ15 105 yJ3_checkIndex_8e157, Cond.static yJ3_checkIndex_8e157, Cond.initialized RJ3, Cond.code yJ3_checkIndex_8e157 cJ3_checkIndex_8e157 3 (some .int), Cond.methodLink RJx4a65c 123 yJx4a65c_elementData_915e3, Cond.instanceMethod yJx4a65c_elementData_915e3, Cond.selects RJx4a65c yJx4a65c_elementData_915e3 yJx4a65c_elementData_915e3, Cond.code yJx4a65c_elementData_915e3 cJx4a65c_elementData_915e3 2 (some (.object "java/lang/Object")), Cond.fieldLink RJx4a65c 9 "java/util/ArrayList" "elementData" "[Ljava/lang/Object;", Cond.methodLink RX7 163 yX7_countMarks, Cond.instanceMethod yX7_countMarks, Cond.selects RX7 yX7_countMarks yX7_countMarks, Cond.code yX7_countMarks cX7_countMarks 4 (some .int), Cond.fieldLink RX7 25 "MarkChat" "users" "Ljava/util/ArrayList;"]
def wsX7_messageOf_r3 : List Cond := [Cond.classLink RX7 67 "MarkChat$User", Cond.fieldLink RX7 51 "MarkChat" "hour" "I", Cond.methodLink RX7 151 yX2_kindOf, Cond.instanceMethod yX2_kindOf, Cond.selects RX2 yX2_kindOf yX2_kindOf, Cond.initialized RX2, Cond.code yX2_kindOf cX2_kindOf 2 (some .int), Cond.fieldLink RX2 9 "MarkChat$Marks" "kinds" "[I", Cond.methodLink RX7 301 yX6_countsAt, Cond.instanceMethod yX6_countsAt, Cond.selects RX6 yX6_countsAt yX6_countsAt, Cond.initialized RX6, Cond.code yX6_countsAt cX6_countsAt 2 (some .boolean), Cond.fieldLink RX6 15 "MarkChat$User" "rank" "I", Cond.methodLink RX6 21 yX6_isGoneAt, Cond.instanceMethod yX6_isGoneAt, Cond.selects RX6 yX6_isGoneAt yX6_isGoneAt, Cond.code yX6_isGoneAt cX6_isGoneAt 2 (some .boolean), Cond.fieldLink RX6 18 "MarkChat$User" "endHour" "I"]
def wsX7_messageOf : List Cond := .code yX7_messageOf cX7_messageOf 4 (some .int) :: ((wsX7_messageOf_r1 ++ (wsX7_messageOf_r2 ++ wsX7_messageOf_r3)) ++ wsX30 ++ wsX60 ++ wsX00 ++ wsX70 ++ wsJx4a65c0 ++ wsX20 ++ (vx_atS RX7 231 "java/lang/IllegalArgumentException" ["java/lang/RuntimeException", "java/lang/Exception"]).filter goodWord ++ (vx_atS RX7 255 "java/lang/IndexOutOfBoundsException" ["java/lang/RuntimeException", "java/lang/Exception"]).filter goodWord)
def wsX7_isApproved_r1 : List Cond := [Cond.constant RX7 91 (1000000), Cond.fieldLink RX7 139 "MarkChat$Message" "marks" "LMarkChat$Marks;", Cond.fieldLink RX7 40 "MarkChat" "log" "LMarkChat$Log;", Cond.fieldLink RX7 47 "MarkChat" "marksAnew" "LMarkChat$Marks;", Cond.methodLink RX7 103 yX7_messageAt, Cond.instanceMethod yX7_messageAt, Cond.selects RX7 yX7_messageAt yX7_messageAt, Cond.initialized RX7, Cond.code yX7_messageAt cX7_messageAt 2 (some (.object "MarkChat$Message")), Cond.classLink RX7 251 "java/lang/IndexOutOfBoundsException", Cond.initialized "java/lang/IndexOutOfBoundsException", Cond.fieldLink RX7 28 "MarkChat" "messages" "Ljava/util/ArrayList;", Cond.classLink RX7 112 "MarkChat$Message", Cond.methodLink RX7 59 yJx4a65c_size_8abf5, Cond.instanceMethod yJx4a65c_size_8abf5, Cond.selects RJx4a65c yJx4a65c_size_8abf5 yJx4a65c_size_8abf5, Cond.initialized RJx4a65c, Cond.code yJx4a65c_size_8abf5 cJx4a65c_size_8abf5 1 (some .int), Cond.fieldLink RJx4a65c 48 "java/util/ArrayList" "size" "I", Cond.methodLink RX7 210 yJx4a65c_get_915e3, Cond.instanceMethod yJx4a65c_get_915e3, Cond.selects RJx4a65c yJx4a65c_get_915e3 yJx4a65c_get_915e3, Cond.code yJx4a65c_get_915e3 cJx4a65c_get_915e3 2 (some (.object "java/lang/Object")), Cond.methodLink RJx4a65c 118 yJ15_checkIndex_7cf53]
def wsX7_isApproved_r2 : List Cond := [Cond.static yJ15_checkIndex_7cf53, Cond.initialized RJ15, Cond.code yJ15_checkIndex_7cf53 cJ15_checkIndex_7cf53 2 (some .int), Cond.methodLink RJ15 105 yJ3_checkIndex_8e157, Cond.static yJ3_checkIndex_8e157, Cond.initialized RJ3, Cond.code yJ3_checkIndex_8e157 cJ3_checkIndex_8e157 3 (some .int), Cond.methodLink RJx4a65c 123 yJx4a65c_elementData_915e3, Cond.instanceMethod yJx4a65c_elementData_915e3, Cond.selects RJx4a65c yJx4a65c_elementData_915e3 yJx4a65c_elementData_915e3, Cond.code yJx4a65c_elementData_915e3 cJx4a65c_elementData_915e3 2 (some (.object "java/lang/Object")), Cond.fieldLink RJx4a65c 9 "java/util/ArrayList" "elementData" "[Ljava/lang/Object;", Cond.methodLink RX7 55 yX7_checkRange, Cond.static yX7_checkRange, Cond.code yX7_checkRange cX7_checkRange 3 none, Cond.classLink RX7 227 "java/lang/IllegalArgumentException", Cond.initialized "java/lang/IllegalArgumentException", Cond.methodLink RX7 167 yX7_approve, Cond.instanceMethod yX7_approve, Cond.selects RX7 yX7_approve yX7_approve, Cond.code yX7_approve cX7_approve 9 (some .boolean), Cond.fieldLink RX7 25 "MarkChat" "users" "Ljava/util/ArrayList;", Cond.classLink RX7 67 "MarkChat$User", Cond.fieldLink RX7 51 "MarkChat" "hour" "I"]
def wsX7_isApproved_r3 : List Cond := [Cond.fieldLink RX7 78 "MarkChat$User" "rank" "I", Cond.fieldLink RX7 130 "MarkChat$Message" "author" "LMarkChat$User;", Cond.fieldLink RX7 71 "MarkChat$User" "number" "I", Cond.methodLink RX7 151 yX2_kindOf, Cond.instanceMethod yX2_kindOf, Cond.selects RX2 yX2_kindOf yX2_kindOf, Cond.initialized RX2, Cond.code yX2_kindOf cX2_kindOf 2 (some .int), Cond.fieldLink RX2 9 "MarkChat$Marks" "kinds" "[I", Cond.methodLink RX7 301 yX6_countsAt, Cond.instanceMethod yX6_countsAt, Cond.selects RX6 yX6_countsAt yX6_countsAt, Cond.initialized RX6, Cond.code yX6_countsAt cX6_countsAt 2 (some .boolean), Cond.fieldLink RX6 15 "MarkChat$User" "rank" "I", Cond.methodLink RX6 21 yX6_isGoneAt, Cond.instanceMethod yX6_isGoneAt, Cond.selects RX6 yX6_isGoneAt yX6_isGoneAt, Cond.code yX6_isGoneAt cX6_isGoneAt 2 (some .boolean), Cond.fieldLink RX6 18 "MarkChat$User" "endHour" "I", Cond.methodLink RX7 232 yX1_readInto, Cond.instanceMethod yX1_readInto, Cond.selects RX1 yX1_readInto yX1_readInto, Cond.initialized RX1]
def wsX7_isApproved_r4 : List Cond := [Cond.code yX1_readInto cX1_readInto 4 none, Cond.fieldLink RX1 25 "MarkChat$Log" "size" "I", Cond.fieldLink RX1 9 "MarkChat$Log" "messages" "[I", Cond.fieldLink RX1 18 "MarkChat$Log" "kinds" "[I", Cond.fieldLink RX1 15 "MarkChat$Log" "users" "[I", Cond.methodLink RX1 29 yX2_clear, Cond.instanceMethod yX2_clear, Cond.selects RX2 yX2_clear yX2_clear, Cond.code yX2_clear cX2_clear 1 none, Cond.methodLink RX2 15 yJ7_fill_53178, Cond.static yJ7_fill_53178, Cond.initialized RJ7, Cond.code yJ7_fill_53178 cJ7_fill_53178 4 none, Cond.methodLink RX1 34 yX2_put, Cond.instanceMethod yX2_put, Cond.selects RX2 yX2_put yX2_put, Cond.code yX2_put cX2_put 3 none]
def wsX7_isApproved : List Cond := .code yX7_isApproved cX7_isApproved 5 (some .boolean) :: ((wsX7_isApproved_r1 ++ (wsX7_isApproved_r2 ++ (wsX7_isApproved_r3 ++ wsX7_isApproved_r4))) ++ wsX30 ++ wsX70 ++ wsJx4a65c0 ++ wsX60 ++ wsX20 ++ wsX10 ++ (vx_atS RX7 255 "java/lang/IndexOutOfBoundsException" ["java/lang/RuntimeException", "java/lang/Exception"]).filter goodWord ++ (vx_atS RX7 231 "java/lang/IllegalArgumentException" ["java/lang/RuntimeException", "java/lang/Exception"]).filter goodWord)
def wsX7_spendAt_r1 : List Cond := [Cond.classLink RX7 251 "java/lang/IndexOutOfBoundsException", Cond.initialized "java/lang/IndexOutOfBoundsException", Cond.fieldLink RX7 31 "MarkChat" "spends" "Ljava/util/ArrayList;", Cond.classLink RX7 175 "MarkChat$Spend", Cond.methodLink RX7 59 yJx4a65c_size_8abf5, Cond.instanceMethod yJx4a65c_size_8abf5, Cond.selects RJx4a65c yJx4a65c_size_8abf5 yJx4a65c_size_8abf5, Cond.initialized RJx4a65c, Cond.code yJx4a65c_size_8abf5 cJx4a65c_size_8abf5 1 (some .int), Cond.fieldLink RJx4a65c 48 "java/util/ArrayList" "size" "I", Cond.methodLink RX7 210 yJx4a65c_get_915e3, Cond.instanceMethod yJx4a65c_get_915e3, Cond.selects RJx4a65c yJx4a65c_get_915e3 yJx4a65c_get_915e3, Cond.code yJx4a65c_get_915e3 cJx4a65c_get_915e3 2 (some (.object "java/lang/Object")), Cond.methodLink RJx4a65c 118 yJ15_checkIndex_7cf53, Cond.static yJ15_checkIndex_7cf53, Cond.initialized RJ15, Cond.code yJ15_checkIndex_7cf53 cJ15_checkIndex_7cf53 2 (some .int), Cond.methodLink RJ15 105 yJ3_checkIndex_8e157, Cond.static yJ3_checkIndex_8e157, Cond.initialized RJ3, Cond.code yJ3_checkIndex_8e157 cJ3_checkIndex_8e157 3 (some .int), Cond.methodLink RJx4a65c 123 yJx4a65c_elementData_915e3, Cond.instanceMethod yJx4a65c_elementData_915e3]
def wsX7_spendAt_r2 : List Cond := [Cond.selects RJx4a65c yJx4a65c_elementData_915e3 yJx4a65c_elementData_915e3, Cond.code yJx4a65c_elementData_915e3 cJx4a65c_elementData_915e3 2 (some (.object "java/lang/Object")), Cond.fieldLink RJx4a65c 9 "java/util/ArrayList" "elementData" "[Ljava/lang/Object;"]
def wsX7_spendAt : List Cond := .code yX7_spendAt cX7_spendAt 2 (some (.object "MarkChat$Spend")) :: ((wsX7_spendAt_r1 ++ wsX7_spendAt_r2) ++ wsX70 ++ wsJx4a65c0 ++ (vx_atS RX7 255 "java/lang/IndexOutOfBoundsException" ["java/lang/RuntimeException", "java/lang/Exception"]).filter goodWord)
def wsX7_spendOf_r1 : List Cond := [Cond.classLink RX7 227 "java/lang/IllegalArgumentException", Cond.initialized "java/lang/IllegalArgumentException", Cond.fieldLink RX7 240 "MarkChat$Spend" "state" "I", Cond.fieldLink RX7 241 "MarkChat$Spend" "message" "LMarkChat$Message;", Cond.fieldLink RX7 127 "MarkChat$Message" "number" "I", Cond.fieldLink RX7 245 "MarkChat$Spend" "version" "I", Cond.fieldLink RX7 246 "MarkChat$Spend" "amount" "I", Cond.methodLink RX7 236 yX7_spendAt, Cond.instanceMethod yX7_spendAt, Cond.selects RX7 yX7_spendAt yX7_spendAt, Cond.initialized RX7, Cond.code yX7_spendAt cX7_spendAt 2 (some (.object "MarkChat$Spend")), Cond.classLink RX7 251 "java/lang/IndexOutOfBoundsException", Cond.initialized "java/lang/IndexOutOfBoundsException", Cond.fieldLink RX7 31 "MarkChat" "spends" "Ljava/util/ArrayList;", Cond.classLink RX7 175 "MarkChat$Spend", Cond.methodLink RX7 59 yJx4a65c_size_8abf5, Cond.instanceMethod yJx4a65c_size_8abf5, Cond.selects RJx4a65c yJx4a65c_size_8abf5 yJx4a65c_size_8abf5, Cond.initialized RJx4a65c, Cond.code yJx4a65c_size_8abf5 cJx4a65c_size_8abf5 1 (some .int), Cond.fieldLink RJx4a65c 48 "java/util/ArrayList" "size" "I", Cond.methodLink RX7 210 yJx4a65c_get_915e3, Cond.instanceMethod yJx4a65c_get_915e3]
def wsX7_spendOf_r2 : List Cond := [Cond.selects RJx4a65c yJx4a65c_get_915e3 yJx4a65c_get_915e3, Cond.code yJx4a65c_get_915e3 cJx4a65c_get_915e3 2 (some (.object "java/lang/Object")), Cond.methodLink RJx4a65c 118 yJ15_checkIndex_7cf53, Cond.static yJ15_checkIndex_7cf53, Cond.initialized RJ15, Cond.code yJ15_checkIndex_7cf53 cJ15_checkIndex_7cf53 2 (some .int), Cond.methodLink RJ15 105 yJ3_checkIndex_8e157, Cond.static yJ3_checkIndex_8e157, Cond.initialized RJ3, Cond.code yJ3_checkIndex_8e157 cJ3_checkIndex_8e157 3 (some .int), Cond.methodLink RJx4a65c 123 yJx4a65c_elementData_915e3, Cond.instanceMethod yJx4a65c_elementData_915e3, Cond.selects RJx4a65c yJx4a65c_elementData_915e3 yJx4a65c_elementData_915e3, Cond.code yJx4a65c_elementData_915e3 cJx4a65c_elementData_915e3 2 (some (.object "java/lang/Object")), Cond.fieldLink RJx4a65c 9 "java/util/ArrayList" "elementData" "[Ljava/lang/Object;"]
def wsX7_spendOf : List Cond := .code yX7_spendOf cX7_spendOf 4 (some .int) :: ((wsX7_spendOf_r1 ++ wsX7_spendOf_r2) ++ wsX40 ++ wsX30 ++ wsX70 ++ wsJx4a65c0 ++ (vx_atS RX7 231 "java/lang/IllegalArgumentException" ["java/lang/RuntimeException", "java/lang/Exception"]).filter goodWord ++ (vx_atS RX7 255 "java/lang/IndexOutOfBoundsException" ["java/lang/RuntimeException", "java/lang/Exception"]).filter goodWord)
def wsX7_left_r1 : List Cond := [Cond.fieldLink RX7 92 "MarkChat$Channel" "cents" "I", Cond.methodLink RX7 87 yX7_channelAt, Cond.instanceMethod yX7_channelAt, Cond.selects RX7 yX7_channelAt yX7_channelAt, Cond.initialized RX7, Cond.code yX7_channelAt cX7_channelAt 2 (some (.object "MarkChat$Channel")), Cond.classLink RX7 251 "java/lang/IndexOutOfBoundsException", Cond.initialized "java/lang/IndexOutOfBoundsException", Cond.fieldLink RX7 10 "MarkChat" "channels" "Ljava/util/ArrayList;", Cond.classLink RX7 16 "MarkChat$Channel", Cond.methodLink RX7 59 yJx4a65c_size_8abf5, Cond.instanceMethod yJx4a65c_size_8abf5, Cond.selects RJx4a65c yJx4a65c_size_8abf5 yJx4a65c_size_8abf5, Cond.initialized RJx4a65c, Cond.code yJx4a65c_size_8abf5 cJx4a65c_size_8abf5 1 (some .int), Cond.fieldLink RJx4a65c 48 "java/util/ArrayList" "size" "I", Cond.methodLink RX7 210 yJx4a65c_get_915e3, Cond.instanceMethod yJx4a65c_get_915e3, Cond.selects RJx4a65c yJx4a65c_get_915e3 yJx4a65c_get_915e3, Cond.code yJx4a65c_get_915e3 cJx4a65c_get_915e3 2 (some (.object "java/lang/Object")), Cond.methodLink RJx4a65c 118 yJ15_checkIndex_7cf53, Cond.static yJ15_checkIndex_7cf53, Cond.initialized RJ15, Cond.code yJ15_checkIndex_7cf53 cJ15_checkIndex_7cf53 2 (some .int)]
def wsX7_left_r2 : List Cond := [Cond.methodLink RJ15 105 yJ3_checkIndex_8e157, Cond.static yJ3_checkIndex_8e157, Cond.initialized RJ3, Cond.code yJ3_checkIndex_8e157 cJ3_checkIndex_8e157 3 (some .int), Cond.methodLink RJx4a65c 123 yJx4a65c_elementData_915e3, Cond.instanceMethod yJx4a65c_elementData_915e3, Cond.selects RJx4a65c yJx4a65c_elementData_915e3 yJx4a65c_elementData_915e3, Cond.code yJx4a65c_elementData_915e3 cJx4a65c_elementData_915e3 2 (some (.object "java/lang/Object")), Cond.fieldLink RJx4a65c 9 "java/util/ArrayList" "elementData" "[Ljava/lang/Object;"]
def wsX7_left : List Cond := .code yX7_left cX7_left 2 (some .int) :: ((wsX7_left_r1 ++ wsX7_left_r2) ++ wsX00 ++ wsX70 ++ wsJx4a65c0 ++ (vx_atS RX7 255 "java/lang/IndexOutOfBoundsException" ["java/lang/RuntimeException", "java/lang/Exception"]).filter goodWord)
def wsX7_rankOf_r1 : List Cond := [Cond.fieldLink RX7 34 "MarkChat" "tasks" "Ljava/util/ArrayList;", Cond.classLink RX7 181 "MarkChat$Task", Cond.fieldLink RX7 191 "MarkChat$Task" "doer" "LMarkChat$User;", Cond.methodLink RX7 59 yJx4a65c_size_8abf5, Cond.instanceMethod yJx4a65c_size_8abf5, Cond.selects RJx4a65c yJx4a65c_size_8abf5 yJx4a65c_size_8abf5, Cond.initialized RJx4a65c, Cond.code yJx4a65c_size_8abf5 cJx4a65c_size_8abf5 1 (some .int), Cond.fieldLink RJx4a65c 48 "java/util/ArrayList" "size" "I", Cond.methodLink RX7 210 yJx4a65c_get_915e3, Cond.instanceMethod yJx4a65c_get_915e3, Cond.selects RJx4a65c yJx4a65c_get_915e3 yJx4a65c_get_915e3, Cond.code yJx4a65c_get_915e3 cJx4a65c_get_915e3 2 (some (.object "java/lang/Object")), Cond.methodLink RJx4a65c 118 yJ15_checkIndex_7cf53, Cond.static yJ15_checkIndex_7cf53, Cond.initialized RJ15, Cond.code yJ15_checkIndex_7cf53 cJ15_checkIndex_7cf53 2 (some .int), Cond.methodLink RJ15 105 yJ3_checkIndex_8e157, Cond.static yJ3_checkIndex_8e157, Cond.initialized RJ3, Cond.code yJ3_checkIndex_8e157 cJ3_checkIndex_8e157 3 (some .int), Cond.methodLink RJx4a65c 123 yJx4a65c_elementData_915e3, Cond.instanceMethod yJx4a65c_elementData_915e3, Cond.selects RJx4a65c yJx4a65c_elementData_915e3 yJx4a65c_elementData_915e3]
def wsX7_rankOf_r2 : List Cond := [Cond.code yJx4a65c_elementData_915e3 cJx4a65c_elementData_915e3 2 (some (.object "java/lang/Object")), Cond.fieldLink RJx4a65c 9 "java/util/ArrayList" "elementData" "[Ljava/lang/Object;", Cond.methodLink RX7 256 yX5_isOpenFor, Cond.instanceMethod yX5_isOpenFor, Cond.selects RX5 yX5_isOpenFor yX5_isOpenFor, Cond.initialized RX5, Cond.code yX5_isOpenFor cX5_isOpenFor 2 (some .boolean), Cond.fieldLink RX5 52 "MarkChat$Task" "state" "I", Cond.fieldLink RX5 21 "MarkChat$Task" "doer" "LMarkChat$User;", Cond.fieldLink RX5 41 "MarkChat$User" "number" "I", Cond.methodLink RX7 310 yX5_comesBefore, Cond.instanceMethod yX5_comesBefore, Cond.selects RX5 yX5_comesBefore yX5_comesBefore, Cond.code yX5_comesBefore cX5_comesBefore 2 (some .boolean), Cond.fieldLink RX5 25 "MarkChat$Task" "untilHour" "I", Cond.fieldLink RX5 9 "MarkChat$Task" "number" "I"]
def wsX7_rankOf : List Cond := .code yX7_rankOf cX7_rankOf 5 (some .int) :: ((wsX7_rankOf_r1 ++ wsX7_rankOf_r2) ++ wsX70 ++ wsX50 ++ wsJx4a65c0 ++ wsX60)
def wsX7_next_r1 : List Cond := [Cond.classLink RX7 251 "java/lang/IndexOutOfBoundsException", Cond.initialized "java/lang/IndexOutOfBoundsException", Cond.fieldLink RX7 34 "MarkChat" "tasks" "Ljava/util/ArrayList;", Cond.classLink RX7 181 "MarkChat$Task", Cond.fieldLink RX7 186 "MarkChat$Task" "number" "I", Cond.methodLink RX7 74 yX7_userAt, Cond.instanceMethod yX7_userAt, Cond.selects RX7 yX7_userAt yX7_userAt, Cond.initialized RX7, Cond.code yX7_userAt cX7_userAt 2 (some (.object "MarkChat$User")), Cond.fieldLink RX7 25 "MarkChat" "users" "Ljava/util/ArrayList;", Cond.classLink RX7 67 "MarkChat$User", Cond.methodLink RX7 59 yJx4a65c_size_8abf5, Cond.instanceMethod yJx4a65c_size_8abf5, Cond.selects RJx4a65c yJx4a65c_size_8abf5 yJx4a65c_size_8abf5, Cond.initialized RJx4a65c, Cond.code yJx4a65c_size_8abf5 cJx4a65c_size_8abf5 1 (some .int), Cond.fieldLink RJx4a65c 48 "java/util/ArrayList" "size" "I", Cond.methodLink RX7 210 yJx4a65c_get_915e3, Cond.instanceMethod yJx4a65c_get_915e3, Cond.selects RJx4a65c yJx4a65c_get_915e3 yJx4a65c_get_915e3, Cond.code yJx4a65c_get_915e3 cJx4a65c_get_915e3 2 (some (.object "java/lang/Object")), Cond.methodLink RJx4a65c 118 yJ15_checkIndex_7cf53, Cond.static yJ15_checkIndex_7cf53]
def wsX7_next_r2 : List Cond := [Cond.initialized RJ15, Cond.code yJ15_checkIndex_7cf53 cJ15_checkIndex_7cf53 2 (some .int), Cond.methodLink RJ15 105 yJ3_checkIndex_8e157, Cond.static yJ3_checkIndex_8e157, Cond.initialized RJ3, Cond.code yJ3_checkIndex_8e157 cJ3_checkIndex_8e157 3 (some .int), Cond.methodLink RJx4a65c 123 yJx4a65c_elementData_915e3, Cond.instanceMethod yJx4a65c_elementData_915e3, Cond.selects RJx4a65c yJx4a65c_elementData_915e3 yJx4a65c_elementData_915e3, Cond.code yJx4a65c_elementData_915e3 cJx4a65c_elementData_915e3 2 (some (.object "java/lang/Object")), Cond.fieldLink RJx4a65c 9 "java/util/ArrayList" "elementData" "[Ljava/lang/Object;", Cond.methodLink RX7 256 yX5_isOpenFor, Cond.instanceMethod yX5_isOpenFor, Cond.selects RX5 yX5_isOpenFor yX5_isOpenFor, Cond.initialized RX5, Cond.code yX5_isOpenFor cX5_isOpenFor 2 (some .boolean), Cond.fieldLink RX5 52 "MarkChat$Task" "state" "I", Cond.fieldLink RX5 21 "MarkChat$Task" "doer" "LMarkChat$User;", Cond.fieldLink RX5 41 "MarkChat$User" "number" "I", Cond.methodLink RX7 260 yX7_rankOf, Cond.instanceMethod yX7_rankOf, Cond.selects RX7 yX7_rankOf yX7_rankOf, Cond.code yX7_rankOf cX7_rankOf 5 (some .int), Cond.fieldLink RX7 191 "MarkChat$Task" "doer" "LMarkChat$User;"]
def wsX7_next_r3 : List Cond := [Cond.methodLink RX7 310 yX5_comesBefore, Cond.instanceMethod yX5_comesBefore, Cond.selects RX5 yX5_comesBefore yX5_comesBefore, Cond.code yX5_comesBefore cX5_comesBefore 2 (some .boolean), Cond.fieldLink RX5 25 "MarkChat$Task" "untilHour" "I", Cond.fieldLink RX5 9 "MarkChat$Task" "number" "I"]
def wsX7_next : List Cond := .code yX7_next cX7_next 6 (some .int) :: ((wsX7_next_r1 ++ (wsX7_next_r2 ++ wsX7_next_r3)) ++ wsX70 ++ wsX50 ++ wsJx4a65c0 ++ wsX60 ++ (vx_atS RX7 255 "java/lang/IndexOutOfBoundsException" ["java/lang/RuntimeException", "java/lang/Exception"]).filter goodWord)
def wsX7_taskOf_r1 : List Cond := [Cond.fieldLink RX7 196 "MarkChat$Task" "state" "I", Cond.methodLink RX7 187 yX7_taskAt, Cond.instanceMethod yX7_taskAt, Cond.selects RX7 yX7_taskAt yX7_taskAt, Cond.initialized RX7, Cond.code yX7_taskAt cX7_taskAt 2 (some (.object "MarkChat$Task")), Cond.classLink RX7 251 "java/lang/IndexOutOfBoundsException", Cond.initialized "java/lang/IndexOutOfBoundsException", Cond.fieldLink RX7 34 "MarkChat" "tasks" "Ljava/util/ArrayList;", Cond.classLink RX7 181 "MarkChat$Task", Cond.methodLink RX7 59 yJx4a65c_size_8abf5, Cond.instanceMethod yJx4a65c_size_8abf5, Cond.selects RJx4a65c yJx4a65c_size_8abf5 yJx4a65c_size_8abf5, Cond.initialized RJx4a65c, Cond.code yJx4a65c_size_8abf5 cJx4a65c_size_8abf5 1 (some .int), Cond.fieldLink RJx4a65c 48 "java/util/ArrayList" "size" "I", Cond.methodLink RX7 210 yJx4a65c_get_915e3, Cond.instanceMethod yJx4a65c_get_915e3, Cond.selects RJx4a65c yJx4a65c_get_915e3 yJx4a65c_get_915e3, Cond.code yJx4a65c_get_915e3 cJx4a65c_get_915e3 2 (some (.object "java/lang/Object")), Cond.methodLink RJx4a65c 118 yJ15_checkIndex_7cf53, Cond.static yJ15_checkIndex_7cf53, Cond.initialized RJ15, Cond.code yJ15_checkIndex_7cf53 cJ15_checkIndex_7cf53 2 (some .int)]
def wsX7_taskOf_r2 : List Cond := [Cond.methodLink RJ15 105 yJ3_checkIndex_8e157, Cond.static yJ3_checkIndex_8e157, Cond.initialized RJ3, Cond.code yJ3_checkIndex_8e157 cJ3_checkIndex_8e157 3 (some .int), Cond.methodLink RJx4a65c 123 yJx4a65c_elementData_915e3, Cond.instanceMethod yJx4a65c_elementData_915e3, Cond.selects RJx4a65c yJx4a65c_elementData_915e3 yJx4a65c_elementData_915e3, Cond.code yJx4a65c_elementData_915e3 cJx4a65c_elementData_915e3 2 (some (.object "java/lang/Object")), Cond.fieldLink RJx4a65c 9 "java/util/ArrayList" "elementData" "[Ljava/lang/Object;"]
def wsX7_taskOf : List Cond := .code yX7_taskOf cX7_taskOf 2 (some .int) :: ((wsX7_taskOf_r1 ++ wsX7_taskOf_r2) ++ wsX50 ++ wsX70 ++ wsJx4a65c0 ++ (vx_atS RX7 255 "java/lang/IndexOutOfBoundsException" ["java/lang/RuntimeException", "java/lang/Exception"]).filter goodWord)
def wsJ0_coder_7d493 : List Cond := .code yJ0_coder_7d493 cJ0_coder_7d493 1 (some .byte) :: ([.fieldLink RJ0 38 "java/lang/String" "COMPACT_STRINGS" "Z", .fieldLink RJ0 15 "java/lang/String" "coder" "B"] ++ wsJ00)
def wsJ0_length_8abf5 : List Cond := .code yJ0_length_8abf5 cJ0_length_8abf5 1 (some .int) :: ([.fieldLink RJ0 9 "java/lang/String" "value" "[B", .methodLink RJ0 335 yJ0_coder_7d493, .instanceMethod yJ0_coder_7d493, .selects RJ0 yJ0_coder_7d493 yJ0_coder_7d493, .initialized RJ0, .code yJ0_coder_7d493 cJ0_coder_7d493 1 (some .byte), .fieldLink RJ0 38 "java/lang/String" "COMPACT_STRINGS" "Z", .fieldLink RJ0 15 "java/lang/String" "coder" "B"] ++ wsJ00)
def wsJ0_isLatin1_aae02 : List Cond := .code yJ0_isLatin1_aae02 cJ0_isLatin1_aae02 1 (some .boolean) :: ([.fieldLink RJ0 38 "java/lang/String" "COMPACT_STRINGS" "Z", .fieldLink RJ0 15 "java/lang/String" "coder" "B"] ++ wsJ00)
def wsJ1_charAt_3b067 : List Cond := .code yJ1_charAt_3b067 cJ1_charAt_3b067 2 (some .char) :: ([.methodLink RJ1 9 yJ0_checkIndex_df160, .static yJ0_checkIndex_df160, .initialized RJ0, .code yJ0_checkIndex_df160 cJ0_checkIndex_df160 2 none, .fieldLink RJ0 1053 "jdk/internal/util/Preconditions" "SIOOBE_FORMATTER" "Ljava/util/function/BiFunction;", .methodLink RJ0 1059 yJ3_checkIndex_8e157, .static yJ3_checkIndex_8e157, .initialized RJ3, .code yJ3_checkIndex_8e157 cJ3_checkIndex_8e157 3 (some .int)])
def wsJ2_charAt_3b067 : List Cond := .code yJ2_charAt_3b067 cJ2_charAt_3b067 2 (some .char) :: ([.methodLink RJ2 67 yJ2_checkIndex_2214a, .static yJ2_checkIndex_2214a, .initialized RJ2, .code yJ2_checkIndex_2214a cJ2_checkIndex_2214a 2 none, .methodLink RJ2 48 yJ2_length_9d52b, .static yJ2_length_9d52b, .code yJ2_length_9d52b cJ2_length_9d52b 1 (some .int), .methodLink RJ2 414 yJ0_checkIndex_df160, .static yJ0_checkIndex_df160, .initialized RJ0, .code yJ0_checkIndex_df160 cJ0_checkIndex_df160 2 none, .fieldLink RJ0 1053 "jdk/internal/util/Preconditions" "SIOOBE_FORMATTER" "Ljava/util/function/BiFunction;", .methodLink RJ0 1059 yJ3_checkIndex_8e157, .static yJ3_checkIndex_8e157, .initialized RJ3, .code yJ3_checkIndex_8e157 cJ3_checkIndex_8e157 3 (some .int), .methodLink RJ2 71 yJ2_getChar_3b067, .static yJ2_getChar_3b067, .code yJ2_getChar_3b067 cJ2_getChar_3b067 2 (some .char), .fieldLink RJ2 44 "java/lang/StringUTF16" "$assertionsDisabled" "Z", .fieldLink RJ2 59 "java/lang/StringUTF16" "HI_BYTE_SHIFT" "I", .fieldLink RJ2 63 "java/lang/StringUTF16" "LO_BYTE_SHIFT" "I"])
def wsJ0_charAt_5068e_r1 : List Cond := [Cond.fieldLink RJ0 9 "java/lang/String" "value" "[B", Cond.methodLink RJ0 492 yJ0_isLatin1_aae02, Cond.instanceMethod yJ0_isLatin1_aae02, Cond.selects RJ0 yJ0_isLatin1_aae02 yJ0_isLatin1_aae02, Cond.initialized RJ0, Cond.code yJ0_isLatin1_aae02 cJ0_isLatin1_aae02 1 (some .boolean), Cond.fieldLink RJ0 38 "java/lang/String" "COMPACT_STRINGS" "Z", Cond.fieldLink RJ0 15 "java/lang/String" "coder" "B", Cond.methodLink RJ0 495 yJ1_charAt_3b067, Cond.static yJ1_charAt_3b067, Cond.initialized RJ1, Cond.code yJ1_charAt_3b067 cJ1_charAt_3b067 2 (some .char), Cond.methodLink RJ1 9 yJ0_checkIndex_df160, Cond.static yJ0_checkIndex_df160, Cond.code yJ0_checkIndex_df160 cJ0_checkIndex_df160 2 none, Cond.fieldLink RJ0 1053 "jdk/internal/util/Preconditions" "SIOOBE_FORMATTER" "Ljava/util/function/BiFunction;", Cond.methodLink RJ0 1059 yJ3_checkIndex_8e157, Cond.static yJ3_checkIndex_8e157, Cond.initialized RJ3, Cond.code yJ3_checkIndex_8e157 cJ3_checkIndex_8e157 3 (some .int), Cond.methodLink RJ0 498 yJ2_charAt_3b067, Cond.static yJ2_charAt_3b067, Cond.initialized RJ2, Cond.code yJ2_charAt_3b067 cJ2_charAt_3b067 2 (some .char)]
def wsJ0_charAt_5068e_r2 : List Cond := [Cond.methodLink RJ2 67 yJ2_checkIndex_2214a, Cond.static yJ2_checkIndex_2214a, Cond.code yJ2_checkIndex_2214a cJ2_checkIndex_2214a 2 none, Cond.methodLink RJ2 48 yJ2_length_9d52b, Cond.static yJ2_length_9d52b, Cond.code yJ2_length_9d52b cJ2_length_9d52b 1 (some .int), Cond.methodLink RJ2 414 yJ0_checkIndex_df160, Cond.methodLink RJ2 71 yJ2_getChar_3b067, Cond.static yJ2_getChar_3b067, Cond.code yJ2_getChar_3b067 cJ2_getChar_3b067 2 (some .char), Cond.fieldLink RJ2 44 "java/lang/StringUTF16" "$assertionsDisabled" "Z", Cond.fieldLink RJ2 59 "java/lang/StringUTF16" "HI_BYTE_SHIFT" "I", Cond.fieldLink RJ2 63 "java/lang/StringUTF16" "LO_BYTE_SHIFT" "I"]
def wsJ0_charAt_5068e : List Cond := .code yJ0_charAt_5068e cJ0_charAt_5068e 2 (some .char) :: ((wsJ0_charAt_5068e_r1 ++ wsJ0_charAt_5068e_r2) ++ wsJ00)
def wsX7_label_r1 : List Cond := [Cond.classLink RX7 251 "java/lang/IndexOutOfBoundsException", Cond.initialized "java/lang/IndexOutOfBoundsException", Cond.fieldLink RX7 264 "MarkChat$Task" "text" "Ljava/lang/String;", Cond.methodLink RX7 187 yX7_taskAt, Cond.instanceMethod yX7_taskAt, Cond.selects RX7 yX7_taskAt yX7_taskAt, Cond.initialized RX7, Cond.code yX7_taskAt cX7_taskAt 2 (some (.object "MarkChat$Task")), Cond.fieldLink RX7 34 "MarkChat" "tasks" "Ljava/util/ArrayList;", Cond.classLink RX7 181 "MarkChat$Task", Cond.methodLink RX7 59 yJx4a65c_size_8abf5, Cond.instanceMethod yJx4a65c_size_8abf5, Cond.selects RJx4a65c yJx4a65c_size_8abf5 yJx4a65c_size_8abf5, Cond.initialized RJx4a65c, Cond.code yJx4a65c_size_8abf5 cJx4a65c_size_8abf5 1 (some .int), Cond.fieldLink RJx4a65c 48 "java/util/ArrayList" "size" "I", Cond.methodLink RX7 210 yJx4a65c_get_915e3, Cond.instanceMethod yJx4a65c_get_915e3, Cond.selects RJx4a65c yJx4a65c_get_915e3 yJx4a65c_get_915e3, Cond.code yJx4a65c_get_915e3 cJx4a65c_get_915e3 2 (some (.object "java/lang/Object")), Cond.methodLink RJx4a65c 118 yJ15_checkIndex_7cf53, Cond.static yJ15_checkIndex_7cf53, Cond.initialized RJ15, Cond.code yJ15_checkIndex_7cf53 cJ15_checkIndex_7cf53 2 (some .int)]
def wsX7_label_r2 : List Cond := [Cond.methodLink RJ15 105 yJ3_checkIndex_8e157, Cond.static yJ3_checkIndex_8e157, Cond.initialized RJ3, Cond.code yJ3_checkIndex_8e157 cJ3_checkIndex_8e157 3 (some .int), Cond.methodLink RJx4a65c 123 yJx4a65c_elementData_915e3, Cond.instanceMethod yJx4a65c_elementData_915e3, Cond.selects RJx4a65c yJx4a65c_elementData_915e3 yJx4a65c_elementData_915e3, Cond.code yJx4a65c_elementData_915e3 cJx4a65c_elementData_915e3 2 (some (.object "java/lang/Object")), Cond.fieldLink RJx4a65c 9 "java/util/ArrayList" "elementData" "[Ljava/lang/Object;", Cond.methodLink RX7 270 yJ0_length_8abf5, Cond.instanceMethod yJ0_length_8abf5, Cond.selects RJ0 yJ0_length_8abf5 yJ0_length_8abf5, Cond.initialized RJ0, Cond.code yJ0_length_8abf5 cJ0_length_8abf5 1 (some .int), Cond.fieldLink RJ0 9 "java/lang/String" "value" "[B", Cond.methodLink RJ0 335 yJ0_coder_7d493, Cond.instanceMethod yJ0_coder_7d493, Cond.selects RJ0 yJ0_coder_7d493 yJ0_coder_7d493, Cond.code yJ0_coder_7d493 cJ0_coder_7d493 1 (some .byte), Cond.fieldLink RJ0 38 "java/lang/String" "COMPACT_STRINGS" "Z", Cond.fieldLink RJ0 15 "java/lang/String" "coder" "B", Cond.methodLink RX7 275 yJ0_charAt_5068e, Cond.instanceMethod yJ0_charAt_5068e, Cond.selects RJ0 yJ0_charAt_5068e yJ0_charAt_5068e]
def wsX7_label_r3 : List Cond := [Cond.code yJ0_charAt_5068e cJ0_charAt_5068e 2 (some .char), Cond.methodLink RJ0 492 yJ0_isLatin1_aae02, Cond.instanceMethod yJ0_isLatin1_aae02, Cond.selects RJ0 yJ0_isLatin1_aae02 yJ0_isLatin1_aae02, Cond.code yJ0_isLatin1_aae02 cJ0_isLatin1_aae02 1 (some .boolean), Cond.methodLink RJ0 495 yJ1_charAt_3b067, Cond.static yJ1_charAt_3b067, Cond.initialized RJ1, Cond.code yJ1_charAt_3b067 cJ1_charAt_3b067 2 (some .char), Cond.methodLink RJ1 9 yJ0_checkIndex_df160, Cond.static yJ0_checkIndex_df160, Cond.code yJ0_checkIndex_df160 cJ0_checkIndex_df160 2 none, Cond.fieldLink RJ0 1053 "jdk/internal/util/Preconditions" "SIOOBE_FORMATTER" "Ljava/util/function/BiFunction;", Cond.methodLink RJ0 1059 yJ3_checkIndex_8e157, Cond.methodLink RJ0 498 yJ2_charAt_3b067, Cond.static yJ2_charAt_3b067, Cond.initialized RJ2, Cond.code yJ2_charAt_3b067 cJ2_charAt_3b067 2 (some .char), Cond.methodLink RJ2 67 yJ2_checkIndex_2214a, Cond.static yJ2_checkIndex_2214a, Cond.code yJ2_checkIndex_2214a cJ2_checkIndex_2214a 2 none, Cond.methodLink RJ2 48 yJ2_length_9d52b, Cond.static yJ2_length_9d52b, Cond.code yJ2_length_9d52b cJ2_length_9d52b 1 (some .int)]
def wsX7_label_r4 : List Cond := [Cond.methodLink RJ2 414 yJ0_checkIndex_df160, Cond.methodLink RJ2 71 yJ2_getChar_3b067, Cond.static yJ2_getChar_3b067, Cond.code yJ2_getChar_3b067 cJ2_getChar_3b067 2 (some .char), Cond.fieldLink RJ2 44 "java/lang/StringUTF16" "$assertionsDisabled" "Z", Cond.fieldLink RJ2 59 "java/lang/StringUTF16" "HI_BYTE_SHIFT" "I", Cond.fieldLink RJ2 63 "java/lang/StringUTF16" "LO_BYTE_SHIFT" "I"]
def wsX7_label : List Cond := .code yX7_label cX7_label 4 (some .char) :: ((wsX7_label_r1 ++ (wsX7_label_r2 ++ (wsX7_label_r3 ++ wsX7_label_r4))) ++ wsX50 ++ wsX70 ++ wsJx4a65c0 ++ wsJ00 ++ (vx_atS RX7 255 "java/lang/IndexOutOfBoundsException" ["java/lang/RuntimeException", "java/lang/Exception"]).filter goodWord)
def wsX8_init_r1 : List Cond := [Cond.methodLink RX8 1 objectInit, Cond.instanceMethod objectInit, Cond.code objectInit ⟨#[0xb1]⟩ 1 none, Cond.arrayClass .int, Cond.fieldLink RX8 7 "MarkChatModel" "role" "[I", Cond.fieldLink RX8 13 "MarkChatModel" "end" "[I", Cond.fieldLink RX8 16 "MarkChatModel" "budget" "[I", Cond.arrayClass .boolean, Cond.fieldLink RX8 19 "MarkChatModel" "isHeld" "[Z", Cond.fieldLink RX8 23 "MarkChatModel" "author" "[I", Cond.fieldLink RX8 26 "MarkChatModel" "channel" "[I", Cond.fieldLink RX8 29 "MarkChatModel" "parent" "[I", Cond.fieldLink RX8 32 "MarkChatModel" "version" "[I", Cond.fieldLink RX8 35 "MarkChatModel" "posted" "[I", Cond.fieldLink RX8 38 "MarkChatModel" "isArchived" "[Z", Cond.fieldLink RX8 41 "MarkChatModel" "mark" "[I", Cond.fieldLink RX8 44 "MarkChatModel" "marked" "[I", Cond.fieldLink RX8 47 "MarkChatModel" "spendMessage" "[I", Cond.fieldLink RX8 50 "MarkChatModel" "spendVersion" "[I", Cond.fieldLink RX8 53 "MarkChatModel" "spent" "[I", Cond.fieldLink RX8 56 "MarkChatModel" "wentBack" "[Z", Cond.fieldLink RX8 59 "MarkChatModel" "taskMessage" "[I", Cond.fieldLink RX8 62 "MarkChatModel" "taskVersion" "[I", Cond.fieldLink RX8 65 "MarkChatModel" "taskUser" "[I"]
def wsX8_init_r2 : List Cond := [Cond.fieldLink RX8 68 "MarkChatModel" "until" "[I", Cond.fieldLink RX8 71 "MarkChatModel" "state" "[I", Cond.fieldLink RX8 74 "MarkChatModel" "text" "[I"]
def wsX8_init : List Cond := .code yX8_init cX8_init 1 none :: ((wsX8_init_r1 ++ wsX8_init_r2) ++ wsX80)
def wsX8_thrown : List Cond := .code yX8_thrown cX8_thrown 1 (some .int) :: ([.fieldLink RX8 77 "MarkChatModel" "thrown" "I"] ++ wsX80)
def wsX8_fails : List Cond := .code yX8_fails cX8_fails 2 (some .boolean) :: ([.fieldLink RX8 77 "MarkChatModel" "thrown" "I"] ++ wsX80)
def wsX8_isIn : List Cond := .code yX8_isIn cX8_isIn 3 (some .boolean) :: ([])
def wsX8_isUser : List Cond := .code yX8_isUser cX8_isUser 2 (some .boolean) :: ([.fieldLink RX8 81 "MarkChatModel" "users" "I", .methodLink RX8 84 yX8_isIn, .static yX8_isIn, .initialized RX8, .code yX8_isIn cX8_isIn 3 (some .boolean)] ++ wsX80)
def wsX8_isGone : List Cond := .code yX8_isGone cX8_isGone 2 (some .boolean) :: ([.fieldLink RX8 13 "MarkChatModel" "end" "[I", .fieldLink RX8 88 "MarkChatModel" "hour" "I"] ++ wsX80)
def wsX8_isChannel : List Cond := .code yX8_isChannel cX8_isChannel 1 (some .boolean) :: ([.methodLink RX8 84 yX8_isIn, .static yX8_isIn, .initialized RX8, .code yX8_isIn cX8_isIn 3 (some .boolean)])
def wsX8_isMessage : List Cond := .code yX8_isMessage cX8_isMessage 2 (some .boolean) :: ([.fieldLink RX8 91 "MarkChatModel" "messages" "I", .methodLink RX8 84 yX8_isIn, .static yX8_isIn, .initialized RX8, .code yX8_isIn cX8_isIn 3 (some .boolean)] ++ wsX80)
def wsX8_counts : List Cond := .code yX8_counts cX8_counts 4 (some .boolean) :: ([.fieldLink RX8 41 "MarkChatModel" "mark" "[I", .fieldLink RX8 44 "MarkChatModel" "marked" "[I", .fieldLink RX8 32 "MarkChatModel" "version" "[I", .fieldLink RX8 7 "MarkChatModel" "role" "[I", .methodLink RX8 94 yX8_isGone, .instanceMethod yX8_isGone, .selects RX8 yX8_isGone yX8_isGone, .initialized RX8, .code yX8_isGone cX8_isGone 2 (some .boolean), .fieldLink RX8 13 "MarkChatModel" "end" "[I", .fieldLink RX8 88 "MarkChatModel" "hour" "I"] ++ wsX80)
def wsX8_counted : List Cond := .code yX8_counted cX8_counted 4 (some .int) :: ([.fieldLink RX8 81 "MarkChatModel" "users" "I", .methodLink RX8 98 yX8_counts, .instanceMethod yX8_counts, .selects RX8 yX8_counts yX8_counts, .initialized RX8, .code yX8_counts cX8_counts 4 (some .boolean), .fieldLink RX8 41 "MarkChatModel" "mark" "[I", .fieldLink RX8 44 "MarkChatModel" "marked" "[I", .fieldLink RX8 32 "MarkChatModel" "version" "[I", .fieldLink RX8 7 "MarkChatModel" "role" "[I", .methodLink RX8 94 yX8_isGone, .instanceMethod yX8_isGone, .selects RX8 yX8_isGone yX8_isGone, .code yX8_isGone cX8_isGone 2 (some .boolean), .fieldLink RX8 13 "MarkChatModel" "end" "[I", .fieldLink RX8 88 "MarkChatModel" "hour" "I"] ++ wsX80)
def wsX8_approves : List Cond := .code yX8_approves cX8_approves 8 (some .boolean) :: ([.fieldLink RX8 81 "MarkChatModel" "users" "I", .fieldLink RX8 41 "MarkChatModel" "mark" "[I", .fieldLink RX8 7 "MarkChatModel" "role" "[I", .fieldLink RX8 23 "MarkChatModel" "author" "[I", .methodLink RX8 98 yX8_counts, .instanceMethod yX8_counts, .selects RX8 yX8_counts yX8_counts, .initialized RX8, .code yX8_counts cX8_counts 4 (some .boolean), .fieldLink RX8 44 "MarkChatModel" "marked" "[I", .fieldLink RX8 32 "MarkChatModel" "version" "[I", .methodLink RX8 94 yX8_isGone, .instanceMethod yX8_isGone, .selects RX8 yX8_isGone yX8_isGone, .code yX8_isGone cX8_isGone 2 (some .boolean), .fieldLink RX8 13 "MarkChatModel" "end" "[I", .fieldLink RX8 88 "MarkChatModel" "hour" "I"] ++ wsX80)
def wsX8_settles_r1 : List Cond := [Cond.fieldLink RX8 102 "MarkChatModel" "spends" "I", Cond.fieldLink RX8 47 "MarkChatModel" "spendMessage" "[I", Cond.fieldLink RX8 56 "MarkChatModel" "wentBack" "[Z", Cond.fieldLink RX8 32 "MarkChatModel" "version" "[I", Cond.fieldLink RX8 50 "MarkChatModel" "spendVersion" "[I", Cond.fieldLink RX8 53 "MarkChatModel" "spent" "[I", Cond.fieldLink RX8 16 "MarkChatModel" "budget" "[I", Cond.fieldLink RX8 26 "MarkChatModel" "channel" "[I", Cond.methodLink RX8 105 yX8_approves, Cond.instanceMethod yX8_approves, Cond.selects RX8 yX8_approves yX8_approves, Cond.initialized RX8, Cond.code yX8_approves cX8_approves 8 (some .boolean), Cond.fieldLink RX8 81 "MarkChatModel" "users" "I", Cond.fieldLink RX8 41 "MarkChatModel" "mark" "[I", Cond.fieldLink RX8 7 "MarkChatModel" "role" "[I", Cond.fieldLink RX8 23 "MarkChatModel" "author" "[I", Cond.methodLink RX8 98 yX8_counts, Cond.instanceMethod yX8_counts, Cond.selects RX8 yX8_counts yX8_counts, Cond.code yX8_counts cX8_counts 4 (some .boolean), Cond.fieldLink RX8 44 "MarkChatModel" "marked" "[I", Cond.methodLink RX8 94 yX8_isGone, Cond.instanceMethod yX8_isGone]
def wsX8_settles_r2 : List Cond := [Cond.selects RX8 yX8_isGone yX8_isGone, Cond.code yX8_isGone cX8_isGone 2 (some .boolean), Cond.fieldLink RX8 13 "MarkChatModel" "end" "[I", Cond.fieldLink RX8 88 "MarkChatModel" "hour" "I"]
def wsX8_settles : List Cond := .code yX8_settles cX8_settles 3 none :: ((wsX8_settles_r1 ++ wsX8_settles_r2) ++ wsX80)
def wsX8_isRole : List Cond := .code yX8_isRole cX8_isRole 1 (some .boolean) :: ([.methodLink RX8 84 yX8_isIn, .static yX8_isIn, .initialized RX8, .code yX8_isIn cX8_isIn 3 (some .boolean)])
def wsX8_user : List Cond := .code yX8_user cX8_user 2 (some .int) :: ([.fieldLink RX8 81 "MarkChatModel" "users" "I", .fieldLink RX8 7 "MarkChatModel" "role" "[I", .fieldLink RX8 13 "MarkChatModel" "end" "[I", .methodLink RX8 108 yX8_isRole, .static yX8_isRole, .initialized RX8, .code yX8_isRole cX8_isRole 1 (some .boolean), .methodLink RX8 84 yX8_isIn, .static yX8_isIn, .code yX8_isIn cX8_isIn 3 (some .boolean), .methodLink RX8 111 yX8_fails, .instanceMethod yX8_fails, .selects RX8 yX8_fails yX8_fails, .code yX8_fails cX8_fails 2 (some .boolean), .fieldLink RX8 77 "MarkChatModel" "thrown" "I"] ++ wsX80)
def wsX8_role_r1 : List Cond := [Cond.fieldLink RX8 7 "MarkChatModel" "role" "[I", Cond.methodLink RX8 114 yX8_isUser, Cond.instanceMethod yX8_isUser, Cond.selects RX8 yX8_isUser yX8_isUser, Cond.initialized RX8, Cond.code yX8_isUser cX8_isUser 2 (some .boolean), Cond.fieldLink RX8 81 "MarkChatModel" "users" "I", Cond.methodLink RX8 84 yX8_isIn, Cond.static yX8_isIn, Cond.code yX8_isIn cX8_isIn 3 (some .boolean), Cond.methodLink RX8 108 yX8_isRole, Cond.static yX8_isRole, Cond.code yX8_isRole cX8_isRole 1 (some .boolean), Cond.methodLink RX8 111 yX8_fails, Cond.instanceMethod yX8_fails, Cond.selects RX8 yX8_fails yX8_fails, Cond.code yX8_fails cX8_fails 2 (some .boolean), Cond.fieldLink RX8 77 "MarkChatModel" "thrown" "I", Cond.methodLink RX8 117 yX8_settles, Cond.instanceMethod yX8_settles, Cond.selects RX8 yX8_settles yX8_settles, Cond.code yX8_settles cX8_settles 3 none, Cond.fieldLink RX8 102 "MarkChatModel" "spends" "I", Cond.fieldLink RX8 47 "MarkChatModel" "spendMessage" "[I"]
def wsX8_role_r2 : List Cond := [Cond.fieldLink RX8 56 "MarkChatModel" "wentBack" "[Z", Cond.fieldLink RX8 32 "MarkChatModel" "version" "[I", Cond.fieldLink RX8 50 "MarkChatModel" "spendVersion" "[I", Cond.fieldLink RX8 53 "MarkChatModel" "spent" "[I", Cond.fieldLink RX8 16 "MarkChatModel" "budget" "[I", Cond.fieldLink RX8 26 "MarkChatModel" "channel" "[I", Cond.methodLink RX8 105 yX8_approves, Cond.instanceMethod yX8_approves, Cond.selects RX8 yX8_approves yX8_approves, Cond.code yX8_approves cX8_approves 8 (some .boolean), Cond.fieldLink RX8 41 "MarkChatModel" "mark" "[I", Cond.fieldLink RX8 23 "MarkChatModel" "author" "[I", Cond.methodLink RX8 98 yX8_counts, Cond.instanceMethod yX8_counts, Cond.selects RX8 yX8_counts yX8_counts, Cond.code yX8_counts cX8_counts 4 (some .boolean), Cond.fieldLink RX8 44 "MarkChatModel" "marked" "[I", Cond.methodLink RX8 94 yX8_isGone, Cond.instanceMethod yX8_isGone, Cond.selects RX8 yX8_isGone yX8_isGone, Cond.code yX8_isGone cX8_isGone 2 (some .boolean), Cond.fieldLink RX8 13 "MarkChatModel" "end" "[I", Cond.fieldLink RX8 88 "MarkChatModel" "hour" "I"]
def wsX8_role : List Cond := .code yX8_role cX8_role 4 (some .int) :: ((wsX8_role_r1 ++ wsX8_role_r2) ++ wsX80)
def wsX8_ends_r1 : List Cond := [Cond.fieldLink RX8 13 "MarkChatModel" "end" "[I", Cond.fieldLink RX8 88 "MarkChatModel" "hour" "I", Cond.methodLink RX8 114 yX8_isUser, Cond.instanceMethod yX8_isUser, Cond.selects RX8 yX8_isUser yX8_isUser, Cond.initialized RX8, Cond.code yX8_isUser cX8_isUser 2 (some .boolean), Cond.fieldLink RX8 81 "MarkChatModel" "users" "I", Cond.methodLink RX8 84 yX8_isIn, Cond.static yX8_isIn, Cond.code yX8_isIn cX8_isIn 3 (some .boolean), Cond.methodLink RX8 111 yX8_fails, Cond.instanceMethod yX8_fails, Cond.selects RX8 yX8_fails yX8_fails, Cond.code yX8_fails cX8_fails 2 (some .boolean), Cond.fieldLink RX8 77 "MarkChatModel" "thrown" "I", Cond.methodLink RX8 117 yX8_settles, Cond.instanceMethod yX8_settles, Cond.selects RX8 yX8_settles yX8_settles, Cond.code yX8_settles cX8_settles 3 none, Cond.fieldLink RX8 102 "MarkChatModel" "spends" "I", Cond.fieldLink RX8 47 "MarkChatModel" "spendMessage" "[I", Cond.fieldLink RX8 56 "MarkChatModel" "wentBack" "[Z", Cond.fieldLink RX8 32 "MarkChatModel" "version" "[I"]
def wsX8_ends_r2 : List Cond := [Cond.fieldLink RX8 50 "MarkChatModel" "spendVersion" "[I", Cond.fieldLink RX8 53 "MarkChatModel" "spent" "[I", Cond.fieldLink RX8 16 "MarkChatModel" "budget" "[I", Cond.fieldLink RX8 26 "MarkChatModel" "channel" "[I", Cond.methodLink RX8 105 yX8_approves, Cond.instanceMethod yX8_approves, Cond.selects RX8 yX8_approves yX8_approves, Cond.code yX8_approves cX8_approves 8 (some .boolean), Cond.fieldLink RX8 41 "MarkChatModel" "mark" "[I", Cond.fieldLink RX8 7 "MarkChatModel" "role" "[I", Cond.fieldLink RX8 23 "MarkChatModel" "author" "[I", Cond.methodLink RX8 98 yX8_counts, Cond.instanceMethod yX8_counts, Cond.selects RX8 yX8_counts yX8_counts, Cond.code yX8_counts cX8_counts 4 (some .boolean), Cond.fieldLink RX8 44 "MarkChatModel" "marked" "[I", Cond.methodLink RX8 94 yX8_isGone, Cond.instanceMethod yX8_isGone, Cond.selects RX8 yX8_isGone yX8_isGone, Cond.code yX8_isGone cX8_isGone 2 (some .boolean)]
def wsX8_ends : List Cond := .code yX8_ends cX8_ends 3 (some .int) :: ((wsX8_ends_r1 ++ wsX8_ends_r2) ++ wsX80)
def wsX8_budget : List Cond := .code yX8_budget cX8_budget 4 (some .int) :: ([.constant RX8 120 (1000000), .fieldLink RX8 16 "MarkChatModel" "budget" "[I", .constant RX8 124 (1000000000), .methodLink RX8 84 yX8_isIn, .static yX8_isIn, .initialized RX8, .code yX8_isIn cX8_isIn 3 (some .boolean), .methodLink RX8 121 yX8_isChannel, .static yX8_isChannel, .code yX8_isChannel cX8_isChannel 1 (some .boolean), .methodLink RX8 111 yX8_fails, .instanceMethod yX8_fails, .selects RX8 yX8_fails yX8_fails, .code yX8_fails cX8_fails 2 (some .boolean), .fieldLink RX8 77 "MarkChatModel" "thrown" "I"] ++ wsX80)
def wsX8_post_r1 : List Cond := [Cond.fieldLink RX8 91 "MarkChatModel" "messages" "I", Cond.fieldLink RX8 26 "MarkChatModel" "channel" "[I", Cond.fieldLink RX8 38 "MarkChatModel" "isArchived" "[Z", Cond.fieldLink RX8 23 "MarkChatModel" "author" "[I", Cond.fieldLink RX8 29 "MarkChatModel" "parent" "[I", Cond.fieldLink RX8 35 "MarkChatModel" "posted" "[I", Cond.fieldLink RX8 88 "MarkChatModel" "hour" "I", Cond.fieldLink RX8 41 "MarkChatModel" "mark" "[I", Cond.methodLink RX8 114 yX8_isUser, Cond.instanceMethod yX8_isUser, Cond.selects RX8 yX8_isUser yX8_isUser, Cond.initialized RX8, Cond.code yX8_isUser cX8_isUser 2 (some .boolean), Cond.fieldLink RX8 81 "MarkChatModel" "users" "I", Cond.methodLink RX8 84 yX8_isIn, Cond.static yX8_isIn, Cond.code yX8_isIn cX8_isIn 3 (some .boolean), Cond.methodLink RX8 121 yX8_isChannel, Cond.static yX8_isChannel, Cond.code yX8_isChannel cX8_isChannel 1 (some .boolean), Cond.methodLink RX8 125 yX8_isMessage, Cond.instanceMethod yX8_isMessage, Cond.selects RX8 yX8_isMessage yX8_isMessage, Cond.code yX8_isMessage cX8_isMessage 2 (some .boolean)]
def wsX8_post_r2 : List Cond := [Cond.methodLink RX8 94 yX8_isGone, Cond.instanceMethod yX8_isGone, Cond.selects RX8 yX8_isGone yX8_isGone, Cond.code yX8_isGone cX8_isGone 2 (some .boolean), Cond.fieldLink RX8 13 "MarkChatModel" "end" "[I", Cond.methodLink RX8 111 yX8_fails, Cond.instanceMethod yX8_fails, Cond.selects RX8 yX8_fails yX8_fails, Cond.code yX8_fails cX8_fails 2 (some .boolean), Cond.fieldLink RX8 77 "MarkChatModel" "thrown" "I"]
def wsX8_post : List Cond := .code yX8_post cX8_post 7 (some .int) :: ((wsX8_post_r1 ++ wsX8_post_r2) ++ wsX80)
def wsX8_edit_r1 : List Cond := [Cond.fieldLink RX8 23 "MarkChatModel" "author" "[I", Cond.fieldLink RX8 38 "MarkChatModel" "isArchived" "[Z", Cond.fieldLink RX8 32 "MarkChatModel" "version" "[I", Cond.fieldLink RX8 128 "MarkChatModel" "tasks" "I", Cond.fieldLink RX8 71 "MarkChatModel" "state" "[I", Cond.fieldLink RX8 59 "MarkChatModel" "taskMessage" "[I", Cond.methodLink RX8 114 yX8_isUser, Cond.instanceMethod yX8_isUser, Cond.selects RX8 yX8_isUser yX8_isUser, Cond.initialized RX8, Cond.code yX8_isUser cX8_isUser 2 (some .boolean), Cond.fieldLink RX8 81 "MarkChatModel" "users" "I", Cond.methodLink RX8 84 yX8_isIn, Cond.static yX8_isIn, Cond.code yX8_isIn cX8_isIn 3 (some .boolean), Cond.methodLink RX8 125 yX8_isMessage, Cond.instanceMethod yX8_isMessage, Cond.selects RX8 yX8_isMessage yX8_isMessage, Cond.code yX8_isMessage cX8_isMessage 2 (some .boolean), Cond.fieldLink RX8 91 "MarkChatModel" "messages" "I", Cond.methodLink RX8 94 yX8_isGone, Cond.instanceMethod yX8_isGone, Cond.selects RX8 yX8_isGone yX8_isGone, Cond.code yX8_isGone cX8_isGone 2 (some .boolean)]
def wsX8_edit_r2 : List Cond := [Cond.fieldLink RX8 13 "MarkChatModel" "end" "[I", Cond.fieldLink RX8 88 "MarkChatModel" "hour" "I", Cond.methodLink RX8 111 yX8_fails, Cond.instanceMethod yX8_fails, Cond.selects RX8 yX8_fails yX8_fails, Cond.code yX8_fails cX8_fails 2 (some .boolean), Cond.fieldLink RX8 77 "MarkChatModel" "thrown" "I", Cond.methodLink RX8 117 yX8_settles, Cond.instanceMethod yX8_settles, Cond.selects RX8 yX8_settles yX8_settles, Cond.code yX8_settles cX8_settles 3 none, Cond.fieldLink RX8 102 "MarkChatModel" "spends" "I", Cond.fieldLink RX8 47 "MarkChatModel" "spendMessage" "[I", Cond.fieldLink RX8 56 "MarkChatModel" "wentBack" "[Z", Cond.fieldLink RX8 50 "MarkChatModel" "spendVersion" "[I", Cond.fieldLink RX8 53 "MarkChatModel" "spent" "[I", Cond.fieldLink RX8 16 "MarkChatModel" "budget" "[I", Cond.fieldLink RX8 26 "MarkChatModel" "channel" "[I", Cond.methodLink RX8 105 yX8_approves, Cond.instanceMethod yX8_approves, Cond.selects RX8 yX8_approves yX8_approves, Cond.code yX8_approves cX8_approves 8 (some .boolean), Cond.fieldLink RX8 41 "MarkChatModel" "mark" "[I", Cond.fieldLink RX8 7 "MarkChatModel" "role" "[I"]
def wsX8_edit_r3 : List Cond := [Cond.methodLink RX8 98 yX8_counts, Cond.instanceMethod yX8_counts, Cond.selects RX8 yX8_counts yX8_counts, Cond.code yX8_counts cX8_counts 4 (some .boolean), Cond.fieldLink RX8 44 "MarkChatModel" "marked" "[I"]
def wsX8_edit : List Cond := .code yX8_edit cX8_edit 5 (some .int) :: ((wsX8_edit_r1 ++ (wsX8_edit_r2 ++ wsX8_edit_r3)) ++ wsX80)
def wsX8_mark_r1 : List Cond := [Cond.fieldLink RX8 41 "MarkChatModel" "mark" "[I", Cond.fieldLink RX8 44 "MarkChatModel" "marked" "[I", Cond.fieldLink RX8 32 "MarkChatModel" "version" "[I", Cond.fieldLink RX8 38 "MarkChatModel" "isArchived" "[Z", Cond.methodLink RX8 114 yX8_isUser, Cond.instanceMethod yX8_isUser, Cond.selects RX8 yX8_isUser yX8_isUser, Cond.initialized RX8, Cond.code yX8_isUser cX8_isUser 2 (some .boolean), Cond.fieldLink RX8 81 "MarkChatModel" "users" "I", Cond.methodLink RX8 84 yX8_isIn, Cond.static yX8_isIn, Cond.code yX8_isIn cX8_isIn 3 (some .boolean), Cond.methodLink RX8 125 yX8_isMessage, Cond.instanceMethod yX8_isMessage, Cond.selects RX8 yX8_isMessage yX8_isMessage, Cond.code yX8_isMessage cX8_isMessage 2 (some .boolean), Cond.fieldLink RX8 91 "MarkChatModel" "messages" "I", Cond.methodLink RX8 94 yX8_isGone, Cond.instanceMethod yX8_isGone, Cond.selects RX8 yX8_isGone yX8_isGone, Cond.code yX8_isGone cX8_isGone 2 (some .boolean), Cond.fieldLink RX8 13 "MarkChatModel" "end" "[I", Cond.fieldLink RX8 88 "MarkChatModel" "hour" "I"]
def wsX8_mark_r2 : List Cond := [Cond.methodLink RX8 111 yX8_fails, Cond.instanceMethod yX8_fails, Cond.selects RX8 yX8_fails yX8_fails, Cond.code yX8_fails cX8_fails 2 (some .boolean), Cond.fieldLink RX8 77 "MarkChatModel" "thrown" "I", Cond.methodLink RX8 117 yX8_settles, Cond.instanceMethod yX8_settles, Cond.selects RX8 yX8_settles yX8_settles, Cond.code yX8_settles cX8_settles 3 none, Cond.fieldLink RX8 102 "MarkChatModel" "spends" "I", Cond.fieldLink RX8 47 "MarkChatModel" "spendMessage" "[I", Cond.fieldLink RX8 56 "MarkChatModel" "wentBack" "[Z", Cond.fieldLink RX8 50 "MarkChatModel" "spendVersion" "[I", Cond.fieldLink RX8 53 "MarkChatModel" "spent" "[I", Cond.fieldLink RX8 16 "MarkChatModel" "budget" "[I", Cond.fieldLink RX8 26 "MarkChatModel" "channel" "[I", Cond.methodLink RX8 105 yX8_approves, Cond.instanceMethod yX8_approves, Cond.selects RX8 yX8_approves yX8_approves, Cond.code yX8_approves cX8_approves 8 (some .boolean), Cond.fieldLink RX8 7 "MarkChatModel" "role" "[I", Cond.fieldLink RX8 23 "MarkChatModel" "author" "[I", Cond.methodLink RX8 98 yX8_counts, Cond.instanceMethod yX8_counts]
def wsX8_mark_r3 : List Cond := [Cond.selects RX8 yX8_counts yX8_counts, Cond.code yX8_counts cX8_counts 4 (some .boolean), Cond.methodLink RX8 131 yX8_counted, Cond.instanceMethod yX8_counted, Cond.selects RX8 yX8_counted yX8_counted, Cond.code yX8_counted cX8_counted 4 (some .int)]
def wsX8_mark : List Cond := .code yX8_mark cX8_mark 8 (some .int) :: ((wsX8_mark_r1 ++ (wsX8_mark_r2 ++ wsX8_mark_r3)) ++ wsX80)
def wsX8_spend_r1 : List Cond := [Cond.constant RX8 120 (1000000), Cond.fieldLink RX8 38 "MarkChatModel" "isArchived" "[Z", Cond.fieldLink RX8 102 "MarkChatModel" "spends" "I", Cond.fieldLink RX8 16 "MarkChatModel" "budget" "[I", Cond.fieldLink RX8 26 "MarkChatModel" "channel" "[I", Cond.fieldLink RX8 47 "MarkChatModel" "spendMessage" "[I", Cond.fieldLink RX8 50 "MarkChatModel" "spendVersion" "[I", Cond.fieldLink RX8 32 "MarkChatModel" "version" "[I", Cond.fieldLink RX8 53 "MarkChatModel" "spent" "[I", Cond.fieldLink RX8 56 "MarkChatModel" "wentBack" "[Z", Cond.methodLink RX8 114 yX8_isUser, Cond.instanceMethod yX8_isUser, Cond.selects RX8 yX8_isUser yX8_isUser, Cond.initialized RX8, Cond.code yX8_isUser cX8_isUser 2 (some .boolean), Cond.fieldLink RX8 81 "MarkChatModel" "users" "I", Cond.methodLink RX8 84 yX8_isIn, Cond.static yX8_isIn, Cond.code yX8_isIn cX8_isIn 3 (some .boolean), Cond.methodLink RX8 125 yX8_isMessage, Cond.instanceMethod yX8_isMessage, Cond.selects RX8 yX8_isMessage yX8_isMessage, Cond.code yX8_isMessage cX8_isMessage 2 (some .boolean), Cond.fieldLink RX8 91 "MarkChatModel" "messages" "I"]
def wsX8_spend_r2 : List Cond := [Cond.methodLink RX8 94 yX8_isGone, Cond.instanceMethod yX8_isGone, Cond.selects RX8 yX8_isGone yX8_isGone, Cond.code yX8_isGone cX8_isGone 2 (some .boolean), Cond.fieldLink RX8 13 "MarkChatModel" "end" "[I", Cond.fieldLink RX8 88 "MarkChatModel" "hour" "I", Cond.methodLink RX8 105 yX8_approves, Cond.instanceMethod yX8_approves, Cond.selects RX8 yX8_approves yX8_approves, Cond.code yX8_approves cX8_approves 8 (some .boolean), Cond.fieldLink RX8 41 "MarkChatModel" "mark" "[I", Cond.fieldLink RX8 7 "MarkChatModel" "role" "[I", Cond.fieldLink RX8 23 "MarkChatModel" "author" "[I", Cond.methodLink RX8 98 yX8_counts, Cond.instanceMethod yX8_counts, Cond.selects RX8 yX8_counts yX8_counts, Cond.code yX8_counts cX8_counts 4 (some .boolean), Cond.fieldLink RX8 44 "MarkChatModel" "marked" "[I", Cond.methodLink RX8 111 yX8_fails, Cond.instanceMethod yX8_fails, Cond.selects RX8 yX8_fails yX8_fails, Cond.code yX8_fails cX8_fails 2 (some .boolean), Cond.fieldLink RX8 77 "MarkChatModel" "thrown" "I"]
def wsX8_spend : List Cond := .code yX8_spend cX8_spend 7 (some .int) :: ((wsX8_spend_r1 ++ wsX8_spend_r2) ++ wsX80)
def wsX8_task_r1 : List Cond := [Cond.fieldLink RX8 38 "MarkChatModel" "isArchived" "[Z", Cond.fieldLink RX8 128 "MarkChatModel" "tasks" "I", Cond.fieldLink RX8 59 "MarkChatModel" "taskMessage" "[I", Cond.fieldLink RX8 62 "MarkChatModel" "taskVersion" "[I", Cond.fieldLink RX8 32 "MarkChatModel" "version" "[I", Cond.fieldLink RX8 65 "MarkChatModel" "taskUser" "[I", Cond.fieldLink RX8 68 "MarkChatModel" "until" "[I", Cond.fieldLink RX8 88 "MarkChatModel" "hour" "I", Cond.fieldLink RX8 71 "MarkChatModel" "state" "[I", Cond.methodLink RX8 114 yX8_isUser, Cond.instanceMethod yX8_isUser, Cond.selects RX8 yX8_isUser yX8_isUser, Cond.initialized RX8, Cond.code yX8_isUser cX8_isUser 2 (some .boolean), Cond.fieldLink RX8 81 "MarkChatModel" "users" "I", Cond.methodLink RX8 84 yX8_isIn, Cond.static yX8_isIn, Cond.code yX8_isIn cX8_isIn 3 (some .boolean), Cond.methodLink RX8 125 yX8_isMessage, Cond.instanceMethod yX8_isMessage, Cond.selects RX8 yX8_isMessage yX8_isMessage, Cond.code yX8_isMessage cX8_isMessage 2 (some .boolean), Cond.fieldLink RX8 91 "MarkChatModel" "messages" "I", Cond.methodLink RX8 94 yX8_isGone]
def wsX8_task_r2 : List Cond := [Cond.instanceMethod yX8_isGone, Cond.selects RX8 yX8_isGone yX8_isGone, Cond.code yX8_isGone cX8_isGone 2 (some .boolean), Cond.fieldLink RX8 13 "MarkChatModel" "end" "[I", Cond.methodLink RX8 111 yX8_fails, Cond.instanceMethod yX8_fails, Cond.selects RX8 yX8_fails yX8_fails, Cond.code yX8_fails cX8_fails 2 (some .boolean), Cond.fieldLink RX8 77 "MarkChatModel" "thrown" "I"]
def wsX8_task : List Cond := .code yX8_task cX8_task 7 (some .int) :: ((wsX8_task_r1 ++ wsX8_task_r2) ++ wsX80)
def wsX8_isTask : List Cond := .code yX8_isTask cX8_isTask 2 (some .boolean) :: ([.fieldLink RX8 128 "MarkChatModel" "tasks" "I", .methodLink RX8 84 yX8_isIn, .static yX8_isIn, .initialized RX8, .code yX8_isIn cX8_isIn 3 (some .boolean)] ++ wsX80)
def wsX8_done_r1 : List Cond := [Cond.fieldLink RX8 65 "MarkChatModel" "taskUser" "[I", Cond.fieldLink RX8 71 "MarkChatModel" "state" "[I", Cond.fieldLink RX8 68 "MarkChatModel" "until" "[I", Cond.fieldLink RX8 88 "MarkChatModel" "hour" "I", Cond.methodLink RX8 114 yX8_isUser, Cond.instanceMethod yX8_isUser, Cond.selects RX8 yX8_isUser yX8_isUser, Cond.initialized RX8, Cond.code yX8_isUser cX8_isUser 2 (some .boolean), Cond.fieldLink RX8 81 "MarkChatModel" "users" "I", Cond.methodLink RX8 84 yX8_isIn, Cond.static yX8_isIn, Cond.code yX8_isIn cX8_isIn 3 (some .boolean), Cond.methodLink RX8 135 yX8_isTask, Cond.instanceMethod yX8_isTask, Cond.selects RX8 yX8_isTask yX8_isTask, Cond.code yX8_isTask cX8_isTask 2 (some .boolean), Cond.fieldLink RX8 128 "MarkChatModel" "tasks" "I", Cond.methodLink RX8 94 yX8_isGone, Cond.instanceMethod yX8_isGone, Cond.selects RX8 yX8_isGone yX8_isGone, Cond.code yX8_isGone cX8_isGone 2 (some .boolean), Cond.fieldLink RX8 13 "MarkChatModel" "end" "[I", Cond.methodLink RX8 111 yX8_fails]
def wsX8_done_r2 : List Cond := [Cond.instanceMethod yX8_fails, Cond.selects RX8 yX8_fails yX8_fails, Cond.code yX8_fails cX8_fails 2 (some .boolean), Cond.fieldLink RX8 77 "MarkChatModel" "thrown" "I"]
def wsX8_done : List Cond := .code yX8_done cX8_done 4 (some .int) :: ((wsX8_done_r1 ++ wsX8_done_r2) ++ wsX80)
def wsX8_hold : List Cond := .code yX8_hold cX8_hold 2 (some .boolean) :: ([.fieldLink RX8 19 "MarkChatModel" "isHeld" "[Z", .methodLink RX8 121 yX8_isChannel, .static yX8_isChannel, .initialized RX8, .code yX8_isChannel cX8_isChannel 1 (some .boolean), .methodLink RX8 84 yX8_isIn, .static yX8_isIn, .code yX8_isIn cX8_isIn 3 (some .boolean), .methodLink RX8 111 yX8_fails, .instanceMethod yX8_fails, .selects RX8 yX8_fails yX8_fails, .code yX8_fails cX8_fails 2 (some .boolean), .fieldLink RX8 77 "MarkChatModel" "thrown" "I"] ++ wsX80)
def wsX8_canArchive : List Cond := .code yX8_canArchive cX8_canArchive 4 (some .boolean) :: ([.fieldLink RX8 38 "MarkChatModel" "isArchived" "[Z", .fieldLink RX8 88 "MarkChatModel" "hour" "I", .fieldLink RX8 35 "MarkChatModel" "posted" "[I", .fieldLink RX8 102 "MarkChatModel" "spends" "I", .fieldLink RX8 47 "MarkChatModel" "spendMessage" "[I", .fieldLink RX8 56 "MarkChatModel" "wentBack" "[Z", .fieldLink RX8 128 "MarkChatModel" "tasks" "I", .fieldLink RX8 59 "MarkChatModel" "taskMessage" "[I", .fieldLink RX8 71 "MarkChatModel" "state" "[I", .fieldLink RX8 91 "MarkChatModel" "messages" "I", .fieldLink RX8 29 "MarkChatModel" "parent" "[I"] ++ wsX80)
def wsX8_archive_r1 : List Cond := [Cond.fieldLink RX8 19 "MarkChatModel" "isHeld" "[Z", Cond.fieldLink RX8 91 "MarkChatModel" "messages" "I", Cond.fieldLink RX8 26 "MarkChatModel" "channel" "[I", Cond.fieldLink RX8 38 "MarkChatModel" "isArchived" "[Z", Cond.methodLink RX8 121 yX8_isChannel, Cond.static yX8_isChannel, Cond.initialized RX8, Cond.code yX8_isChannel cX8_isChannel 1 (some .boolean), Cond.methodLink RX8 84 yX8_isIn, Cond.static yX8_isIn, Cond.code yX8_isIn cX8_isIn 3 (some .boolean), Cond.methodLink RX8 111 yX8_fails, Cond.instanceMethod yX8_fails, Cond.selects RX8 yX8_fails yX8_fails, Cond.code yX8_fails cX8_fails 2 (some .boolean), Cond.fieldLink RX8 77 "MarkChatModel" "thrown" "I", Cond.methodLink RX8 138 yX8_canArchive, Cond.instanceMethod yX8_canArchive, Cond.selects RX8 yX8_canArchive yX8_canArchive, Cond.code yX8_canArchive cX8_canArchive 4 (some .boolean), Cond.fieldLink RX8 88 "MarkChatModel" "hour" "I", Cond.fieldLink RX8 35 "MarkChatModel" "posted" "[I", Cond.fieldLink RX8 102 "MarkChatModel" "spends" "I", Cond.fieldLink RX8 47 "MarkChatModel" "spendMessage" "[I"]
def wsX8_archive_r2 : List Cond := [Cond.fieldLink RX8 56 "MarkChatModel" "wentBack" "[Z", Cond.fieldLink RX8 128 "MarkChatModel" "tasks" "I", Cond.fieldLink RX8 59 "MarkChatModel" "taskMessage" "[I", Cond.fieldLink RX8 71 "MarkChatModel" "state" "[I", Cond.fieldLink RX8 29 "MarkChatModel" "parent" "[I"]
def wsX8_archive : List Cond := .code yX8_archive cX8_archive 4 (some .int) :: ((wsX8_archive_r1 ++ wsX8_archive_r2) ++ wsX80)
def wsX8_pass_r1 : List Cond := [Cond.fieldLink RX8 88 "MarkChatModel" "hour" "I", Cond.methodLink RX8 84 yX8_isIn, Cond.static yX8_isIn, Cond.initialized RX8, Cond.code yX8_isIn cX8_isIn 3 (some .boolean), Cond.methodLink RX8 111 yX8_fails, Cond.instanceMethod yX8_fails, Cond.selects RX8 yX8_fails yX8_fails, Cond.code yX8_fails cX8_fails 2 (some .boolean), Cond.fieldLink RX8 77 "MarkChatModel" "thrown" "I", Cond.methodLink RX8 117 yX8_settles, Cond.instanceMethod yX8_settles, Cond.selects RX8 yX8_settles yX8_settles, Cond.code yX8_settles cX8_settles 3 none, Cond.fieldLink RX8 102 "MarkChatModel" "spends" "I", Cond.fieldLink RX8 47 "MarkChatModel" "spendMessage" "[I", Cond.fieldLink RX8 56 "MarkChatModel" "wentBack" "[Z", Cond.fieldLink RX8 32 "MarkChatModel" "version" "[I", Cond.fieldLink RX8 50 "MarkChatModel" "spendVersion" "[I", Cond.fieldLink RX8 53 "MarkChatModel" "spent" "[I", Cond.fieldLink RX8 16 "MarkChatModel" "budget" "[I", Cond.fieldLink RX8 26 "MarkChatModel" "channel" "[I", Cond.methodLink RX8 105 yX8_approves, Cond.instanceMethod yX8_approves]
def wsX8_pass_r2 : List Cond := [Cond.selects RX8 yX8_approves yX8_approves, Cond.code yX8_approves cX8_approves 8 (some .boolean), Cond.fieldLink RX8 81 "MarkChatModel" "users" "I", Cond.fieldLink RX8 41 "MarkChatModel" "mark" "[I", Cond.fieldLink RX8 7 "MarkChatModel" "role" "[I", Cond.fieldLink RX8 23 "MarkChatModel" "author" "[I", Cond.methodLink RX8 98 yX8_counts, Cond.instanceMethod yX8_counts, Cond.selects RX8 yX8_counts yX8_counts, Cond.code yX8_counts cX8_counts 4 (some .boolean), Cond.fieldLink RX8 44 "MarkChatModel" "marked" "[I", Cond.methodLink RX8 94 yX8_isGone, Cond.instanceMethod yX8_isGone, Cond.selects RX8 yX8_isGone yX8_isGone, Cond.code yX8_isGone cX8_isGone 2 (some .boolean), Cond.fieldLink RX8 13 "MarkChatModel" "end" "[I"]
def wsX8_pass : List Cond := .code yX8_pass cX8_pass 3 (some .int) :: ((wsX8_pass_r1 ++ wsX8_pass_r2) ++ wsX80)
def wsX8_messageOf_r1 : List Cond := [Cond.fieldLink RX8 23 "MarkChatModel" "author" "[I", Cond.fieldLink RX8 26 "MarkChatModel" "channel" "[I", Cond.fieldLink RX8 29 "MarkChatModel" "parent" "[I", Cond.fieldLink RX8 32 "MarkChatModel" "version" "[I", Cond.fieldLink RX8 35 "MarkChatModel" "posted" "[I", Cond.fieldLink RX8 38 "MarkChatModel" "isArchived" "[Z", Cond.methodLink RX8 125 yX8_isMessage, Cond.instanceMethod yX8_isMessage, Cond.selects RX8 yX8_isMessage yX8_isMessage, Cond.initialized RX8, Cond.code yX8_isMessage cX8_isMessage 2 (some .boolean), Cond.fieldLink RX8 91 "MarkChatModel" "messages" "I", Cond.methodLink RX8 84 yX8_isIn, Cond.static yX8_isIn, Cond.code yX8_isIn cX8_isIn 3 (some .boolean), Cond.methodLink RX8 111 yX8_fails, Cond.instanceMethod yX8_fails, Cond.selects RX8 yX8_fails yX8_fails, Cond.code yX8_fails cX8_fails 2 (some .boolean), Cond.fieldLink RX8 77 "MarkChatModel" "thrown" "I", Cond.methodLink RX8 131 yX8_counted, Cond.instanceMethod yX8_counted, Cond.selects RX8 yX8_counted yX8_counted, Cond.code yX8_counted cX8_counted 4 (some .int)]
def wsX8_messageOf_r2 : List Cond := [Cond.fieldLink RX8 81 "MarkChatModel" "users" "I", Cond.methodLink RX8 98 yX8_counts, Cond.instanceMethod yX8_counts, Cond.selects RX8 yX8_counts yX8_counts, Cond.code yX8_counts cX8_counts 4 (some .boolean), Cond.fieldLink RX8 41 "MarkChatModel" "mark" "[I", Cond.fieldLink RX8 44 "MarkChatModel" "marked" "[I", Cond.fieldLink RX8 7 "MarkChatModel" "role" "[I", Cond.methodLink RX8 94 yX8_isGone, Cond.instanceMethod yX8_isGone, Cond.selects RX8 yX8_isGone yX8_isGone, Cond.code yX8_isGone cX8_isGone 2 (some .boolean), Cond.fieldLink RX8 13 "MarkChatModel" "end" "[I", Cond.fieldLink RX8 88 "MarkChatModel" "hour" "I"]
def wsX8_messageOf : List Cond := .code yX8_messageOf cX8_messageOf 3 (some .int) :: ((wsX8_messageOf_r1 ++ wsX8_messageOf_r2) ++ wsX80)
def wsX8_isApproved_r1 : List Cond := [Cond.constant RX8 120 (1000000), Cond.methodLink RX8 125 yX8_isMessage, Cond.instanceMethod yX8_isMessage, Cond.selects RX8 yX8_isMessage yX8_isMessage, Cond.initialized RX8, Cond.code yX8_isMessage cX8_isMessage 2 (some .boolean), Cond.fieldLink RX8 91 "MarkChatModel" "messages" "I", Cond.methodLink RX8 84 yX8_isIn, Cond.static yX8_isIn, Cond.code yX8_isIn cX8_isIn 3 (some .boolean), Cond.methodLink RX8 111 yX8_fails, Cond.instanceMethod yX8_fails, Cond.selects RX8 yX8_fails yX8_fails, Cond.code yX8_fails cX8_fails 2 (some .boolean), Cond.fieldLink RX8 77 "MarkChatModel" "thrown" "I", Cond.methodLink RX8 105 yX8_approves, Cond.instanceMethod yX8_approves, Cond.selects RX8 yX8_approves yX8_approves, Cond.code yX8_approves cX8_approves 8 (some .boolean), Cond.fieldLink RX8 81 "MarkChatModel" "users" "I", Cond.fieldLink RX8 41 "MarkChatModel" "mark" "[I", Cond.fieldLink RX8 7 "MarkChatModel" "role" "[I", Cond.fieldLink RX8 23 "MarkChatModel" "author" "[I", Cond.methodLink RX8 98 yX8_counts]
def wsX8_isApproved_r2 : List Cond := [Cond.instanceMethod yX8_counts, Cond.selects RX8 yX8_counts yX8_counts, Cond.code yX8_counts cX8_counts 4 (some .boolean), Cond.fieldLink RX8 44 "MarkChatModel" "marked" "[I", Cond.fieldLink RX8 32 "MarkChatModel" "version" "[I", Cond.methodLink RX8 94 yX8_isGone, Cond.instanceMethod yX8_isGone, Cond.selects RX8 yX8_isGone yX8_isGone, Cond.code yX8_isGone cX8_isGone 2 (some .boolean), Cond.fieldLink RX8 13 "MarkChatModel" "end" "[I", Cond.fieldLink RX8 88 "MarkChatModel" "hour" "I"]
def wsX8_isApproved : List Cond := .code yX8_isApproved cX8_isApproved 4 (some .boolean) :: ((wsX8_isApproved_r1 ++ wsX8_isApproved_r2) ++ wsX80)
def wsX8_spendOf : List Cond := .code yX8_spendOf cX8_spendOf 3 (some .int) :: ([.fieldLink RX8 102 "MarkChatModel" "spends" "I", .fieldLink RX8 56 "MarkChatModel" "wentBack" "[Z", .fieldLink RX8 47 "MarkChatModel" "spendMessage" "[I", .fieldLink RX8 50 "MarkChatModel" "spendVersion" "[I", .fieldLink RX8 53 "MarkChatModel" "spent" "[I", .methodLink RX8 84 yX8_isIn, .static yX8_isIn, .initialized RX8, .code yX8_isIn cX8_isIn 3 (some .boolean), .methodLink RX8 111 yX8_fails, .instanceMethod yX8_fails, .selects RX8 yX8_fails yX8_fails, .code yX8_fails cX8_fails 2 (some .boolean), .fieldLink RX8 77 "MarkChatModel" "thrown" "I"] ++ wsX80)
def wsX8_left : List Cond := .code yX8_left cX8_left 2 (some .int) :: ([.fieldLink RX8 16 "MarkChatModel" "budget" "[I", .methodLink RX8 121 yX8_isChannel, .static yX8_isChannel, .initialized RX8, .code yX8_isChannel cX8_isChannel 1 (some .boolean), .methodLink RX8 84 yX8_isIn, .static yX8_isIn, .code yX8_isIn cX8_isIn 3 (some .boolean), .methodLink RX8 111 yX8_fails, .instanceMethod yX8_fails, .selects RX8 yX8_fails yX8_fails, .code yX8_fails cX8_fails 2 (some .boolean), .fieldLink RX8 77 "MarkChatModel" "thrown" "I"] ++ wsX80)
def wsX8_next : List Cond := .code yX8_next cX8_next 8 (some .int) :: ([.fieldLink RX8 128 "MarkChatModel" "tasks" "I", .fieldLink RX8 68 "MarkChatModel" "until" "[I", .fieldLink RX8 65 "MarkChatModel" "taskUser" "[I", .fieldLink RX8 71 "MarkChatModel" "state" "[I", .methodLink RX8 114 yX8_isUser, .instanceMethod yX8_isUser, .selects RX8 yX8_isUser yX8_isUser, .initialized RX8, .code yX8_isUser cX8_isUser 2 (some .boolean), .fieldLink RX8 81 "MarkChatModel" "users" "I", .methodLink RX8 84 yX8_isIn, .static yX8_isIn, .code yX8_isIn cX8_isIn 3 (some .boolean), .methodLink RX8 111 yX8_fails, .instanceMethod yX8_fails, .selects RX8 yX8_fails yX8_fails, .code yX8_fails cX8_fails 2 (some .boolean), .fieldLink RX8 77 "MarkChatModel" "thrown" "I"] ++ wsX80)
def wsX8_taskOf : List Cond := .code yX8_taskOf cX8_taskOf 2 (some .int) :: ([.fieldLink RX8 71 "MarkChatModel" "state" "[I", .methodLink RX8 135 yX8_isTask, .instanceMethod yX8_isTask, .selects RX8 yX8_isTask yX8_isTask, .initialized RX8, .code yX8_isTask cX8_isTask 2 (some .boolean), .fieldLink RX8 128 "MarkChatModel" "tasks" "I", .methodLink RX8 84 yX8_isIn, .static yX8_isIn, .code yX8_isIn cX8_isIn 3 (some .boolean), .methodLink RX8 111 yX8_fails, .instanceMethod yX8_fails, .selects RX8 yX8_fails yX8_fails, .code yX8_fails cX8_fails 2 (some .boolean), .fieldLink RX8 77 "MarkChatModel" "thrown" "I"] ++ wsX80)
def wsX8_puts : List Cond := .code yX8_puts cX8_puts 2 none :: ([.fieldLink RX8 74 "MarkChatModel" "text" "[I", .fieldLink RX8 141 "MarkChatModel" "written" "I"] ++ wsX80)
def wsX8_putsNumber : List Cond := .code yX8_putsNumber cX8_putsNumber 4 none :: ([.methodLink RX8 144 yX8_puts, .instanceMethod yX8_puts, .selects RX8 yX8_puts yX8_puts, .initialized RX8, .code yX8_puts cX8_puts 2 none, .fieldLink RX8 74 "MarkChatModel" "text" "[I", .fieldLink RX8 141 "MarkChatModel" "written" "I"] ++ wsX80)
def wsX8_label_r1 : List Cond := [Cond.fieldLink RX8 141 "MarkChatModel" "written" "I", Cond.fieldLink RX8 59 "MarkChatModel" "taskMessage" "[I", Cond.fieldLink RX8 62 "MarkChatModel" "taskVersion" "[I", Cond.fieldLink RX8 65 "MarkChatModel" "taskUser" "[I", Cond.fieldLink RX8 68 "MarkChatModel" "until" "[I", Cond.fieldLink RX8 74 "MarkChatModel" "text" "[I", Cond.methodLink RX8 135 yX8_isTask, Cond.instanceMethod yX8_isTask, Cond.selects RX8 yX8_isTask yX8_isTask, Cond.initialized RX8, Cond.code yX8_isTask cX8_isTask 2 (some .boolean), Cond.fieldLink RX8 128 "MarkChatModel" "tasks" "I", Cond.methodLink RX8 84 yX8_isIn, Cond.static yX8_isIn, Cond.code yX8_isIn cX8_isIn 3 (some .boolean), Cond.methodLink RX8 111 yX8_fails, Cond.instanceMethod yX8_fails, Cond.selects RX8 yX8_fails yX8_fails, Cond.code yX8_fails cX8_fails 2 (some .boolean), Cond.fieldLink RX8 77 "MarkChatModel" "thrown" "I", Cond.methodLink RX8 148 yX8_putsNumber, Cond.instanceMethod yX8_putsNumber, Cond.selects RX8 yX8_putsNumber yX8_putsNumber, Cond.code yX8_putsNumber cX8_putsNumber 4 none]
def wsX8_label_r2 : List Cond := [Cond.methodLink RX8 144 yX8_puts, Cond.instanceMethod yX8_puts, Cond.selects RX8 yX8_puts yX8_puts, Cond.code yX8_puts cX8_puts 2 none]
def wsX8_label : List Cond := .code yX8_label cX8_label 3 (some .char) :: ((wsX8_label_r1 ++ wsX8_label_r2) ++ wsX80)
def wsJ2_putCharsAt_cd4e5 : List Cond := .code yJ2_putCharsAt_cd4e5 cJ2_putCharsAt_cd4e5 7 (some .int) :: ([.fieldLink RJ2 44 "java/lang/StringUTF16" "$assertionsDisabled" "Z", .methodLink RJ2 96 yJ2_checkBoundsBeginEnd_d044e, .static yJ2_checkBoundsBeginEnd_d044e, .initialized RJ2, .code yJ2_checkBoundsBeginEnd_d044e cJ2_checkBoundsBeginEnd_d044e 3 none, .methodLink RJ2 48 yJ2_length_9d52b, .static yJ2_length_9d52b, .code yJ2_length_9d52b cJ2_length_9d52b 1 (some .int), .methodLink RJ2 241 yJ0_checkBoundsBeginEnd_23922, .static yJ0_checkBoundsBeginEnd_23922, .initialized RJ0, .code yJ0_checkBoundsBeginEnd_23922 cJ0_checkBoundsBeginEnd_23922 3 none, .fieldLink RJ0 1053 "jdk/internal/util/Preconditions" "SIOOBE_FORMATTER" "Ljava/util/function/BiFunction;", .methodLink RJ0 1062 yJ3_checkFromToIndex_8c36e, .static yJ3_checkFromToIndex_8c36e, .initialized RJ3, .code yJ3_checkFromToIndex_8c36e cJ3_checkFromToIndex_8c36e 4 (some .int), .methodLink RJ2 111 yJ2_putChar_b72d1, .static yJ2_putChar_b72d1, .code yJ2_putChar_b72d1 cJ2_putChar_b72d1 3 none, .fieldLink RJ2 59 "java/lang/StringUTF16" "HI_BYTE_SHIFT" "I", .fieldLink RJ2 63 "java/lang/StringUTF16" "LO_BYTE_SHIFT" "I"])
def wsJ5_appendNull_278bc_r1 : List Cond := [Cond.fieldLink RJ5 79 "java/lang/AbstractStringBuilder" "count" "I", Cond.fieldLink RJ5 15 "java/lang/AbstractStringBuilder" "value" "[B", Cond.methodLink RJ5 100 ⟨"java/lang/AbstractStringBuilder", "ensureCapacityInternal", "(I)V"⟩, Cond.sameMethod "java/lang/AbstractStringBuilder" "java/lang/AbstractStringBuilder" "ensureCapacityInternal" "(I)V", Cond.selects RJ4 ⟨"java/lang/AbstractStringBuilder", "ensureCapacityInternal", "(I)V"⟩ yJ5_ensureCapacityInternal_d00df, Cond.instanceMethod yJ5_ensureCapacityInternal_d00df, Cond.initialized RJ5, Cond.code yJ5_ensureCapacityInternal_d00df cJ5_ensureCapacityInternal_d00df 3 none, Cond.fieldLink RJ5 22 "java/lang/AbstractStringBuilder" "coder" "B", Cond.methodLink RJ5 104 ⟨"java/lang/AbstractStringBuilder", "newCapacity", "(I)I"⟩, Cond.sameMethod "java/lang/AbstractStringBuilder" "java/lang/AbstractStringBuilder" "newCapacity" "(I)I", Cond.selects RJ4 ⟨"java/lang/AbstractStringBuilder", "newCapacity", "(I)I"⟩ yJ5_newCapacity_0f7a4, Cond.instanceMethod yJ5_newCapacity_0f7a4, Cond.code yJ5_newCapacity_0f7a4 cJ5_newCapacity_0f7a4 6 (some .int), Cond.constant RJ5 39 (2147483647), Cond.methodLink RJ5 114 yJ8_newLength_cabcc, Cond.static yJ8_newLength_cabcc, Cond.initialized RJ8, Cond.code yJ8_newLength_cabcc cJ8_newLength_cabcc 4 (some .int), Cond.methodLink RJ8 194 Lib.Math.max.name, Cond.static Lib.Math.max.name, Cond.initialized "java/lang/Math", Cond.code Lib.Math.max.name Lib.Math.max.code 2 (some .int), Cond.constant RJ8 200 (2147483639)]
def wsJ5_appendNull_278bc_r2 : List Cond := [Cond.methodLink RJ8 201 yJ8_hugeLength_7cf53, Cond.static yJ8_hugeLength_7cf53, Cond.code yJ8_hugeLength_7cf53 cJ8_hugeLength_7cf53 3 (some .int), Cond.methodLink RJ5 108 yJ7_copyOf_9075b, Cond.static yJ7_copyOf_9075b, Cond.initialized RJ7, Cond.code yJ7_copyOf_9075b cJ7_copyOf_9075b 3 (some (.array .byte)), Cond.methodLink RJ7 310 ⟨"[B", "clone", "()Ljava/lang/Object;"⟩, Cond.sameMethod "[B" "java/lang/Object" "clone" "()Ljava/lang/Object;", Cond.native ⟨"java/lang/Object", "clone", "()Ljava/lang/Object;"⟩, Cond.instanceMethod ⟨"java/lang/Object", "clone", "()Ljava/lang/Object;"⟩, Cond.selects "[B" ⟨"[B", "clone", "()Ljava/lang/Object;"⟩ ⟨"java/lang/Object", "clone", "()Ljava/lang/Object;"⟩, Cond.classLink RJ7 311 "[B", Cond.arrayClass .byte, Cond.methodLink RJ7 304 Lib.Math.min.name, Cond.static Lib.Math.min.name, Cond.code Lib.Math.min.name Lib.Math.min.code 2 (some .int), Cond.methodLink RJ7 150 arraycopyName, Cond.native arraycopyName, Cond.static arraycopyName, Cond.initialized "java/lang/System", Cond.methodLink RJ5 83 ⟨"java/lang/AbstractStringBuilder", "isLatin1", "()Z"⟩, Cond.sameMethod "java/lang/AbstractStringBuilder" "java/lang/AbstractStringBuilder" "isLatin1" "()Z", Cond.selects RJ4 ⟨"java/lang/AbstractStringBuilder", "isLatin1", "()Z"⟩ yJ5_isLatin1_aae02]
def wsJ5_appendNull_278bc_r3 : List Cond := [Cond.instanceMethod yJ5_isLatin1_aae02, Cond.code yJ5_isLatin1_aae02 cJ5_isLatin1_aae02 1 (some .boolean), Cond.fieldLink RJ5 18 "java/lang/String" "COMPACT_STRINGS" "Z", Cond.methodLink RJ5 226 yJ2_putCharsAt_cd4e5, Cond.static yJ2_putCharsAt_cd4e5, Cond.initialized RJ2, Cond.code yJ2_putCharsAt_cd4e5 cJ2_putCharsAt_cd4e5 7 (some .int), Cond.fieldLink RJ2 44 "java/lang/StringUTF16" "$assertionsDisabled" "Z", Cond.methodLink RJ2 96 yJ2_checkBoundsBeginEnd_d044e, Cond.static yJ2_checkBoundsBeginEnd_d044e, Cond.code yJ2_checkBoundsBeginEnd_d044e cJ2_checkBoundsBeginEnd_d044e 3 none, Cond.methodLink RJ2 48 yJ2_length_9d52b, Cond.static yJ2_length_9d52b, Cond.code yJ2_length_9d52b cJ2_length_9d52b 1 (some .int), Cond.methodLink RJ2 241 yJ0_checkBoundsBeginEnd_23922, Cond.static yJ0_checkBoundsBeginEnd_23922, Cond.initialized RJ0, Cond.code yJ0_checkBoundsBeginEnd_23922 cJ0_checkBoundsBeginEnd_23922 3 none, Cond.fieldLink RJ0 1053 "jdk/internal/util/Preconditions" "SIOOBE_FORMATTER" "Ljava/util/function/BiFunction;", Cond.methodLink RJ0 1062 yJ3_checkFromToIndex_8c36e, Cond.static yJ3_checkFromToIndex_8c36e, Cond.initialized RJ3, Cond.code yJ3_checkFromToIndex_8c36e cJ3_checkFromToIndex_8c36e 4 (some .int), Cond.methodLink RJ2 111 yJ2_putChar_b72d1]
def wsJ5_appendNull_278bc_r4 : List Cond := [Cond.static yJ2_putChar_b72d1, Cond.code yJ2_putChar_b72d1 cJ2_putChar_b72d1 3 none, Cond.fieldLink RJ2 59 "java/lang/StringUTF16" "HI_BYTE_SHIFT" "I", Cond.fieldLink RJ2 63 "java/lang/StringUTF16" "LO_BYTE_SHIFT" "I"]
def wsJ5_appendNull_278bc : List Cond := .code yJ5_appendNull_278bc cJ5_appendNull_278bc 3 (some (.object "java/lang/AbstractStringBuilder")) :: ((wsJ5_appendNull_278bc_r1 ++ (wsJ5_appendNull_278bc_r2 ++ (wsJ5_appendNull_278bc_r3 ++ wsJ5_appendNull_278bc_r4))) ++ wsJ40)
def wsJ5_inflateIfNeededFor_a7421_r1 : List Cond := [Cond.fieldLink RJ5 18 "java/lang/String" "COMPACT_STRINGS" "Z", Cond.fieldLink RJ5 22 "java/lang/AbstractStringBuilder" "coder" "B", Cond.methodLink RJ5 40 yJ0_coder_7d493, Cond.instanceMethod yJ0_coder_7d493, Cond.selects RJ0 yJ0_coder_7d493 yJ0_coder_7d493, Cond.initialized RJ0, Cond.code yJ0_coder_7d493 cJ0_coder_7d493 1 (some .byte), Cond.fieldLink RJ0 38 "java/lang/String" "COMPACT_STRINGS" "Z", Cond.fieldLink RJ0 15 "java/lang/String" "coder" "B", Cond.methodLink RJ5 195 ⟨"java/lang/AbstractStringBuilder", "inflate", "()V"⟩, Cond.sameMethod "java/lang/AbstractStringBuilder" "java/lang/AbstractStringBuilder" "inflate" "()V", Cond.selects RJ4 ⟨"java/lang/AbstractStringBuilder", "inflate", "()V"⟩ yJ5_inflate_da8c8, Cond.instanceMethod yJ5_inflate_da8c8, Cond.initialized RJ5, Cond.code yJ5_inflate_da8c8 cJ5_inflate_da8c8 2 none, Cond.fieldLink RJ5 15 "java/lang/AbstractStringBuilder" "value" "[B", Cond.fieldLink RJ5 79 "java/lang/AbstractStringBuilder" "count" "I", Cond.methodLink RJ5 83 ⟨"java/lang/AbstractStringBuilder", "isLatin1", "()Z"⟩, Cond.sameMethod "java/lang/AbstractStringBuilder" "java/lang/AbstractStringBuilder" "isLatin1" "()Z", Cond.selects RJ4 ⟨"java/lang/AbstractStringBuilder", "isLatin1", "()Z"⟩ yJ5_isLatin1_aae02, Cond.instanceMethod yJ5_isLatin1_aae02, Cond.code yJ5_isLatin1_aae02 cJ5_isLatin1_aae02 1 (some .boolean), Cond.methodLink RJ5 26 yJ2_newBytesFor_77867, Cond.static yJ2_newBytesFor_77867]
def wsJ5_inflateIfNeededFor_a7421_r2 : List Cond := [Cond.initialized RJ2, Cond.code yJ2_newBytesFor_77867 cJ2_newBytesFor_77867 1 (some (.array .byte)), Cond.arrayClass .byte, Cond.methodLink RJ2 11 yJ2_newBytesLength_0f7a4, Cond.static yJ2_newBytesLength_0f7a4, Cond.code yJ2_newBytesLength_0f7a4 cJ2_newBytesLength_0f7a4 1 (some .int), Cond.constant RJ2 20 (1073741823), Cond.methodLink RJ5 125 yJ1_inflate_0e8fd, Cond.static yJ1_inflate_0e8fd, Cond.initialized RJ1, Cond.code yJ1_inflate_0e8fd cJ1_inflate_0e8fd 5 none, Cond.methodLink RJ1 240 yJ2_inflate_0e8fd, Cond.static yJ2_inflate_0e8fd, Cond.code yJ2_inflate_0e8fd cJ2_inflate_0e8fd 6 none, Cond.methodLink RJ2 173 yJ2_checkBoundsOffCount_d044e, Cond.static yJ2_checkBoundsOffCount_d044e, Cond.code yJ2_checkBoundsOffCount_d044e cJ2_checkBoundsOffCount_d044e 3 none, Cond.methodLink RJ2 48 yJ2_length_9d52b, Cond.static yJ2_length_9d52b, Cond.code yJ2_length_9d52b cJ2_length_9d52b 1 (some .int), Cond.methodLink RJ2 419 yJ0_checkBoundsOffCount_cabcc, Cond.static yJ0_checkBoundsOffCount_cabcc, Cond.code yJ0_checkBoundsOffCount_cabcc cJ0_checkBoundsOffCount_cabcc 3 (some .int), Cond.fieldLink RJ0 1053 "jdk/internal/util/Preconditions" "SIOOBE_FORMATTER" "Ljava/util/function/BiFunction;"]
def wsJ5_inflateIfNeededFor_a7421_r3 : List Cond := [Cond.methodLink RJ0 1065 yJ3_checkFromIndexSize_8c36e, Cond.static yJ3_checkFromIndexSize_8c36e, Cond.initialized RJ3, Cond.code yJ3_checkFromIndexSize_8c36e cJ3_checkFromIndexSize_8c36e 4 (some .int), Cond.methodLink RJ2 111 yJ2_putChar_b72d1, Cond.static yJ2_putChar_b72d1, Cond.code yJ2_putChar_b72d1 cJ2_putChar_b72d1 3 none, Cond.fieldLink RJ2 44 "java/lang/StringUTF16" "$assertionsDisabled" "Z", Cond.fieldLink RJ2 59 "java/lang/StringUTF16" "HI_BYTE_SHIFT" "I", Cond.fieldLink RJ2 63 "java/lang/StringUTF16" "LO_BYTE_SHIFT" "I"]
def wsJ5_inflateIfNeededFor_a7421 : List Cond := .code yJ5_inflateIfNeededFor_a7421 cJ5_inflateIfNeededFor_a7421 2 none :: ((wsJ5_inflateIfNeededFor_a7421_r1 ++ (wsJ5_inflateIfNeededFor_a7421_r2 ++ wsJ5_inflateIfNeededFor_a7421_r3)) ++ wsJ40 ++ wsJ00)
def wsJ0_getBytes_840e7_r1 : List Cond := [Cond.fieldLink RJ0 9 "java/lang/String" "value" "[B", Cond.methodLink RJ0 212 arraycopyName, Cond.native arraycopyName, Cond.static arraycopyName, Cond.initialized "java/lang/System", Cond.methodLink RJ0 335 yJ0_coder_7d493, Cond.instanceMethod yJ0_coder_7d493, Cond.selects RJ0 yJ0_coder_7d493 yJ0_coder_7d493, Cond.initialized RJ0, Cond.code yJ0_coder_7d493 cJ0_coder_7d493 1 (some .byte), Cond.fieldLink RJ0 38 "java/lang/String" "COMPACT_STRINGS" "Z", Cond.fieldLink RJ0 15 "java/lang/String" "coder" "B", Cond.methodLink RJ0 106 yJ1_inflate_0e8fd, Cond.static yJ1_inflate_0e8fd, Cond.initialized RJ1, Cond.code yJ1_inflate_0e8fd cJ1_inflate_0e8fd 5 none, Cond.methodLink RJ1 240 yJ2_inflate_0e8fd, Cond.static yJ2_inflate_0e8fd, Cond.initialized RJ2, Cond.code yJ2_inflate_0e8fd cJ2_inflate_0e8fd 6 none, Cond.methodLink RJ2 173 yJ2_checkBoundsOffCount_d044e, Cond.static yJ2_checkBoundsOffCount_d044e, Cond.code yJ2_checkBoundsOffCount_d044e cJ2_checkBoundsOffCount_d044e 3 none, Cond.methodLink RJ2 48 yJ2_length_9d52b]
def wsJ0_getBytes_840e7_r2 : List Cond := [Cond.static yJ2_length_9d52b, Cond.code yJ2_length_9d52b cJ2_length_9d52b 1 (some .int), Cond.methodLink RJ2 419 yJ0_checkBoundsOffCount_cabcc, Cond.static yJ0_checkBoundsOffCount_cabcc, Cond.code yJ0_checkBoundsOffCount_cabcc cJ0_checkBoundsOffCount_cabcc 3 (some .int), Cond.fieldLink RJ0 1053 "jdk/internal/util/Preconditions" "SIOOBE_FORMATTER" "Ljava/util/function/BiFunction;", Cond.methodLink RJ0 1065 yJ3_checkFromIndexSize_8c36e, Cond.static yJ3_checkFromIndexSize_8c36e, Cond.initialized RJ3, Cond.code yJ3_checkFromIndexSize_8c36e cJ3_checkFromIndexSize_8c36e 4 (some .int), Cond.methodLink RJ2 111 yJ2_putChar_b72d1, Cond.static yJ2_putChar_b72d1, Cond.code yJ2_putChar_b72d1 cJ2_putChar_b72d1 3 none, Cond.fieldLink RJ2 44 "java/lang/StringUTF16" "$assertionsDisabled" "Z", Cond.fieldLink RJ2 59 "java/lang/StringUTF16" "HI_BYTE_SHIFT" "I", Cond.fieldLink RJ2 63 "java/lang/StringUTF16" "LO_BYTE_SHIFT" "I"]
def wsJ0_getBytes_840e7 : List Cond := .code yJ0_getBytes_840e7 cJ0_getBytes_840e7 4 none :: ((wsJ0_getBytes_840e7_r1 ++ wsJ0_getBytes_840e7_r2) ++ wsJ00)
def wsJ5_putStringAt_47b60_r1 : List Cond := [Cond.fieldLink RJ5 15 "java/lang/AbstractStringBuilder" "value" "[B", Cond.fieldLink RJ5 22 "java/lang/AbstractStringBuilder" "coder" "B", Cond.methodLink RJ5 397 ⟨"java/lang/AbstractStringBuilder", "inflateIfNeededFor", "(Ljava/lang/String;)V"⟩, Cond.sameMethod "java/lang/AbstractStringBuilder" "java/lang/AbstractStringBuilder" "inflateIfNeededFor" "(Ljava/lang/String;)V", Cond.selects RJ4 ⟨"java/lang/AbstractStringBuilder", "inflateIfNeededFor", "(Ljava/lang/String;)V"⟩ yJ5_inflateIfNeededFor_a7421, Cond.instanceMethod yJ5_inflateIfNeededFor_a7421, Cond.initialized RJ5, Cond.code yJ5_inflateIfNeededFor_a7421 cJ5_inflateIfNeededFor_a7421 2 none, Cond.fieldLink RJ5 18 "java/lang/String" "COMPACT_STRINGS" "Z", Cond.methodLink RJ5 40 yJ0_coder_7d493, Cond.instanceMethod yJ0_coder_7d493, Cond.selects RJ0 yJ0_coder_7d493 yJ0_coder_7d493, Cond.initialized RJ0, Cond.code yJ0_coder_7d493 cJ0_coder_7d493 1 (some .byte), Cond.fieldLink RJ0 38 "java/lang/String" "COMPACT_STRINGS" "Z", Cond.fieldLink RJ0 15 "java/lang/String" "coder" "B", Cond.methodLink RJ5 195 ⟨"java/lang/AbstractStringBuilder", "inflate", "()V"⟩, Cond.sameMethod "java/lang/AbstractStringBuilder" "java/lang/AbstractStringBuilder" "inflate" "()V", Cond.selects RJ4 ⟨"java/lang/AbstractStringBuilder", "inflate", "()V"⟩ yJ5_inflate_da8c8, Cond.instanceMethod yJ5_inflate_da8c8, Cond.code yJ5_inflate_da8c8 cJ5_inflate_da8c8 2 none, Cond.fieldLink RJ5 79 "java/lang/AbstractStringBuilder" "count" "I", Cond.methodLink RJ5 83 ⟨"java/lang/AbstractStringBuilder", "isLatin1", "()Z"⟩, Cond.sameMethod "java/lang/AbstractStringBuilder" "java/lang/AbstractStringBuilder" "isLatin1" "()Z"]
def wsJ5_putStringAt_47b60_r2 : List Cond := [Cond.selects RJ4 ⟨"java/lang/AbstractStringBuilder", "isLatin1", "()Z"⟩ yJ5_isLatin1_aae02, Cond.instanceMethod yJ5_isLatin1_aae02, Cond.code yJ5_isLatin1_aae02 cJ5_isLatin1_aae02 1 (some .boolean), Cond.methodLink RJ5 26 yJ2_newBytesFor_77867, Cond.static yJ2_newBytesFor_77867, Cond.initialized RJ2, Cond.code yJ2_newBytesFor_77867 cJ2_newBytesFor_77867 1 (some (.array .byte)), Cond.arrayClass .byte, Cond.methodLink RJ2 11 yJ2_newBytesLength_0f7a4, Cond.static yJ2_newBytesLength_0f7a4, Cond.code yJ2_newBytesLength_0f7a4 cJ2_newBytesLength_0f7a4 1 (some .int), Cond.constant RJ2 20 (1073741823), Cond.methodLink RJ5 125 yJ1_inflate_0e8fd, Cond.static yJ1_inflate_0e8fd, Cond.initialized RJ1, Cond.code yJ1_inflate_0e8fd cJ1_inflate_0e8fd 5 none, Cond.methodLink RJ1 240 yJ2_inflate_0e8fd, Cond.static yJ2_inflate_0e8fd, Cond.code yJ2_inflate_0e8fd cJ2_inflate_0e8fd 6 none, Cond.methodLink RJ2 173 yJ2_checkBoundsOffCount_d044e, Cond.static yJ2_checkBoundsOffCount_d044e, Cond.code yJ2_checkBoundsOffCount_d044e cJ2_checkBoundsOffCount_d044e 3 none, Cond.methodLink RJ2 48 yJ2_length_9d52b, Cond.static yJ2_length_9d52b]
def wsJ5_putStringAt_47b60_r3 : List Cond := [Cond.code yJ2_length_9d52b cJ2_length_9d52b 1 (some .int), Cond.methodLink RJ2 419 yJ0_checkBoundsOffCount_cabcc, Cond.static yJ0_checkBoundsOffCount_cabcc, Cond.code yJ0_checkBoundsOffCount_cabcc cJ0_checkBoundsOffCount_cabcc 3 (some .int), Cond.fieldLink RJ0 1053 "jdk/internal/util/Preconditions" "SIOOBE_FORMATTER" "Ljava/util/function/BiFunction;", Cond.methodLink RJ0 1065 yJ3_checkFromIndexSize_8c36e, Cond.static yJ3_checkFromIndexSize_8c36e, Cond.initialized RJ3, Cond.code yJ3_checkFromIndexSize_8c36e cJ3_checkFromIndexSize_8c36e 4 (some .int), Cond.methodLink RJ2 111 yJ2_putChar_b72d1, Cond.static yJ2_putChar_b72d1, Cond.code yJ2_putChar_b72d1 cJ2_putChar_b72d1 3 none, Cond.fieldLink RJ2 44 "java/lang/StringUTF16" "$assertionsDisabled" "Z", Cond.fieldLink RJ2 59 "java/lang/StringUTF16" "HI_BYTE_SHIFT" "I", Cond.fieldLink RJ2 63 "java/lang/StringUTF16" "LO_BYTE_SHIFT" "I", Cond.methodLink RJ5 399 yJ0_getBytes_840e7, Cond.instanceMethod yJ0_getBytes_840e7, Cond.selects RJ0 yJ0_getBytes_840e7 yJ0_getBytes_840e7, Cond.code yJ0_getBytes_840e7 cJ0_getBytes_840e7 4 none, Cond.fieldLink RJ0 9 "java/lang/String" "value" "[B", Cond.methodLink RJ0 212 arraycopyName, Cond.native arraycopyName, Cond.static arraycopyName, Cond.initialized "java/lang/System"]
def wsJ5_putStringAt_47b60_r4 : List Cond := [Cond.methodLink RJ0 335 yJ0_coder_7d493, Cond.methodLink RJ0 106 yJ1_inflate_0e8fd]
def wsJ5_putStringAt_47b60 : List Cond := .code yJ5_putStringAt_47b60 cJ5_putStringAt_47b60 3 none :: ((wsJ5_putStringAt_47b60_r1 ++ (wsJ5_putStringAt_47b60_r2 ++ (wsJ5_putStringAt_47b60_r3 ++ wsJ5_putStringAt_47b60_r4))) ++ wsJ40 ++ wsJ00)
def wsJ5_append_cf1ce_r1 : List Cond := [Cond.fieldLink RJ5 79 "java/lang/AbstractStringBuilder" "count" "I", Cond.methodLink RJ5 204 ⟨"java/lang/AbstractStringBuilder", "appendNull", "()Ljava/lang/AbstractStringBuilder;"⟩, Cond.sameMethod "java/lang/AbstractStringBuilder" "java/lang/AbstractStringBuilder" "appendNull" "()Ljava/lang/AbstractStringBuilder;", Cond.selects RJ4 ⟨"java/lang/AbstractStringBuilder", "appendNull", "()Ljava/lang/AbstractStringBuilder;"⟩ yJ5_appendNull_278bc, Cond.instanceMethod yJ5_appendNull_278bc, Cond.initialized RJ5, Cond.code yJ5_appendNull_278bc cJ5_appendNull_278bc 3 (some (.object "java/lang/AbstractStringBuilder")), Cond.fieldLink RJ5 15 "java/lang/AbstractStringBuilder" "value" "[B", Cond.methodLink RJ5 100 ⟨"java/lang/AbstractStringBuilder", "ensureCapacityInternal", "(I)V"⟩, Cond.sameMethod "java/lang/AbstractStringBuilder" "java/lang/AbstractStringBuilder" "ensureCapacityInternal" "(I)V", Cond.selects RJ4 ⟨"java/lang/AbstractStringBuilder", "ensureCapacityInternal", "(I)V"⟩ yJ5_ensureCapacityInternal_d00df, Cond.instanceMethod yJ5_ensureCapacityInternal_d00df, Cond.code yJ5_ensureCapacityInternal_d00df cJ5_ensureCapacityInternal_d00df 3 none, Cond.fieldLink RJ5 22 "java/lang/AbstractStringBuilder" "coder" "B", Cond.methodLink RJ5 104 ⟨"java/lang/AbstractStringBuilder", "newCapacity", "(I)I"⟩, Cond.sameMethod "java/lang/AbstractStringBuilder" "java/lang/AbstractStringBuilder" "newCapacity" "(I)I", Cond.selects RJ4 ⟨"java/lang/AbstractStringBuilder", "newCapacity", "(I)I"⟩ yJ5_newCapacity_0f7a4, Cond.instanceMethod yJ5_newCapacity_0f7a4, Cond.code yJ5_newCapacity_0f7a4 cJ5_newCapacity_0f7a4 6 (some .int), Cond.constant RJ5 39 (2147483647), Cond.methodLink RJ5 114 yJ8_newLength_cabcc, Cond.static yJ8_newLength_cabcc, Cond.initialized RJ8, Cond.code yJ8_newLength_cabcc cJ8_newLength_cabcc 4 (some .int)]
def wsJ5_append_cf1ce_r2 : List Cond := [Cond.methodLink RJ8 194 Lib.Math.max.name, Cond.static Lib.Math.max.name, Cond.initialized "java/lang/Math", Cond.code Lib.Math.max.name Lib.Math.max.code 2 (some .int), Cond.constant RJ8 200 (2147483639), Cond.methodLink RJ8 201 yJ8_hugeLength_7cf53, Cond.static yJ8_hugeLength_7cf53, Cond.code yJ8_hugeLength_7cf53 cJ8_hugeLength_7cf53 3 (some .int), Cond.methodLink RJ5 108 yJ7_copyOf_9075b, Cond.static yJ7_copyOf_9075b, Cond.initialized RJ7, Cond.code yJ7_copyOf_9075b cJ7_copyOf_9075b 3 (some (.array .byte)), Cond.methodLink RJ7 310 ⟨"[B", "clone", "()Ljava/lang/Object;"⟩, Cond.sameMethod "[B" "java/lang/Object" "clone" "()Ljava/lang/Object;", Cond.native ⟨"java/lang/Object", "clone", "()Ljava/lang/Object;"⟩, Cond.instanceMethod ⟨"java/lang/Object", "clone", "()Ljava/lang/Object;"⟩, Cond.selects "[B" ⟨"[B", "clone", "()Ljava/lang/Object;"⟩ ⟨"java/lang/Object", "clone", "()Ljava/lang/Object;"⟩, Cond.classLink RJ7 311 "[B", Cond.arrayClass .byte, Cond.methodLink RJ7 304 Lib.Math.min.name, Cond.static Lib.Math.min.name, Cond.code Lib.Math.min.name Lib.Math.min.code 2 (some .int), Cond.methodLink RJ7 150 arraycopyName, Cond.native arraycopyName]
def wsJ5_append_cf1ce_r3 : List Cond := [Cond.static arraycopyName, Cond.initialized "java/lang/System", Cond.methodLink RJ5 83 ⟨"java/lang/AbstractStringBuilder", "isLatin1", "()Z"⟩, Cond.sameMethod "java/lang/AbstractStringBuilder" "java/lang/AbstractStringBuilder" "isLatin1" "()Z", Cond.selects RJ4 ⟨"java/lang/AbstractStringBuilder", "isLatin1", "()Z"⟩ yJ5_isLatin1_aae02, Cond.instanceMethod yJ5_isLatin1_aae02, Cond.code yJ5_isLatin1_aae02 cJ5_isLatin1_aae02 1 (some .boolean), Cond.fieldLink RJ5 18 "java/lang/String" "COMPACT_STRINGS" "Z", Cond.methodLink RJ5 226 yJ2_putCharsAt_cd4e5, Cond.static yJ2_putCharsAt_cd4e5, Cond.initialized RJ2, Cond.code yJ2_putCharsAt_cd4e5 cJ2_putCharsAt_cd4e5 7 (some .int), Cond.fieldLink RJ2 44 "java/lang/StringUTF16" "$assertionsDisabled" "Z", Cond.methodLink RJ2 96 yJ2_checkBoundsBeginEnd_d044e, Cond.static yJ2_checkBoundsBeginEnd_d044e, Cond.code yJ2_checkBoundsBeginEnd_d044e cJ2_checkBoundsBeginEnd_d044e 3 none, Cond.methodLink RJ2 48 yJ2_length_9d52b, Cond.static yJ2_length_9d52b, Cond.code yJ2_length_9d52b cJ2_length_9d52b 1 (some .int), Cond.methodLink RJ2 241 yJ0_checkBoundsBeginEnd_23922, Cond.static yJ0_checkBoundsBeginEnd_23922, Cond.initialized RJ0, Cond.code yJ0_checkBoundsBeginEnd_23922 cJ0_checkBoundsBeginEnd_23922 3 none, Cond.fieldLink RJ0 1053 "jdk/internal/util/Preconditions" "SIOOBE_FORMATTER" "Ljava/util/function/BiFunction;"]
def wsJ5_append_cf1ce_r4 : List Cond := [Cond.methodLink RJ0 1062 yJ3_checkFromToIndex_8c36e, Cond.static yJ3_checkFromToIndex_8c36e, Cond.initialized RJ3, Cond.code yJ3_checkFromToIndex_8c36e cJ3_checkFromToIndex_8c36e 4 (some .int), Cond.methodLink RJ2 111 yJ2_putChar_b72d1, Cond.static yJ2_putChar_b72d1, Cond.code yJ2_putChar_b72d1 cJ2_putChar_b72d1 3 none, Cond.fieldLink RJ2 59 "java/lang/StringUTF16" "HI_BYTE_SHIFT" "I", Cond.fieldLink RJ2 63 "java/lang/StringUTF16" "LO_BYTE_SHIFT" "I", Cond.methodLink RJ5 32 yJ0_length_8abf5, Cond.instanceMethod yJ0_length_8abf5, Cond.selects RJ0 yJ0_length_8abf5 yJ0_length_8abf5, Cond.code yJ0_length_8abf5 cJ0_length_8abf5 1 (some .int), Cond.fieldLink RJ0 9 "java/lang/String" "value" "[B", Cond.methodLink RJ0 335 yJ0_coder_7d493, Cond.instanceMethod yJ0_coder_7d493, Cond.selects RJ0 yJ0_coder_7d493 yJ0_coder_7d493, Cond.code yJ0_coder_7d493 cJ0_coder_7d493 1 (some .byte), Cond.fieldLink RJ0 38 "java/lang/String" "COMPACT_STRINGS" "Z", Cond.fieldLink RJ0 15 "java/lang/String" "coder" "B", Cond.methodLink RJ5 208 ⟨"java/lang/AbstractStringBuilder", "putStringAt", "(ILjava/lang/String;)V"⟩, Cond.sameMethod "java/lang/AbstractStringBuilder" "java/lang/AbstractStringBuilder" "putStringAt" "(ILjava/lang/String;)V", Cond.selects RJ4 ⟨"java/lang/AbstractStringBuilder", "putStringAt", "(ILjava/lang/String;)V"⟩ yJ5_putStringAt_47b60, Cond.instanceMethod yJ5_putStringAt_47b60]
def wsJ5_append_cf1ce_r5 : List Cond := [Cond.code yJ5_putStringAt_47b60 cJ5_putStringAt_47b60 3 none, Cond.methodLink RJ5 397 ⟨"java/lang/AbstractStringBuilder", "inflateIfNeededFor", "(Ljava/lang/String;)V"⟩, Cond.sameMethod "java/lang/AbstractStringBuilder" "java/lang/AbstractStringBuilder" "inflateIfNeededFor" "(Ljava/lang/String;)V", Cond.selects RJ4 ⟨"java/lang/AbstractStringBuilder", "inflateIfNeededFor", "(Ljava/lang/String;)V"⟩ yJ5_inflateIfNeededFor_a7421, Cond.instanceMethod yJ5_inflateIfNeededFor_a7421, Cond.code yJ5_inflateIfNeededFor_a7421 cJ5_inflateIfNeededFor_a7421 2 none, Cond.methodLink RJ5 40 yJ0_coder_7d493, Cond.methodLink RJ5 195 ⟨"java/lang/AbstractStringBuilder", "inflate", "()V"⟩, Cond.sameMethod "java/lang/AbstractStringBuilder" "java/lang/AbstractStringBuilder" "inflate" "()V", Cond.selects RJ4 ⟨"java/lang/AbstractStringBuilder", "inflate", "()V"⟩ yJ5_inflate_da8c8, Cond.instanceMethod yJ5_inflate_da8c8, Cond.code yJ5_inflate_da8c8 cJ5_inflate_da8c8 2 none, Cond.methodLink RJ5 26 yJ2_newBytesFor_77867, Cond.static yJ2_newBytesFor_77867, Cond.code yJ2_newBytesFor_77867 cJ2_newBytesFor_77867 1 (some (.array .byte)), Cond.methodLink RJ2 11 yJ2_newBytesLength_0f7a4, Cond.static yJ2_newBytesLength_0f7a4, Cond.code yJ2_newBytesLength_0f7a4 cJ2_newBytesLength_0f7a4 1 (some .int), Cond.constant RJ2 20 (1073741823), Cond.methodLink RJ5 125 yJ1_inflate_0e8fd, Cond.static yJ1_inflate_0e8fd, Cond.initialized RJ1, Cond.code yJ1_inflate_0e8fd cJ1_inflate_0e8fd 5 none, Cond.methodLink RJ1 240 yJ2_inflate_0e8fd]
def wsJ5_append_cf1ce_r6 : List Cond := [Cond.static yJ2_inflate_0e8fd, Cond.code yJ2_inflate_0e8fd cJ2_inflate_0e8fd 6 none, Cond.methodLink RJ2 173 yJ2_checkBoundsOffCount_d044e, Cond.static yJ2_checkBoundsOffCount_d044e, Cond.code yJ2_checkBoundsOffCount_d044e cJ2_checkBoundsOffCount_d044e 3 none, Cond.methodLink RJ2 419 yJ0_checkBoundsOffCount_cabcc, Cond.static yJ0_checkBoundsOffCount_cabcc, Cond.code yJ0_checkBoundsOffCount_cabcc cJ0_checkBoundsOffCount_cabcc 3 (some .int), Cond.methodLink RJ0 1065 yJ3_checkFromIndexSize_8c36e, Cond.static yJ3_checkFromIndexSize_8c36e, Cond.code yJ3_checkFromIndexSize_8c36e cJ3_checkFromIndexSize_8c36e 4 (some .int), Cond.methodLink RJ5 399 yJ0_getBytes_840e7, Cond.instanceMethod yJ0_getBytes_840e7, Cond.selects RJ0 yJ0_getBytes_840e7 yJ0_getBytes_840e7, Cond.code yJ0_getBytes_840e7 cJ0_getBytes_840e7 4 none, Cond.methodLink RJ0 212 arraycopyName, Cond.methodLink RJ0 106 yJ1_inflate_0e8fd]
def wsJ5_append_cf1ce : List Cond := .code yJ5_append_cf1ce cJ5_append_cf1ce 3 (some (.object "java/lang/AbstractStringBuilder")) :: ((wsJ5_append_cf1ce_r1 ++ (wsJ5_append_cf1ce_r2 ++ (wsJ5_append_cf1ce_r3 ++ (wsJ5_append_cf1ce_r4 ++ (wsJ5_append_cf1ce_r5 ++ wsJ5_append_cf1ce_r6))))) ++ wsJ40 ++ wsJ00)
def wsJ9_max_7cf53 : List Cond := .code yJ9_max_7cf53 cJ9_max_7cf53 2 (some .int) :: ([])
def wsJ9_min_7cf53 : List Cond := .code yJ9_min_7cf53 cJ9_min_7cf53 2 (some .int) :: ([])
def wsJ4_append_15ec4_r1 : List Cond := [Cond.methodLink RJ4 29 yJ5_append_cf1ce, Cond.sameMethod "java/lang/AbstractStringBuilder" "java/lang/AbstractStringBuilder" "append" "(Ljava/lang/String;)Ljava/lang/AbstractStringBuilder;", Cond.superclass RJ4 RJ5, Cond.instanceMethod yJ5_append_cf1ce, Cond.initialized RJ5, Cond.code yJ5_append_cf1ce cJ5_append_cf1ce 3 (some (.object "java/lang/AbstractStringBuilder")), Cond.fieldLink RJ5 79 "java/lang/AbstractStringBuilder" "count" "I", Cond.methodLink RJ5 204 ⟨"java/lang/AbstractStringBuilder", "appendNull", "()Ljava/lang/AbstractStringBuilder;"⟩, Cond.sameMethod "java/lang/AbstractStringBuilder" "java/lang/AbstractStringBuilder" "appendNull" "()Ljava/lang/AbstractStringBuilder;", Cond.selects RJ4 ⟨"java/lang/AbstractStringBuilder", "appendNull", "()Ljava/lang/AbstractStringBuilder;"⟩ yJ5_appendNull_278bc, Cond.instanceMethod yJ5_appendNull_278bc, Cond.code yJ5_appendNull_278bc cJ5_appendNull_278bc 3 (some (.object "java/lang/AbstractStringBuilder")), Cond.fieldLink RJ5 15 "java/lang/AbstractStringBuilder" "value" "[B", Cond.methodLink RJ5 100 ⟨"java/lang/AbstractStringBuilder", "ensureCapacityInternal", "(I)V"⟩, Cond.sameMethod "java/lang/AbstractStringBuilder" "java/lang/AbstractStringBuilder" "ensureCapacityInternal" "(I)V", Cond.selects RJ4 ⟨"java/lang/AbstractStringBuilder", "ensureCapacityInternal", "(I)V"⟩ yJ5_ensureCapacityInternal_d00df, Cond.instanceMethod yJ5_ensureCapacityInternal_d00df, Cond.code yJ5_ensureCapacityInternal_d00df cJ5_ensureCapacityInternal_d00df 3 none, Cond.fieldLink RJ5 22 "java/lang/AbstractStringBuilder" "coder" "B", Cond.methodLink RJ5 104 ⟨"java/lang/AbstractStringBuilder", "newCapacity", "(I)I"⟩, Cond.sameMethod "java/lang/AbstractStringBuilder" "java/lang/AbstractStringBuilder" "newCapacity" "(I)I", Cond.selects RJ4 ⟨"java/lang/AbstractStringBuilder", "newCapacity", "(I)I"⟩ yJ5_newCapacity_0f7a4, Cond.instanceMethod yJ5_newCapacity_0f7a4, Cond.code yJ5_newCapacity_0f7a4 cJ5_newCapacity_0f7a4 6 (some .int)]
def wsJ4_append_15ec4_r2 : List Cond := [Cond.constant RJ5 39 (2147483647), Cond.methodLink RJ5 114 yJ8_newLength_cabcc, Cond.static yJ8_newLength_cabcc, Cond.initialized RJ8, Cond.code yJ8_newLength_cabcc cJ8_newLength_cabcc 4 (some .int), Cond.methodLink RJ8 194 Lib.Math.max.name, Cond.static Lib.Math.max.name, Cond.initialized "java/lang/Math", Cond.code Lib.Math.max.name Lib.Math.max.code 2 (some .int), Cond.constant RJ8 200 (2147483639), Cond.methodLink RJ8 201 yJ8_hugeLength_7cf53, Cond.static yJ8_hugeLength_7cf53, Cond.code yJ8_hugeLength_7cf53 cJ8_hugeLength_7cf53 3 (some .int), Cond.methodLink RJ5 108 yJ7_copyOf_9075b, Cond.static yJ7_copyOf_9075b, Cond.initialized RJ7, Cond.code yJ7_copyOf_9075b cJ7_copyOf_9075b 3 (some (.array .byte)), Cond.methodLink RJ7 310 ⟨"[B", "clone", "()Ljava/lang/Object;"⟩, Cond.sameMethod "[B" "java/lang/Object" "clone" "()Ljava/lang/Object;", Cond.native ⟨"java/lang/Object", "clone", "()Ljava/lang/Object;"⟩, Cond.instanceMethod ⟨"java/lang/Object", "clone", "()Ljava/lang/Object;"⟩, Cond.selects "[B" ⟨"[B", "clone", "()Ljava/lang/Object;"⟩ ⟨"java/lang/Object", "clone", "()Ljava/lang/Object;"⟩, Cond.classLink RJ7 311 "[B", Cond.arrayClass .byte]
def wsJ4_append_15ec4_r3 : List Cond := [Cond.methodLink RJ7 304 Lib.Math.min.name, Cond.static Lib.Math.min.name, Cond.code Lib.Math.min.name Lib.Math.min.code 2 (some .int), Cond.methodLink RJ7 150 arraycopyName, Cond.native arraycopyName, Cond.static arraycopyName, Cond.initialized "java/lang/System", Cond.methodLink RJ5 83 ⟨"java/lang/AbstractStringBuilder", "isLatin1", "()Z"⟩, Cond.sameMethod "java/lang/AbstractStringBuilder" "java/lang/AbstractStringBuilder" "isLatin1" "()Z", Cond.selects RJ4 ⟨"java/lang/AbstractStringBuilder", "isLatin1", "()Z"⟩ yJ5_isLatin1_aae02, Cond.instanceMethod yJ5_isLatin1_aae02, Cond.code yJ5_isLatin1_aae02 cJ5_isLatin1_aae02 1 (some .boolean), Cond.fieldLink RJ5 18 "java/lang/String" "COMPACT_STRINGS" "Z", Cond.methodLink RJ5 226 yJ2_putCharsAt_cd4e5, Cond.static yJ2_putCharsAt_cd4e5, Cond.initialized RJ2, Cond.code yJ2_putCharsAt_cd4e5 cJ2_putCharsAt_cd4e5 7 (some .int), Cond.fieldLink RJ2 44 "java/lang/StringUTF16" "$assertionsDisabled" "Z", Cond.methodLink RJ2 96 yJ2_checkBoundsBeginEnd_d044e, Cond.static yJ2_checkBoundsBeginEnd_d044e, Cond.code yJ2_checkBoundsBeginEnd_d044e cJ2_checkBoundsBeginEnd_d044e 3 none, Cond.methodLink RJ2 48 yJ2_length_9d52b, Cond.static yJ2_length_9d52b, Cond.code yJ2_length_9d52b cJ2_length_9d52b 1 (some .int)]
def wsJ4_append_15ec4_r4 : List Cond := [Cond.methodLink RJ2 241 yJ0_checkBoundsBeginEnd_23922, Cond.static yJ0_checkBoundsBeginEnd_23922, Cond.initialized RJ0, Cond.code yJ0_checkBoundsBeginEnd_23922 cJ0_checkBoundsBeginEnd_23922 3 none, Cond.fieldLink RJ0 1053 "jdk/internal/util/Preconditions" "SIOOBE_FORMATTER" "Ljava/util/function/BiFunction;", Cond.methodLink RJ0 1062 yJ3_checkFromToIndex_8c36e, Cond.static yJ3_checkFromToIndex_8c36e, Cond.initialized RJ3, Cond.code yJ3_checkFromToIndex_8c36e cJ3_checkFromToIndex_8c36e 4 (some .int), Cond.methodLink RJ2 111 yJ2_putChar_b72d1, Cond.static yJ2_putChar_b72d1, Cond.code yJ2_putChar_b72d1 cJ2_putChar_b72d1 3 none, Cond.fieldLink RJ2 59 "java/lang/StringUTF16" "HI_BYTE_SHIFT" "I", Cond.fieldLink RJ2 63 "java/lang/StringUTF16" "LO_BYTE_SHIFT" "I", Cond.methodLink RJ5 32 yJ0_length_8abf5, Cond.instanceMethod yJ0_length_8abf5, Cond.selects RJ0 yJ0_length_8abf5 yJ0_length_8abf5, Cond.code yJ0_length_8abf5 cJ0_length_8abf5 1 (some .int), Cond.fieldLink RJ0 9 "java/lang/String" "value" "[B", Cond.methodLink RJ0 335 yJ0_coder_7d493, Cond.instanceMethod yJ0_coder_7d493, Cond.selects RJ0 yJ0_coder_7d493 yJ0_coder_7d493, Cond.code yJ0_coder_7d493 cJ0_coder_7d493 1 (some .byte), Cond.fieldLink RJ0 38 "java/lang/String" "COMPACT_STRINGS" "Z"]
def wsJ4_append_15ec4_r5 : List Cond := [Cond.fieldLink RJ0 15 "java/lang/String" "coder" "B", Cond.methodLink RJ5 208 ⟨"java/lang/AbstractStringBuilder", "putStringAt", "(ILjava/lang/String;)V"⟩, Cond.sameMethod "java/lang/AbstractStringBuilder" "java/lang/AbstractStringBuilder" "putStringAt" "(ILjava/lang/String;)V", Cond.selects RJ4 ⟨"java/lang/AbstractStringBuilder", "putStringAt", "(ILjava/lang/String;)V"⟩ yJ5_putStringAt_47b60, Cond.instanceMethod yJ5_putStringAt_47b60, Cond.code yJ5_putStringAt_47b60 cJ5_putStringAt_47b60 3 none, Cond.methodLink RJ5 397 ⟨"java/lang/AbstractStringBuilder", "inflateIfNeededFor", "(Ljava/lang/String;)V"⟩, Cond.sameMethod "java/lang/AbstractStringBuilder" "java/lang/AbstractStringBuilder" "inflateIfNeededFor" "(Ljava/lang/String;)V", Cond.selects RJ4 ⟨"java/lang/AbstractStringBuilder", "inflateIfNeededFor", "(Ljava/lang/String;)V"⟩ yJ5_inflateIfNeededFor_a7421, Cond.instanceMethod yJ5_inflateIfNeededFor_a7421, Cond.code yJ5_inflateIfNeededFor_a7421 cJ5_inflateIfNeededFor_a7421 2 none, Cond.methodLink RJ5 40 yJ0_coder_7d493, Cond.methodLink RJ5 195 ⟨"java/lang/AbstractStringBuilder", "inflate", "()V"⟩, Cond.sameMethod "java/lang/AbstractStringBuilder" "java/lang/AbstractStringBuilder" "inflate" "()V", Cond.selects RJ4 ⟨"java/lang/AbstractStringBuilder", "inflate", "()V"⟩ yJ5_inflate_da8c8, Cond.instanceMethod yJ5_inflate_da8c8, Cond.code yJ5_inflate_da8c8 cJ5_inflate_da8c8 2 none, Cond.methodLink RJ5 26 yJ2_newBytesFor_77867, Cond.static yJ2_newBytesFor_77867, Cond.code yJ2_newBytesFor_77867 cJ2_newBytesFor_77867 1 (some (.array .byte)), Cond.methodLink RJ2 11 yJ2_newBytesLength_0f7a4, Cond.static yJ2_newBytesLength_0f7a4, Cond.code yJ2_newBytesLength_0f7a4 cJ2_newBytesLength_0f7a4 1 (some .int), Cond.constant RJ2 20 (1073741823)]
def wsJ4_append_15ec4_r6 : List Cond := [Cond.methodLink RJ5 125 yJ1_inflate_0e8fd, Cond.static yJ1_inflate_0e8fd, Cond.initialized RJ1, Cond.code yJ1_inflate_0e8fd cJ1_inflate_0e8fd 5 none, Cond.methodLink RJ1 240 yJ2_inflate_0e8fd, Cond.static yJ2_inflate_0e8fd, Cond.code yJ2_inflate_0e8fd cJ2_inflate_0e8fd 6 none, Cond.methodLink RJ2 173 yJ2_checkBoundsOffCount_d044e, Cond.static yJ2_checkBoundsOffCount_d044e, Cond.code yJ2_checkBoundsOffCount_d044e cJ2_checkBoundsOffCount_d044e 3 none, Cond.methodLink RJ2 419 yJ0_checkBoundsOffCount_cabcc, Cond.static yJ0_checkBoundsOffCount_cabcc, Cond.code yJ0_checkBoundsOffCount_cabcc cJ0_checkBoundsOffCount_cabcc 3 (some .int), Cond.methodLink RJ0 1065 yJ3_checkFromIndexSize_8c36e, Cond.static yJ3_checkFromIndexSize_8c36e, Cond.code yJ3_checkFromIndexSize_8c36e cJ3_checkFromIndexSize_8c36e 4 (some .int), Cond.methodLink RJ5 399 yJ0_getBytes_840e7, Cond.instanceMethod yJ0_getBytes_840e7, Cond.selects RJ0 yJ0_getBytes_840e7 yJ0_getBytes_840e7, Cond.code yJ0_getBytes_840e7 cJ0_getBytes_840e7 4 none, Cond.methodLink RJ0 212 arraycopyName, Cond.methodLink RJ0 106 yJ1_inflate_0e8fd]
def wsJ4_append_15ec4 : List Cond := .code yJ4_append_15ec4 cJ4_append_15ec4 2 (some (.object "java/lang/StringBuilder")) :: ((wsJ4_append_15ec4_r1 ++ (wsJ4_append_15ec4_r2 ++ (wsJ4_append_15ec4_r3 ++ (wsJ4_append_15ec4_r4 ++ (wsJ4_append_15ec4_r5 ++ wsJ4_append_15ec4_r6))))) ++ wsJ40 ++ wsJ00)
def wsL_user_r1 : List Cond := [Cond.classLink RL 13 "java/lang/IllegalArgumentException", Cond.methodLink RL 7 yX7_user, Cond.instanceMethod yX7_user, Cond.selects RX7 yX7_user yX7_user, Cond.initialized RX7, Cond.code yX7_user cX7_user 3 (some .int), Cond.fieldLink RX7 25 "MarkChat" "users" "Ljava/util/ArrayList;", Cond.classLink RX7 67 RX6, Cond.instantiable RX6 3, Cond.initialized RX6, Cond.fieldLink RX7 71 "MarkChat$User" "number" "I", Cond.methodLink RX7 55 yX7_checkRange, Cond.static yX7_checkRange, Cond.code yX7_checkRange cX7_checkRange 3 none, Cond.classLink RX7 227 "java/lang/IllegalArgumentException", Cond.initialized "java/lang/IllegalArgumentException", Cond.methodLink RX7 59 yJx4a65c_size_8abf5, Cond.instanceMethod yJx4a65c_size_8abf5, Cond.selects RJx4a65c yJx4a65c_size_8abf5 yJx4a65c_size_8abf5, Cond.initialized RJx4a65c, Cond.code yJx4a65c_size_8abf5 cJx4a65c_size_8abf5 1 (some .int), Cond.fieldLink RJx4a65c 48 "java/util/ArrayList" "size" "I", Cond.methodLink RX7 63 yX7_refuseFull, Cond.static yX7_refuseFull]
def wsL_user_r2 : List Cond := [Cond.code yX7_refuseFull cX7_refuseFull 2 none, Cond.classLink RX7 96 "java/lang/IllegalStateException", Cond.initialized "java/lang/IllegalStateException", Cond.methodLink RX7 69 yX6_init, Cond.instanceMethod yX6_init, Cond.code yX6_init cX6_init 3 none, Cond.methodLink RX6 3 objectInit, Cond.instanceMethod objectInit, Cond.code objectInit ⟨#[0xb1]⟩ 1 none, Cond.fieldLink RX6 9 "MarkChat$User" "number" "I", Cond.fieldLink RX6 15 "MarkChat$User" "rank" "I", Cond.fieldLink RX6 18 "MarkChat$User" "endHour" "I", Cond.methodLink RX7 21 yJx4a65c_add_9ea2d, Cond.instanceMethod yJx4a65c_add_9ea2d, Cond.selects RJx4a65c yJx4a65c_add_9ea2d yJx4a65c_add_9ea2d, Cond.code yJx4a65c_add_9ea2d cJx4a65c_add_9ea2d 2 (some .boolean), Cond.fieldLink RJx4a65c 63 "java/util/ArrayList" "modCount" "I", Cond.sameField "java/util/ArrayList" "java/util/AbstractList" "modCount" "I", Cond.fieldLink RJx4a65c 9 "java/util/ArrayList" "elementData" "[Ljava/lang/Object;", Cond.methodLink RJx4a65c 131 yJx4a65c_add_72be8, Cond.instanceMethod yJx4a65c_add_72be8, Cond.selects RJx4a65c yJx4a65c_add_72be8 yJx4a65c_add_72be8, Cond.code yJx4a65c_add_72be8 cJx4a65c_add_72be8 4 none, Cond.methodLink RJx4a65c 129 yJx4a65c_grow_d5877]
def wsL_user_r3 : List Cond := [Cond.instanceMethod yJx4a65c_grow_d5877, Cond.selects RJx4a65c yJx4a65c_grow_d5877 yJx4a65c_grow_d5877, Cond.code yJx4a65c_grow_d5877 cJx4a65c_grow_d5877 1 (some (.array (.object "java/lang/Object"))), Cond.methodLink RJx4a65c 69 yJx4a65c_grow_92f84, Cond.instanceMethod yJx4a65c_grow_92f84, Cond.selects RJx4a65c yJx4a65c_grow_92f84 yJx4a65c_grow_92f84, Cond.code yJx4a65c_grow_92f84 cJx4a65c_grow_92f84 4 (some (.array (.object "java/lang/Object"))), Cond.fieldLink RJx4a65c 39 "java/util/ArrayList" "DEFAULTCAPACITY_EMPTY_ELEMENTDATA" "[Ljava/lang/Object;", Cond.methodLink RJx4a65c 79 Lib.Math.max.name, Cond.static Lib.Math.max.name, Cond.initialized "java/lang/Math", Cond.code Lib.Math.max.name Lib.Math.max.code 2 (some .int), Cond.classLink RJx4a65c 7 "java/lang/Object", Cond.methodLink RJx4a65c 73 yJ8_newLength_cabcc, Cond.static yJ8_newLength_cabcc, Cond.initialized RJ8, Cond.code yJ8_newLength_cabcc cJ8_newLength_cabcc 4 (some .int), Cond.methodLink RJ8 194 Lib.Math.max.name, Cond.constant RJ8 200 (2147483639), Cond.methodLink RJ8 201 yJ8_hugeLength_7cf53, Cond.static yJ8_hugeLength_7cf53, Cond.code yJ8_hugeLength_7cf53 cJ8_hugeLength_7cf53 3 (some .int), Cond.methodLink RJx4a65c 66 yJ7_copyOf_1904c, Cond.static yJ7_copyOf_1904c]
def wsL_user_r4 : List Cond := [Cond.initialized RJ7, Cond.code yJ7_copyOf_1904c cJ7_copyOf_1904c 2 (some (.array (.object "java/lang/Object"))), Cond.methodLink RJ7 86 ⟨"java/lang/Object", "getClass", "()Ljava/lang/Class;"⟩, Cond.selects "[Ljava/lang/Object;" ⟨"java/lang/Object", "getClass", "()Ljava/lang/Class;"⟩ ⟨"java/lang/Object", "getClass", "()Ljava/lang/Class;"⟩, Cond.instanceMethod ⟨"java/lang/Object", "getClass", "()Ljava/lang/Class;"⟩, Cond.native ⟨"java/lang/Object", "getClass", "()Ljava/lang/Class;"⟩, Cond.methodLink RJ7 300 yJ7_copyOf_6403c, Cond.static yJ7_copyOf_6403c, Cond.code yJ7_copyOf_6403c cJ7_copyOf_6403c 4 (some (.array (.object "java/lang/Object"))), Cond.classLink RJ7 110 "[Ljava/lang/Object;", Cond.classLink RJ7 2 "java/lang/Object", Cond.methodLink RJ7 304 Lib.Math.min.name, Cond.static Lib.Math.min.name, Cond.code Lib.Math.min.name Lib.Math.min.code 2 (some .int), Cond.methodLink RJ7 150 arraycopyName, Cond.native arraycopyName, Cond.static arraycopyName, Cond.initialized "java/lang/System"]
def wsL_user : List Cond := .codeWith yL_user cL_user 4 (some .int) [(0, 9, 12, 13), (0, 9, 15, 15)] :: ((wsL_user_r1 ++ (wsL_user_r2 ++ (wsL_user_r3 ++ wsL_user_r4))) ++ wsX70 ++ wsX60 ++ wsJx4a65c0 ++ (vx_atS RX7 231 "java/lang/IllegalArgumentException" ["java/lang/RuntimeException", "java/lang/Exception"]).filter goodWord ++ (vx_atS RX7 100 "java/lang/IllegalStateException" ["java/lang/RuntimeException", "java/lang/Exception"]).filter goodWord)
def wsL_role_r1 : List Cond := [Cond.classLink RL 21 "java/lang/IndexOutOfBoundsException", Cond.methodLink RL 17 yX7_role, Cond.instanceMethod yX7_role, Cond.selects RX7 yX7_role yX7_role, Cond.initialized RX7, Cond.code yX7_role cX7_role 5 (some .int), Cond.fieldLink RX7 78 "MarkChat$User" "rank" "I", Cond.methodLink RX7 74 yX7_userAt, Cond.instanceMethod yX7_userAt, Cond.selects RX7 yX7_userAt yX7_userAt, Cond.code yX7_userAt cX7_userAt 2 (some (.object "MarkChat$User")), Cond.classLink RX7 251 "java/lang/IndexOutOfBoundsException", Cond.initialized "java/lang/IndexOutOfBoundsException", Cond.fieldLink RX7 25 "MarkChat" "users" "Ljava/util/ArrayList;", Cond.classLink RX7 67 "MarkChat$User", Cond.methodLink RX7 59 yJx4a65c_size_8abf5, Cond.instanceMethod yJx4a65c_size_8abf5, Cond.selects RJx4a65c yJx4a65c_size_8abf5 yJx4a65c_size_8abf5, Cond.initialized RJx4a65c, Cond.code yJx4a65c_size_8abf5 cJx4a65c_size_8abf5 1 (some .int), Cond.fieldLink RJx4a65c 48 "java/util/ArrayList" "size" "I", Cond.methodLink RX7 210 yJx4a65c_get_915e3, Cond.instanceMethod yJx4a65c_get_915e3, Cond.selects RJx4a65c yJx4a65c_get_915e3 yJx4a65c_get_915e3]
def wsL_role_r2 : List Cond := [Cond.code yJx4a65c_get_915e3 cJx4a65c_get_915e3 2 (some (.object "java/lang/Object")), Cond.methodLink RJx4a65c 118 yJ15_checkIndex_7cf53, Cond.static yJ15_checkIndex_7cf53, Cond.initialized RJ15, Cond.code yJ15_checkIndex_7cf53 cJ15_checkIndex_7cf53 2 (some .int), Cond.methodLink RJ15 105 yJ3_checkIndex_8e157, Cond.static yJ3_checkIndex_8e157, Cond.initialized RJ3, Cond.code yJ3_checkIndex_8e157 cJ3_checkIndex_8e157 3 (some .int), Cond.methodLink RJx4a65c 123 yJx4a65c_elementData_915e3, Cond.instanceMethod yJx4a65c_elementData_915e3, Cond.selects RJx4a65c yJx4a65c_elementData_915e3 yJx4a65c_elementData_915e3, Cond.code yJx4a65c_elementData_915e3 cJx4a65c_elementData_915e3 2 (some (.object "java/lang/Object")), Cond.fieldLink RJx4a65c 9 "java/util/ArrayList" "elementData" "[Ljava/lang/Object;", Cond.methodLink RX7 55 yX7_checkRange, Cond.static yX7_checkRange, Cond.code yX7_checkRange cX7_checkRange 3 none, Cond.classLink RX7 227 "java/lang/IllegalArgumentException", Cond.initialized "java/lang/IllegalArgumentException", Cond.methodLink RX7 81 yX7_takeSpendsBack, Cond.instanceMethod yX7_takeSpendsBack, Cond.selects RX7 yX7_takeSpendsBack yX7_takeSpendsBack, Cond.code yX7_takeSpendsBack cX7_takeSpendsBack 3 none, Cond.fieldLink RX7 31 "MarkChat" "spends" "Ljava/util/ArrayList;"]
def wsL_role_r3 : List Cond := [Cond.classLink RX7 175 "MarkChat$Spend", Cond.fieldLink RX7 240 "MarkChat$Spend" "state" "I", Cond.fieldLink RX7 241 "MarkChat$Spend" "message" "LMarkChat$Message;", Cond.fieldLink RX7 111 "MarkChat$Message" "channel" "LMarkChat$Channel;", Cond.fieldLink RX7 92 "MarkChat$Channel" "cents" "I", Cond.fieldLink RX7 246 "MarkChat$Spend" "amount" "I", Cond.methodLink RX7 304 yX7_isStillDue, Cond.instanceMethod yX7_isStillDue, Cond.selects RX7 yX7_isStillDue yX7_isStillDue, Cond.code yX7_isStillDue cX7_isStillDue 3 (some .boolean), Cond.fieldLink RX7 136 "MarkChat$Message" "version" "I", Cond.fieldLink RX7 245 "MarkChat$Spend" "version" "I", Cond.fieldLink RX7 139 "MarkChat$Message" "marks" "LMarkChat$Marks;", Cond.methodLink RX7 167 yX7_approve, Cond.instanceMethod yX7_approve, Cond.selects RX7 yX7_approve yX7_approve, Cond.code yX7_approve cX7_approve 9 (some .boolean), Cond.fieldLink RX7 51 "MarkChat" "hour" "I", Cond.fieldLink RX7 130 "MarkChat$Message" "author" "LMarkChat$User;", Cond.fieldLink RX7 71 "MarkChat$User" "number" "I", Cond.methodLink RX7 151 yX2_kindOf, Cond.instanceMethod yX2_kindOf, Cond.selects RX2 yX2_kindOf yX2_kindOf, Cond.initialized RX2]
def wsL_role_r4 : List Cond := [Cond.code yX2_kindOf cX2_kindOf 2 (some .int), Cond.fieldLink RX2 9 "MarkChat$Marks" "kinds" "[I", Cond.methodLink RX7 301 yX6_countsAt, Cond.instanceMethod yX6_countsAt, Cond.selects RX6 yX6_countsAt yX6_countsAt, Cond.initialized RX6, Cond.code yX6_countsAt cX6_countsAt 2 (some .boolean), Cond.fieldLink RX6 15 "MarkChat$User" "rank" "I", Cond.methodLink RX6 21 yX6_isGoneAt, Cond.instanceMethod yX6_isGoneAt, Cond.selects RX6 yX6_isGoneAt yX6_isGoneAt, Cond.code yX6_isGoneAt cX6_isGoneAt 2 (some .boolean), Cond.fieldLink RX6 18 "MarkChat$User" "endHour" "I"]
def wsL_role : List Cond := .codeWith yL_role cL_role 5 (some .int) [(0, 10, 13, 21), (0, 10, 17, 13)] :: ((wsL_role_r1 ++ (wsL_role_r2 ++ (wsL_role_r3 ++ wsL_role_r4))) ++ wsX60 ++ wsX70 ++ wsJx4a65c0 ++ wsX40 ++ wsX30 ++ wsX00 ++ wsX20 ++ (vx_atS RX7 255 "java/lang/IndexOutOfBoundsException" ["java/lang/RuntimeException", "java/lang/Exception"]).filter goodWord ++ (vx_atS RX7 231 "java/lang/IllegalArgumentException" ["java/lang/RuntimeException", "java/lang/Exception"]).filter goodWord)
def wsL_ends_r1 : List Cond := [Cond.classLink RL 21 "java/lang/IndexOutOfBoundsException", Cond.methodLink RL 23 yX7_ends, Cond.instanceMethod yX7_ends, Cond.selects RX7 yX7_ends yX7_ends, Cond.initialized RX7, Cond.code yX7_ends cX7_ends 4 (some .int), Cond.fieldLink RX7 51 "MarkChat" "hour" "I", Cond.fieldLink RX7 84 "MarkChat$User" "endHour" "I", Cond.methodLink RX7 74 yX7_userAt, Cond.instanceMethod yX7_userAt, Cond.selects RX7 yX7_userAt yX7_userAt, Cond.code yX7_userAt cX7_userAt 2 (some (.object "MarkChat$User")), Cond.classLink RX7 251 "java/lang/IndexOutOfBoundsException", Cond.initialized "java/lang/IndexOutOfBoundsException", Cond.fieldLink RX7 25 "MarkChat" "users" "Ljava/util/ArrayList;", Cond.classLink RX7 67 "MarkChat$User", Cond.methodLink RX7 59 yJx4a65c_size_8abf5, Cond.instanceMethod yJx4a65c_size_8abf5, Cond.selects RJx4a65c yJx4a65c_size_8abf5 yJx4a65c_size_8abf5, Cond.initialized RJx4a65c, Cond.code yJx4a65c_size_8abf5 cJx4a65c_size_8abf5 1 (some .int), Cond.fieldLink RJx4a65c 48 "java/util/ArrayList" "size" "I", Cond.methodLink RX7 210 yJx4a65c_get_915e3, Cond.instanceMethod yJx4a65c_get_915e3]
def wsL_ends_r2 : List Cond := [Cond.selects RJx4a65c yJx4a65c_get_915e3 yJx4a65c_get_915e3, Cond.code yJx4a65c_get_915e3 cJx4a65c_get_915e3 2 (some (.object "java/lang/Object")), Cond.methodLink RJx4a65c 118 yJ15_checkIndex_7cf53, Cond.static yJ15_checkIndex_7cf53, Cond.initialized RJ15, Cond.code yJ15_checkIndex_7cf53 cJ15_checkIndex_7cf53 2 (some .int), Cond.methodLink RJ15 105 yJ3_checkIndex_8e157, Cond.static yJ3_checkIndex_8e157, Cond.initialized RJ3, Cond.code yJ3_checkIndex_8e157 cJ3_checkIndex_8e157 3 (some .int), Cond.methodLink RJx4a65c 123 yJx4a65c_elementData_915e3, Cond.instanceMethod yJx4a65c_elementData_915e3, Cond.selects RJx4a65c yJx4a65c_elementData_915e3 yJx4a65c_elementData_915e3, Cond.code yJx4a65c_elementData_915e3 cJx4a65c_elementData_915e3 2 (some (.object "java/lang/Object")), Cond.fieldLink RJx4a65c 9 "java/util/ArrayList" "elementData" "[Ljava/lang/Object;", Cond.methodLink RX7 55 yX7_checkRange, Cond.static yX7_checkRange, Cond.code yX7_checkRange cX7_checkRange 3 none, Cond.classLink RX7 227 "java/lang/IllegalArgumentException", Cond.initialized "java/lang/IllegalArgumentException", Cond.methodLink RX7 81 yX7_takeSpendsBack, Cond.instanceMethod yX7_takeSpendsBack, Cond.selects RX7 yX7_takeSpendsBack yX7_takeSpendsBack, Cond.code yX7_takeSpendsBack cX7_takeSpendsBack 3 none]
def wsL_ends_r3 : List Cond := [Cond.fieldLink RX7 31 "MarkChat" "spends" "Ljava/util/ArrayList;", Cond.classLink RX7 175 "MarkChat$Spend", Cond.fieldLink RX7 240 "MarkChat$Spend" "state" "I", Cond.fieldLink RX7 241 "MarkChat$Spend" "message" "LMarkChat$Message;", Cond.fieldLink RX7 111 "MarkChat$Message" "channel" "LMarkChat$Channel;", Cond.fieldLink RX7 92 "MarkChat$Channel" "cents" "I", Cond.fieldLink RX7 246 "MarkChat$Spend" "amount" "I", Cond.methodLink RX7 304 yX7_isStillDue, Cond.instanceMethod yX7_isStillDue, Cond.selects RX7 yX7_isStillDue yX7_isStillDue, Cond.code yX7_isStillDue cX7_isStillDue 3 (some .boolean), Cond.fieldLink RX7 136 "MarkChat$Message" "version" "I", Cond.fieldLink RX7 245 "MarkChat$Spend" "version" "I", Cond.fieldLink RX7 139 "MarkChat$Message" "marks" "LMarkChat$Marks;", Cond.methodLink RX7 167 yX7_approve, Cond.instanceMethod yX7_approve, Cond.selects RX7 yX7_approve yX7_approve, Cond.code yX7_approve cX7_approve 9 (some .boolean), Cond.fieldLink RX7 78 "MarkChat$User" "rank" "I", Cond.fieldLink RX7 130 "MarkChat$Message" "author" "LMarkChat$User;", Cond.fieldLink RX7 71 "MarkChat$User" "number" "I", Cond.methodLink RX7 151 yX2_kindOf, Cond.instanceMethod yX2_kindOf, Cond.selects RX2 yX2_kindOf yX2_kindOf]
def wsL_ends_r4 : List Cond := [Cond.initialized RX2, Cond.code yX2_kindOf cX2_kindOf 2 (some .int), Cond.fieldLink RX2 9 "MarkChat$Marks" "kinds" "[I", Cond.methodLink RX7 301 yX6_countsAt, Cond.instanceMethod yX6_countsAt, Cond.selects RX6 yX6_countsAt yX6_countsAt, Cond.initialized RX6, Cond.code yX6_countsAt cX6_countsAt 2 (some .boolean), Cond.fieldLink RX6 15 "MarkChat$User" "rank" "I", Cond.methodLink RX6 21 yX6_isGoneAt, Cond.instanceMethod yX6_isGoneAt, Cond.selects RX6 yX6_isGoneAt yX6_isGoneAt, Cond.code yX6_isGoneAt cX6_isGoneAt 2 (some .boolean), Cond.fieldLink RX6 18 "MarkChat$User" "endHour" "I"]
def wsL_ends : List Cond := .codeWith yL_ends cL_ends 5 (some .int) [(0, 10, 13, 21), (0, 10, 17, 13)] :: ((wsL_ends_r1 ++ (wsL_ends_r2 ++ (wsL_ends_r3 ++ wsL_ends_r4))) ++ wsX70 ++ wsX60 ++ wsJx4a65c0 ++ wsX40 ++ wsX30 ++ wsX00 ++ wsX20 ++ (vx_atS RX7 255 "java/lang/IndexOutOfBoundsException" ["java/lang/RuntimeException", "java/lang/Exception"]).filter goodWord ++ (vx_atS RX7 231 "java/lang/IllegalArgumentException" ["java/lang/RuntimeException", "java/lang/Exception"]).filter goodWord)
def wsL_budget_r1 : List Cond := [Cond.classLink RL 21 "java/lang/IndexOutOfBoundsException", Cond.methodLink RL 26 yX7_budget, Cond.instanceMethod yX7_budget, Cond.selects RX7 yX7_budget yX7_budget, Cond.initialized RX7, Cond.code yX7_budget cX7_budget 4 (some .int), Cond.classLink RX7 96 "java/lang/IllegalStateException", Cond.initialized "java/lang/IllegalStateException", Cond.constant RX7 91 (1000000), Cond.fieldLink RX7 92 "MarkChat$Channel" "cents" "I", Cond.constant RX7 95 (1000000000), Cond.methodLink RX7 87 yX7_channelAt, Cond.instanceMethod yX7_channelAt, Cond.selects RX7 yX7_channelAt yX7_channelAt, Cond.code yX7_channelAt cX7_channelAt 2 (some (.object "MarkChat$Channel")), Cond.classLink RX7 251 "java/lang/IndexOutOfBoundsException", Cond.initialized "java/lang/IndexOutOfBoundsException", Cond.fieldLink RX7 10 "MarkChat" "channels" "Ljava/util/ArrayList;", Cond.classLink RX7 16 "MarkChat$Channel", Cond.methodLink RX7 59 yJx4a65c_size_8abf5, Cond.instanceMethod yJx4a65c_size_8abf5, Cond.selects RJx4a65c yJx4a65c_size_8abf5 yJx4a65c_size_8abf5, Cond.initialized RJx4a65c, Cond.code yJx4a65c_size_8abf5 cJx4a65c_size_8abf5 1 (some .int)]
def wsL_budget_r2 : List Cond := [Cond.fieldLink RJx4a65c 48 "java/util/ArrayList" "size" "I", Cond.methodLink RX7 210 yJx4a65c_get_915e3, Cond.instanceMethod yJx4a65c_get_915e3, Cond.selects RJx4a65c yJx4a65c_get_915e3 yJx4a65c_get_915e3, Cond.code yJx4a65c_get_915e3 cJx4a65c_get_915e3 2 (some (.object "java/lang/Object")), Cond.methodLink RJx4a65c 118 yJ15_checkIndex_7cf53, Cond.static yJ15_checkIndex_7cf53, Cond.initialized RJ15, Cond.code yJ15_checkIndex_7cf53 cJ15_checkIndex_7cf53 2 (some .int), Cond.methodLink RJ15 105 yJ3_checkIndex_8e157, Cond.static yJ3_checkIndex_8e157, Cond.initialized RJ3, Cond.code yJ3_checkIndex_8e157 cJ3_checkIndex_8e157 3 (some .int), Cond.methodLink RJx4a65c 123 yJx4a65c_elementData_915e3, Cond.instanceMethod yJx4a65c_elementData_915e3, Cond.selects RJx4a65c yJx4a65c_elementData_915e3 yJx4a65c_elementData_915e3, Cond.code yJx4a65c_elementData_915e3 cJx4a65c_elementData_915e3 2 (some (.object "java/lang/Object")), Cond.fieldLink RJx4a65c 9 "java/util/ArrayList" "elementData" "[Ljava/lang/Object;", Cond.methodLink RX7 55 yX7_checkRange, Cond.static yX7_checkRange, Cond.code yX7_checkRange cX7_checkRange 3 none, Cond.classLink RX7 227 "java/lang/IllegalArgumentException", Cond.initialized "java/lang/IllegalArgumentException"]
def wsL_budget : List Cond := .codeWith yL_budget cL_budget 5 (some .int) [(0, 10, 13, 21), (0, 10, 17, 13), (0, 10, 21, 15)] :: ((wsL_budget_r1 ++ wsL_budget_r2) ++ wsX00 ++ wsX70 ++ wsJx4a65c0 ++ (vx_atS RX7 100 "java/lang/IllegalStateException" ["java/lang/RuntimeException", "java/lang/Exception"]).filter goodWord ++ (vx_atS RX7 255 "java/lang/IndexOutOfBoundsException" ["java/lang/RuntimeException", "java/lang/Exception"]).filter goodWord ++ (vx_atS RX7 231 "java/lang/IllegalArgumentException" ["java/lang/RuntimeException", "java/lang/Exception"]).filter goodWord)
def wsL_post_r1 : List Cond := [Cond.classLink RL 21 "java/lang/IndexOutOfBoundsException", Cond.methodLink RL 29 yX7_post, Cond.instanceMethod yX7_post, Cond.selects RX7 yX7_post yX7_post, Cond.initialized RX7, Cond.code yX7_post cX7_post 7 (some .int), Cond.classLink RX7 96 "java/lang/IllegalStateException", Cond.initialized "java/lang/IllegalStateException", Cond.fieldLink RX7 111 "MarkChat$Message" "channel" "LMarkChat$Channel;", Cond.fieldLink RX7 117 "MarkChat$Channel" "number" "I", Cond.fieldLink RX7 28 "MarkChat" "messages" "Ljava/util/ArrayList;", Cond.classLink RX7 112 RX3, Cond.instantiable RX3 8, Cond.initialized RX3, Cond.fieldLink RX7 51 "MarkChat" "hour" "I", Cond.fieldLink RX7 127 "MarkChat$Message" "number" "I", Cond.methodLink RX7 74 yX7_userAt, Cond.instanceMethod yX7_userAt, Cond.selects RX7 yX7_userAt yX7_userAt, Cond.code yX7_userAt cX7_userAt 2 (some (.object "MarkChat$User")), Cond.classLink RX7 251 "java/lang/IndexOutOfBoundsException", Cond.initialized "java/lang/IndexOutOfBoundsException", Cond.fieldLink RX7 25 "MarkChat" "users" "Ljava/util/ArrayList;", Cond.classLink RX7 67 "MarkChat$User"]
def wsL_post_r2 : List Cond := [Cond.methodLink RX7 59 yJx4a65c_size_8abf5, Cond.instanceMethod yJx4a65c_size_8abf5, Cond.selects RJx4a65c yJx4a65c_size_8abf5 yJx4a65c_size_8abf5, Cond.initialized RJx4a65c, Cond.code yJx4a65c_size_8abf5 cJx4a65c_size_8abf5 1 (some .int), Cond.fieldLink RJx4a65c 48 "java/util/ArrayList" "size" "I", Cond.methodLink RX7 210 yJx4a65c_get_915e3, Cond.instanceMethod yJx4a65c_get_915e3, Cond.selects RJx4a65c yJx4a65c_get_915e3 yJx4a65c_get_915e3, Cond.code yJx4a65c_get_915e3 cJx4a65c_get_915e3 2 (some (.object "java/lang/Object")), Cond.methodLink RJx4a65c 118 yJ15_checkIndex_7cf53, Cond.static yJ15_checkIndex_7cf53, Cond.initialized RJ15, Cond.code yJ15_checkIndex_7cf53 cJ15_checkIndex_7cf53 2 (some .int), Cond.methodLink RJ15 105 yJ3_checkIndex_8e157, Cond.static yJ3_checkIndex_8e157, Cond.initialized RJ3, Cond.code yJ3_checkIndex_8e157 cJ3_checkIndex_8e157 3 (some .int), Cond.methodLink RJx4a65c 123 yJx4a65c_elementData_915e3, Cond.instanceMethod yJx4a65c_elementData_915e3, Cond.selects RJx4a65c yJx4a65c_elementData_915e3 yJx4a65c_elementData_915e3, Cond.code yJx4a65c_elementData_915e3 cJx4a65c_elementData_915e3 2 (some (.object "java/lang/Object")), Cond.fieldLink RJx4a65c 9 "java/util/ArrayList" "elementData" "[Ljava/lang/Object;", Cond.methodLink RX7 87 yX7_channelAt]
def wsL_post_r3 : List Cond := [Cond.instanceMethod yX7_channelAt, Cond.selects RX7 yX7_channelAt yX7_channelAt, Cond.code yX7_channelAt cX7_channelAt 2 (some (.object "MarkChat$Channel")), Cond.fieldLink RX7 10 "MarkChat" "channels" "Ljava/util/ArrayList;", Cond.classLink RX7 16 "MarkChat$Channel", Cond.methodLink RX7 103 yX7_messageAt, Cond.instanceMethod yX7_messageAt, Cond.selects RX7 yX7_messageAt yX7_messageAt, Cond.code yX7_messageAt cX7_messageAt 2 (some (.object "MarkChat$Message")), Cond.classLink RX7 112 "MarkChat$Message", Cond.methodLink RX7 107 yX7_refuseArchived, Cond.static yX7_refuseArchived, Cond.code yX7_refuseArchived cX7_refuseArchived 1 none, Cond.fieldLink RX7 218 "MarkChat$Message" "isArchived" "Z", Cond.methodLink RX7 120 yX7_refuseGone, Cond.instanceMethod yX7_refuseGone, Cond.selects RX7 yX7_refuseGone yX7_refuseGone, Cond.code yX7_refuseGone cX7_refuseGone 2 none, Cond.methodLink RX7 293 yX6_isGoneAt, Cond.instanceMethod yX6_isGoneAt, Cond.selects RX6 yX6_isGoneAt yX6_isGoneAt, Cond.initialized RX6, Cond.code yX6_isGoneAt cX6_isGoneAt 2 (some .boolean), Cond.fieldLink RX6 18 "MarkChat$User" "endHour" "I"]
def wsL_post_r4 : List Cond := [Cond.methodLink RX7 63 yX7_refuseFull, Cond.static yX7_refuseFull, Cond.code yX7_refuseFull cX7_refuseFull 2 none, Cond.methodLink RX7 124 yX3_init, Cond.instanceMethod yX3_init, Cond.code yX3_init cX3_init 6 none, Cond.methodLink RX3 1 objectInit, Cond.instanceMethod objectInit, Cond.code objectInit ⟨#[0xb1]⟩ 1 none, Cond.fieldLink RX3 7 "MarkChat$Message" "number" "I", Cond.fieldLink RX3 13 "MarkChat$Message" "author" "LMarkChat$User;", Cond.fieldLink RX3 17 "MarkChat$Message" "channel" "LMarkChat$Channel;", Cond.fieldLink RX3 21 "MarkChat$Message" "parent" "I", Cond.fieldLink RX3 24 "MarkChat$Message" "postHour" "I", Cond.classLink RX3 27 RX2, Cond.instantiable RX2 1, Cond.initialized RX2, Cond.fieldLink RX3 30 "MarkChat$Message" "marks" "LMarkChat$Marks;", Cond.methodLink RX3 29 yX2_init, Cond.instanceMethod yX2_init, Cond.code yX2_init cX2_init 1 none, Cond.methodLink RX2 3 objectInit, Cond.arrayClass .int, Cond.fieldLink RX2 9 "MarkChat$Marks" "kinds" "[I"]
def wsL_post_r5 : List Cond := [Cond.methodLink RX2 15 yJ7_fill_53178, Cond.static yJ7_fill_53178, Cond.initialized RJ7, Cond.code yJ7_fill_53178 cJ7_fill_53178 4 none, Cond.methodLink RX7 21 yJx4a65c_add_9ea2d, Cond.instanceMethod yJx4a65c_add_9ea2d, Cond.selects RJx4a65c yJx4a65c_add_9ea2d yJx4a65c_add_9ea2d, Cond.code yJx4a65c_add_9ea2d cJx4a65c_add_9ea2d 2 (some .boolean), Cond.fieldLink RJx4a65c 63 "java/util/ArrayList" "modCount" "I", Cond.sameField "java/util/ArrayList" "java/util/AbstractList" "modCount" "I", Cond.methodLink RJx4a65c 131 yJx4a65c_add_72be8, Cond.instanceMethod yJx4a65c_add_72be8, Cond.selects RJx4a65c yJx4a65c_add_72be8 yJx4a65c_add_72be8, Cond.code yJx4a65c_add_72be8 cJx4a65c_add_72be8 4 none, Cond.methodLink RJx4a65c 129 yJx4a65c_grow_d5877, Cond.instanceMethod yJx4a65c_grow_d5877, Cond.selects RJx4a65c yJx4a65c_grow_d5877 yJx4a65c_grow_d5877, Cond.code yJx4a65c_grow_d5877 cJx4a65c_grow_d5877 1 (some (.array (.object "java/lang/Object"))), Cond.methodLink RJx4a65c 69 yJx4a65c_grow_92f84, Cond.instanceMethod yJx4a65c_grow_92f84, Cond.selects RJx4a65c yJx4a65c_grow_92f84 yJx4a65c_grow_92f84, Cond.code yJx4a65c_grow_92f84 cJx4a65c_grow_92f84 4 (some (.array (.object "java/lang/Object"))), Cond.fieldLink RJx4a65c 39 "java/util/ArrayList" "DEFAULTCAPACITY_EMPTY_ELEMENTDATA" "[Ljava/lang/Object;", Cond.methodLink RJx4a65c 79 Lib.Math.max.name]
def wsL_post_r6 : List Cond := [Cond.static Lib.Math.max.name, Cond.initialized "java/lang/Math", Cond.code Lib.Math.max.name Lib.Math.max.code 2 (some .int), Cond.classLink RJx4a65c 7 "java/lang/Object", Cond.methodLink RJx4a65c 73 yJ8_newLength_cabcc, Cond.static yJ8_newLength_cabcc, Cond.initialized RJ8, Cond.code yJ8_newLength_cabcc cJ8_newLength_cabcc 4 (some .int), Cond.methodLink RJ8 194 Lib.Math.max.name, Cond.constant RJ8 200 (2147483639), Cond.methodLink RJ8 201 yJ8_hugeLength_7cf53, Cond.static yJ8_hugeLength_7cf53, Cond.code yJ8_hugeLength_7cf53 cJ8_hugeLength_7cf53 3 (some .int), Cond.methodLink RJx4a65c 66 yJ7_copyOf_1904c, Cond.static yJ7_copyOf_1904c, Cond.code yJ7_copyOf_1904c cJ7_copyOf_1904c 2 (some (.array (.object "java/lang/Object"))), Cond.methodLink RJ7 86 ⟨"java/lang/Object", "getClass", "()Ljava/lang/Class;"⟩, Cond.selects "[Ljava/lang/Object;" ⟨"java/lang/Object", "getClass", "()Ljava/lang/Class;"⟩ ⟨"java/lang/Object", "getClass", "()Ljava/lang/Class;"⟩, Cond.instanceMethod ⟨"java/lang/Object", "getClass", "()Ljava/lang/Class;"⟩, Cond.native ⟨"java/lang/Object", "getClass", "()Ljava/lang/Class;"⟩, Cond.methodLink RJ7 300 yJ7_copyOf_6403c, Cond.static yJ7_copyOf_6403c, Cond.code yJ7_copyOf_6403c cJ7_copyOf_6403c 4 (some (.array (.object "java/lang/Object"))), Cond.classLink RJ7 110 "[Ljava/lang/Object;"]
def wsL_post_r7 : List Cond := [Cond.classLink RJ7 2 "java/lang/Object", Cond.methodLink RJ7 304 Lib.Math.min.name, Cond.static Lib.Math.min.name, Cond.code Lib.Math.min.name Lib.Math.min.code 2 (some .int), Cond.methodLink RJ7 150 arraycopyName, Cond.native arraycopyName, Cond.static arraycopyName, Cond.initialized "java/lang/System"]
def wsL_post : List Cond := .codeWith yL_post cL_post 6 (some .int) [(0, 12, 15, 21), (0, 12, 19, 15)] :: ((wsL_post_r1 ++ (wsL_post_r2 ++ (wsL_post_r3 ++ (wsL_post_r4 ++ (wsL_post_r5 ++ (wsL_post_r6 ++ wsL_post_r7)))))) ++ wsX30 ++ wsX00 ++ wsX70 ++ wsJx4a65c0 ++ wsX60 ++ wsX20 ++ (vx_atS RX7 100 "java/lang/IllegalStateException" ["java/lang/RuntimeException", "java/lang/Exception"]).filter goodWord ++ (vx_atS RX7 255 "java/lang/IndexOutOfBoundsException" ["java/lang/RuntimeException", "java/lang/Exception"]).filter goodWord)
def wsL_edit_r1 : List Cond := [Cond.classLink RL 21 "java/lang/IndexOutOfBoundsException", Cond.methodLink RL 33 yX7_edit, Cond.instanceMethod yX7_edit, Cond.selects RX7 yX7_edit yX7_edit, Cond.initialized RX7, Cond.code yX7_edit cX7_edit 5 (some .int), Cond.classLink RX7 96 "java/lang/IllegalStateException", Cond.initialized "java/lang/IllegalStateException", Cond.fieldLink RX7 40 "MarkChat" "log" "LMarkChat$Log;", Cond.fieldLink RX7 128 "MarkChat$Log" "size" "I", Cond.fieldLink RX7 130 "MarkChat$Message" "author" "LMarkChat$User;", Cond.fieldLink RX7 71 "MarkChat$User" "number" "I", Cond.fieldLink RX7 136 "MarkChat$Message" "version" "I", Cond.fieldLink RX7 139 "MarkChat$Message" "marks" "LMarkChat$Marks;", Cond.methodLink RX7 74 yX7_userAt, Cond.instanceMethod yX7_userAt, Cond.selects RX7 yX7_userAt yX7_userAt, Cond.code yX7_userAt cX7_userAt 2 (some (.object "MarkChat$User")), Cond.classLink RX7 251 "java/lang/IndexOutOfBoundsException", Cond.initialized "java/lang/IndexOutOfBoundsException", Cond.fieldLink RX7 25 "MarkChat" "users" "Ljava/util/ArrayList;", Cond.classLink RX7 67 "MarkChat$User", Cond.methodLink RX7 59 yJx4a65c_size_8abf5, Cond.instanceMethod yJx4a65c_size_8abf5]
def wsL_edit_r2 : List Cond := [Cond.selects RJx4a65c yJx4a65c_size_8abf5 yJx4a65c_size_8abf5, Cond.initialized RJx4a65c, Cond.code yJx4a65c_size_8abf5 cJx4a65c_size_8abf5 1 (some .int), Cond.fieldLink RJx4a65c 48 "java/util/ArrayList" "size" "I", Cond.methodLink RX7 210 yJx4a65c_get_915e3, Cond.instanceMethod yJx4a65c_get_915e3, Cond.selects RJx4a65c yJx4a65c_get_915e3 yJx4a65c_get_915e3, Cond.code yJx4a65c_get_915e3 cJx4a65c_get_915e3 2 (some (.object "java/lang/Object")), Cond.methodLink RJx4a65c 118 yJ15_checkIndex_7cf53, Cond.static yJ15_checkIndex_7cf53, Cond.initialized RJ15, Cond.code yJ15_checkIndex_7cf53 cJ15_checkIndex_7cf53 2 (some .int), Cond.methodLink RJ15 105 yJ3_checkIndex_8e157, Cond.static yJ3_checkIndex_8e157, Cond.initialized RJ3, Cond.code yJ3_checkIndex_8e157 cJ3_checkIndex_8e157 3 (some .int), Cond.methodLink RJx4a65c 123 yJx4a65c_elementData_915e3, Cond.instanceMethod yJx4a65c_elementData_915e3, Cond.selects RJx4a65c yJx4a65c_elementData_915e3 yJx4a65c_elementData_915e3, Cond.code yJx4a65c_elementData_915e3 cJx4a65c_elementData_915e3 2 (some (.object "java/lang/Object")), Cond.fieldLink RJx4a65c 9 "java/util/ArrayList" "elementData" "[Ljava/lang/Object;", Cond.methodLink RX7 103 yX7_messageAt, Cond.instanceMethod yX7_messageAt, Cond.selects RX7 yX7_messageAt yX7_messageAt]
def wsL_edit_r3 : List Cond := [Cond.code yX7_messageAt cX7_messageAt 2 (some (.object "MarkChat$Message")), Cond.fieldLink RX7 28 "MarkChat" "messages" "Ljava/util/ArrayList;", Cond.classLink RX7 112 "MarkChat$Message", Cond.methodLink RX7 120 yX7_refuseGone, Cond.instanceMethod yX7_refuseGone, Cond.selects RX7 yX7_refuseGone yX7_refuseGone, Cond.code yX7_refuseGone cX7_refuseGone 2 none, Cond.fieldLink RX7 51 "MarkChat" "hour" "I", Cond.methodLink RX7 293 yX6_isGoneAt, Cond.instanceMethod yX6_isGoneAt, Cond.selects RX6 yX6_isGoneAt yX6_isGoneAt, Cond.initialized RX6, Cond.code yX6_isGoneAt cX6_isGoneAt 2 (some .boolean), Cond.fieldLink RX6 18 "MarkChat$User" "endHour" "I", Cond.methodLink RX7 107 yX7_refuseArchived, Cond.static yX7_refuseArchived, Cond.code yX7_refuseArchived cX7_refuseArchived 1 none, Cond.fieldLink RX7 218 "MarkChat$Message" "isArchived" "Z", Cond.methodLink RX7 63 yX7_refuseFull, Cond.static yX7_refuseFull, Cond.code yX7_refuseFull cX7_refuseFull 2 none, Cond.methodLink RX7 142 yX2_clear, Cond.instanceMethod yX2_clear, Cond.selects RX2 yX2_clear yX2_clear]
def wsL_edit_r4 : List Cond := [Cond.initialized RX2, Cond.code yX2_clear cX2_clear 1 none, Cond.fieldLink RX2 9 "MarkChat$Marks" "kinds" "[I", Cond.methodLink RX2 15 yJ7_fill_53178, Cond.static yJ7_fill_53178, Cond.initialized RJ7, Cond.code yJ7_fill_53178 cJ7_fill_53178 4 none, Cond.methodLink RX7 145 yX1_writeEdit, Cond.instanceMethod yX1_writeEdit, Cond.selects RX1 yX1_writeEdit yX1_writeEdit, Cond.initialized RX1, Cond.code yX1_writeEdit cX1_writeEdit 2 none, Cond.methodLink RX1 21 yX1_write, Cond.instanceMethod yX1_write, Cond.selects RX1 yX1_write yX1_write, Cond.code yX1_write cX1_write 4 none, Cond.fieldLink RX1 25 "MarkChat$Log" "size" "I", Cond.fieldLink RX1 9 "MarkChat$Log" "messages" "[I", Cond.fieldLink RX1 15 "MarkChat$Log" "users" "[I", Cond.fieldLink RX1 18 "MarkChat$Log" "kinds" "[I", Cond.methodLink RX7 148 yX7_dropTasksOf, Cond.instanceMethod yX7_dropTasksOf, Cond.selects RX7 yX7_dropTasksOf yX7_dropTasksOf, Cond.code yX7_dropTasksOf cX7_dropTasksOf 4 none]
def wsL_edit_r5 : List Cond := [Cond.fieldLink RX7 34 "MarkChat" "tasks" "Ljava/util/ArrayList;", Cond.classLink RX7 181 "MarkChat$Task", Cond.fieldLink RX7 308 "MarkChat$Task" "message" "I", Cond.fieldLink RX7 196 "MarkChat$Task" "state" "I", Cond.methodLink RX7 81 yX7_takeSpendsBack, Cond.instanceMethod yX7_takeSpendsBack, Cond.selects RX7 yX7_takeSpendsBack yX7_takeSpendsBack, Cond.code yX7_takeSpendsBack cX7_takeSpendsBack 3 none, Cond.fieldLink RX7 31 "MarkChat" "spends" "Ljava/util/ArrayList;", Cond.classLink RX7 175 "MarkChat$Spend", Cond.fieldLink RX7 240 "MarkChat$Spend" "state" "I", Cond.fieldLink RX7 241 "MarkChat$Spend" "message" "LMarkChat$Message;", Cond.fieldLink RX7 111 "MarkChat$Message" "channel" "LMarkChat$Channel;", Cond.fieldLink RX7 92 "MarkChat$Channel" "cents" "I", Cond.fieldLink RX7 246 "MarkChat$Spend" "amount" "I", Cond.methodLink RX7 304 yX7_isStillDue, Cond.instanceMethod yX7_isStillDue, Cond.selects RX7 yX7_isStillDue yX7_isStillDue, Cond.code yX7_isStillDue cX7_isStillDue 3 (some .boolean), Cond.fieldLink RX7 245 "MarkChat$Spend" "version" "I", Cond.methodLink RX7 167 yX7_approve, Cond.instanceMethod yX7_approve, Cond.selects RX7 yX7_approve yX7_approve, Cond.code yX7_approve cX7_approve 9 (some .boolean)]
def wsL_edit_r6 : List Cond := [Cond.fieldLink RX7 78 "MarkChat$User" "rank" "I", Cond.methodLink RX7 151 yX2_kindOf, Cond.instanceMethod yX2_kindOf, Cond.selects RX2 yX2_kindOf yX2_kindOf, Cond.code yX2_kindOf cX2_kindOf 2 (some .int), Cond.methodLink RX7 301 yX6_countsAt, Cond.instanceMethod yX6_countsAt, Cond.selects RX6 yX6_countsAt yX6_countsAt, Cond.code yX6_countsAt cX6_countsAt 2 (some .boolean), Cond.fieldLink RX6 15 "MarkChat$User" "rank" "I", Cond.methodLink RX6 21 yX6_isGoneAt]
def wsL_edit : List Cond := .codeWith yL_edit cL_edit 5 (some .int) [(0, 10, 13, 21), (0, 10, 17, 15)] :: ((wsL_edit_r1 ++ (wsL_edit_r2 ++ (wsL_edit_r3 ++ (wsL_edit_r4 ++ (wsL_edit_r5 ++ wsL_edit_r6))))) ++ wsX70 ++ wsX10 ++ wsX30 ++ wsX60 ++ wsJx4a65c0 ++ wsX20 ++ wsX50 ++ wsX40 ++ wsX00 ++ (vx_atS RX7 100 "java/lang/IllegalStateException" ["java/lang/RuntimeException", "java/lang/Exception"]).filter goodWord ++ (vx_atS RX7 255 "java/lang/IndexOutOfBoundsException" ["java/lang/RuntimeException", "java/lang/Exception"]).filter goodWord)
def wsL_mark_r1 : List Cond := [Cond.classLink RL 21 "java/lang/IndexOutOfBoundsException", Cond.methodLink RL 36 yX7_mark, Cond.instanceMethod yX7_mark, Cond.selects RX7 yX7_mark yX7_mark, Cond.initialized RX7, Cond.code yX7_mark cX7_mark 6 (some .int), Cond.classLink RX7 96 "java/lang/IllegalStateException", Cond.initialized "java/lang/IllegalStateException", Cond.fieldLink RX7 40 "MarkChat" "log" "LMarkChat$Log;", Cond.fieldLink RX7 128 "MarkChat$Log" "size" "I", Cond.fieldLink RX7 139 "MarkChat$Message" "marks" "LMarkChat$Marks;", Cond.methodLink RX7 74 yX7_userAt, Cond.instanceMethod yX7_userAt, Cond.selects RX7 yX7_userAt yX7_userAt, Cond.code yX7_userAt cX7_userAt 2 (some (.object "MarkChat$User")), Cond.classLink RX7 251 "java/lang/IndexOutOfBoundsException", Cond.initialized "java/lang/IndexOutOfBoundsException", Cond.fieldLink RX7 25 "MarkChat" "users" "Ljava/util/ArrayList;", Cond.classLink RX7 67 "MarkChat$User", Cond.methodLink RX7 59 yJx4a65c_size_8abf5, Cond.instanceMethod yJx4a65c_size_8abf5, Cond.selects RJx4a65c yJx4a65c_size_8abf5 yJx4a65c_size_8abf5, Cond.initialized RJx4a65c, Cond.code yJx4a65c_size_8abf5 cJx4a65c_size_8abf5 1 (some .int)]
def wsL_mark_r2 : List Cond := [Cond.fieldLink RJx4a65c 48 "java/util/ArrayList" "size" "I", Cond.methodLink RX7 210 yJx4a65c_get_915e3, Cond.instanceMethod yJx4a65c_get_915e3, Cond.selects RJx4a65c yJx4a65c_get_915e3 yJx4a65c_get_915e3, Cond.code yJx4a65c_get_915e3 cJx4a65c_get_915e3 2 (some (.object "java/lang/Object")), Cond.methodLink RJx4a65c 118 yJ15_checkIndex_7cf53, Cond.static yJ15_checkIndex_7cf53, Cond.initialized RJ15, Cond.code yJ15_checkIndex_7cf53 cJ15_checkIndex_7cf53 2 (some .int), Cond.methodLink RJ15 105 yJ3_checkIndex_8e157, Cond.static yJ3_checkIndex_8e157, Cond.initialized RJ3, Cond.code yJ3_checkIndex_8e157 cJ3_checkIndex_8e157 3 (some .int), Cond.methodLink RJx4a65c 123 yJx4a65c_elementData_915e3, Cond.instanceMethod yJx4a65c_elementData_915e3, Cond.selects RJx4a65c yJx4a65c_elementData_915e3 yJx4a65c_elementData_915e3, Cond.code yJx4a65c_elementData_915e3 cJx4a65c_elementData_915e3 2 (some (.object "java/lang/Object")), Cond.fieldLink RJx4a65c 9 "java/util/ArrayList" "elementData" "[Ljava/lang/Object;", Cond.methodLink RX7 103 yX7_messageAt, Cond.instanceMethod yX7_messageAt, Cond.selects RX7 yX7_messageAt yX7_messageAt, Cond.code yX7_messageAt cX7_messageAt 2 (some (.object "MarkChat$Message")), Cond.fieldLink RX7 28 "MarkChat" "messages" "Ljava/util/ArrayList;", Cond.classLink RX7 112 "MarkChat$Message"]
def wsL_mark_r3 : List Cond := [Cond.methodLink RX7 55 yX7_checkRange, Cond.static yX7_checkRange, Cond.code yX7_checkRange cX7_checkRange 3 none, Cond.classLink RX7 227 "java/lang/IllegalArgumentException", Cond.initialized "java/lang/IllegalArgumentException", Cond.methodLink RX7 120 yX7_refuseGone, Cond.instanceMethod yX7_refuseGone, Cond.selects RX7 yX7_refuseGone yX7_refuseGone, Cond.code yX7_refuseGone cX7_refuseGone 2 none, Cond.fieldLink RX7 51 "MarkChat" "hour" "I", Cond.methodLink RX7 293 yX6_isGoneAt, Cond.instanceMethod yX6_isGoneAt, Cond.selects RX6 yX6_isGoneAt yX6_isGoneAt, Cond.initialized RX6, Cond.code yX6_isGoneAt cX6_isGoneAt 2 (some .boolean), Cond.fieldLink RX6 18 "MarkChat$User" "endHour" "I", Cond.methodLink RX7 107 yX7_refuseArchived, Cond.static yX7_refuseArchived, Cond.code yX7_refuseArchived cX7_refuseArchived 1 none, Cond.fieldLink RX7 218 "MarkChat$Message" "isArchived" "Z", Cond.methodLink RX7 63 yX7_refuseFull, Cond.static yX7_refuseFull, Cond.code yX7_refuseFull cX7_refuseFull 2 none, Cond.methodLink RX7 151 yX2_kindOf]
def wsL_mark_r4 : List Cond := [Cond.instanceMethod yX2_kindOf, Cond.selects RX2 yX2_kindOf yX2_kindOf, Cond.initialized RX2, Cond.code yX2_kindOf cX2_kindOf 2 (some .int), Cond.fieldLink RX2 9 "MarkChat$Marks" "kinds" "[I", Cond.methodLink RX7 157 yX2_put, Cond.instanceMethod yX2_put, Cond.selects RX2 yX2_put yX2_put, Cond.code yX2_put cX2_put 3 none, Cond.methodLink RX7 160 yX1_writeMark, Cond.instanceMethod yX1_writeMark, Cond.selects RX1 yX1_writeMark yX1_writeMark, Cond.initialized RX1, Cond.code yX1_writeMark cX1_writeMark 4 none, Cond.methodLink RX1 21 yX1_write, Cond.instanceMethod yX1_write, Cond.selects RX1 yX1_write yX1_write, Cond.code yX1_write cX1_write 4 none, Cond.fieldLink RX1 25 "MarkChat$Log" "size" "I", Cond.fieldLink RX1 9 "MarkChat$Log" "messages" "[I", Cond.fieldLink RX1 15 "MarkChat$Log" "users" "[I", Cond.fieldLink RX1 18 "MarkChat$Log" "kinds" "[I", Cond.methodLink RX7 81 yX7_takeSpendsBack, Cond.instanceMethod yX7_takeSpendsBack]
def wsL_mark_r5 : List Cond := [Cond.selects RX7 yX7_takeSpendsBack yX7_takeSpendsBack, Cond.code yX7_takeSpendsBack cX7_takeSpendsBack 3 none, Cond.fieldLink RX7 31 "MarkChat" "spends" "Ljava/util/ArrayList;", Cond.classLink RX7 175 "MarkChat$Spend", Cond.fieldLink RX7 240 "MarkChat$Spend" "state" "I", Cond.fieldLink RX7 241 "MarkChat$Spend" "message" "LMarkChat$Message;", Cond.fieldLink RX7 111 "MarkChat$Message" "channel" "LMarkChat$Channel;", Cond.fieldLink RX7 92 "MarkChat$Channel" "cents" "I", Cond.fieldLink RX7 246 "MarkChat$Spend" "amount" "I", Cond.methodLink RX7 304 yX7_isStillDue, Cond.instanceMethod yX7_isStillDue, Cond.selects RX7 yX7_isStillDue yX7_isStillDue, Cond.code yX7_isStillDue cX7_isStillDue 3 (some .boolean), Cond.fieldLink RX7 136 "MarkChat$Message" "version" "I", Cond.fieldLink RX7 245 "MarkChat$Spend" "version" "I", Cond.methodLink RX7 167 yX7_approve, Cond.instanceMethod yX7_approve, Cond.selects RX7 yX7_approve yX7_approve, Cond.code yX7_approve cX7_approve 9 (some .boolean), Cond.fieldLink RX7 78 "MarkChat$User" "rank" "I", Cond.fieldLink RX7 130 "MarkChat$Message" "author" "LMarkChat$User;", Cond.fieldLink RX7 71 "MarkChat$User" "number" "I", Cond.methodLink RX7 301 yX6_countsAt, Cond.instanceMethod yX6_countsAt]
def wsL_mark_r6 : List Cond := [Cond.selects RX6 yX6_countsAt yX6_countsAt, Cond.code yX6_countsAt cX6_countsAt 2 (some .boolean), Cond.fieldLink RX6 15 "MarkChat$User" "rank" "I", Cond.methodLink RX6 21 yX6_isGoneAt, Cond.methodLink RX7 163 yX7_countMarks, Cond.instanceMethod yX7_countMarks, Cond.selects RX7 yX7_countMarks yX7_countMarks, Cond.code yX7_countMarks cX7_countMarks 4 (some .int)]
def wsL_mark : List Cond := .codeWith yL_mark cL_mark 6 (some .int) [(0, 12, 15, 21), (0, 12, 19, 13), (0, 12, 23, 15)] :: ((wsL_mark_r1 ++ (wsL_mark_r2 ++ (wsL_mark_r3 ++ (wsL_mark_r4 ++ (wsL_mark_r5 ++ wsL_mark_r6))))) ++ wsX70 ++ wsX10 ++ wsX30 ++ wsJx4a65c0 ++ wsX60 ++ wsX20 ++ wsX40 ++ wsX00 ++ (vx_atS RX7 100 "java/lang/IllegalStateException" ["java/lang/RuntimeException", "java/lang/Exception"]).filter goodWord ++ (vx_atS RX7 255 "java/lang/IndexOutOfBoundsException" ["java/lang/RuntimeException", "java/lang/Exception"]).filter goodWord ++ (vx_atS RX7 231 "java/lang/IllegalArgumentException" ["java/lang/RuntimeException", "java/lang/Exception"]).filter goodWord)
def wsL_spend_r1 : List Cond := [Cond.classLink RL 21 "java/lang/IndexOutOfBoundsException", Cond.methodLink RL 39 yX7_spend, Cond.instanceMethod yX7_spend, Cond.selects RX7 yX7_spend yX7_spend, Cond.initialized RX7, Cond.code yX7_spend cX7_spend 7 (some .int), Cond.classLink RX7 96 "java/lang/IllegalStateException", Cond.initialized "java/lang/IllegalStateException", Cond.constant RX7 91 (1000000), Cond.fieldLink RX7 31 "MarkChat" "spends" "Ljava/util/ArrayList;", Cond.fieldLink RX7 139 "MarkChat$Message" "marks" "LMarkChat$Marks;", Cond.fieldLink RX7 111 "MarkChat$Message" "channel" "LMarkChat$Channel;", Cond.fieldLink RX7 92 "MarkChat$Channel" "cents" "I", Cond.classLink RX7 175 RX4, Cond.instantiable RX4 5, Cond.initialized RX4, Cond.fieldLink RX7 180 "MarkChat$Spend" "number" "I", Cond.methodLink RX7 74 yX7_userAt, Cond.instanceMethod yX7_userAt, Cond.selects RX7 yX7_userAt yX7_userAt, Cond.code yX7_userAt cX7_userAt 2 (some (.object "MarkChat$User")), Cond.classLink RX7 251 "java/lang/IndexOutOfBoundsException", Cond.initialized "java/lang/IndexOutOfBoundsException", Cond.fieldLink RX7 25 "MarkChat" "users" "Ljava/util/ArrayList;"]
def wsL_spend_r2 : List Cond := [Cond.classLink RX7 67 "MarkChat$User", Cond.methodLink RX7 59 yJx4a65c_size_8abf5, Cond.instanceMethod yJx4a65c_size_8abf5, Cond.selects RJx4a65c yJx4a65c_size_8abf5 yJx4a65c_size_8abf5, Cond.initialized RJx4a65c, Cond.code yJx4a65c_size_8abf5 cJx4a65c_size_8abf5 1 (some .int), Cond.fieldLink RJx4a65c 48 "java/util/ArrayList" "size" "I", Cond.methodLink RX7 210 yJx4a65c_get_915e3, Cond.instanceMethod yJx4a65c_get_915e3, Cond.selects RJx4a65c yJx4a65c_get_915e3 yJx4a65c_get_915e3, Cond.code yJx4a65c_get_915e3 cJx4a65c_get_915e3 2 (some (.object "java/lang/Object")), Cond.methodLink RJx4a65c 118 yJ15_checkIndex_7cf53, Cond.static yJ15_checkIndex_7cf53, Cond.initialized RJ15, Cond.code yJ15_checkIndex_7cf53 cJ15_checkIndex_7cf53 2 (some .int), Cond.methodLink RJ15 105 yJ3_checkIndex_8e157, Cond.static yJ3_checkIndex_8e157, Cond.initialized RJ3, Cond.code yJ3_checkIndex_8e157 cJ3_checkIndex_8e157 3 (some .int), Cond.methodLink RJx4a65c 123 yJx4a65c_elementData_915e3, Cond.instanceMethod yJx4a65c_elementData_915e3, Cond.selects RJx4a65c yJx4a65c_elementData_915e3 yJx4a65c_elementData_915e3, Cond.code yJx4a65c_elementData_915e3 cJx4a65c_elementData_915e3 2 (some (.object "java/lang/Object")), Cond.fieldLink RJx4a65c 9 "java/util/ArrayList" "elementData" "[Ljava/lang/Object;"]
def wsL_spend_r3 : List Cond := [Cond.methodLink RX7 103 yX7_messageAt, Cond.instanceMethod yX7_messageAt, Cond.selects RX7 yX7_messageAt yX7_messageAt, Cond.code yX7_messageAt cX7_messageAt 2 (some (.object "MarkChat$Message")), Cond.fieldLink RX7 28 "MarkChat" "messages" "Ljava/util/ArrayList;", Cond.classLink RX7 112 "MarkChat$Message", Cond.methodLink RX7 55 yX7_checkRange, Cond.static yX7_checkRange, Cond.code yX7_checkRange cX7_checkRange 3 none, Cond.classLink RX7 227 "java/lang/IllegalArgumentException", Cond.initialized "java/lang/IllegalArgumentException", Cond.methodLink RX7 120 yX7_refuseGone, Cond.instanceMethod yX7_refuseGone, Cond.selects RX7 yX7_refuseGone yX7_refuseGone, Cond.code yX7_refuseGone cX7_refuseGone 2 none, Cond.fieldLink RX7 51 "MarkChat" "hour" "I", Cond.methodLink RX7 293 yX6_isGoneAt, Cond.instanceMethod yX6_isGoneAt, Cond.selects RX6 yX6_isGoneAt yX6_isGoneAt, Cond.initialized RX6, Cond.code yX6_isGoneAt cX6_isGoneAt 2 (some .boolean), Cond.fieldLink RX6 18 "MarkChat$User" "endHour" "I", Cond.methodLink RX7 107 yX7_refuseArchived, Cond.static yX7_refuseArchived]
def wsL_spend_r4 : List Cond := [Cond.code yX7_refuseArchived cX7_refuseArchived 1 none, Cond.fieldLink RX7 218 "MarkChat$Message" "isArchived" "Z", Cond.methodLink RX7 63 yX7_refuseFull, Cond.static yX7_refuseFull, Cond.code yX7_refuseFull cX7_refuseFull 2 none, Cond.methodLink RX7 167 yX7_approve, Cond.instanceMethod yX7_approve, Cond.selects RX7 yX7_approve yX7_approve, Cond.code yX7_approve cX7_approve 9 (some .boolean), Cond.fieldLink RX7 78 "MarkChat$User" "rank" "I", Cond.fieldLink RX7 130 "MarkChat$Message" "author" "LMarkChat$User;", Cond.fieldLink RX7 71 "MarkChat$User" "number" "I", Cond.methodLink RX7 151 yX2_kindOf, Cond.instanceMethod yX2_kindOf, Cond.selects RX2 yX2_kindOf yX2_kindOf, Cond.initialized RX2, Cond.code yX2_kindOf cX2_kindOf 2 (some .int), Cond.fieldLink RX2 9 "MarkChat$Marks" "kinds" "[I", Cond.methodLink RX7 301 yX6_countsAt, Cond.instanceMethod yX6_countsAt, Cond.selects RX6 yX6_countsAt yX6_countsAt, Cond.code yX6_countsAt cX6_countsAt 2 (some .boolean), Cond.fieldLink RX6 15 "MarkChat$User" "rank" "I", Cond.methodLink RX6 21 yX6_isGoneAt]
def wsL_spend_r5 : List Cond := [Cond.methodLink RX7 177 yX4_init, Cond.instanceMethod yX4_init, Cond.code yX4_init cX4_init 4 none, Cond.methodLink RX4 3 objectInit, Cond.instanceMethod objectInit, Cond.code objectInit ⟨#[0xb1]⟩ 1 none, Cond.fieldLink RX4 9 "MarkChat$Spend" "number" "I", Cond.fieldLink RX4 15 "MarkChat$Spend" "message" "LMarkChat$Message;", Cond.fieldLink RX4 19 "MarkChat$Message" "version" "I", Cond.fieldLink RX4 24 "MarkChat$Spend" "version" "I", Cond.fieldLink RX4 25 "MarkChat$Spend" "amount" "I", Cond.fieldLink RX4 28 "MarkChat$Spend" "state" "I", Cond.methodLink RX7 21 yJx4a65c_add_9ea2d, Cond.instanceMethod yJx4a65c_add_9ea2d, Cond.selects RJx4a65c yJx4a65c_add_9ea2d yJx4a65c_add_9ea2d, Cond.code yJx4a65c_add_9ea2d cJx4a65c_add_9ea2d 2 (some .boolean), Cond.fieldLink RJx4a65c 63 "java/util/ArrayList" "modCount" "I", Cond.sameField "java/util/ArrayList" "java/util/AbstractList" "modCount" "I", Cond.methodLink RJx4a65c 131 yJx4a65c_add_72be8, Cond.instanceMethod yJx4a65c_add_72be8, Cond.selects RJx4a65c yJx4a65c_add_72be8 yJx4a65c_add_72be8, Cond.code yJx4a65c_add_72be8 cJx4a65c_add_72be8 4 none, Cond.methodLink RJx4a65c 129 yJx4a65c_grow_d5877, Cond.instanceMethod yJx4a65c_grow_d5877]
def wsL_spend_r6 : List Cond := [Cond.selects RJx4a65c yJx4a65c_grow_d5877 yJx4a65c_grow_d5877, Cond.code yJx4a65c_grow_d5877 cJx4a65c_grow_d5877 1 (some (.array (.object "java/lang/Object"))), Cond.methodLink RJx4a65c 69 yJx4a65c_grow_92f84, Cond.instanceMethod yJx4a65c_grow_92f84, Cond.selects RJx4a65c yJx4a65c_grow_92f84 yJx4a65c_grow_92f84, Cond.code yJx4a65c_grow_92f84 cJx4a65c_grow_92f84 4 (some (.array (.object "java/lang/Object"))), Cond.fieldLink RJx4a65c 39 "java/util/ArrayList" "DEFAULTCAPACITY_EMPTY_ELEMENTDATA" "[Ljava/lang/Object;", Cond.methodLink RJx4a65c 79 Lib.Math.max.name, Cond.static Lib.Math.max.name, Cond.initialized "java/lang/Math", Cond.code Lib.Math.max.name Lib.Math.max.code 2 (some .int), Cond.classLink RJx4a65c 7 "java/lang/Object", Cond.methodLink RJx4a65c 73 yJ8_newLength_cabcc, Cond.static yJ8_newLength_cabcc, Cond.initialized RJ8, Cond.code yJ8_newLength_cabcc cJ8_newLength_cabcc 4 (some .int), Cond.methodLink RJ8 194 Lib.Math.max.name, Cond.constant RJ8 200 (2147483639), Cond.methodLink RJ8 201 yJ8_hugeLength_7cf53, Cond.static yJ8_hugeLength_7cf53, Cond.code yJ8_hugeLength_7cf53 cJ8_hugeLength_7cf53 3 (some .int), Cond.methodLink RJx4a65c 66 yJ7_copyOf_1904c, Cond.static yJ7_copyOf_1904c, Cond.initialized RJ7]
def wsL_spend_r7 : List Cond := [Cond.code yJ7_copyOf_1904c cJ7_copyOf_1904c 2 (some (.array (.object "java/lang/Object"))), Cond.methodLink RJ7 86 ⟨"java/lang/Object", "getClass", "()Ljava/lang/Class;"⟩, Cond.selects "[Ljava/lang/Object;" ⟨"java/lang/Object", "getClass", "()Ljava/lang/Class;"⟩ ⟨"java/lang/Object", "getClass", "()Ljava/lang/Class;"⟩, Cond.instanceMethod ⟨"java/lang/Object", "getClass", "()Ljava/lang/Class;"⟩, Cond.native ⟨"java/lang/Object", "getClass", "()Ljava/lang/Class;"⟩, Cond.methodLink RJ7 300 yJ7_copyOf_6403c, Cond.static yJ7_copyOf_6403c, Cond.code yJ7_copyOf_6403c cJ7_copyOf_6403c 4 (some (.array (.object "java/lang/Object"))), Cond.classLink RJ7 110 "[Ljava/lang/Object;", Cond.classLink RJ7 2 "java/lang/Object", Cond.methodLink RJ7 304 Lib.Math.min.name, Cond.static Lib.Math.min.name, Cond.code Lib.Math.min.name Lib.Math.min.code 2 (some .int), Cond.methodLink RJ7 150 arraycopyName, Cond.native arraycopyName, Cond.static arraycopyName, Cond.initialized "java/lang/System"]
def wsL_spend : List Cond := .codeWith yL_spend cL_spend 6 (some .int) [(0, 12, 15, 21), (0, 12, 19, 13), (0, 12, 23, 15)] :: ((wsL_spend_r1 ++ (wsL_spend_r2 ++ (wsL_spend_r3 ++ (wsL_spend_r4 ++ (wsL_spend_r5 ++ (wsL_spend_r6 ++ wsL_spend_r7)))))) ++ wsX70 ++ wsX30 ++ wsX00 ++ wsX40 ++ wsJx4a65c0 ++ wsX60 ++ wsX20 ++ (vx_atS RX7 100 "java/lang/IllegalStateException" ["java/lang/RuntimeException", "java/lang/Exception"]).filter goodWord ++ (vx_atS RX7 255 "java/lang/IndexOutOfBoundsException" ["java/lang/RuntimeException", "java/lang/Exception"]).filter goodWord ++ (vx_atS RX7 231 "java/lang/IllegalArgumentException" ["java/lang/RuntimeException", "java/lang/Exception"]).filter goodWord)
def wsL_task_r1 : List Cond := [Cond.classLink RL 21 "java/lang/IndexOutOfBoundsException", Cond.methodLink RL 42 yX7_task, Cond.instanceMethod yX7_task, Cond.selects RX7 yX7_task yX7_task, Cond.initialized RX7, Cond.code yX7_task cX7_task 9 (some .int), Cond.fieldLink RX7 34 "MarkChat" "tasks" "Ljava/util/ArrayList;", Cond.classLink RX7 181 RX5, Cond.instantiable RX5 6, Cond.initialized RX5, Cond.fieldLink RX7 51 "MarkChat" "hour" "I", Cond.fieldLink RX7 186 "MarkChat$Task" "number" "I", Cond.methodLink RX7 74 yX7_userAt, Cond.instanceMethod yX7_userAt, Cond.selects RX7 yX7_userAt yX7_userAt, Cond.code yX7_userAt cX7_userAt 2 (some (.object "MarkChat$User")), Cond.classLink RX7 251 "java/lang/IndexOutOfBoundsException", Cond.initialized "java/lang/IndexOutOfBoundsException", Cond.fieldLink RX7 25 "MarkChat" "users" "Ljava/util/ArrayList;", Cond.classLink RX7 67 "MarkChat$User", Cond.methodLink RX7 59 yJx4a65c_size_8abf5, Cond.instanceMethod yJx4a65c_size_8abf5, Cond.selects RJx4a65c yJx4a65c_size_8abf5 yJx4a65c_size_8abf5, Cond.initialized RJx4a65c]
def wsL_task_r2 : List Cond := [Cond.code yJx4a65c_size_8abf5 cJx4a65c_size_8abf5 1 (some .int), Cond.fieldLink RJx4a65c 48 "java/util/ArrayList" "size" "I", Cond.methodLink RX7 210 yJx4a65c_get_915e3, Cond.instanceMethod yJx4a65c_get_915e3, Cond.selects RJx4a65c yJx4a65c_get_915e3 yJx4a65c_get_915e3, Cond.code yJx4a65c_get_915e3 cJx4a65c_get_915e3 2 (some (.object "java/lang/Object")), Cond.methodLink RJx4a65c 118 yJ15_checkIndex_7cf53, Cond.static yJ15_checkIndex_7cf53, Cond.initialized RJ15, Cond.code yJ15_checkIndex_7cf53 cJ15_checkIndex_7cf53 2 (some .int), Cond.methodLink RJ15 105 yJ3_checkIndex_8e157, Cond.static yJ3_checkIndex_8e157, Cond.initialized RJ3, Cond.code yJ3_checkIndex_8e157 cJ3_checkIndex_8e157 3 (some .int), Cond.methodLink RJx4a65c 123 yJx4a65c_elementData_915e3, Cond.instanceMethod yJx4a65c_elementData_915e3, Cond.selects RJx4a65c yJx4a65c_elementData_915e3 yJx4a65c_elementData_915e3, Cond.code yJx4a65c_elementData_915e3 cJx4a65c_elementData_915e3 2 (some (.object "java/lang/Object")), Cond.fieldLink RJx4a65c 9 "java/util/ArrayList" "elementData" "[Ljava/lang/Object;", Cond.methodLink RX7 103 yX7_messageAt, Cond.instanceMethod yX7_messageAt, Cond.selects RX7 yX7_messageAt yX7_messageAt, Cond.code yX7_messageAt cX7_messageAt 2 (some (.object "MarkChat$Message")), Cond.fieldLink RX7 28 "MarkChat" "messages" "Ljava/util/ArrayList;"]
def wsL_task_r3 : List Cond := [Cond.classLink RX7 112 "MarkChat$Message", Cond.methodLink RX7 55 yX7_checkRange, Cond.static yX7_checkRange, Cond.code yX7_checkRange cX7_checkRange 3 none, Cond.classLink RX7 227 "java/lang/IllegalArgumentException", Cond.initialized "java/lang/IllegalArgumentException", Cond.methodLink RX7 120 yX7_refuseGone, Cond.instanceMethod yX7_refuseGone, Cond.selects RX7 yX7_refuseGone yX7_refuseGone, Cond.code yX7_refuseGone cX7_refuseGone 2 none, Cond.classLink RX7 96 "java/lang/IllegalStateException", Cond.initialized "java/lang/IllegalStateException", Cond.methodLink RX7 293 yX6_isGoneAt, Cond.instanceMethod yX6_isGoneAt, Cond.selects RX6 yX6_isGoneAt yX6_isGoneAt, Cond.initialized RX6, Cond.code yX6_isGoneAt cX6_isGoneAt 2 (some .boolean), Cond.fieldLink RX6 18 "MarkChat$User" "endHour" "I", Cond.methodLink RX7 107 yX7_refuseArchived, Cond.static yX7_refuseArchived, Cond.code yX7_refuseArchived cX7_refuseArchived 1 none, Cond.fieldLink RX7 218 "MarkChat$Message" "isArchived" "Z", Cond.methodLink RX7 63 yX7_refuseFull, Cond.static yX7_refuseFull]
def wsL_task_r4 : List Cond := [Cond.code yX7_refuseFull cX7_refuseFull 2 none, Cond.methodLink RX7 183 yX5_init, Cond.instanceMethod yX5_init, Cond.code yX5_init cX5_init 5 none, Cond.methodLink RX5 3 objectInit, Cond.instanceMethod objectInit, Cond.code objectInit ⟨#[0xb1]⟩ 1 none, Cond.fieldLink RX5 9 "MarkChat$Task" "number" "I", Cond.fieldLink RX5 15 "MarkChat$Message" "number" "I", Cond.fieldLink RX5 18 "MarkChat$Task" "message" "I", Cond.fieldLink RX5 21 "MarkChat$Task" "doer" "LMarkChat$User;", Cond.fieldLink RX5 25 "MarkChat$Task" "untilHour" "I", Cond.classLink RX5 28 RJ4, Cond.instantiable RJ4 4, Cond.initialized RJ4, Cond.fieldLink RX5 38 "MarkChat$Message" "version" "I", Cond.fieldLink RX5 41 "MarkChat$User" "number" "I", Cond.fieldLink RX5 48 "MarkChat$Task" "text" "Ljava/lang/String;", Cond.fieldLink RX5 52 "MarkChat$Task" "state" "I", Cond.methodLink RX5 30 yJ4_init_da8c8, Cond.instanceMethod yJ4_init_da8c8, Cond.code yJ4_init_da8c8 cJ4_init_da8c8 1 none, Cond.methodLink RJ4 1 yJ5_init_d00df, Cond.instanceMethod yJ5_init_d00df]
def wsL_task_r5 : List Cond := [Cond.initialized RJ5, Cond.code yJ5_init_d00df cJ5_init_d00df 2 none, Cond.methodLink RJ5 3 objectInit, Cond.fieldLink RJ5 18 "java/lang/String" "COMPACT_STRINGS" "Z", Cond.arrayClass .byte, Cond.fieldLink RJ5 15 "java/lang/AbstractStringBuilder" "value" "[B", Cond.fieldLink RJ5 22 "java/lang/AbstractStringBuilder" "coder" "B", Cond.methodLink RJ5 26 yJ2_newBytesFor_77867, Cond.static yJ2_newBytesFor_77867, Cond.initialized RJ2, Cond.code yJ2_newBytesFor_77867 cJ2_newBytesFor_77867 1 (some (.array .byte)), Cond.methodLink RJ2 11 yJ2_newBytesLength_0f7a4, Cond.static yJ2_newBytesLength_0f7a4, Cond.code yJ2_newBytesLength_0f7a4 cJ2_newBytesLength_0f7a4 1 (some .int), Cond.constant RJ2 20 (1073741823), Cond.methodLink RX5 31 yJ4_append_bf812, Cond.instanceMethod yJ4_append_bf812, Cond.selects RJ4 yJ4_append_bf812 yJ4_append_bf812, Cond.code yJ4_append_bf812 cJ4_append_bf812 2 (some (.object "java/lang/StringBuilder")), Cond.methodLink RJ4 53 yJ5_append_c97b9, Cond.sameMethod "java/lang/AbstractStringBuilder" "java/lang/AbstractStringBuilder" "append" "(I)Ljava/lang/AbstractStringBuilder;", Cond.superclass RJ4 RJ5, Cond.instanceMethod yJ5_append_c97b9, Cond.code yJ5_append_c97b9 cJ5_append_c97b9 4 (some (.object "java/lang/AbstractStringBuilder"))]
def wsL_task_r6 : List Cond := [Cond.fieldLink RJ5 79 "java/lang/AbstractStringBuilder" "count" "I", Cond.methodLink RJ5 245 yJ6_stringSize_0f7a4, Cond.static yJ6_stringSize_0f7a4, Cond.initialized RJ6, Cond.code yJ6_stringSize_0f7a4 cJ6_stringSize_0f7a4 4 (some .int), Cond.methodLink RJ5 100 ⟨"java/lang/AbstractStringBuilder", "ensureCapacityInternal", "(I)V"⟩, Cond.sameMethod "java/lang/AbstractStringBuilder" "java/lang/AbstractStringBuilder" "ensureCapacityInternal" "(I)V", Cond.selects RJ4 ⟨"java/lang/AbstractStringBuilder", "ensureCapacityInternal", "(I)V"⟩ yJ5_ensureCapacityInternal_d00df, Cond.instanceMethod yJ5_ensureCapacityInternal_d00df, Cond.code yJ5_ensureCapacityInternal_d00df cJ5_ensureCapacityInternal_d00df 3 none, Cond.methodLink RJ5 104 ⟨"java/lang/AbstractStringBuilder", "newCapacity", "(I)I"⟩, Cond.sameMethod "java/lang/AbstractStringBuilder" "java/lang/AbstractStringBuilder" "newCapacity" "(I)I", Cond.selects RJ4 ⟨"java/lang/AbstractStringBuilder", "newCapacity", "(I)I"⟩ yJ5_newCapacity_0f7a4, Cond.instanceMethod yJ5_newCapacity_0f7a4, Cond.code yJ5_newCapacity_0f7a4 cJ5_newCapacity_0f7a4 6 (some .int), Cond.constant RJ5 39 (2147483647), Cond.methodLink RJ5 114 yJ8_newLength_cabcc, Cond.static yJ8_newLength_cabcc, Cond.initialized RJ8, Cond.code yJ8_newLength_cabcc cJ8_newLength_cabcc 4 (some .int), Cond.methodLink RJ8 194 Lib.Math.max.name, Cond.static Lib.Math.max.name, Cond.initialized "java/lang/Math", Cond.code Lib.Math.max.name Lib.Math.max.code 2 (some .int)]
def wsL_task_r7 : List Cond := [Cond.constant RJ8 200 (2147483639), Cond.methodLink RJ8 201 yJ8_hugeLength_7cf53, Cond.static yJ8_hugeLength_7cf53, Cond.code yJ8_hugeLength_7cf53 cJ8_hugeLength_7cf53 3 (some .int), Cond.methodLink RJ5 108 yJ7_copyOf_9075b, Cond.static yJ7_copyOf_9075b, Cond.initialized RJ7, Cond.code yJ7_copyOf_9075b cJ7_copyOf_9075b 3 (some (.array .byte)), Cond.methodLink RJ7 310 ⟨"[B", "clone", "()Ljava/lang/Object;"⟩, Cond.sameMethod "[B" "java/lang/Object" "clone" "()Ljava/lang/Object;", Cond.native ⟨"java/lang/Object", "clone", "()Ljava/lang/Object;"⟩, Cond.instanceMethod ⟨"java/lang/Object", "clone", "()Ljava/lang/Object;"⟩, Cond.selects "[B" ⟨"[B", "clone", "()Ljava/lang/Object;"⟩ ⟨"java/lang/Object", "clone", "()Ljava/lang/Object;"⟩, Cond.classLink RJ7 311 "[B", Cond.methodLink RJ7 304 Lib.Math.min.name, Cond.static Lib.Math.min.name, Cond.code Lib.Math.min.name Lib.Math.min.code 2 (some .int), Cond.methodLink RJ7 150 arraycopyName, Cond.native arraycopyName, Cond.static arraycopyName, Cond.initialized "java/lang/System", Cond.methodLink RJ5 83 ⟨"java/lang/AbstractStringBuilder", "isLatin1", "()Z"⟩, Cond.sameMethod "java/lang/AbstractStringBuilder" "java/lang/AbstractStringBuilder" "isLatin1" "()Z", Cond.selects RJ4 ⟨"java/lang/AbstractStringBuilder", "isLatin1", "()Z"⟩ yJ5_isLatin1_aae02]
def wsL_task_r8 : List Cond := [Cond.instanceMethod yJ5_isLatin1_aae02, Cond.code yJ5_isLatin1_aae02 cJ5_isLatin1_aae02 1 (some .boolean), Cond.methodLink RJ5 248 yJ6_getChars_ba4f3, Cond.static yJ6_getChars_ba4f3, Cond.code yJ6_getChars_ba4f3 cJ6_getChars_ba4f3 7 (some .int), Cond.fieldLink RJ6 83 "java/lang/Integer" "DigitOnes" "[B", Cond.fieldLink RJ6 87 "java/lang/Integer" "DigitTens" "[B", Cond.methodLink RJ5 251 yJ2_getChars_46870, Cond.static yJ2_getChars_46870, Cond.code yJ2_getChars_46870 cJ2_getChars_46870 5 (some .int), Cond.fieldLink RJ2 44 "java/lang/StringUTF16" "$assertionsDisabled" "Z", Cond.methodLink RJ2 96 yJ2_checkBoundsBeginEnd_d044e, Cond.static yJ2_checkBoundsBeginEnd_d044e, Cond.code yJ2_checkBoundsBeginEnd_d044e cJ2_checkBoundsBeginEnd_d044e 3 none, Cond.methodLink RJ2 48 yJ2_length_9d52b, Cond.static yJ2_length_9d52b, Cond.code yJ2_length_9d52b cJ2_length_9d52b 1 (some .int), Cond.methodLink RJ2 241 yJ0_checkBoundsBeginEnd_23922, Cond.static yJ0_checkBoundsBeginEnd_23922, Cond.initialized RJ0, Cond.code yJ0_checkBoundsBeginEnd_23922 cJ0_checkBoundsBeginEnd_23922 3 none, Cond.fieldLink RJ0 1053 "jdk/internal/util/Preconditions" "SIOOBE_FORMATTER" "Ljava/util/function/BiFunction;", Cond.methodLink RJ0 1062 yJ3_checkFromToIndex_8c36e, Cond.static yJ3_checkFromToIndex_8c36e]
def wsL_task_r9 : List Cond := [Cond.code yJ3_checkFromToIndex_8c36e cJ3_checkFromToIndex_8c36e 4 (some .int), Cond.methodLink RJ2 393 yJ2_getChars_ba4f3, Cond.static yJ2_getChars_ba4f3, Cond.code yJ2_getChars_ba4f3 cJ2_getChars_ba4f3 7 (some .int), Cond.fieldLink RJ2 403 "java/lang/Integer" "DigitOnes" "[B", Cond.fieldLink RJ2 407 "java/lang/Integer" "DigitTens" "[B", Cond.methodLink RJ2 111 yJ2_putChar_b72d1, Cond.static yJ2_putChar_b72d1, Cond.code yJ2_putChar_b72d1 cJ2_putChar_b72d1 3 none, Cond.fieldLink RJ2 59 "java/lang/StringUTF16" "HI_BYTE_SHIFT" "I", Cond.fieldLink RJ2 63 "java/lang/StringUTF16" "LO_BYTE_SHIFT" "I", Cond.methodLink RX5 35 yJ4_append_cf468, Cond.instanceMethod yJ4_append_cf468, Cond.selects RJ4 yJ4_append_cf468 yJ4_append_cf468, Cond.code yJ4_append_cf468 cJ4_append_cf468 2 (some (.object "java/lang/StringBuilder")), Cond.methodLink RJ4 50 yJ5_append_3fe6f, Cond.sameMethod "java/lang/AbstractStringBuilder" "java/lang/AbstractStringBuilder" "append" "(C)Ljava/lang/AbstractStringBuilder;", Cond.instanceMethod yJ5_append_3fe6f, Cond.code yJ5_append_3fe6f cJ5_append_3fe6f 2 (some (.object "java/lang/AbstractStringBuilder")), Cond.methodLink RJ5 191 yJ1_canEncode_fc78d, Cond.static yJ1_canEncode_fc78d, Cond.initialized RJ1, Cond.code yJ1_canEncode_fc78d cJ1_canEncode_fc78d 1 (some .boolean), Cond.methodLink RJ5 195 ⟨"java/lang/AbstractStringBuilder", "inflate", "()V"⟩]
def wsL_task_r10 : List Cond := [Cond.sameMethod "java/lang/AbstractStringBuilder" "java/lang/AbstractStringBuilder" "inflate" "()V", Cond.selects RJ4 ⟨"java/lang/AbstractStringBuilder", "inflate", "()V"⟩ yJ5_inflate_da8c8, Cond.instanceMethod yJ5_inflate_da8c8, Cond.code yJ5_inflate_da8c8 cJ5_inflate_da8c8 2 none, Cond.methodLink RJ5 125 yJ1_inflate_0e8fd, Cond.static yJ1_inflate_0e8fd, Cond.code yJ1_inflate_0e8fd cJ1_inflate_0e8fd 5 none, Cond.methodLink RJ1 240 yJ2_inflate_0e8fd, Cond.static yJ2_inflate_0e8fd, Cond.code yJ2_inflate_0e8fd cJ2_inflate_0e8fd 6 none, Cond.methodLink RJ2 173 yJ2_checkBoundsOffCount_d044e, Cond.static yJ2_checkBoundsOffCount_d044e, Cond.code yJ2_checkBoundsOffCount_d044e cJ2_checkBoundsOffCount_d044e 3 none, Cond.methodLink RJ2 419 yJ0_checkBoundsOffCount_cabcc, Cond.static yJ0_checkBoundsOffCount_cabcc, Cond.code yJ0_checkBoundsOffCount_cabcc cJ0_checkBoundsOffCount_cabcc 3 (some .int), Cond.methodLink RJ0 1065 yJ3_checkFromIndexSize_8c36e, Cond.static yJ3_checkFromIndexSize_8c36e, Cond.code yJ3_checkFromIndexSize_8c36e cJ3_checkFromIndexSize_8c36e 4 (some .int), Cond.methodLink RJ5 197 yJ2_putCharSB_b72d1, Cond.static yJ2_putCharSB_b72d1, Cond.code yJ2_putCharSB_b72d1 cJ2_putCharSB_b72d1 3 none, Cond.methodLink RJ2 67 yJ2_checkIndex_2214a, Cond.static yJ2_checkIndex_2214a]
def wsL_task_r11 : List Cond := [Cond.code yJ2_checkIndex_2214a cJ2_checkIndex_2214a 2 none, Cond.methodLink RJ2 414 yJ0_checkIndex_df160, Cond.static yJ0_checkIndex_df160, Cond.code yJ0_checkIndex_df160 cJ0_checkIndex_df160 2 none, Cond.methodLink RJ0 1059 yJ3_checkIndex_8e157, Cond.methodLink RX5 44 yJ4_toString_0e30d, Cond.instanceMethod yJ4_toString_0e30d, Cond.selects RJ4 yJ4_toString_0e30d yJ4_toString_0e30d, Cond.code yJ4_toString_0e30d cJ4_toString_0e30d 1 (some (.object "java/lang/String")), Cond.classLink RJ4 18 RJ0, Cond.instantiable RJ0 4, Cond.methodLink RJ4 137 yJ0_init_81219, Cond.instanceMethod yJ0_init_81219, Cond.code yJ0_init_81219 cJ0_init_81219 2 none, Cond.methodLink RJ0 489 yJ0_init_db425, Cond.instanceMethod yJ0_init_db425, Cond.code yJ0_init_db425 cJ0_init_db425 5 none, Cond.methodLink RJ0 1 objectInit, Cond.fieldLink RJ0 15 "java/lang/String" "coder" "B", Cond.fieldLink RJ0 9 "java/lang/String" "value" "[B", Cond.fieldLink RJ0 38 "java/lang/String" "COMPACT_STRINGS" "Z", Cond.fieldLink RJ0 1048 "java/lang/AbstractStringBuilder" "maybeLatin1" "Z", Cond.methodLink RJ0 552 ⟨"java/lang/AbstractStringBuilder", "getValue", "()[B"⟩, Cond.sameMethod "java/lang/AbstractStringBuilder" "java/lang/AbstractStringBuilder" "getValue" "()[B"]
def wsL_task_r12 : List Cond := [Cond.selects RJ4 ⟨"java/lang/AbstractStringBuilder", "getValue", "()[B"⟩ yJ5_getValue_6d5f1, Cond.instanceMethod yJ5_getValue_6d5f1, Cond.code yJ5_getValue_6d5f1 cJ5_getValue_6d5f1 1 (some (.array .byte)), Cond.methodLink RJ0 549 ⟨"java/lang/AbstractStringBuilder", "length", "()I"⟩, Cond.sameMethod "java/lang/AbstractStringBuilder" "java/lang/AbstractStringBuilder" "length" "()I", Cond.instanceMethod ⟨"java/lang/AbstractStringBuilder", "length", "()I"⟩, Cond.selects RJ4 ⟨"java/lang/AbstractStringBuilder", "length", "()I"⟩ yJ4_length_8abf5, Cond.instanceMethod yJ4_length_8abf5, Cond.code yJ4_length_8abf5 cJ4_length_8abf5 1 (some .int), Cond.methodLink RJ4 343 yJ5_length_8abf5, Cond.instanceMethod yJ5_length_8abf5, Cond.code yJ5_length_8abf5 cJ5_length_8abf5 1 (some .int), Cond.methodLink RJ0 1047 ⟨"java/lang/AbstractStringBuilder", "isLatin1", "()Z"⟩, Cond.methodLink RJ0 54 yJ7_copyOfRange_39247, Cond.static yJ7_copyOfRange_39247, Cond.code yJ7_copyOfRange_39247 cJ7_copyOfRange_39247 3 (some (.array .byte)), Cond.methodLink RJ7 339 yJ7_copyOfRangeByte_39247, Cond.static yJ7_copyOfRangeByte_39247, Cond.code yJ7_copyOfRangeByte_39247 cJ7_copyOfRangeByte_39247 5 (some (.array .byte)), Cond.methodLink RJ7 343 yJ7_checkLength_df160, Cond.static yJ7_checkLength_df160, Cond.code yJ7_checkLength_df160 cJ7_checkLength_df160 2 none, Cond.classLink RJ7 45 RJ4, Cond.methodLink RJ0 1051 yJ2_compress_39247]
def wsL_task_r13 : List Cond := [Cond.static yJ2_compress_39247, Cond.code yJ2_compress_39247 cJ2_compress_39247 6 (some (.array .byte)), Cond.methodLink RJ2 123 yJ2_compress_5af95, Cond.static yJ2_compress_5af95, Cond.code yJ2_compress_5af95 cJ2_compress_5af95 7 (some .int), Cond.methodLink RJ2 71 yJ2_getChar_3b067, Cond.static yJ2_getChar_3b067, Cond.code yJ2_getChar_3b067 cJ2_getChar_3b067 2 (some .char), Cond.methodLink RJ2 126 yJ7_copyOfRange_39247, Cond.methodLink RJ0 47 yJ2_coderFromArrayLen_85cad, Cond.static yJ2_coderFromArrayLen_85cad, Cond.code yJ2_coderFromArrayLen_85cad cJ2_coderFromArrayLen_85cad 2 (some .byte), Cond.methodLink RX7 21 yJx4a65c_add_9ea2d, Cond.instanceMethod yJx4a65c_add_9ea2d, Cond.selects RJx4a65c yJx4a65c_add_9ea2d yJx4a65c_add_9ea2d, Cond.code yJx4a65c_add_9ea2d cJx4a65c_add_9ea2d 2 (some .boolean), Cond.fieldLink RJx4a65c 63 "java/util/ArrayList" "modCount" "I", Cond.sameField "java/util/ArrayList" "java/util/AbstractList" "modCount" "I", Cond.methodLink RJx4a65c 131 yJx4a65c_add_72be8, Cond.instanceMethod yJx4a65c_add_72be8, Cond.selects RJx4a65c yJx4a65c_add_72be8 yJx4a65c_add_72be8, Cond.code yJx4a65c_add_72be8 cJx4a65c_add_72be8 4 none, Cond.methodLink RJx4a65c 129 yJx4a65c_grow_d5877, Cond.instanceMethod yJx4a65c_grow_d5877]
def wsL_task_r14 : List Cond := [Cond.selects RJx4a65c yJx4a65c_grow_d5877 yJx4a65c_grow_d5877, Cond.code yJx4a65c_grow_d5877 cJx4a65c_grow_d5877 1 (some (.array (.object "java/lang/Object"))), Cond.methodLink RJx4a65c 69 yJx4a65c_grow_92f84, Cond.instanceMethod yJx4a65c_grow_92f84, Cond.selects RJx4a65c yJx4a65c_grow_92f84 yJx4a65c_grow_92f84, Cond.code yJx4a65c_grow_92f84 cJx4a65c_grow_92f84 4 (some (.array (.object "java/lang/Object"))), Cond.fieldLink RJx4a65c 39 "java/util/ArrayList" "DEFAULTCAPACITY_EMPTY_ELEMENTDATA" "[Ljava/lang/Object;", Cond.methodLink RJx4a65c 79 Lib.Math.max.name, Cond.classLink RJx4a65c 7 "java/lang/Object", Cond.methodLink RJx4a65c 73 yJ8_newLength_cabcc, Cond.methodLink RJx4a65c 66 yJ7_copyOf_1904c, Cond.static yJ7_copyOf_1904c, Cond.code yJ7_copyOf_1904c cJ7_copyOf_1904c 2 (some (.array (.object "java/lang/Object"))), Cond.methodLink RJ7 86 ⟨"java/lang/Object", "getClass", "()Ljava/lang/Class;"⟩, Cond.selects "[Ljava/lang/Object;" ⟨"java/lang/Object", "getClass", "()Ljava/lang/Class;"⟩ ⟨"java/lang/Object", "getClass", "()Ljava/lang/Class;"⟩, Cond.instanceMethod ⟨"java/lang/Object", "getClass", "()Ljava/lang/Class;"⟩, Cond.native ⟨"java/lang/Object", "getClass", "()Ljava/lang/Class;"⟩, Cond.methodLink RJ7 300 yJ7_copyOf_6403c, Cond.static yJ7_copyOf_6403c, Cond.code yJ7_copyOf_6403c cJ7_copyOf_6403c 4 (some (.array (.object "java/lang/Object"))), Cond.classLink RJ7 110 "[Ljava/lang/Object;", Cond.classLink RJ7 2 "java/lang/Object"]
def wsL_task : List Cond := .codeWith yL_task cL_task 7 (some .int) [(0, 14, 17, 21), (0, 14, 21, 13), (0, 14, 25, 15)] :: ((wsL_task_r1 ++ (wsL_task_r2 ++ (wsL_task_r3 ++ (wsL_task_r4 ++ (wsL_task_r5 ++ (wsL_task_r6 ++ (wsL_task_r7 ++ (wsL_task_r8 ++ (wsL_task_r9 ++ (wsL_task_r10 ++ (wsL_task_r11 ++ (wsL_task_r12 ++ (wsL_task_r13 ++ wsL_task_r14))))))))))))) ++ wsX70 ++ wsX50 ++ wsJx4a65c0 ++ wsX60 ++ wsX30 ++ wsJ40 ++ wsJ00 ++ (vx_atS RX7 255 "java/lang/IndexOutOfBoundsException" ["java/lang/RuntimeException", "java/lang/Exception"]).filter goodWord ++ (vx_atS RX7 231 "java/lang/IllegalArgumentException" ["java/lang/RuntimeException", "java/lang/Exception"]).filter goodWord ++ (vx_atS RX7 100 "java/lang/IllegalStateException" ["java/lang/RuntimeException", "java/lang/Exception"]).filter goodWord)
def wsL_done_r1 : List Cond := [Cond.classLink RL 21 "java/lang/IndexOutOfBoundsException", Cond.methodLink RL 46 yX7_done, Cond.instanceMethod yX7_done, Cond.selects RX7 yX7_done yX7_done, Cond.initialized RX7, Cond.code yX7_done cX7_done 5 (some .int), Cond.classLink RX7 96 "java/lang/IllegalStateException", Cond.initialized "java/lang/IllegalStateException", Cond.fieldLink RX7 191 "MarkChat$Task" "doer" "LMarkChat$User;", Cond.fieldLink RX7 71 "MarkChat$User" "number" "I", Cond.fieldLink RX7 196 "MarkChat$Task" "state" "I", Cond.fieldLink RX7 201 "MarkChat$Task" "untilHour" "I", Cond.fieldLink RX7 51 "MarkChat" "hour" "I", Cond.methodLink RX7 74 yX7_userAt, Cond.instanceMethod yX7_userAt, Cond.selects RX7 yX7_userAt yX7_userAt, Cond.code yX7_userAt cX7_userAt 2 (some (.object "MarkChat$User")), Cond.classLink RX7 251 "java/lang/IndexOutOfBoundsException", Cond.initialized "java/lang/IndexOutOfBoundsException", Cond.fieldLink RX7 25 "MarkChat" "users" "Ljava/util/ArrayList;", Cond.classLink RX7 67 "MarkChat$User", Cond.methodLink RX7 59 yJx4a65c_size_8abf5, Cond.instanceMethod yJx4a65c_size_8abf5, Cond.selects RJx4a65c yJx4a65c_size_8abf5 yJx4a65c_size_8abf5]
def wsL_done_r2 : List Cond := [Cond.initialized RJx4a65c, Cond.code yJx4a65c_size_8abf5 cJx4a65c_size_8abf5 1 (some .int), Cond.fieldLink RJx4a65c 48 "java/util/ArrayList" "size" "I", Cond.methodLink RX7 210 yJx4a65c_get_915e3, Cond.instanceMethod yJx4a65c_get_915e3, Cond.selects RJx4a65c yJx4a65c_get_915e3 yJx4a65c_get_915e3, Cond.code yJx4a65c_get_915e3 cJx4a65c_get_915e3 2 (some (.object "java/lang/Object")), Cond.methodLink RJx4a65c 118 yJ15_checkIndex_7cf53, Cond.static yJ15_checkIndex_7cf53, Cond.initialized RJ15, Cond.code yJ15_checkIndex_7cf53 cJ15_checkIndex_7cf53 2 (some .int), Cond.methodLink RJ15 105 yJ3_checkIndex_8e157, Cond.static yJ3_checkIndex_8e157, Cond.initialized RJ3, Cond.code yJ3_checkIndex_8e157 cJ3_checkIndex_8e157 3 (some .int), Cond.methodLink RJx4a65c 123 yJx4a65c_elementData_915e3, Cond.instanceMethod yJx4a65c_elementData_915e3, Cond.selects RJx4a65c yJx4a65c_elementData_915e3 yJx4a65c_elementData_915e3, Cond.code yJx4a65c_elementData_915e3 cJx4a65c_elementData_915e3 2 (some (.object "java/lang/Object")), Cond.fieldLink RJx4a65c 9 "java/util/ArrayList" "elementData" "[Ljava/lang/Object;", Cond.methodLink RX7 187 yX7_taskAt, Cond.instanceMethod yX7_taskAt, Cond.selects RX7 yX7_taskAt yX7_taskAt, Cond.code yX7_taskAt cX7_taskAt 2 (some (.object "MarkChat$Task"))]
def wsL_done_r3 : List Cond := [Cond.fieldLink RX7 34 "MarkChat" "tasks" "Ljava/util/ArrayList;", Cond.classLink RX7 181 "MarkChat$Task", Cond.methodLink RX7 120 yX7_refuseGone, Cond.instanceMethod yX7_refuseGone, Cond.selects RX7 yX7_refuseGone yX7_refuseGone, Cond.code yX7_refuseGone cX7_refuseGone 2 none, Cond.methodLink RX7 293 yX6_isGoneAt, Cond.instanceMethod yX6_isGoneAt, Cond.selects RX6 yX6_isGoneAt yX6_isGoneAt, Cond.initialized RX6, Cond.code yX6_isGoneAt cX6_isGoneAt 2 (some .boolean), Cond.fieldLink RX6 18 "MarkChat$User" "endHour" "I"]
def wsL_done : List Cond := .codeWith yL_done cL_done 5 (some .int) [(0, 10, 13, 21), (0, 10, 17, 15)] :: ((wsL_done_r1 ++ (wsL_done_r2 ++ wsL_done_r3)) ++ wsX50 ++ wsX60 ++ wsX70 ++ wsJx4a65c0 ++ (vx_atS RX7 100 "java/lang/IllegalStateException" ["java/lang/RuntimeException", "java/lang/Exception"]).filter goodWord ++ (vx_atS RX7 255 "java/lang/IndexOutOfBoundsException" ["java/lang/RuntimeException", "java/lang/Exception"]).filter goodWord)
def wsL_hold_r1 : List Cond := [Cond.classLink RL 21 "java/lang/IndexOutOfBoundsException", Cond.methodLink RL 49 yX7_hold, Cond.instanceMethod yX7_hold, Cond.selects RX7 yX7_hold yX7_hold, Cond.initialized RX7, Cond.code yX7_hold cX7_hold 3 (some .boolean), Cond.fieldLink RX7 204 "MarkChat$Channel" "isOnHold" "Z", Cond.methodLink RX7 87 yX7_channelAt, Cond.instanceMethod yX7_channelAt, Cond.selects RX7 yX7_channelAt yX7_channelAt, Cond.code yX7_channelAt cX7_channelAt 2 (some (.object "MarkChat$Channel")), Cond.classLink RX7 251 "java/lang/IndexOutOfBoundsException", Cond.initialized "java/lang/IndexOutOfBoundsException", Cond.fieldLink RX7 10 "MarkChat" "channels" "Ljava/util/ArrayList;", Cond.classLink RX7 16 "MarkChat$Channel", Cond.methodLink RX7 59 yJx4a65c_size_8abf5, Cond.instanceMethod yJx4a65c_size_8abf5, Cond.selects RJx4a65c yJx4a65c_size_8abf5 yJx4a65c_size_8abf5, Cond.initialized RJx4a65c, Cond.code yJx4a65c_size_8abf5 cJx4a65c_size_8abf5 1 (some .int), Cond.fieldLink RJx4a65c 48 "java/util/ArrayList" "size" "I", Cond.methodLink RX7 210 yJx4a65c_get_915e3, Cond.instanceMethod yJx4a65c_get_915e3, Cond.selects RJx4a65c yJx4a65c_get_915e3 yJx4a65c_get_915e3]
def wsL_hold_r2 : List Cond := [Cond.code yJx4a65c_get_915e3 cJx4a65c_get_915e3 2 (some (.object "java/lang/Object")), Cond.methodLink RJx4a65c 118 yJ15_checkIndex_7cf53, Cond.static yJ15_checkIndex_7cf53, Cond.initialized RJ15, Cond.code yJ15_checkIndex_7cf53 cJ15_checkIndex_7cf53 2 (some .int), Cond.methodLink RJ15 105 yJ3_checkIndex_8e157, Cond.static yJ3_checkIndex_8e157, Cond.initialized RJ3, Cond.code yJ3_checkIndex_8e157 cJ3_checkIndex_8e157 3 (some .int), Cond.methodLink RJx4a65c 123 yJx4a65c_elementData_915e3, Cond.instanceMethod yJx4a65c_elementData_915e3, Cond.selects RJx4a65c yJx4a65c_elementData_915e3 yJx4a65c_elementData_915e3, Cond.code yJx4a65c_elementData_915e3 cJx4a65c_elementData_915e3 2 (some (.object "java/lang/Object")), Cond.fieldLink RJx4a65c 9 "java/util/ArrayList" "elementData" "[Ljava/lang/Object;"]
def wsL_hold : List Cond := .codeWith yL_hold cL_hold 4 (some .int) [(0, 16, 19, 21)] :: ((wsL_hold_r1 ++ wsL_hold_r2) ++ wsX00 ++ wsX70 ++ wsJx4a65c0 ++ (vx_atS RX7 255 "java/lang/IndexOutOfBoundsException" ["java/lang/RuntimeException", "java/lang/Exception"]).filter goodWord)
def wsL_archive_r1 : List Cond := [Cond.classLink RL 21 "java/lang/IndexOutOfBoundsException", Cond.methodLink RL 53 yX7_archive, Cond.instanceMethod yX7_archive, Cond.selects RX7 yX7_archive yX7_archive, Cond.initialized RX7, Cond.code yX7_archive cX7_archive 6 (some .int), Cond.classLink RX7 96 "java/lang/IllegalStateException", Cond.initialized "java/lang/IllegalStateException", Cond.fieldLink RX7 204 "MarkChat$Channel" "isOnHold" "Z", Cond.fieldLink RX7 28 "MarkChat" "messages" "Ljava/util/ArrayList;", Cond.classLink RX7 112 "MarkChat$Message", Cond.fieldLink RX7 111 "MarkChat$Message" "channel" "LMarkChat$Channel;", Cond.fieldLink RX7 117 "MarkChat$Channel" "number" "I", Cond.fieldLink RX7 218 "MarkChat$Message" "isArchived" "Z", Cond.methodLink RX7 87 yX7_channelAt, Cond.instanceMethod yX7_channelAt, Cond.selects RX7 yX7_channelAt yX7_channelAt, Cond.code yX7_channelAt cX7_channelAt 2 (some (.object "MarkChat$Channel")), Cond.classLink RX7 251 "java/lang/IndexOutOfBoundsException", Cond.initialized "java/lang/IndexOutOfBoundsException", Cond.fieldLink RX7 10 "MarkChat" "channels" "Ljava/util/ArrayList;", Cond.classLink RX7 16 "MarkChat$Channel", Cond.methodLink RX7 59 yJx4a65c_size_8abf5, Cond.instanceMethod yJx4a65c_size_8abf5]
def wsL_archive_r2 : List Cond := [Cond.selects RJx4a65c yJx4a65c_size_8abf5 yJx4a65c_size_8abf5, Cond.initialized RJx4a65c, Cond.code yJx4a65c_size_8abf5 cJx4a65c_size_8abf5 1 (some .int), Cond.fieldLink RJx4a65c 48 "java/util/ArrayList" "size" "I", Cond.methodLink RX7 210 yJx4a65c_get_915e3, Cond.instanceMethod yJx4a65c_get_915e3, Cond.selects RJx4a65c yJx4a65c_get_915e3 yJx4a65c_get_915e3, Cond.code yJx4a65c_get_915e3 cJx4a65c_get_915e3 2 (some (.object "java/lang/Object")), Cond.methodLink RJx4a65c 118 yJ15_checkIndex_7cf53, Cond.static yJ15_checkIndex_7cf53, Cond.initialized RJ15, Cond.code yJ15_checkIndex_7cf53 cJ15_checkIndex_7cf53 2 (some .int), Cond.methodLink RJ15 105 yJ3_checkIndex_8e157, Cond.static yJ3_checkIndex_8e157, Cond.initialized RJ3, Cond.code yJ3_checkIndex_8e157 cJ3_checkIndex_8e157 3 (some .int), Cond.methodLink RJx4a65c 123 yJx4a65c_elementData_915e3, Cond.instanceMethod yJx4a65c_elementData_915e3, Cond.selects RJx4a65c yJx4a65c_elementData_915e3 yJx4a65c_elementData_915e3, Cond.code yJx4a65c_elementData_915e3 cJx4a65c_elementData_915e3 2 (some (.object "java/lang/Object")), Cond.fieldLink RJx4a65c 9 "java/util/ArrayList" "elementData" "[Ljava/lang/Object;", Cond.methodLink RX7 214 yX7_mayBeArchived, Cond.instanceMethod yX7_mayBeArchived, Cond.selects RX7 yX7_mayBeArchived yX7_mayBeArchived]
def wsL_archive_r3 : List Cond := [Cond.code yX7_mayBeArchived cX7_mayBeArchived 2 (some .boolean), Cond.fieldLink RX7 51 "MarkChat" "hour" "I", Cond.fieldLink RX7 224 "MarkChat$Message" "postHour" "I", Cond.fieldLink RX7 127 "MarkChat$Message" "number" "I", Cond.methodLink RX7 314 yX7_hasStandingSpend, Cond.instanceMethod yX7_hasStandingSpend, Cond.selects RX7 yX7_hasStandingSpend yX7_hasStandingSpend, Cond.code yX7_hasStandingSpend cX7_hasStandingSpend 4 (some .boolean), Cond.fieldLink RX7 31 "MarkChat" "spends" "Ljava/util/ArrayList;", Cond.classLink RX7 175 "MarkChat$Spend", Cond.fieldLink RX7 241 "MarkChat$Spend" "message" "LMarkChat$Message;", Cond.fieldLink RX7 240 "MarkChat$Spend" "state" "I", Cond.methodLink RX7 317 yX7_hasOpenTask, Cond.instanceMethod yX7_hasOpenTask, Cond.selects RX7 yX7_hasOpenTask yX7_hasOpenTask, Cond.code yX7_hasOpenTask cX7_hasOpenTask 4 (some .boolean), Cond.fieldLink RX7 34 "MarkChat" "tasks" "Ljava/util/ArrayList;", Cond.classLink RX7 181 "MarkChat$Task", Cond.fieldLink RX7 308 "MarkChat$Task" "message" "I", Cond.fieldLink RX7 196 "MarkChat$Task" "state" "I", Cond.methodLink RX7 320 yX7_hasReplyLeft, Cond.instanceMethod yX7_hasReplyLeft, Cond.selects RX7 yX7_hasReplyLeft yX7_hasReplyLeft, Cond.code yX7_hasReplyLeft cX7_hasReplyLeft 4 (some .boolean)]
def wsL_archive_r4 : List Cond := [Cond.fieldLink RX7 221 "MarkChat$Message" "parent" "I"]
def wsL_archive : List Cond := .codeWith yL_archive cL_archive 4 (some .int) [(0, 9, 12, 21), (0, 9, 15, 15)] :: ((wsL_archive_r1 ++ (wsL_archive_r2 ++ (wsL_archive_r3 ++ wsL_archive_r4))) ++ wsX00 ++ wsX70 ++ wsX30 ++ wsJx4a65c0 ++ wsX40 ++ wsX50 ++ (vx_atS RX7 100 "java/lang/IllegalStateException" ["java/lang/RuntimeException", "java/lang/Exception"]).filter goodWord ++ (vx_atS RX7 255 "java/lang/IndexOutOfBoundsException" ["java/lang/RuntimeException", "java/lang/Exception"]).filter goodWord)
def wsL_pass_r1 : List Cond := [Cond.classLink RL 13 "java/lang/IllegalArgumentException", Cond.methodLink RL 56 yX7_pass, Cond.instanceMethod yX7_pass, Cond.selects RX7 yX7_pass yX7_pass, Cond.initialized RX7, Cond.code yX7_pass cX7_pass 2 (some .int), Cond.fieldLink RX7 51 "MarkChat" "hour" "I", Cond.methodLink RX7 55 yX7_checkRange, Cond.static yX7_checkRange, Cond.code yX7_checkRange cX7_checkRange 3 none, Cond.classLink RX7 227 "java/lang/IllegalArgumentException", Cond.initialized "java/lang/IllegalArgumentException", Cond.methodLink RX7 81 yX7_takeSpendsBack, Cond.instanceMethod yX7_takeSpendsBack, Cond.selects RX7 yX7_takeSpendsBack yX7_takeSpendsBack, Cond.code yX7_takeSpendsBack cX7_takeSpendsBack 3 none, Cond.fieldLink RX7 31 "MarkChat" "spends" "Ljava/util/ArrayList;", Cond.classLink RX7 175 "MarkChat$Spend", Cond.fieldLink RX7 240 "MarkChat$Spend" "state" "I", Cond.fieldLink RX7 241 "MarkChat$Spend" "message" "LMarkChat$Message;", Cond.fieldLink RX7 111 "MarkChat$Message" "channel" "LMarkChat$Channel;", Cond.fieldLink RX7 92 "MarkChat$Channel" "cents" "I", Cond.fieldLink RX7 246 "MarkChat$Spend" "amount" "I", Cond.methodLink RX7 59 yJx4a65c_size_8abf5]
def wsL_pass_r2 : List Cond := [Cond.instanceMethod yJx4a65c_size_8abf5, Cond.selects RJx4a65c yJx4a65c_size_8abf5 yJx4a65c_size_8abf5, Cond.initialized RJx4a65c, Cond.code yJx4a65c_size_8abf5 cJx4a65c_size_8abf5 1 (some .int), Cond.fieldLink RJx4a65c 48 "java/util/ArrayList" "size" "I", Cond.methodLink RX7 210 yJx4a65c_get_915e3, Cond.instanceMethod yJx4a65c_get_915e3, Cond.selects RJx4a65c yJx4a65c_get_915e3 yJx4a65c_get_915e3, Cond.code yJx4a65c_get_915e3 cJx4a65c_get_915e3 2 (some (.object "java/lang/Object")), Cond.methodLink RJx4a65c 118 yJ15_checkIndex_7cf53, Cond.static yJ15_checkIndex_7cf53, Cond.initialized RJ15, Cond.code yJ15_checkIndex_7cf53 cJ15_checkIndex_7cf53 2 (some .int), Cond.methodLink RJ15 105 yJ3_checkIndex_8e157, Cond.static yJ3_checkIndex_8e157, Cond.initialized RJ3, Cond.code yJ3_checkIndex_8e157 cJ3_checkIndex_8e157 3 (some .int), Cond.methodLink RJx4a65c 123 yJx4a65c_elementData_915e3, Cond.instanceMethod yJx4a65c_elementData_915e3, Cond.selects RJx4a65c yJx4a65c_elementData_915e3 yJx4a65c_elementData_915e3, Cond.code yJx4a65c_elementData_915e3 cJx4a65c_elementData_915e3 2 (some (.object "java/lang/Object")), Cond.fieldLink RJx4a65c 9 "java/util/ArrayList" "elementData" "[Ljava/lang/Object;", Cond.methodLink RX7 304 yX7_isStillDue, Cond.instanceMethod yX7_isStillDue]
def wsL_pass_r3 : List Cond := [Cond.selects RX7 yX7_isStillDue yX7_isStillDue, Cond.code yX7_isStillDue cX7_isStillDue 3 (some .boolean), Cond.fieldLink RX7 136 "MarkChat$Message" "version" "I", Cond.fieldLink RX7 245 "MarkChat$Spend" "version" "I", Cond.fieldLink RX7 139 "MarkChat$Message" "marks" "LMarkChat$Marks;", Cond.methodLink RX7 167 yX7_approve, Cond.instanceMethod yX7_approve, Cond.selects RX7 yX7_approve yX7_approve, Cond.code yX7_approve cX7_approve 9 (some .boolean), Cond.fieldLink RX7 25 "MarkChat" "users" "Ljava/util/ArrayList;", Cond.classLink RX7 67 "MarkChat$User", Cond.fieldLink RX7 78 "MarkChat$User" "rank" "I", Cond.fieldLink RX7 130 "MarkChat$Message" "author" "LMarkChat$User;", Cond.fieldLink RX7 71 "MarkChat$User" "number" "I", Cond.methodLink RX7 151 yX2_kindOf, Cond.instanceMethod yX2_kindOf, Cond.selects RX2 yX2_kindOf yX2_kindOf, Cond.initialized RX2, Cond.code yX2_kindOf cX2_kindOf 2 (some .int), Cond.fieldLink RX2 9 "MarkChat$Marks" "kinds" "[I", Cond.methodLink RX7 301 yX6_countsAt, Cond.instanceMethod yX6_countsAt, Cond.selects RX6 yX6_countsAt yX6_countsAt, Cond.initialized RX6]
def wsL_pass_r4 : List Cond := [Cond.code yX6_countsAt cX6_countsAt 2 (some .boolean), Cond.fieldLink RX6 15 "MarkChat$User" "rank" "I", Cond.methodLink RX6 21 yX6_isGoneAt, Cond.instanceMethod yX6_isGoneAt, Cond.selects RX6 yX6_isGoneAt yX6_isGoneAt, Cond.code yX6_isGoneAt cX6_isGoneAt 2 (some .boolean), Cond.fieldLink RX6 18 "MarkChat$User" "endHour" "I"]
def wsL_pass : List Cond := .codeWith yL_pass cL_pass 4 (some .int) [(0, 9, 12, 13)] :: ((wsL_pass_r1 ++ (wsL_pass_r2 ++ (wsL_pass_r3 ++ wsL_pass_r4))) ++ wsX70 ++ wsX40 ++ wsX30 ++ wsX00 ++ wsJx4a65c0 ++ wsX60 ++ wsX20 ++ (vx_atS RX7 231 "java/lang/IllegalArgumentException" ["java/lang/RuntimeException", "java/lang/Exception"]).filter goodWord)
def wsL_messageOf_r1 : List Cond := [Cond.classLink RL 21 "java/lang/IndexOutOfBoundsException", Cond.methodLink RL 59 yX7_messageOf, Cond.instanceMethod yX7_messageOf, Cond.selects RX7 yX7_messageOf yX7_messageOf, Cond.initialized RX7, Cond.code yX7_messageOf cX7_messageOf 4 (some .int), Cond.classLink RX7 227 "java/lang/IllegalArgumentException", Cond.initialized "java/lang/IllegalArgumentException", Cond.fieldLink RX7 130 "MarkChat$Message" "author" "LMarkChat$User;", Cond.fieldLink RX7 71 "MarkChat$User" "number" "I", Cond.fieldLink RX7 111 "MarkChat$Message" "channel" "LMarkChat$Channel;", Cond.fieldLink RX7 117 "MarkChat$Channel" "number" "I", Cond.fieldLink RX7 221 "MarkChat$Message" "parent" "I", Cond.fieldLink RX7 136 "MarkChat$Message" "version" "I", Cond.fieldLink RX7 224 "MarkChat$Message" "postHour" "I", Cond.fieldLink RX7 218 "MarkChat$Message" "isArchived" "Z", Cond.fieldLink RX7 139 "MarkChat$Message" "marks" "LMarkChat$Marks;", Cond.methodLink RX7 103 yX7_messageAt, Cond.instanceMethod yX7_messageAt, Cond.selects RX7 yX7_messageAt yX7_messageAt, Cond.code yX7_messageAt cX7_messageAt 2 (some (.object "MarkChat$Message")), Cond.classLink RX7 251 "java/lang/IndexOutOfBoundsException", Cond.initialized "java/lang/IndexOutOfBoundsException", Cond.fieldLink RX7 28 "MarkChat" "messages" "Ljava/util/ArrayList;"]
def wsL_messageOf_r2 : List Cond := [Cond.classLink RX7 112 "MarkChat$Message", Cond.methodLink RX7 59 yJx4a65c_size_8abf5, Cond.instanceMethod yJx4a65c_size_8abf5, Cond.selects RJx4a65c yJx4a65c_size_8abf5 yJx4a65c_size_8abf5, Cond.initialized RJx4a65c, Cond.code yJx4a65c_size_8abf5 cJx4a65c_size_8abf5 1 (some .int), Cond.fieldLink RJx4a65c 48 "java/util/ArrayList" "size" "I", Cond.methodLink RX7 210 yJx4a65c_get_915e3, Cond.instanceMethod yJx4a65c_get_915e3, Cond.selects RJx4a65c yJx4a65c_get_915e3 yJx4a65c_get_915e3, Cond.code yJx4a65c_get_915e3 cJx4a65c_get_915e3 2 (some (.object "java/lang/Object")), Cond.methodLink RJx4a65c 118 yJ15_checkIndex_7cf53, Cond.static yJ15_checkIndex_7cf53, Cond.initialized RJ15, Cond.code yJ15_checkIndex_7cf53 cJ15_checkIndex_7cf53 2 (some .int), Cond.methodLink RJ15 105 yJ3_checkIndex_8e157, Cond.static yJ3_checkIndex_8e157, Cond.initialized RJ3, Cond.code yJ3_checkIndex_8e157 cJ3_checkIndex_8e157 3 (some .int), Cond.methodLink RJx4a65c 123 yJx4a65c_elementData_915e3, Cond.instanceMethod yJx4a65c_elementData_915e3, Cond.selects RJx4a65c yJx4a65c_elementData_915e3 yJx4a65c_elementData_915e3, Cond.code yJx4a65c_elementData_915e3 cJx4a65c_elementData_915e3 2 (some (.object "java/lang/Object")), Cond.fieldLink RJx4a65c 9 "java/util/ArrayList" "elementData" "[Ljava/lang/Object;"]
def wsL_messageOf_r3 : List Cond := [Cond.methodLink RX7 163 yX7_countMarks, Cond.instanceMethod yX7_countMarks, Cond.selects RX7 yX7_countMarks yX7_countMarks, Cond.code yX7_countMarks cX7_countMarks 4 (some .int), Cond.fieldLink RX7 25 "MarkChat" "users" "Ljava/util/ArrayList;", Cond.classLink RX7 67 "MarkChat$User", Cond.fieldLink RX7 51 "MarkChat" "hour" "I", Cond.methodLink RX7 151 yX2_kindOf, Cond.instanceMethod yX2_kindOf, Cond.selects RX2 yX2_kindOf yX2_kindOf, Cond.initialized RX2, Cond.code yX2_kindOf cX2_kindOf 2 (some .int), Cond.fieldLink RX2 9 "MarkChat$Marks" "kinds" "[I", Cond.methodLink RX7 301 yX6_countsAt, Cond.instanceMethod yX6_countsAt, Cond.selects RX6 yX6_countsAt yX6_countsAt, Cond.initialized RX6, Cond.code yX6_countsAt cX6_countsAt 2 (some .boolean), Cond.fieldLink RX6 15 "MarkChat$User" "rank" "I", Cond.methodLink RX6 21 yX6_isGoneAt, Cond.instanceMethod yX6_isGoneAt, Cond.selects RX6 yX6_isGoneAt yX6_isGoneAt, Cond.code yX6_isGoneAt cX6_isGoneAt 2 (some .boolean), Cond.fieldLink RX6 18 "MarkChat$User" "endHour" "I"]
def wsL_messageOf : List Cond := .codeWith yL_messageOf cL_messageOf 5 (some .int) [(0, 10, 13, 21), (0, 10, 17, 13)] :: ((wsL_messageOf_r1 ++ (wsL_messageOf_r2 ++ wsL_messageOf_r3)) ++ wsX30 ++ wsX60 ++ wsX00 ++ wsX70 ++ wsJx4a65c0 ++ wsX20 ++ (vx_atS RX7 231 "java/lang/IllegalArgumentException" ["java/lang/RuntimeException", "java/lang/Exception"]).filter goodWord ++ (vx_atS RX7 255 "java/lang/IndexOutOfBoundsException" ["java/lang/RuntimeException", "java/lang/Exception"]).filter goodWord)
def wsL_isApproved_r1 : List Cond := [Cond.classLink RL 21 "java/lang/IndexOutOfBoundsException", Cond.methodLink RL 62 yX7_isApproved, Cond.instanceMethod yX7_isApproved, Cond.selects RX7 yX7_isApproved yX7_isApproved, Cond.initialized RX7, Cond.code yX7_isApproved cX7_isApproved 5 (some .boolean), Cond.constant RX7 91 (1000000), Cond.fieldLink RX7 139 "MarkChat$Message" "marks" "LMarkChat$Marks;", Cond.fieldLink RX7 40 "MarkChat" "log" "LMarkChat$Log;", Cond.fieldLink RX7 47 "MarkChat" "marksAnew" "LMarkChat$Marks;", Cond.methodLink RX7 103 yX7_messageAt, Cond.instanceMethod yX7_messageAt, Cond.selects RX7 yX7_messageAt yX7_messageAt, Cond.code yX7_messageAt cX7_messageAt 2 (some (.object "MarkChat$Message")), Cond.classLink RX7 251 "java/lang/IndexOutOfBoundsException", Cond.initialized "java/lang/IndexOutOfBoundsException", Cond.fieldLink RX7 28 "MarkChat" "messages" "Ljava/util/ArrayList;", Cond.classLink RX7 112 "MarkChat$Message", Cond.methodLink RX7 59 yJx4a65c_size_8abf5, Cond.instanceMethod yJx4a65c_size_8abf5, Cond.selects RJx4a65c yJx4a65c_size_8abf5 yJx4a65c_size_8abf5, Cond.initialized RJx4a65c, Cond.code yJx4a65c_size_8abf5 cJx4a65c_size_8abf5 1 (some .int), Cond.fieldLink RJx4a65c 48 "java/util/ArrayList" "size" "I"]
def wsL_isApproved_r2 : List Cond := [Cond.methodLink RX7 210 yJx4a65c_get_915e3, Cond.instanceMethod yJx4a65c_get_915e3, Cond.selects RJx4a65c yJx4a65c_get_915e3 yJx4a65c_get_915e3, Cond.code yJx4a65c_get_915e3 cJx4a65c_get_915e3 2 (some (.object "java/lang/Object")), Cond.methodLink RJx4a65c 118 yJ15_checkIndex_7cf53, Cond.static yJ15_checkIndex_7cf53, Cond.initialized RJ15, Cond.code yJ15_checkIndex_7cf53 cJ15_checkIndex_7cf53 2 (some .int), Cond.methodLink RJ15 105 yJ3_checkIndex_8e157, Cond.static yJ3_checkIndex_8e157, Cond.initialized RJ3, Cond.code yJ3_checkIndex_8e157 cJ3_checkIndex_8e157 3 (some .int), Cond.methodLink RJx4a65c 123 yJx4a65c_elementData_915e3, Cond.instanceMethod yJx4a65c_elementData_915e3, Cond.selects RJx4a65c yJx4a65c_elementData_915e3 yJx4a65c_elementData_915e3, Cond.code yJx4a65c_elementData_915e3 cJx4a65c_elementData_915e3 2 (some (.object "java/lang/Object")), Cond.fieldLink RJx4a65c 9 "java/util/ArrayList" "elementData" "[Ljava/lang/Object;", Cond.methodLink RX7 55 yX7_checkRange, Cond.static yX7_checkRange, Cond.code yX7_checkRange cX7_checkRange 3 none, Cond.classLink RX7 227 "java/lang/IllegalArgumentException", Cond.initialized "java/lang/IllegalArgumentException", Cond.methodLink RX7 167 yX7_approve, Cond.instanceMethod yX7_approve]
def wsL_isApproved_r3 : List Cond := [Cond.selects RX7 yX7_approve yX7_approve, Cond.code yX7_approve cX7_approve 9 (some .boolean), Cond.fieldLink RX7 25 "MarkChat" "users" "Ljava/util/ArrayList;", Cond.classLink RX7 67 "MarkChat$User", Cond.fieldLink RX7 51 "MarkChat" "hour" "I", Cond.fieldLink RX7 78 "MarkChat$User" "rank" "I", Cond.fieldLink RX7 130 "MarkChat$Message" "author" "LMarkChat$User;", Cond.fieldLink RX7 71 "MarkChat$User" "number" "I", Cond.methodLink RX7 151 yX2_kindOf, Cond.instanceMethod yX2_kindOf, Cond.selects RX2 yX2_kindOf yX2_kindOf, Cond.initialized RX2, Cond.code yX2_kindOf cX2_kindOf 2 (some .int), Cond.fieldLink RX2 9 "MarkChat$Marks" "kinds" "[I", Cond.methodLink RX7 301 yX6_countsAt, Cond.instanceMethod yX6_countsAt, Cond.selects RX6 yX6_countsAt yX6_countsAt, Cond.initialized RX6, Cond.code yX6_countsAt cX6_countsAt 2 (some .boolean), Cond.fieldLink RX6 15 "MarkChat$User" "rank" "I", Cond.methodLink RX6 21 yX6_isGoneAt, Cond.instanceMethod yX6_isGoneAt, Cond.selects RX6 yX6_isGoneAt yX6_isGoneAt, Cond.code yX6_isGoneAt cX6_isGoneAt 2 (some .boolean)]
def wsL_isApproved_r4 : List Cond := [Cond.fieldLink RX6 18 "MarkChat$User" "endHour" "I", Cond.methodLink RX7 232 yX1_readInto, Cond.instanceMethod yX1_readInto, Cond.selects RX1 yX1_readInto yX1_readInto, Cond.initialized RX1, Cond.code yX1_readInto cX1_readInto 4 none, Cond.fieldLink RX1 25 "MarkChat$Log" "size" "I", Cond.fieldLink RX1 9 "MarkChat$Log" "messages" "[I", Cond.fieldLink RX1 18 "MarkChat$Log" "kinds" "[I", Cond.fieldLink RX1 15 "MarkChat$Log" "users" "[I", Cond.methodLink RX1 29 yX2_clear, Cond.instanceMethod yX2_clear, Cond.selects RX2 yX2_clear yX2_clear, Cond.code yX2_clear cX2_clear 1 none, Cond.methodLink RX2 15 yJ7_fill_53178, Cond.static yJ7_fill_53178, Cond.initialized RJ7, Cond.code yJ7_fill_53178 cJ7_fill_53178 4 none, Cond.methodLink RX1 34 yX2_put, Cond.instanceMethod yX2_put, Cond.selects RX2 yX2_put yX2_put, Cond.code yX2_put cX2_put 3 none]
def wsL_isApproved : List Cond := .codeWith yL_isApproved cL_isApproved 6 (some .int) [(0, 19, 22, 21), (0, 19, 26, 13)] :: ((wsL_isApproved_r1 ++ (wsL_isApproved_r2 ++ (wsL_isApproved_r3 ++ wsL_isApproved_r4))) ++ wsX30 ++ wsX70 ++ wsJx4a65c0 ++ wsX60 ++ wsX20 ++ wsX10 ++ (vx_atS RX7 255 "java/lang/IndexOutOfBoundsException" ["java/lang/RuntimeException", "java/lang/Exception"]).filter goodWord ++ (vx_atS RX7 231 "java/lang/IllegalArgumentException" ["java/lang/RuntimeException", "java/lang/Exception"]).filter goodWord)
def wsL_spendOf_r1 : List Cond := [Cond.classLink RL 21 "java/lang/IndexOutOfBoundsException", Cond.methodLink RL 66 yX7_spendOf, Cond.instanceMethod yX7_spendOf, Cond.selects RX7 yX7_spendOf yX7_spendOf, Cond.initialized RX7, Cond.code yX7_spendOf cX7_spendOf 4 (some .int), Cond.classLink RX7 227 "java/lang/IllegalArgumentException", Cond.initialized "java/lang/IllegalArgumentException", Cond.fieldLink RX7 240 "MarkChat$Spend" "state" "I", Cond.fieldLink RX7 241 "MarkChat$Spend" "message" "LMarkChat$Message;", Cond.fieldLink RX7 127 "MarkChat$Message" "number" "I", Cond.fieldLink RX7 245 "MarkChat$Spend" "version" "I", Cond.fieldLink RX7 246 "MarkChat$Spend" "amount" "I", Cond.methodLink RX7 236 yX7_spendAt, Cond.instanceMethod yX7_spendAt, Cond.selects RX7 yX7_spendAt yX7_spendAt, Cond.code yX7_spendAt cX7_spendAt 2 (some (.object "MarkChat$Spend")), Cond.classLink RX7 251 "java/lang/IndexOutOfBoundsException", Cond.initialized "java/lang/IndexOutOfBoundsException", Cond.fieldLink RX7 31 "MarkChat" "spends" "Ljava/util/ArrayList;", Cond.classLink RX7 175 "MarkChat$Spend", Cond.methodLink RX7 59 yJx4a65c_size_8abf5, Cond.instanceMethod yJx4a65c_size_8abf5, Cond.selects RJx4a65c yJx4a65c_size_8abf5 yJx4a65c_size_8abf5]
def wsL_spendOf_r2 : List Cond := [Cond.initialized RJx4a65c, Cond.code yJx4a65c_size_8abf5 cJx4a65c_size_8abf5 1 (some .int), Cond.fieldLink RJx4a65c 48 "java/util/ArrayList" "size" "I", Cond.methodLink RX7 210 yJx4a65c_get_915e3, Cond.instanceMethod yJx4a65c_get_915e3, Cond.selects RJx4a65c yJx4a65c_get_915e3 yJx4a65c_get_915e3, Cond.code yJx4a65c_get_915e3 cJx4a65c_get_915e3 2 (some (.object "java/lang/Object")), Cond.methodLink RJx4a65c 118 yJ15_checkIndex_7cf53, Cond.static yJ15_checkIndex_7cf53, Cond.initialized RJ15, Cond.code yJ15_checkIndex_7cf53 cJ15_checkIndex_7cf53 2 (some .int), Cond.methodLink RJ15 105 yJ3_checkIndex_8e157, Cond.static yJ3_checkIndex_8e157, Cond.initialized RJ3, Cond.code yJ3_checkIndex_8e157 cJ3_checkIndex_8e157 3 (some .int), Cond.methodLink RJx4a65c 123 yJx4a65c_elementData_915e3, Cond.instanceMethod yJx4a65c_elementData_915e3, Cond.selects RJx4a65c yJx4a65c_elementData_915e3 yJx4a65c_elementData_915e3, Cond.code yJx4a65c_elementData_915e3 cJx4a65c_elementData_915e3 2 (some (.object "java/lang/Object")), Cond.fieldLink RJx4a65c 9 "java/util/ArrayList" "elementData" "[Ljava/lang/Object;"]
def wsL_spendOf : List Cond := .codeWith yL_spendOf cL_spendOf 5 (some .int) [(0, 10, 13, 21), (0, 10, 17, 13)] :: ((wsL_spendOf_r1 ++ wsL_spendOf_r2) ++ wsX40 ++ wsX30 ++ wsX70 ++ wsJx4a65c0 ++ (vx_atS RX7 231 "java/lang/IllegalArgumentException" ["java/lang/RuntimeException", "java/lang/Exception"]).filter goodWord ++ (vx_atS RX7 255 "java/lang/IndexOutOfBoundsException" ["java/lang/RuntimeException", "java/lang/Exception"]).filter goodWord)
def wsL_left_r1 : List Cond := [Cond.classLink RL 21 "java/lang/IndexOutOfBoundsException", Cond.methodLink RL 69 yX7_left, Cond.instanceMethod yX7_left, Cond.selects RX7 yX7_left yX7_left, Cond.initialized RX7, Cond.code yX7_left cX7_left 2 (some .int), Cond.fieldLink RX7 92 "MarkChat$Channel" "cents" "I", Cond.methodLink RX7 87 yX7_channelAt, Cond.instanceMethod yX7_channelAt, Cond.selects RX7 yX7_channelAt yX7_channelAt, Cond.code yX7_channelAt cX7_channelAt 2 (some (.object "MarkChat$Channel")), Cond.classLink RX7 251 "java/lang/IndexOutOfBoundsException", Cond.initialized "java/lang/IndexOutOfBoundsException", Cond.fieldLink RX7 10 "MarkChat" "channels" "Ljava/util/ArrayList;", Cond.classLink RX7 16 "MarkChat$Channel", Cond.methodLink RX7 59 yJx4a65c_size_8abf5, Cond.instanceMethod yJx4a65c_size_8abf5, Cond.selects RJx4a65c yJx4a65c_size_8abf5 yJx4a65c_size_8abf5, Cond.initialized RJx4a65c, Cond.code yJx4a65c_size_8abf5 cJx4a65c_size_8abf5 1 (some .int), Cond.fieldLink RJx4a65c 48 "java/util/ArrayList" "size" "I", Cond.methodLink RX7 210 yJx4a65c_get_915e3, Cond.instanceMethod yJx4a65c_get_915e3, Cond.selects RJx4a65c yJx4a65c_get_915e3 yJx4a65c_get_915e3]
def wsL_left_r2 : List Cond := [Cond.code yJx4a65c_get_915e3 cJx4a65c_get_915e3 2 (some (.object "java/lang/Object")), Cond.methodLink RJx4a65c 118 yJ15_checkIndex_7cf53, Cond.static yJ15_checkIndex_7cf53, Cond.initialized RJ15, Cond.code yJ15_checkIndex_7cf53 cJ15_checkIndex_7cf53 2 (some .int), Cond.methodLink RJ15 105 yJ3_checkIndex_8e157, Cond.static yJ3_checkIndex_8e157, Cond.initialized RJ3, Cond.code yJ3_checkIndex_8e157 cJ3_checkIndex_8e157 3 (some .int), Cond.methodLink RJx4a65c 123 yJx4a65c_elementData_915e3, Cond.instanceMethod yJx4a65c_elementData_915e3, Cond.selects RJx4a65c yJx4a65c_elementData_915e3 yJx4a65c_elementData_915e3, Cond.code yJx4a65c_elementData_915e3 cJx4a65c_elementData_915e3 2 (some (.object "java/lang/Object")), Cond.fieldLink RJx4a65c 9 "java/util/ArrayList" "elementData" "[Ljava/lang/Object;"]
def wsL_left : List Cond := .codeWith yL_left cL_left 4 (some .int) [(0, 9, 12, 21)] :: ((wsL_left_r1 ++ wsL_left_r2) ++ wsX00 ++ wsX70 ++ wsJx4a65c0 ++ (vx_atS RX7 255 "java/lang/IndexOutOfBoundsException" ["java/lang/RuntimeException", "java/lang/Exception"]).filter goodWord)
def wsL_next_r1 : List Cond := [Cond.classLink RL 21 "java/lang/IndexOutOfBoundsException", Cond.methodLink RL 72 yX7_next, Cond.instanceMethod yX7_next, Cond.selects RX7 yX7_next yX7_next, Cond.initialized RX7, Cond.code yX7_next cX7_next 6 (some .int), Cond.classLink RX7 251 "java/lang/IndexOutOfBoundsException", Cond.initialized "java/lang/IndexOutOfBoundsException", Cond.fieldLink RX7 34 "MarkChat" "tasks" "Ljava/util/ArrayList;", Cond.classLink RX7 181 "MarkChat$Task", Cond.fieldLink RX7 186 "MarkChat$Task" "number" "I", Cond.methodLink RX7 74 yX7_userAt, Cond.instanceMethod yX7_userAt, Cond.selects RX7 yX7_userAt yX7_userAt, Cond.code yX7_userAt cX7_userAt 2 (some (.object "MarkChat$User")), Cond.fieldLink RX7 25 "MarkChat" "users" "Ljava/util/ArrayList;", Cond.classLink RX7 67 "MarkChat$User", Cond.methodLink RX7 59 yJx4a65c_size_8abf5, Cond.instanceMethod yJx4a65c_size_8abf5, Cond.selects RJx4a65c yJx4a65c_size_8abf5 yJx4a65c_size_8abf5, Cond.initialized RJx4a65c, Cond.code yJx4a65c_size_8abf5 cJx4a65c_size_8abf5 1 (some .int), Cond.fieldLink RJx4a65c 48 "java/util/ArrayList" "size" "I", Cond.methodLink RX7 210 yJx4a65c_get_915e3]
def wsL_next_r2 : List Cond := [Cond.instanceMethod yJx4a65c_get_915e3, Cond.selects RJx4a65c yJx4a65c_get_915e3 yJx4a65c_get_915e3, Cond.code yJx4a65c_get_915e3 cJx4a65c_get_915e3 2 (some (.object "java/lang/Object")), Cond.methodLink RJx4a65c 118 yJ15_checkIndex_7cf53, Cond.static yJ15_checkIndex_7cf53, Cond.initialized RJ15, Cond.code yJ15_checkIndex_7cf53 cJ15_checkIndex_7cf53 2 (some .int), Cond.methodLink RJ15 105 yJ3_checkIndex_8e157, Cond.static yJ3_checkIndex_8e157, Cond.initialized RJ3, Cond.code yJ3_checkIndex_8e157 cJ3_checkIndex_8e157 3 (some .int), Cond.methodLink RJx4a65c 123 yJx4a65c_elementData_915e3, Cond.instanceMethod yJx4a65c_elementData_915e3, Cond.selects RJx4a65c yJx4a65c_elementData_915e3 yJx4a65c_elementData_915e3, Cond.code yJx4a65c_elementData_915e3 cJx4a65c_elementData_915e3 2 (some (.object "java/lang/Object")), Cond.fieldLink RJx4a65c 9 "java/util/ArrayList" "elementData" "[Ljava/lang/Object;", Cond.methodLink RX7 256 yX5_isOpenFor, Cond.instanceMethod yX5_isOpenFor, Cond.selects RX5 yX5_isOpenFor yX5_isOpenFor, Cond.initialized RX5, Cond.code yX5_isOpenFor cX5_isOpenFor 2 (some .boolean), Cond.fieldLink RX5 52 "MarkChat$Task" "state" "I", Cond.fieldLink RX5 21 "MarkChat$Task" "doer" "LMarkChat$User;", Cond.fieldLink RX5 41 "MarkChat$User" "number" "I"]
def wsL_next_r3 : List Cond := [Cond.methodLink RX7 260 yX7_rankOf, Cond.instanceMethod yX7_rankOf, Cond.selects RX7 yX7_rankOf yX7_rankOf, Cond.code yX7_rankOf cX7_rankOf 5 (some .int), Cond.fieldLink RX7 191 "MarkChat$Task" "doer" "LMarkChat$User;", Cond.methodLink RX7 310 yX5_comesBefore, Cond.instanceMethod yX5_comesBefore, Cond.selects RX5 yX5_comesBefore yX5_comesBefore, Cond.code yX5_comesBefore cX5_comesBefore 2 (some .boolean), Cond.fieldLink RX5 25 "MarkChat$Task" "untilHour" "I", Cond.fieldLink RX5 9 "MarkChat$Task" "number" "I"]
def wsL_next : List Cond := .codeWith yL_next cL_next 5 (some .int) [(0, 10, 13, 21)] :: ((wsL_next_r1 ++ (wsL_next_r2 ++ wsL_next_r3)) ++ wsX70 ++ wsX50 ++ wsJx4a65c0 ++ wsX60 ++ (vx_atS RX7 255 "java/lang/IndexOutOfBoundsException" ["java/lang/RuntimeException", "java/lang/Exception"]).filter goodWord)
def wsL_taskOf_r1 : List Cond := [Cond.classLink RL 21 "java/lang/IndexOutOfBoundsException", Cond.methodLink RL 75 yX7_taskOf, Cond.instanceMethod yX7_taskOf, Cond.selects RX7 yX7_taskOf yX7_taskOf, Cond.initialized RX7, Cond.code yX7_taskOf cX7_taskOf 2 (some .int), Cond.fieldLink RX7 196 "MarkChat$Task" "state" "I", Cond.methodLink RX7 187 yX7_taskAt, Cond.instanceMethod yX7_taskAt, Cond.selects RX7 yX7_taskAt yX7_taskAt, Cond.code yX7_taskAt cX7_taskAt 2 (some (.object "MarkChat$Task")), Cond.classLink RX7 251 "java/lang/IndexOutOfBoundsException", Cond.initialized "java/lang/IndexOutOfBoundsException", Cond.fieldLink RX7 34 "MarkChat" "tasks" "Ljava/util/ArrayList;", Cond.classLink RX7 181 "MarkChat$Task", Cond.methodLink RX7 59 yJx4a65c_size_8abf5, Cond.instanceMethod yJx4a65c_size_8abf5, Cond.selects RJx4a65c yJx4a65c_size_8abf5 yJx4a65c_size_8abf5, Cond.initialized RJx4a65c, Cond.code yJx4a65c_size_8abf5 cJx4a65c_size_8abf5 1 (some .int), Cond.fieldLink RJx4a65c 48 "java/util/ArrayList" "size" "I", Cond.methodLink RX7 210 yJx4a65c_get_915e3, Cond.instanceMethod yJx4a65c_get_915e3, Cond.selects RJx4a65c yJx4a65c_get_915e3 yJx4a65c_get_915e3]
def wsL_taskOf_r2 : List Cond := [Cond.code yJx4a65c_get_915e3 cJx4a65c_get_915e3 2 (some (.object "java/lang/Object")), Cond.methodLink RJx4a65c 118 yJ15_checkIndex_7cf53, Cond.static yJ15_checkIndex_7cf53, Cond.initialized RJ15, Cond.code yJ15_checkIndex_7cf53 cJ15_checkIndex_7cf53 2 (some .int), Cond.methodLink RJ15 105 yJ3_checkIndex_8e157, Cond.static yJ3_checkIndex_8e157, Cond.initialized RJ3, Cond.code yJ3_checkIndex_8e157 cJ3_checkIndex_8e157 3 (some .int), Cond.methodLink RJx4a65c 123 yJx4a65c_elementData_915e3, Cond.instanceMethod yJx4a65c_elementData_915e3, Cond.selects RJx4a65c yJx4a65c_elementData_915e3 yJx4a65c_elementData_915e3, Cond.code yJx4a65c_elementData_915e3 cJx4a65c_elementData_915e3 2 (some (.object "java/lang/Object")), Cond.fieldLink RJx4a65c 9 "java/util/ArrayList" "elementData" "[Ljava/lang/Object;"]
def wsL_taskOf : List Cond := .codeWith yL_taskOf cL_taskOf 4 (some .int) [(0, 9, 12, 21)] :: ((wsL_taskOf_r1 ++ wsL_taskOf_r2) ++ wsX50 ++ wsX70 ++ wsJx4a65c0 ++ (vx_atS RX7 255 "java/lang/IndexOutOfBoundsException" ["java/lang/RuntimeException", "java/lang/Exception"]).filter goodWord)
def wsL_label_r1 : List Cond := [Cond.classLink RL 21 "java/lang/IndexOutOfBoundsException", Cond.methodLink RL 78 yX7_label, Cond.instanceMethod yX7_label, Cond.selects RX7 yX7_label yX7_label, Cond.initialized RX7, Cond.code yX7_label cX7_label 4 (some .char), Cond.classLink RX7 251 "java/lang/IndexOutOfBoundsException", Cond.initialized "java/lang/IndexOutOfBoundsException", Cond.fieldLink RX7 264 "MarkChat$Task" "text" "Ljava/lang/String;", Cond.methodLink RX7 187 yX7_taskAt, Cond.instanceMethod yX7_taskAt, Cond.selects RX7 yX7_taskAt yX7_taskAt, Cond.code yX7_taskAt cX7_taskAt 2 (some (.object "MarkChat$Task")), Cond.fieldLink RX7 34 "MarkChat" "tasks" "Ljava/util/ArrayList;", Cond.classLink RX7 181 "MarkChat$Task", Cond.methodLink RX7 59 yJx4a65c_size_8abf5, Cond.instanceMethod yJx4a65c_size_8abf5, Cond.selects RJx4a65c yJx4a65c_size_8abf5 yJx4a65c_size_8abf5, Cond.initialized RJx4a65c, Cond.code yJx4a65c_size_8abf5 cJx4a65c_size_8abf5 1 (some .int), Cond.fieldLink RJx4a65c 48 "java/util/ArrayList" "size" "I", Cond.methodLink RX7 210 yJx4a65c_get_915e3, Cond.instanceMethod yJx4a65c_get_915e3, Cond.selects RJx4a65c yJx4a65c_get_915e3 yJx4a65c_get_915e3]
def wsL_label_r2 : List Cond := [Cond.code yJx4a65c_get_915e3 cJx4a65c_get_915e3 2 (some (.object "java/lang/Object")), Cond.methodLink RJx4a65c 118 yJ15_checkIndex_7cf53, Cond.static yJ15_checkIndex_7cf53, Cond.initialized RJ15, Cond.code yJ15_checkIndex_7cf53 cJ15_checkIndex_7cf53 2 (some .int), Cond.methodLink RJ15 105 yJ3_checkIndex_8e157, Cond.static yJ3_checkIndex_8e157, Cond.initialized RJ3, Cond.code yJ3_checkIndex_8e157 cJ3_checkIndex_8e157 3 (some .int), Cond.methodLink RJx4a65c 123 yJx4a65c_elementData_915e3, Cond.instanceMethod yJx4a65c_elementData_915e3, Cond.selects RJx4a65c yJx4a65c_elementData_915e3 yJx4a65c_elementData_915e3, Cond.code yJx4a65c_elementData_915e3 cJx4a65c_elementData_915e3 2 (some (.object "java/lang/Object")), Cond.fieldLink RJx4a65c 9 "java/util/ArrayList" "elementData" "[Ljava/lang/Object;", Cond.methodLink RX7 270 yJ0_length_8abf5, Cond.instanceMethod yJ0_length_8abf5, Cond.selects RJ0 yJ0_length_8abf5 yJ0_length_8abf5, Cond.initialized RJ0, Cond.code yJ0_length_8abf5 cJ0_length_8abf5 1 (some .int), Cond.fieldLink RJ0 9 "java/lang/String" "value" "[B", Cond.methodLink RJ0 335 yJ0_coder_7d493, Cond.instanceMethod yJ0_coder_7d493, Cond.selects RJ0 yJ0_coder_7d493 yJ0_coder_7d493, Cond.code yJ0_coder_7d493 cJ0_coder_7d493 1 (some .byte)]
def wsL_label_r3 : List Cond := [Cond.fieldLink RJ0 38 "java/lang/String" "COMPACT_STRINGS" "Z", Cond.fieldLink RJ0 15 "java/lang/String" "coder" "B", Cond.methodLink RX7 275 yJ0_charAt_5068e, Cond.instanceMethod yJ0_charAt_5068e, Cond.selects RJ0 yJ0_charAt_5068e yJ0_charAt_5068e, Cond.code yJ0_charAt_5068e cJ0_charAt_5068e 2 (some .char), Cond.methodLink RJ0 492 yJ0_isLatin1_aae02, Cond.instanceMethod yJ0_isLatin1_aae02, Cond.selects RJ0 yJ0_isLatin1_aae02 yJ0_isLatin1_aae02, Cond.code yJ0_isLatin1_aae02 cJ0_isLatin1_aae02 1 (some .boolean), Cond.methodLink RJ0 495 yJ1_charAt_3b067, Cond.static yJ1_charAt_3b067, Cond.initialized RJ1, Cond.code yJ1_charAt_3b067 cJ1_charAt_3b067 2 (some .char), Cond.methodLink RJ1 9 yJ0_checkIndex_df160, Cond.static yJ0_checkIndex_df160, Cond.code yJ0_checkIndex_df160 cJ0_checkIndex_df160 2 none, Cond.fieldLink RJ0 1053 "jdk/internal/util/Preconditions" "SIOOBE_FORMATTER" "Ljava/util/function/BiFunction;", Cond.methodLink RJ0 1059 yJ3_checkIndex_8e157, Cond.methodLink RJ0 498 yJ2_charAt_3b067, Cond.static yJ2_charAt_3b067, Cond.initialized RJ2, Cond.code yJ2_charAt_3b067 cJ2_charAt_3b067 2 (some .char), Cond.methodLink RJ2 67 yJ2_checkIndex_2214a]
def wsL_label_r4 : List Cond := [Cond.static yJ2_checkIndex_2214a, Cond.code yJ2_checkIndex_2214a cJ2_checkIndex_2214a 2 none, Cond.methodLink RJ2 48 yJ2_length_9d52b, Cond.static yJ2_length_9d52b, Cond.code yJ2_length_9d52b cJ2_length_9d52b 1 (some .int), Cond.methodLink RJ2 414 yJ0_checkIndex_df160, Cond.methodLink RJ2 71 yJ2_getChar_3b067, Cond.static yJ2_getChar_3b067, Cond.code yJ2_getChar_3b067 cJ2_getChar_3b067 2 (some .char), Cond.fieldLink RJ2 44 "java/lang/StringUTF16" "$assertionsDisabled" "Z", Cond.fieldLink RJ2 59 "java/lang/StringUTF16" "HI_BYTE_SHIFT" "I", Cond.fieldLink RJ2 63 "java/lang/StringUTF16" "LO_BYTE_SHIFT" "I"]
def wsL_label : List Cond := .codeWith yL_label cL_label 5 (some .int) [(0, 10, 13, 21)] :: ((wsL_label_r1 ++ (wsL_label_r2 ++ (wsL_label_r3 ++ wsL_label_r4))) ++ wsX50 ++ wsX70 ++ wsJx4a65c0 ++ wsJ00 ++ (vx_atS RX7 255 "java/lang/IndexOutOfBoundsException" ["java/lang/RuntimeException", "java/lang/Exception"]).filter goodWord)
def wsL_law0_r1 : List Cond := [Cond.classLink RL 8 RX7, Cond.instantiable RX7 8, Cond.initialized RX7, Cond.classLink RL 83 RX8, Cond.instantiable RX8 29, Cond.initialized RX8, Cond.arrayClass .long, Cond.methodLink RL 82 yX7_init, Cond.instanceMethod yX7_init, Cond.code yX7_init cX7_init 2 none, Cond.methodLink RX7 1 objectInit, Cond.instanceMethod objectInit, Cond.code objectInit ⟨#[0xb1]⟩ 1 none, Cond.classLink RX7 7 RJx4a65c, Cond.instantiable RJx4a65c 3, Cond.initialized RJx4a65c, Cond.fieldLink RX7 10 "MarkChat" "channels" "Ljava/util/ArrayList;", Cond.classLink RX7 16 RX0, Cond.instantiable RX0 3, Cond.initialized RX0, Cond.fieldLink RX7 25 "MarkChat" "users" "Ljava/util/ArrayList;", Cond.fieldLink RX7 28 "MarkChat" "messages" "Ljava/util/ArrayList;", Cond.fieldLink RX7 31 "MarkChat" "spends" "Ljava/util/ArrayList;", Cond.fieldLink RX7 34 "MarkChat" "tasks" "Ljava/util/ArrayList;"]
def wsL_law0_r2 : List Cond := [Cond.classLink RX7 37 RX1, Cond.instantiable RX1 4, Cond.initialized RX1, Cond.fieldLink RX7 40 "MarkChat" "log" "LMarkChat$Log;", Cond.classLink RX7 44 RX2, Cond.instantiable RX2 1, Cond.initialized RX2, Cond.fieldLink RX7 47 "MarkChat" "marksAnew" "LMarkChat$Marks;", Cond.fieldLink RX7 51 "MarkChat" "hour" "I", Cond.methodLink RX7 9 yJx4a65c_init_da8c8, Cond.instanceMethod yJx4a65c_init_da8c8, Cond.code yJx4a65c_init_da8c8 cJx4a65c_init_da8c8 1 none, Cond.fieldLink RJx4a65c 39 "java/util/ArrayList" "DEFAULTCAPACITY_EMPTY_ELEMENTDATA" "[Ljava/lang/Object;", Cond.fieldLink RJx4a65c 9 "java/util/ArrayList" "elementData" "[Ljava/lang/Object;", Cond.methodLink RJx4a65c 1 yJxc12de_init_da8c8, Cond.instanceMethod yJxc12de_init_da8c8, Cond.initialized RJxc12de, Cond.code yJxc12de_init_da8c8 cJxc12de_init_da8c8 1 none, Cond.fieldLink RJxc12de 7 "java/util/AbstractList" "modCount" "I", Cond.methodLink RJxc12de 1 yJxa1e45_init_da8c8, Cond.instanceMethod yJxa1e45_init_da8c8, Cond.initialized RJxa1e45, Cond.code yJxa1e45_init_da8c8 cJxa1e45_init_da8c8 1 none, Cond.methodLink RJxa1e45 1 objectInit]
def wsL_law0_r3 : List Cond := [Cond.methodLink RX7 18 yX0_init, Cond.instanceMethod yX0_init, Cond.code yX0_init cX0_init 2 none, Cond.methodLink RX0 1 objectInit, Cond.fieldLink RX0 7 "MarkChat$Channel" "number" "I", Cond.methodLink RX7 21 yJx4a65c_add_9ea2d, Cond.instanceMethod yJx4a65c_add_9ea2d, Cond.selects RJx4a65c yJx4a65c_add_9ea2d yJx4a65c_add_9ea2d, Cond.code yJx4a65c_add_9ea2d cJx4a65c_add_9ea2d 2 (some .boolean), Cond.fieldLink RJx4a65c 63 "java/util/ArrayList" "modCount" "I", Cond.sameField "java/util/ArrayList" "java/util/AbstractList" "modCount" "I", Cond.fieldLink RJx4a65c 48 "java/util/ArrayList" "size" "I", Cond.methodLink RJx4a65c 131 yJx4a65c_add_72be8, Cond.instanceMethod yJx4a65c_add_72be8, Cond.selects RJx4a65c yJx4a65c_add_72be8 yJx4a65c_add_72be8, Cond.code yJx4a65c_add_72be8 cJx4a65c_add_72be8 4 none, Cond.methodLink RJx4a65c 129 yJx4a65c_grow_d5877, Cond.instanceMethod yJx4a65c_grow_d5877, Cond.selects RJx4a65c yJx4a65c_grow_d5877 yJx4a65c_grow_d5877, Cond.code yJx4a65c_grow_d5877 cJx4a65c_grow_d5877 1 (some (.array (.object "java/lang/Object"))), Cond.methodLink RJx4a65c 69 yJx4a65c_grow_92f84, Cond.instanceMethod yJx4a65c_grow_92f84, Cond.selects RJx4a65c yJx4a65c_grow_92f84 yJx4a65c_grow_92f84, Cond.code yJx4a65c_grow_92f84 cJx4a65c_grow_92f84 4 (some (.array (.object "java/lang/Object")))]
def wsL_law0_r4 : List Cond := [Cond.methodLink RJx4a65c 79 Lib.Math.max.name, Cond.static Lib.Math.max.name, Cond.initialized "java/lang/Math", Cond.code Lib.Math.max.name Lib.Math.max.code 2 (some .int), Cond.classLink RJx4a65c 7 "java/lang/Object", Cond.methodLink RJx4a65c 73 yJ8_newLength_cabcc, Cond.static yJ8_newLength_cabcc, Cond.initialized RJ8, Cond.code yJ8_newLength_cabcc cJ8_newLength_cabcc 4 (some .int), Cond.methodLink RJ8 194 Lib.Math.max.name, Cond.constant RJ8 200 (2147483639), Cond.methodLink RJ8 201 yJ8_hugeLength_7cf53, Cond.static yJ8_hugeLength_7cf53, Cond.code yJ8_hugeLength_7cf53 cJ8_hugeLength_7cf53 3 (some .int), Cond.methodLink RJx4a65c 66 yJ7_copyOf_1904c, Cond.static yJ7_copyOf_1904c, Cond.initialized RJ7, Cond.code yJ7_copyOf_1904c cJ7_copyOf_1904c 2 (some (.array (.object "java/lang/Object"))), Cond.methodLink RJ7 86 ⟨"java/lang/Object", "getClass", "()Ljava/lang/Class;"⟩, Cond.selects "[Ljava/lang/Object;" ⟨"java/lang/Object", "getClass", "()Ljava/lang/Class;"⟩ ⟨"java/lang/Object", "getClass", "()Ljava/lang/Class;"⟩, Cond.instanceMethod ⟨"java/lang/Object", "getClass", "()Ljava/lang/Class;"⟩, Cond.native ⟨"java/lang/Object", "getClass", "()Ljava/lang/Class;"⟩, Cond.methodLink RJ7 300 yJ7_copyOf_6403c, Cond.static yJ7_copyOf_6403c]
def wsL_law0_r5 : List Cond := [Cond.code yJ7_copyOf_6403c cJ7_copyOf_6403c 4 (some (.array (.object "java/lang/Object"))), Cond.classLink RJ7 110 "[Ljava/lang/Object;", Cond.classLink RJ7 2 "java/lang/Object", Cond.methodLink RJ7 304 Lib.Math.min.name, Cond.static Lib.Math.min.name, Cond.code Lib.Math.min.name Lib.Math.min.code 2 (some .int), Cond.methodLink RJ7 150 arraycopyName, Cond.native arraycopyName, Cond.static arraycopyName, Cond.initialized "java/lang/System", Cond.methodLink RX7 39 yX1_init, Cond.instanceMethod yX1_init, Cond.code yX1_init cX1_init 1 none, Cond.methodLink RX1 3 objectInit, Cond.arrayClass .int, Cond.fieldLink RX1 9 "MarkChat$Log" "messages" "[I", Cond.fieldLink RX1 15 "MarkChat$Log" "users" "[I", Cond.fieldLink RX1 18 "MarkChat$Log" "kinds" "[I", Cond.methodLink RX7 46 yX2_init, Cond.instanceMethod yX2_init, Cond.code yX2_init cX2_init 1 none, Cond.methodLink RX2 3 objectInit, Cond.fieldLink RX2 9 "MarkChat$Marks" "kinds" "[I", Cond.methodLink RX2 15 yJ7_fill_53178]
def wsL_law0_r6 : List Cond := [Cond.static yJ7_fill_53178, Cond.code yJ7_fill_53178 cJ7_fill_53178 4 none, Cond.methodLink RL 85 yX8_init, Cond.instanceMethod yX8_init, Cond.code yX8_init cX8_init 1 none, Cond.methodLink RX8 1 objectInit, Cond.fieldLink RX8 7 "MarkChatModel" "role" "[I", Cond.fieldLink RX8 13 "MarkChatModel" "end" "[I", Cond.fieldLink RX8 16 "MarkChatModel" "budget" "[I", Cond.arrayClass .boolean, Cond.fieldLink RX8 19 "MarkChatModel" "isHeld" "[Z", Cond.fieldLink RX8 23 "MarkChatModel" "author" "[I", Cond.fieldLink RX8 26 "MarkChatModel" "channel" "[I", Cond.fieldLink RX8 29 "MarkChatModel" "parent" "[I", Cond.fieldLink RX8 32 "MarkChatModel" "version" "[I", Cond.fieldLink RX8 35 "MarkChatModel" "posted" "[I", Cond.fieldLink RX8 38 "MarkChatModel" "isArchived" "[Z", Cond.fieldLink RX8 41 "MarkChatModel" "mark" "[I", Cond.fieldLink RX8 44 "MarkChatModel" "marked" "[I", Cond.fieldLink RX8 47 "MarkChatModel" "spendMessage" "[I", Cond.fieldLink RX8 50 "MarkChatModel" "spendVersion" "[I", Cond.fieldLink RX8 53 "MarkChatModel" "spent" "[I", Cond.fieldLink RX8 56 "MarkChatModel" "wentBack" "[Z", Cond.fieldLink RX8 59 "MarkChatModel" "taskMessage" "[I"]
def wsL_law0_r7 : List Cond := [Cond.fieldLink RX8 62 "MarkChatModel" "taskVersion" "[I", Cond.fieldLink RX8 65 "MarkChatModel" "taskUser" "[I", Cond.fieldLink RX8 68 "MarkChatModel" "until" "[I", Cond.fieldLink RX8 71 "MarkChatModel" "state" "[I", Cond.fieldLink RX8 74 "MarkChatModel" "text" "[I", Cond.methodLink RL 86 yL_user, Cond.static yL_user, Cond.initialized RL, Cond.codeWith yL_user cL_user 4 (some .int) [(0, 9, 12, 13), (0, 9, 15, 15)], Cond.classLink RL 13 "java/lang/IllegalArgumentException", Cond.methodLink RL 7 yX7_user, Cond.instanceMethod yX7_user, Cond.selects RX7 yX7_user yX7_user, Cond.code yX7_user cX7_user 3 (some .int), Cond.classLink RX7 67 RX6, Cond.instantiable RX6 3, Cond.initialized RX6, Cond.fieldLink RX7 71 "MarkChat$User" "number" "I", Cond.methodLink RX7 55 yX7_checkRange, Cond.static yX7_checkRange, Cond.code yX7_checkRange cX7_checkRange 3 none, Cond.classLink RX7 227 "java/lang/IllegalArgumentException", Cond.initialized "java/lang/IllegalArgumentException", Cond.methodLink RX7 59 yJx4a65c_size_8abf5]
def wsL_law0_r8 : List Cond := [Cond.instanceMethod yJx4a65c_size_8abf5, Cond.selects RJx4a65c yJx4a65c_size_8abf5 yJx4a65c_size_8abf5, Cond.code yJx4a65c_size_8abf5 cJx4a65c_size_8abf5 1 (some .int), Cond.methodLink RX7 63 yX7_refuseFull, Cond.static yX7_refuseFull, Cond.code yX7_refuseFull cX7_refuseFull 2 none, Cond.classLink RX7 96 "java/lang/IllegalStateException", Cond.initialized "java/lang/IllegalStateException", Cond.methodLink RX7 69 yX6_init, Cond.instanceMethod yX6_init, Cond.code yX6_init cX6_init 3 none, Cond.methodLink RX6 3 objectInit, Cond.fieldLink RX6 9 "MarkChat$User" "number" "I", Cond.fieldLink RX6 15 "MarkChat$User" "rank" "I", Cond.fieldLink RX6 18 "MarkChat$User" "endHour" "I", Cond.methodLink RL 91 yX8_user, Cond.instanceMethod yX8_user, Cond.selects RX8 yX8_user yX8_user, Cond.code yX8_user cX8_user 2 (some .int), Cond.fieldLink RX8 81 "MarkChatModel" "users" "I", Cond.methodLink RX8 108 yX8_isRole, Cond.static yX8_isRole, Cond.code yX8_isRole cX8_isRole 1 (some .boolean), Cond.methodLink RX8 84 yX8_isIn]
def wsL_law0_r9 : List Cond := [Cond.static yX8_isIn, Cond.code yX8_isIn cX8_isIn 3 (some .boolean), Cond.methodLink RX8 111 yX8_fails, Cond.instanceMethod yX8_fails, Cond.selects RX8 yX8_fails yX8_fails, Cond.code yX8_fails cX8_fails 2 (some .boolean), Cond.fieldLink RX8 77 "MarkChatModel" "thrown" "I", Cond.methodLink RL 92 yX8_thrown, Cond.instanceMethod yX8_thrown, Cond.selects RX8 yX8_thrown yX8_thrown, Cond.code yX8_thrown cX8_thrown 1 (some .int), Cond.methodLink RL 96 yL_role, Cond.static yL_role, Cond.codeWith yL_role cL_role 5 (some .int) [(0, 10, 13, 21), (0, 10, 17, 13)], Cond.classLink RL 21 "java/lang/IndexOutOfBoundsException", Cond.methodLink RL 17 yX7_role, Cond.instanceMethod yX7_role, Cond.selects RX7 yX7_role yX7_role, Cond.code yX7_role cX7_role 5 (some .int), Cond.fieldLink RX7 78 "MarkChat$User" "rank" "I", Cond.methodLink RX7 74 yX7_userAt, Cond.instanceMethod yX7_userAt, Cond.selects RX7 yX7_userAt yX7_userAt, Cond.code yX7_userAt cX7_userAt 2 (some (.object "MarkChat$User"))]
def wsL_law0_r10 : List Cond := [Cond.classLink RX7 251 "java/lang/IndexOutOfBoundsException", Cond.initialized "java/lang/IndexOutOfBoundsException", Cond.classLink RX7 67 "MarkChat$User", Cond.methodLink RX7 210 yJx4a65c_get_915e3, Cond.instanceMethod yJx4a65c_get_915e3, Cond.selects RJx4a65c yJx4a65c_get_915e3 yJx4a65c_get_915e3, Cond.code yJx4a65c_get_915e3 cJx4a65c_get_915e3 2 (some (.object "java/lang/Object")), Cond.methodLink RJx4a65c 118 yJ15_checkIndex_7cf53, Cond.static yJ15_checkIndex_7cf53, Cond.initialized RJ15, Cond.code yJ15_checkIndex_7cf53 cJ15_checkIndex_7cf53 2 (some .int), Cond.methodLink RJ15 105 yJ3_checkIndex_8e157, Cond.static yJ3_checkIndex_8e157, Cond.initialized RJ3, Cond.code yJ3_checkIndex_8e157 cJ3_checkIndex_8e157 3 (some .int), Cond.methodLink RJx4a65c 123 yJx4a65c_elementData_915e3, Cond.instanceMethod yJx4a65c_elementData_915e3, Cond.selects RJx4a65c yJx4a65c_elementData_915e3 yJx4a65c_elementData_915e3, Cond.code yJx4a65c_elementData_915e3 cJx4a65c_elementData_915e3 2 (some (.object "java/lang/Object")), Cond.methodLink RX7 81 yX7_takeSpendsBack, Cond.instanceMethod yX7_takeSpendsBack, Cond.selects RX7 yX7_takeSpendsBack yX7_takeSpendsBack, Cond.code yX7_takeSpendsBack cX7_takeSpendsBack 3 none, Cond.classLink RX7 175 "MarkChat$Spend"]
def wsL_law0_r11 : List Cond := [Cond.fieldLink RX7 240 "MarkChat$Spend" "state" "I", Cond.fieldLink RX7 241 "MarkChat$Spend" "message" "LMarkChat$Message;", Cond.fieldLink RX7 111 "MarkChat$Message" "channel" "LMarkChat$Channel;", Cond.fieldLink RX7 92 "MarkChat$Channel" "cents" "I", Cond.fieldLink RX7 246 "MarkChat$Spend" "amount" "I", Cond.methodLink RX7 304 yX7_isStillDue, Cond.instanceMethod yX7_isStillDue, Cond.selects RX7 yX7_isStillDue yX7_isStillDue, Cond.code yX7_isStillDue cX7_isStillDue 3 (some .boolean), Cond.fieldLink RX7 136 "MarkChat$Message" "version" "I", Cond.fieldLink RX7 245 "MarkChat$Spend" "version" "I", Cond.fieldLink RX7 139 "MarkChat$Message" "marks" "LMarkChat$Marks;", Cond.methodLink RX7 167 yX7_approve, Cond.instanceMethod yX7_approve, Cond.selects RX7 yX7_approve yX7_approve, Cond.code yX7_approve cX7_approve 9 (some .boolean), Cond.fieldLink RX7 130 "MarkChat$Message" "author" "LMarkChat$User;", Cond.methodLink RX7 151 yX2_kindOf, Cond.instanceMethod yX2_kindOf, Cond.selects RX2 yX2_kindOf yX2_kindOf, Cond.code yX2_kindOf cX2_kindOf 2 (some .int), Cond.methodLink RX7 301 yX6_countsAt, Cond.instanceMethod yX6_countsAt, Cond.selects RX6 yX6_countsAt yX6_countsAt]
def wsL_law0_r12 : List Cond := [Cond.code yX6_countsAt cX6_countsAt 2 (some .boolean), Cond.methodLink RX6 21 yX6_isGoneAt, Cond.instanceMethod yX6_isGoneAt, Cond.selects RX6 yX6_isGoneAt yX6_isGoneAt, Cond.code yX6_isGoneAt cX6_isGoneAt 2 (some .boolean), Cond.methodLink RL 99 yX8_role, Cond.instanceMethod yX8_role, Cond.selects RX8 yX8_role yX8_role, Cond.code yX8_role cX8_role 4 (some .int), Cond.methodLink RX8 114 yX8_isUser, Cond.instanceMethod yX8_isUser, Cond.selects RX8 yX8_isUser yX8_isUser, Cond.code yX8_isUser cX8_isUser 2 (some .boolean), Cond.methodLink RX8 117 yX8_settles, Cond.instanceMethod yX8_settles, Cond.selects RX8 yX8_settles yX8_settles, Cond.code yX8_settles cX8_settles 3 none, Cond.fieldLink RX8 102 "MarkChatModel" "spends" "I", Cond.methodLink RX8 105 yX8_approves, Cond.instanceMethod yX8_approves, Cond.selects RX8 yX8_approves yX8_approves, Cond.code yX8_approves cX8_approves 8 (some .boolean), Cond.methodLink RX8 98 yX8_counts, Cond.instanceMethod yX8_counts]
def wsL_law0_r13 : List Cond := [Cond.selects RX8 yX8_counts yX8_counts, Cond.code yX8_counts cX8_counts 4 (some .boolean), Cond.methodLink RX8 94 yX8_isGone, Cond.instanceMethod yX8_isGone, Cond.selects RX8 yX8_isGone yX8_isGone, Cond.code yX8_isGone cX8_isGone 2 (some .boolean), Cond.fieldLink RX8 88 "MarkChatModel" "hour" "I", Cond.methodLink RL 100 yL_ends, Cond.static yL_ends, Cond.codeWith yL_ends cL_ends 5 (some .int) [(0, 10, 13, 21), (0, 10, 17, 13)], Cond.methodLink RL 23 yX7_ends, Cond.instanceMethod yX7_ends, Cond.selects RX7 yX7_ends yX7_ends, Cond.code yX7_ends cX7_ends 4 (some .int), Cond.fieldLink RX7 84 "MarkChat$User" "endHour" "I", Cond.methodLink RL 102 yX8_ends, Cond.instanceMethod yX8_ends, Cond.selects RX8 yX8_ends yX8_ends, Cond.code yX8_ends cX8_ends 3 (some .int), Cond.methodLink RL 103 yL_budget, Cond.static yL_budget, Cond.codeWith yL_budget cL_budget 5 (some .int) [(0, 10, 13, 21), (0, 10, 17, 13), (0, 10, 21, 15)], Cond.methodLink RL 26 yX7_budget, Cond.instanceMethod yX7_budget]
def wsL_law0_r14 : List Cond := [Cond.selects RX7 yX7_budget yX7_budget, Cond.code yX7_budget cX7_budget 4 (some .int), Cond.constant RX7 91 (1000000), Cond.constant RX7 95 (1000000000), Cond.methodLink RX7 87 yX7_channelAt, Cond.instanceMethod yX7_channelAt, Cond.selects RX7 yX7_channelAt yX7_channelAt, Cond.code yX7_channelAt cX7_channelAt 2 (some (.object "MarkChat$Channel")), Cond.classLink RX7 16 "MarkChat$Channel", Cond.methodLink RL 105 yX8_budget, Cond.instanceMethod yX8_budget, Cond.selects RX8 yX8_budget yX8_budget, Cond.code yX8_budget cX8_budget 4 (some .int), Cond.constant RX8 120 (1000000), Cond.constant RX8 124 (1000000000), Cond.methodLink RX8 121 yX8_isChannel, Cond.static yX8_isChannel, Cond.code yX8_isChannel cX8_isChannel 1 (some .boolean), Cond.methodLink RL 106 yL_post, Cond.static yL_post, Cond.codeWith yL_post cL_post 6 (some .int) [(0, 12, 15, 21), (0, 12, 19, 15)], Cond.methodLink RL 29 yX7_post, Cond.instanceMethod yX7_post, Cond.selects RX7 yX7_post yX7_post]
def wsL_law0_r15 : List Cond := [Cond.code yX7_post cX7_post 7 (some .int), Cond.fieldLink RX7 117 "MarkChat$Channel" "number" "I", Cond.classLink RX7 112 RX3, Cond.instantiable RX3 8, Cond.initialized RX3, Cond.fieldLink RX7 127 "MarkChat$Message" "number" "I", Cond.methodLink RX7 103 yX7_messageAt, Cond.instanceMethod yX7_messageAt, Cond.selects RX7 yX7_messageAt yX7_messageAt, Cond.code yX7_messageAt cX7_messageAt 2 (some (.object "MarkChat$Message")), Cond.classLink RX7 112 "MarkChat$Message", Cond.methodLink RX7 107 yX7_refuseArchived, Cond.static yX7_refuseArchived, Cond.code yX7_refuseArchived cX7_refuseArchived 1 none, Cond.fieldLink RX7 218 "MarkChat$Message" "isArchived" "Z", Cond.methodLink RX7 120 yX7_refuseGone, Cond.instanceMethod yX7_refuseGone, Cond.selects RX7 yX7_refuseGone yX7_refuseGone, Cond.code yX7_refuseGone cX7_refuseGone 2 none, Cond.methodLink RX7 293 yX6_isGoneAt, Cond.methodLink RX7 124 yX3_init, Cond.instanceMethod yX3_init, Cond.code yX3_init cX3_init 6 none, Cond.methodLink RX3 1 objectInit]
def wsL_law0_r16 : List Cond := [Cond.fieldLink RX3 7 "MarkChat$Message" "number" "I", Cond.fieldLink RX3 13 "MarkChat$Message" "author" "LMarkChat$User;", Cond.fieldLink RX3 17 "MarkChat$Message" "channel" "LMarkChat$Channel;", Cond.fieldLink RX3 21 "MarkChat$Message" "parent" "I", Cond.fieldLink RX3 24 "MarkChat$Message" "postHour" "I", Cond.classLink RX3 27 RX2, Cond.fieldLink RX3 30 "MarkChat$Message" "marks" "LMarkChat$Marks;", Cond.methodLink RX3 29 yX2_init, Cond.methodLink RL 109 yX8_post, Cond.instanceMethod yX8_post, Cond.selects RX8 yX8_post yX8_post, Cond.code yX8_post cX8_post 7 (some .int), Cond.fieldLink RX8 91 "MarkChatModel" "messages" "I", Cond.methodLink RX8 125 yX8_isMessage, Cond.instanceMethod yX8_isMessage, Cond.selects RX8 yX8_isMessage yX8_isMessage, Cond.code yX8_isMessage cX8_isMessage 2 (some .boolean), Cond.methodLink RL 110 yL_edit, Cond.static yL_edit, Cond.codeWith yL_edit cL_edit 5 (some .int) [(0, 10, 13, 21), (0, 10, 17, 15)], Cond.methodLink RL 33 yX7_edit, Cond.instanceMethod yX7_edit, Cond.selects RX7 yX7_edit yX7_edit, Cond.code yX7_edit cX7_edit 5 (some .int)]
def wsL_law0_r17 : List Cond := [Cond.fieldLink RX7 128 "MarkChat$Log" "size" "I", Cond.methodLink RX7 142 yX2_clear, Cond.instanceMethod yX2_clear, Cond.selects RX2 yX2_clear yX2_clear, Cond.code yX2_clear cX2_clear 1 none, Cond.methodLink RX7 145 yX1_writeEdit, Cond.instanceMethod yX1_writeEdit, Cond.selects RX1 yX1_writeEdit yX1_writeEdit, Cond.code yX1_writeEdit cX1_writeEdit 2 none, Cond.methodLink RX1 21 yX1_write, Cond.instanceMethod yX1_write, Cond.selects RX1 yX1_write yX1_write, Cond.code yX1_write cX1_write 4 none, Cond.fieldLink RX1 25 "MarkChat$Log" "size" "I", Cond.methodLink RX7 148 yX7_dropTasksOf, Cond.instanceMethod yX7_dropTasksOf, Cond.selects RX7 yX7_dropTasksOf yX7_dropTasksOf, Cond.code yX7_dropTasksOf cX7_dropTasksOf 4 none, Cond.classLink RX7 181 "MarkChat$Task", Cond.fieldLink RX7 308 "MarkChat$Task" "message" "I", Cond.fieldLink RX7 196 "MarkChat$Task" "state" "I", Cond.methodLink RL 112 yX8_edit, Cond.instanceMethod yX8_edit, Cond.selects RX8 yX8_edit yX8_edit]
def wsL_law0_r18 : List Cond := [Cond.code yX8_edit cX8_edit 5 (some .int), Cond.fieldLink RX8 128 "MarkChatModel" "tasks" "I", Cond.methodLink RL 113 yL_mark, Cond.static yL_mark, Cond.codeWith yL_mark cL_mark 6 (some .int) [(0, 12, 15, 21), (0, 12, 19, 13), (0, 12, 23, 15)], Cond.methodLink RL 36 yX7_mark, Cond.instanceMethod yX7_mark, Cond.selects RX7 yX7_mark yX7_mark, Cond.code yX7_mark cX7_mark 6 (some .int), Cond.methodLink RX7 157 yX2_put, Cond.instanceMethod yX2_put, Cond.selects RX2 yX2_put yX2_put, Cond.code yX2_put cX2_put 3 none, Cond.methodLink RX7 160 yX1_writeMark, Cond.instanceMethod yX1_writeMark, Cond.selects RX1 yX1_writeMark yX1_writeMark, Cond.code yX1_writeMark cX1_writeMark 4 none, Cond.methodLink RX7 163 yX7_countMarks, Cond.instanceMethod yX7_countMarks, Cond.selects RX7 yX7_countMarks yX7_countMarks, Cond.code yX7_countMarks cX7_countMarks 4 (some .int), Cond.methodLink RL 115 yX8_mark, Cond.instanceMethod yX8_mark, Cond.selects RX8 yX8_mark yX8_mark]
def wsL_law0_r19 : List Cond := [Cond.code yX8_mark cX8_mark 8 (some .int), Cond.methodLink RX8 131 yX8_counted, Cond.instanceMethod yX8_counted, Cond.selects RX8 yX8_counted yX8_counted, Cond.code yX8_counted cX8_counted 4 (some .int), Cond.methodLink RL 116 yL_spend, Cond.static yL_spend, Cond.codeWith yL_spend cL_spend 6 (some .int) [(0, 12, 15, 21), (0, 12, 19, 13), (0, 12, 23, 15)], Cond.methodLink RL 39 yX7_spend, Cond.instanceMethod yX7_spend, Cond.selects RX7 yX7_spend yX7_spend, Cond.code yX7_spend cX7_spend 7 (some .int), Cond.classLink RX7 175 RX4, Cond.instantiable RX4 5, Cond.initialized RX4, Cond.fieldLink RX7 180 "MarkChat$Spend" "number" "I", Cond.methodLink RX7 177 yX4_init, Cond.instanceMethod yX4_init, Cond.code yX4_init cX4_init 4 none, Cond.methodLink RX4 3 objectInit, Cond.fieldLink RX4 9 "MarkChat$Spend" "number" "I", Cond.fieldLink RX4 15 "MarkChat$Spend" "message" "LMarkChat$Message;", Cond.fieldLink RX4 19 "MarkChat$Message" "version" "I", Cond.fieldLink RX4 24 "MarkChat$Spend" "version" "I"]
def wsL_law0_r20 : List Cond := [Cond.fieldLink RX4 25 "MarkChat$Spend" "amount" "I", Cond.fieldLink RX4 28 "MarkChat$Spend" "state" "I", Cond.methodLink RL 118 yX8_spend, Cond.instanceMethod yX8_spend, Cond.selects RX8 yX8_spend yX8_spend, Cond.code yX8_spend cX8_spend 7 (some .int), Cond.methodLink RL 119 yL_task, Cond.static yL_task, Cond.codeWith yL_task cL_task 7 (some .int) [(0, 14, 17, 21), (0, 14, 21, 13), (0, 14, 25, 15)], Cond.methodLink RL 42 yX7_task, Cond.instanceMethod yX7_task, Cond.selects RX7 yX7_task yX7_task, Cond.code yX7_task cX7_task 9 (some .int), Cond.classLink RX7 181 RX5, Cond.instantiable RX5 6, Cond.initialized RX5, Cond.fieldLink RX7 186 "MarkChat$Task" "number" "I", Cond.methodLink RX7 183 yX5_init, Cond.instanceMethod yX5_init, Cond.code yX5_init cX5_init 5 none, Cond.methodLink RX5 3 objectInit, Cond.fieldLink RX5 9 "MarkChat$Task" "number" "I", Cond.fieldLink RX5 15 "MarkChat$Message" "number" "I", Cond.fieldLink RX5 18 "MarkChat$Task" "message" "I"]
def wsL_law0_r21 : List Cond := [Cond.fieldLink RX5 21 "MarkChat$Task" "doer" "LMarkChat$User;", Cond.fieldLink RX5 25 "MarkChat$Task" "untilHour" "I", Cond.classLink RX5 28 RJ4, Cond.instantiable RJ4 4, Cond.initialized RJ4, Cond.fieldLink RX5 38 "MarkChat$Message" "version" "I", Cond.fieldLink RX5 41 "MarkChat$User" "number" "I", Cond.fieldLink RX5 48 "MarkChat$Task" "text" "Ljava/lang/String;", Cond.fieldLink RX5 52 "MarkChat$Task" "state" "I", Cond.methodLink RX5 30 yJ4_init_da8c8, Cond.instanceMethod yJ4_init_da8c8, Cond.code yJ4_init_da8c8 cJ4_init_da8c8 1 none, Cond.methodLink RJ4 1 yJ5_init_d00df, Cond.instanceMethod yJ5_init_d00df, Cond.initialized RJ5, Cond.code yJ5_init_d00df cJ5_init_d00df 2 none, Cond.methodLink RJ5 3 objectInit, Cond.fieldLink RJ5 18 "java/lang/String" "COMPACT_STRINGS" "Z", Cond.arrayClass .byte, Cond.fieldLink RJ5 15 "java/lang/AbstractStringBuilder" "value" "[B", Cond.fieldLink RJ5 22 "java/lang/AbstractStringBuilder" "coder" "B", Cond.methodLink RJ5 26 yJ2_newBytesFor_77867, Cond.static yJ2_newBytesFor_77867, Cond.initialized RJ2]
def wsL_law0_r22 : List Cond := [Cond.code yJ2_newBytesFor_77867 cJ2_newBytesFor_77867 1 (some (.array .byte)), Cond.methodLink RJ2 11 yJ2_newBytesLength_0f7a4, Cond.static yJ2_newBytesLength_0f7a4, Cond.code yJ2_newBytesLength_0f7a4 cJ2_newBytesLength_0f7a4 1 (some .int), Cond.constant RJ2 20 (1073741823), Cond.methodLink RX5 31 yJ4_append_bf812, Cond.instanceMethod yJ4_append_bf812, Cond.selects RJ4 yJ4_append_bf812 yJ4_append_bf812, Cond.code yJ4_append_bf812 cJ4_append_bf812 2 (some (.object "java/lang/StringBuilder")), Cond.methodLink RJ4 53 yJ5_append_c97b9, Cond.sameMethod "java/lang/AbstractStringBuilder" "java/lang/AbstractStringBuilder" "append" "(I)Ljava/lang/AbstractStringBuilder;", Cond.superclass RJ4 RJ5, Cond.instanceMethod yJ5_append_c97b9, Cond.code yJ5_append_c97b9 cJ5_append_c97b9 4 (some (.object "java/lang/AbstractStringBuilder")), Cond.fieldLink RJ5 79 "java/lang/AbstractStringBuilder" "count" "I", Cond.methodLink RJ5 245 yJ6_stringSize_0f7a4, Cond.static yJ6_stringSize_0f7a4, Cond.initialized RJ6, Cond.code yJ6_stringSize_0f7a4 cJ6_stringSize_0f7a4 4 (some .int), Cond.methodLink RJ5 100 ⟨"java/lang/AbstractStringBuilder", "ensureCapacityInternal", "(I)V"⟩, Cond.sameMethod "java/lang/AbstractStringBuilder" "java/lang/AbstractStringBuilder" "ensureCapacityInternal" "(I)V", Cond.selects RJ4 ⟨"java/lang/AbstractStringBuilder", "ensureCapacityInternal", "(I)V"⟩ yJ5_ensureCapacityInternal_d00df, Cond.instanceMethod yJ5_ensureCapacityInternal_d00df, Cond.code yJ5_ensureCapacityInternal_d00df cJ5_ensureCapacityInternal_d00df 3 none]
def wsL_law0_r23 : List Cond := [Cond.methodLink RJ5 104 ⟨"java/lang/AbstractStringBuilder", "newCapacity", "(I)I"⟩, Cond.sameMethod "java/lang/AbstractStringBuilder" "java/lang/AbstractStringBuilder" "newCapacity" "(I)I", Cond.selects RJ4 ⟨"java/lang/AbstractStringBuilder", "newCapacity", "(I)I"⟩ yJ5_newCapacity_0f7a4, Cond.instanceMethod yJ5_newCapacity_0f7a4, Cond.code yJ5_newCapacity_0f7a4 cJ5_newCapacity_0f7a4 6 (some .int), Cond.constant RJ5 39 (2147483647), Cond.methodLink RJ5 114 yJ8_newLength_cabcc, Cond.methodLink RJ5 108 yJ7_copyOf_9075b, Cond.static yJ7_copyOf_9075b, Cond.code yJ7_copyOf_9075b cJ7_copyOf_9075b 3 (some (.array .byte)), Cond.methodLink RJ7 310 ⟨"[B", "clone", "()Ljava/lang/Object;"⟩, Cond.sameMethod "[B" "java/lang/Object" "clone" "()Ljava/lang/Object;", Cond.native ⟨"java/lang/Object", "clone", "()Ljava/lang/Object;"⟩, Cond.instanceMethod ⟨"java/lang/Object", "clone", "()Ljava/lang/Object;"⟩, Cond.selects "[B" ⟨"[B", "clone", "()Ljava/lang/Object;"⟩ ⟨"java/lang/Object", "clone", "()Ljava/lang/Object;"⟩, Cond.classLink RJ7 311 "[B", Cond.methodLink RJ5 83 ⟨"java/lang/AbstractStringBuilder", "isLatin1", "()Z"⟩, Cond.sameMethod "java/lang/AbstractStringBuilder" "java/lang/AbstractStringBuilder" "isLatin1" "()Z", Cond.selects RJ4 ⟨"java/lang/AbstractStringBuilder", "isLatin1", "()Z"⟩ yJ5_isLatin1_aae02, Cond.instanceMethod yJ5_isLatin1_aae02, Cond.code yJ5_isLatin1_aae02 cJ5_isLatin1_aae02 1 (some .boolean), Cond.methodLink RJ5 248 yJ6_getChars_ba4f3, Cond.static yJ6_getChars_ba4f3, Cond.code yJ6_getChars_ba4f3 cJ6_getChars_ba4f3 7 (some .int)]
def wsL_law0_r24 : List Cond := [Cond.fieldLink RJ6 83 "java/lang/Integer" "DigitOnes" "[B", Cond.fieldLink RJ6 87 "java/lang/Integer" "DigitTens" "[B", Cond.methodLink RJ5 251 yJ2_getChars_46870, Cond.static yJ2_getChars_46870, Cond.code yJ2_getChars_46870 cJ2_getChars_46870 5 (some .int), Cond.fieldLink RJ2 44 "java/lang/StringUTF16" "$assertionsDisabled" "Z", Cond.methodLink RJ2 96 yJ2_checkBoundsBeginEnd_d044e, Cond.static yJ2_checkBoundsBeginEnd_d044e, Cond.code yJ2_checkBoundsBeginEnd_d044e cJ2_checkBoundsBeginEnd_d044e 3 none, Cond.methodLink RJ2 48 yJ2_length_9d52b, Cond.static yJ2_length_9d52b, Cond.code yJ2_length_9d52b cJ2_length_9d52b 1 (some .int), Cond.methodLink RJ2 241 yJ0_checkBoundsBeginEnd_23922, Cond.static yJ0_checkBoundsBeginEnd_23922, Cond.initialized RJ0, Cond.code yJ0_checkBoundsBeginEnd_23922 cJ0_checkBoundsBeginEnd_23922 3 none, Cond.fieldLink RJ0 1053 "jdk/internal/util/Preconditions" "SIOOBE_FORMATTER" "Ljava/util/function/BiFunction;", Cond.methodLink RJ0 1062 yJ3_checkFromToIndex_8c36e, Cond.static yJ3_checkFromToIndex_8c36e, Cond.code yJ3_checkFromToIndex_8c36e cJ3_checkFromToIndex_8c36e 4 (some .int), Cond.methodLink RJ2 393 yJ2_getChars_ba4f3, Cond.static yJ2_getChars_ba4f3, Cond.code yJ2_getChars_ba4f3 cJ2_getChars_ba4f3 7 (some .int), Cond.fieldLink RJ2 403 "java/lang/Integer" "DigitOnes" "[B"]
def wsL_law0_r25 : List Cond := [Cond.fieldLink RJ2 407 "java/lang/Integer" "DigitTens" "[B", Cond.methodLink RJ2 111 yJ2_putChar_b72d1, Cond.static yJ2_putChar_b72d1, Cond.code yJ2_putChar_b72d1 cJ2_putChar_b72d1 3 none, Cond.fieldLink RJ2 59 "java/lang/StringUTF16" "HI_BYTE_SHIFT" "I", Cond.fieldLink RJ2 63 "java/lang/StringUTF16" "LO_BYTE_SHIFT" "I", Cond.methodLink RX5 35 yJ4_append_cf468, Cond.instanceMethod yJ4_append_cf468, Cond.selects RJ4 yJ4_append_cf468 yJ4_append_cf468, Cond.code yJ4_append_cf468 cJ4_append_cf468 2 (some (.object "java/lang/StringBuilder")), Cond.methodLink RJ4 50 yJ5_append_3fe6f, Cond.sameMethod "java/lang/AbstractStringBuilder" "java/lang/AbstractStringBuilder" "append" "(C)Ljava/lang/AbstractStringBuilder;", Cond.instanceMethod yJ5_append_3fe6f, Cond.code yJ5_append_3fe6f cJ5_append_3fe6f 2 (some (.object "java/lang/AbstractStringBuilder")), Cond.methodLink RJ5 191 yJ1_canEncode_fc78d, Cond.static yJ1_canEncode_fc78d, Cond.initialized RJ1, Cond.code yJ1_canEncode_fc78d cJ1_canEncode_fc78d 1 (some .boolean), Cond.methodLink RJ5 195 ⟨"java/lang/AbstractStringBuilder", "inflate", "()V"⟩, Cond.sameMethod "java/lang/AbstractStringBuilder" "java/lang/AbstractStringBuilder" "inflate" "()V", Cond.selects RJ4 ⟨"java/lang/AbstractStringBuilder", "inflate", "()V"⟩ yJ5_inflate_da8c8, Cond.instanceMethod yJ5_inflate_da8c8, Cond.code yJ5_inflate_da8c8 cJ5_inflate_da8c8 2 none, Cond.methodLink RJ5 125 yJ1_inflate_0e8fd]
def wsL_law0_r26 : List Cond := [Cond.static yJ1_inflate_0e8fd, Cond.code yJ1_inflate_0e8fd cJ1_inflate_0e8fd 5 none, Cond.methodLink RJ1 240 yJ2_inflate_0e8fd, Cond.static yJ2_inflate_0e8fd, Cond.code yJ2_inflate_0e8fd cJ2_inflate_0e8fd 6 none, Cond.methodLink RJ2 173 yJ2_checkBoundsOffCount_d044e, Cond.static yJ2_checkBoundsOffCount_d044e, Cond.code yJ2_checkBoundsOffCount_d044e cJ2_checkBoundsOffCount_d044e 3 none, Cond.methodLink RJ2 419 yJ0_checkBoundsOffCount_cabcc, Cond.static yJ0_checkBoundsOffCount_cabcc, Cond.code yJ0_checkBoundsOffCount_cabcc cJ0_checkBoundsOffCount_cabcc 3 (some .int), Cond.methodLink RJ0 1065 yJ3_checkFromIndexSize_8c36e, Cond.static yJ3_checkFromIndexSize_8c36e, Cond.code yJ3_checkFromIndexSize_8c36e cJ3_checkFromIndexSize_8c36e 4 (some .int), Cond.methodLink RJ5 197 yJ2_putCharSB_b72d1, Cond.static yJ2_putCharSB_b72d1, Cond.code yJ2_putCharSB_b72d1 cJ2_putCharSB_b72d1 3 none, Cond.methodLink RJ2 67 yJ2_checkIndex_2214a, Cond.static yJ2_checkIndex_2214a, Cond.code yJ2_checkIndex_2214a cJ2_checkIndex_2214a 2 none, Cond.methodLink RJ2 414 yJ0_checkIndex_df160, Cond.static yJ0_checkIndex_df160, Cond.code yJ0_checkIndex_df160 cJ0_checkIndex_df160 2 none, Cond.methodLink RJ0 1059 yJ3_checkIndex_8e157]
def wsL_law0_r27 : List Cond := [Cond.methodLink RX5 44 yJ4_toString_0e30d, Cond.instanceMethod yJ4_toString_0e30d, Cond.selects RJ4 yJ4_toString_0e30d yJ4_toString_0e30d, Cond.code yJ4_toString_0e30d cJ4_toString_0e30d 1 (some (.object "java/lang/String")), Cond.classLink RJ4 18 RJ0, Cond.instantiable RJ0 4, Cond.methodLink RJ4 137 yJ0_init_81219, Cond.instanceMethod yJ0_init_81219, Cond.code yJ0_init_81219 cJ0_init_81219 2 none, Cond.methodLink RJ0 489 yJ0_init_db425, Cond.instanceMethod yJ0_init_db425, Cond.code yJ0_init_db425 cJ0_init_db425 5 none, Cond.methodLink RJ0 1 objectInit, Cond.fieldLink RJ0 15 "java/lang/String" "coder" "B", Cond.fieldLink RJ0 9 "java/lang/String" "value" "[B", Cond.fieldLink RJ0 38 "java/lang/String" "COMPACT_STRINGS" "Z", Cond.fieldLink RJ0 1048 "java/lang/AbstractStringBuilder" "maybeLatin1" "Z", Cond.methodLink RJ0 552 ⟨"java/lang/AbstractStringBuilder", "getValue", "()[B"⟩, Cond.sameMethod "java/lang/AbstractStringBuilder" "java/lang/AbstractStringBuilder" "getValue" "()[B", Cond.selects RJ4 ⟨"java/lang/AbstractStringBuilder", "getValue", "()[B"⟩ yJ5_getValue_6d5f1, Cond.instanceMethod yJ5_getValue_6d5f1, Cond.code yJ5_getValue_6d5f1 cJ5_getValue_6d5f1 1 (some (.array .byte)), Cond.methodLink RJ0 549 ⟨"java/lang/AbstractStringBuilder", "length", "()I"⟩, Cond.sameMethod "java/lang/AbstractStringBuilder" "java/lang/AbstractStringBuilder" "length" "()I"]
def wsL_law0_r28 : List Cond := [Cond.instanceMethod ⟨"java/lang/AbstractStringBuilder", "length", "()I"⟩, Cond.selects RJ4 ⟨"java/lang/AbstractStringBuilder", "length", "()I"⟩ yJ4_length_8abf5, Cond.instanceMethod yJ4_length_8abf5, Cond.code yJ4_length_8abf5 cJ4_length_8abf5 1 (some .int), Cond.methodLink RJ4 343 yJ5_length_8abf5, Cond.instanceMethod yJ5_length_8abf5, Cond.code yJ5_length_8abf5 cJ5_length_8abf5 1 (some .int), Cond.methodLink RJ0 1047 ⟨"java/lang/AbstractStringBuilder", "isLatin1", "()Z"⟩, Cond.methodLink RJ0 54 yJ7_copyOfRange_39247, Cond.static yJ7_copyOfRange_39247, Cond.code yJ7_copyOfRange_39247 cJ7_copyOfRange_39247 3 (some (.array .byte)), Cond.methodLink RJ7 339 yJ7_copyOfRangeByte_39247, Cond.static yJ7_copyOfRangeByte_39247, Cond.code yJ7_copyOfRangeByte_39247 cJ7_copyOfRangeByte_39247 5 (some (.array .byte)), Cond.methodLink RJ7 343 yJ7_checkLength_df160, Cond.static yJ7_checkLength_df160, Cond.code yJ7_checkLength_df160 cJ7_checkLength_df160 2 none, Cond.classLink RJ7 45 RJ4, Cond.methodLink RJ0 1051 yJ2_compress_39247, Cond.static yJ2_compress_39247, Cond.code yJ2_compress_39247 cJ2_compress_39247 6 (some (.array .byte)), Cond.methodLink RJ2 123 yJ2_compress_5af95, Cond.static yJ2_compress_5af95, Cond.code yJ2_compress_5af95 cJ2_compress_5af95 7 (some .int)]
def wsL_law0_r29 : List Cond := [Cond.methodLink RJ2 71 yJ2_getChar_3b067, Cond.static yJ2_getChar_3b067, Cond.code yJ2_getChar_3b067 cJ2_getChar_3b067 2 (some .char), Cond.methodLink RJ2 126 yJ7_copyOfRange_39247, Cond.methodLink RJ0 47 yJ2_coderFromArrayLen_85cad, Cond.static yJ2_coderFromArrayLen_85cad, Cond.code yJ2_coderFromArrayLen_85cad cJ2_coderFromArrayLen_85cad 2 (some .byte), Cond.methodLink RL 122 yX8_task, Cond.instanceMethod yX8_task, Cond.selects RX8 yX8_task yX8_task, Cond.code yX8_task cX8_task 7 (some .int), Cond.methodLink RL 123 yL_done, Cond.static yL_done, Cond.codeWith yL_done cL_done 5 (some .int) [(0, 10, 13, 21), (0, 10, 17, 15)], Cond.methodLink RL 46 yX7_done, Cond.instanceMethod yX7_done, Cond.selects RX7 yX7_done yX7_done, Cond.code yX7_done cX7_done 5 (some .int), Cond.fieldLink RX7 191 "MarkChat$Task" "doer" "LMarkChat$User;", Cond.fieldLink RX7 201 "MarkChat$Task" "untilHour" "I", Cond.methodLink RX7 187 yX7_taskAt, Cond.instanceMethod yX7_taskAt, Cond.selects RX7 yX7_taskAt yX7_taskAt, Cond.code yX7_taskAt cX7_taskAt 2 (some (.object "MarkChat$Task"))]
def wsL_law0_r30 : List Cond := [Cond.methodLink RL 125 yX8_done, Cond.instanceMethod yX8_done, Cond.selects RX8 yX8_done yX8_done, Cond.code yX8_done cX8_done 4 (some .int), Cond.methodLink RX8 135 yX8_isTask, Cond.instanceMethod yX8_isTask, Cond.selects RX8 yX8_isTask yX8_isTask, Cond.code yX8_isTask cX8_isTask 2 (some .boolean), Cond.methodLink RL 126 yL_hold, Cond.static yL_hold, Cond.codeWith yL_hold cL_hold 4 (some .int) [(0, 16, 19, 21)], Cond.methodLink RL 49 yX7_hold, Cond.instanceMethod yX7_hold, Cond.selects RX7 yX7_hold yX7_hold, Cond.code yX7_hold cX7_hold 3 (some .boolean), Cond.fieldLink RX7 204 "MarkChat$Channel" "isOnHold" "Z", Cond.methodLink RL 128 yX8_hold, Cond.instanceMethod yX8_hold, Cond.selects RX8 yX8_hold yX8_hold, Cond.code yX8_hold cX8_hold 2 (some .boolean), Cond.methodLink RL 129 yL_archive, Cond.static yL_archive, Cond.codeWith yL_archive cL_archive 4 (some .int) [(0, 9, 12, 21), (0, 9, 15, 15)], Cond.methodLink RL 53 yX7_archive]
def wsL_law0_r31 : List Cond := [Cond.instanceMethod yX7_archive, Cond.selects RX7 yX7_archive yX7_archive, Cond.code yX7_archive cX7_archive 6 (some .int), Cond.methodLink RX7 214 yX7_mayBeArchived, Cond.instanceMethod yX7_mayBeArchived, Cond.selects RX7 yX7_mayBeArchived yX7_mayBeArchived, Cond.code yX7_mayBeArchived cX7_mayBeArchived 2 (some .boolean), Cond.fieldLink RX7 224 "MarkChat$Message" "postHour" "I", Cond.methodLink RX7 314 yX7_hasStandingSpend, Cond.instanceMethod yX7_hasStandingSpend, Cond.selects RX7 yX7_hasStandingSpend yX7_hasStandingSpend, Cond.code yX7_hasStandingSpend cX7_hasStandingSpend 4 (some .boolean), Cond.methodLink RX7 317 yX7_hasOpenTask, Cond.instanceMethod yX7_hasOpenTask, Cond.selects RX7 yX7_hasOpenTask yX7_hasOpenTask, Cond.code yX7_hasOpenTask cX7_hasOpenTask 4 (some .boolean), Cond.methodLink RX7 320 yX7_hasReplyLeft, Cond.instanceMethod yX7_hasReplyLeft, Cond.selects RX7 yX7_hasReplyLeft yX7_hasReplyLeft, Cond.code yX7_hasReplyLeft cX7_hasReplyLeft 4 (some .boolean), Cond.fieldLink RX7 221 "MarkChat$Message" "parent" "I", Cond.methodLink RL 131 yX8_archive, Cond.instanceMethod yX8_archive, Cond.selects RX8 yX8_archive yX8_archive]
def wsL_law0_r32 : List Cond := [Cond.code yX8_archive cX8_archive 4 (some .int), Cond.methodLink RX8 138 yX8_canArchive, Cond.instanceMethod yX8_canArchive, Cond.selects RX8 yX8_canArchive yX8_canArchive, Cond.code yX8_canArchive cX8_canArchive 4 (some .boolean), Cond.methodLink RL 132 yL_pass, Cond.static yL_pass, Cond.codeWith yL_pass cL_pass 4 (some .int) [(0, 9, 12, 13)], Cond.methodLink RL 56 yX7_pass, Cond.instanceMethod yX7_pass, Cond.selects RX7 yX7_pass yX7_pass, Cond.code yX7_pass cX7_pass 2 (some .int), Cond.methodLink RL 134 yX8_pass, Cond.instanceMethod yX8_pass, Cond.selects RX8 yX8_pass yX8_pass, Cond.code yX8_pass cX8_pass 3 (some .int), Cond.methodLink RL 135 yL_messageOf, Cond.static yL_messageOf, Cond.codeWith yL_messageOf cL_messageOf 5 (some .int) [(0, 10, 13, 21), (0, 10, 17, 13)], Cond.methodLink RL 59 yX7_messageOf, Cond.instanceMethod yX7_messageOf, Cond.selects RX7 yX7_messageOf yX7_messageOf, Cond.code yX7_messageOf cX7_messageOf 4 (some .int), Cond.methodLink RL 137 yX8_messageOf]
def wsL_law0_r33 : List Cond := [Cond.instanceMethod yX8_messageOf, Cond.selects RX8 yX8_messageOf yX8_messageOf, Cond.code yX8_messageOf cX8_messageOf 3 (some .int), Cond.methodLink RL 138 yL_isApproved, Cond.static yL_isApproved, Cond.codeWith yL_isApproved cL_isApproved 6 (some .int) [(0, 19, 22, 21), (0, 19, 26, 13)], Cond.methodLink RL 62 yX7_isApproved, Cond.instanceMethod yX7_isApproved, Cond.selects RX7 yX7_isApproved yX7_isApproved, Cond.code yX7_isApproved cX7_isApproved 5 (some .boolean), Cond.methodLink RX7 232 yX1_readInto, Cond.instanceMethod yX1_readInto, Cond.selects RX1 yX1_readInto yX1_readInto, Cond.code yX1_readInto cX1_readInto 4 none, Cond.methodLink RX1 29 yX2_clear, Cond.methodLink RX1 34 yX2_put, Cond.methodLink RL 141 yX8_isApproved, Cond.instanceMethod yX8_isApproved, Cond.selects RX8 yX8_isApproved yX8_isApproved, Cond.code yX8_isApproved cX8_isApproved 4 (some .boolean), Cond.methodLink RL 142 yL_spendOf, Cond.static yL_spendOf, Cond.codeWith yL_spendOf cL_spendOf 5 (some .int) [(0, 10, 13, 21), (0, 10, 17, 13)], Cond.methodLink RL 66 yX7_spendOf]
def wsL_law0_r34 : List Cond := [Cond.instanceMethod yX7_spendOf, Cond.selects RX7 yX7_spendOf yX7_spendOf, Cond.code yX7_spendOf cX7_spendOf 4 (some .int), Cond.methodLink RX7 236 yX7_spendAt, Cond.instanceMethod yX7_spendAt, Cond.selects RX7 yX7_spendAt yX7_spendAt, Cond.code yX7_spendAt cX7_spendAt 2 (some (.object "MarkChat$Spend")), Cond.methodLink RL 144 yX8_spendOf, Cond.instanceMethod yX8_spendOf, Cond.selects RX8 yX8_spendOf yX8_spendOf, Cond.code yX8_spendOf cX8_spendOf 3 (some .int), Cond.methodLink RL 145 yL_left, Cond.static yL_left, Cond.codeWith yL_left cL_left 4 (some .int) [(0, 9, 12, 21)], Cond.methodLink RL 69 yX7_left, Cond.instanceMethod yX7_left, Cond.selects RX7 yX7_left yX7_left, Cond.code yX7_left cX7_left 2 (some .int), Cond.methodLink RL 147 yX8_left, Cond.instanceMethod yX8_left, Cond.selects RX8 yX8_left yX8_left, Cond.code yX8_left cX8_left 2 (some .int), Cond.methodLink RL 148 yL_next, Cond.static yL_next]
def wsL_law0_r35 : List Cond := [Cond.codeWith yL_next cL_next 5 (some .int) [(0, 10, 13, 21)], Cond.methodLink RL 72 yX7_next, Cond.instanceMethod yX7_next, Cond.selects RX7 yX7_next yX7_next, Cond.code yX7_next cX7_next 6 (some .int), Cond.methodLink RX7 256 yX5_isOpenFor, Cond.instanceMethod yX5_isOpenFor, Cond.selects RX5 yX5_isOpenFor yX5_isOpenFor, Cond.code yX5_isOpenFor cX5_isOpenFor 2 (some .boolean), Cond.methodLink RX7 260 yX7_rankOf, Cond.instanceMethod yX7_rankOf, Cond.selects RX7 yX7_rankOf yX7_rankOf, Cond.code yX7_rankOf cX7_rankOf 5 (some .int), Cond.methodLink RX7 310 yX5_comesBefore, Cond.instanceMethod yX5_comesBefore, Cond.selects RX5 yX5_comesBefore yX5_comesBefore, Cond.code yX5_comesBefore cX5_comesBefore 2 (some .boolean), Cond.methodLink RL 150 yX8_next, Cond.instanceMethod yX8_next, Cond.selects RX8 yX8_next yX8_next, Cond.code yX8_next cX8_next 8 (some .int), Cond.methodLink RL 151 yL_taskOf, Cond.static yL_taskOf, Cond.codeWith yL_taskOf cL_taskOf 4 (some .int) [(0, 9, 12, 21)]]
def wsL_law0_r36 : List Cond := [Cond.methodLink RL 75 yX7_taskOf, Cond.instanceMethod yX7_taskOf, Cond.selects RX7 yX7_taskOf yX7_taskOf, Cond.code yX7_taskOf cX7_taskOf 2 (some .int), Cond.methodLink RL 153 yX8_taskOf, Cond.instanceMethod yX8_taskOf, Cond.selects RX8 yX8_taskOf yX8_taskOf, Cond.code yX8_taskOf cX8_taskOf 2 (some .int), Cond.methodLink RL 154 yL_label, Cond.static yL_label, Cond.codeWith yL_label cL_label 5 (some .int) [(0, 10, 13, 21)], Cond.methodLink RL 78 yX7_label, Cond.instanceMethod yX7_label, Cond.selects RX7 yX7_label yX7_label, Cond.code yX7_label cX7_label 4 (some .char), Cond.fieldLink RX7 264 "MarkChat$Task" "text" "Ljava/lang/String;", Cond.methodLink RX7 270 yJ0_length_8abf5, Cond.instanceMethod yJ0_length_8abf5, Cond.selects RJ0 yJ0_length_8abf5 yJ0_length_8abf5, Cond.code yJ0_length_8abf5 cJ0_length_8abf5 1 (some .int), Cond.methodLink RJ0 335 yJ0_coder_7d493, Cond.instanceMethod yJ0_coder_7d493, Cond.selects RJ0 yJ0_coder_7d493 yJ0_coder_7d493, Cond.code yJ0_coder_7d493 cJ0_coder_7d493 1 (some .byte)]
def wsL_law0_r37 : List Cond := [Cond.methodLink RX7 275 yJ0_charAt_5068e, Cond.instanceMethod yJ0_charAt_5068e, Cond.selects RJ0 yJ0_charAt_5068e yJ0_charAt_5068e, Cond.code yJ0_charAt_5068e cJ0_charAt_5068e 2 (some .char), Cond.methodLink RJ0 492 yJ0_isLatin1_aae02, Cond.instanceMethod yJ0_isLatin1_aae02, Cond.selects RJ0 yJ0_isLatin1_aae02 yJ0_isLatin1_aae02, Cond.code yJ0_isLatin1_aae02 cJ0_isLatin1_aae02 1 (some .boolean), Cond.methodLink RJ0 495 yJ1_charAt_3b067, Cond.static yJ1_charAt_3b067, Cond.code yJ1_charAt_3b067 cJ1_charAt_3b067 2 (some .char), Cond.methodLink RJ1 9 yJ0_checkIndex_df160, Cond.methodLink RJ0 498 yJ2_charAt_3b067, Cond.static yJ2_charAt_3b067, Cond.code yJ2_charAt_3b067 cJ2_charAt_3b067 2 (some .char), Cond.methodLink RL 156 yX8_label, Cond.instanceMethod yX8_label, Cond.selects RX8 yX8_label yX8_label, Cond.code yX8_label cX8_label 3 (some .char), Cond.fieldLink RX8 141 "MarkChatModel" "written" "I", Cond.methodLink RX8 148 yX8_putsNumber, Cond.instanceMethod yX8_putsNumber, Cond.selects RX8 yX8_putsNumber yX8_putsNumber, Cond.code yX8_putsNumber cX8_putsNumber 4 none]
def wsL_law0_r38 : List Cond := [Cond.methodLink RX8 144 yX8_puts, Cond.instanceMethod yX8_puts, Cond.selects RX8 yX8_puts yX8_puts, Cond.code yX8_puts cX8_puts 2 none]
def wsL_law0 : List Cond := (wsL_law0_r1 ++ (wsL_law0_r2 ++ (wsL_law0_r3 ++ (wsL_law0_r4 ++ (wsL_law0_r5 ++ (wsL_law0_r6 ++ (wsL_law0_r7 ++ (wsL_law0_r8 ++ (wsL_law0_r9 ++ (wsL_law0_r10 ++ (wsL_law0_r11 ++ (wsL_law0_r12 ++ (wsL_law0_r13 ++ (wsL_law0_r14 ++ (wsL_law0_r15 ++ (wsL_law0_r16 ++ (wsL_law0_r17 ++ (wsL_law0_r18 ++ (wsL_law0_r19 ++ (wsL_law0_r20 ++ (wsL_law0_r21 ++ (wsL_law0_r22 ++ (wsL_law0_r23 ++ (wsL_law0_r24 ++ (wsL_law0_r25 ++ (wsL_law0_r26 ++ (wsL_law0_r27 ++ (wsL_law0_r28 ++ (wsL_law0_r29 ++ (wsL_law0_r30 ++ (wsL_law0_r31 ++ (wsL_law0_r32 ++ (wsL_law0_r33 ++ (wsL_law0_r34 ++ (wsL_law0_r35 ++ (wsL_law0_r36 ++ (wsL_law0_r37 ++ wsL_law0_r38))))))))))))))))))))))))))))))))))))) ++ wsX70 ++ wsX80 ++ wsJx4a65c0 ++ wsX00 ++ wsX10 ++ wsX20 ++ wsX60 ++ wsX40 ++ wsX30 ++ wsX50 ++ wsJ40 ++ wsJ00 ++ ([] : List Cond)
def wsL_law : List Cond := wsL_law0 ++ (vx_atS RX7 231 "java/lang/IllegalArgumentException" ["java/lang/RuntimeException", "java/lang/Exception"]).filter goodWord ++ (vx_atS RX7 100 "java/lang/IllegalStateException" ["java/lang/RuntimeException", "java/lang/Exception"]).filter goodWord ++ (vx_atS RX7 255 "java/lang/IndexOutOfBoundsException" ["java/lang/RuntimeException", "java/lang/Exception"]).filter goodWord
abbrev vwCl : List vw_C := [(RJ0, TJ0, 4), (RJ4, TJ4, 4), (RJx4a65c, TJx4a65c, 3), (RX0, TX0, 3), (RX1, TX1, 4), (RX2, TX2, 1), (RX3, TX3, 8), (RX4, TX4, 5), (RX5, TX5, 6), (RX6, TX6, 3), (RX7, TX7, 8), (RX8, TX8, 29)]
end
section
/-! THE WORDS: one list for all methods, the law's -/
theorem inU_1 : ∀ w ∈ wsL_law0_r1, w ∈ wsL_law := fun _ h => List.mem_append_left _ (List.mem_append_left _ (List.mem_append_left _ (List.mem_append_left _ (List.mem_append_left _ (List.mem_append_left _ (List.mem_append_left _ (List.mem_append_left _ (List.mem_append_left _ (List.mem_append_left _ (List.mem_append_left _ (List.mem_append_left _ (List.mem_append_left _ (List.mem_append_left _ (List.mem_append_left _ (List.mem_append_left _ (List.mem_append_left _ h))))))))))))))))
theorem inU_2 : ∀ w ∈ wsL_law0_r2, w ∈ wsL_law := fun _ h => List.mem_append_left _ (List.mem_append_left _ (List.mem_append_left _ (List.mem_append_left _ (List.mem_append_left _ (List.mem_append_left _ (List.mem_append_left _ (List.mem_append_left _ (List.mem_append_left _ (List.mem_append_left _ (List.mem_append_left _ (List.mem_append_left _ (List.mem_append_left _ (List.mem_append_left _ (List.mem_append_left _ (List.mem_append_left _ (List.mem_append_right _ (List.mem_append_left _ h)))))))))))))))))
theorem inU_3 : ∀ w ∈ wsL_law0_r3, w ∈ wsL_law := fun _ h => List.mem_append_left _ (List.mem_append_left _ (List.mem_append_left _ (List.mem_append_left _ (List.mem_append_left _ (List.mem_append_left _ (List.mem_append_left _ (List.mem_append_left _ (List.mem_append_left _ (List.mem_append_left _ (List.mem_append_left _ (List.mem_append_left _ (List.mem_append_left _ (List.mem_append_left _ (List.mem_append_left _ (List.mem_append_left _ (List.mem_append_right _ (List.mem_append_right _ (List.mem_append_left _ h))))))))))))))))))
theorem inU_4 : ∀ w ∈ wsL_law0_r4, w ∈ wsL_law := fun _ h => List.mem_append_left _ (List.mem_append_left _ (List.mem_append_left _ (List.mem_append_left _ (List.mem_append_left _ (List.mem_append_left _ (List.mem_append_left _ (List.mem_append_left _ (List.mem_append_left _ (List.mem_append_left _ (List.mem_append_left _ (List.mem_append_left _ (List.mem_append_left _ (List.mem_append_left _ (List.mem_append_left _ (List.mem_append_left _ (List.mem_append_right _ (List.mem_append_right _ (List.mem_append_right _ (List.mem_append_left _ h)))))))))))))))))))
theorem inU_5 : ∀ w ∈ wsL_law0_r5, w ∈ wsL_law := fun _ h => List.mem_append_left _ (List.mem_append_left _ (List.mem_append_left _ (List.mem_append_left _ (List.mem_append_left _ (List.mem_append_left _ (List.mem_append_left _ (List.mem_append_left _ (List.mem_append_left _ (List.mem_append_left _ (List.mem_append_left _ (List.mem_append_left _ (List.mem_append_left _ (List.mem_append_left _ (List.mem_append_left _ (List.mem_append_left _ (List.mem_append_right _ (List.mem_append_right _ (List.mem_append_right _ (List.mem_append_right _ (List.mem_append_left _ h))))))))))))))))))))
theorem inU_6 : ∀ w ∈ wsL_law0_r6, w ∈ wsL_law := fun _ h => List.mem_append_left _ (List.mem_append_left _ (List.mem_append_left _ (List.mem_append_left _ (List.mem_append_left _ (List.mem_append_left _ (List.mem_append_left _ (List.mem_append_left _ (List.mem_append_left _ (List.mem_append_left _ (List.mem_append_left _ (List.mem_append_left _ (List.mem_append_left _ (List.mem_append_left _ (List.mem_append_left _ (List.mem_append_left _ (List.mem_append_right _ (List.mem_append_right _ (List.mem_append_right _ (List.mem_append_right _ (List.mem_append_right _ (List.mem_append_left _ h)))))))))))))))))))))
theorem inU_7 : ∀ w ∈ wsL_law0_r7, w ∈ wsL_law := fun _ h => List.mem_append_left _ (List.mem_append_left _ (List.mem_append_left _ (List.mem_append_left _ (List.mem_append_left _ (List.mem_append_left _ (List.mem_append_left _ (List.mem_append_left _ (List.mem_append_left _ (List.mem_append_left _ (List.mem_append_left _ (List.mem_append_left _ (List.mem_append_left _ (List.mem_append_left _ (List.mem_append_left _ (List.mem_append_left _ (List.mem_append_right _ (List.mem_append_right _ (List.mem_append_right _ (List.mem_append_right _ (List.mem_append_right _ (List.mem_append_right _ (List.mem_append_left _ h))))))))))))))))))))))
theorem inU_8 : ∀ w ∈ wsL_law0_r8, w ∈ wsL_law := fun _ h => List.mem_append_left _ (List.mem_append_left _ (List.mem_append_left _ (List.mem_append_left _ (List.mem_append_left _ (List.mem_append_left _ (List.mem_append_left _ (List.mem_append_left _ (List.mem_append_left _ (List.mem_append_left _ (List.mem_append_left _ (List.mem_append_left _ (List.mem_append_left _ (List.mem_append_left _ (List.mem_append_left _ (List.mem_append_left _ (List.mem_append_right _ (List.mem_append_right _ (List.mem_append_right _ (List.mem_append_right _ (List.mem_append_right _ (List.mem_append_right _ (List.mem_append_right _ (List.mem_append_left _ h)))))))))))))))))))))))
theorem inU_9 : ∀ w ∈ wsL_law0_r9, w ∈ wsL_law := fun _ h => List.mem_append_left _ (List.mem_append_left _ (List.mem_append_left _ (List.mem_append_left _ (List.mem_append_left _ (List.mem_append_left _ (List.mem_append_left _ (List.mem_append_left _ (List.mem_append_left _ (List.mem_append_left _ (List.mem_append_left _ (List.mem_append_left _ (List.mem_append_left _ (List.mem_append_left _ (List.mem_append_left _ (List.mem_append_left _ (List.mem_append_right _ (List.mem_append_right _ (List.mem_append_right _ (List.mem_append_right _ (List.mem_append_right _ (List.mem_append_right _ (List.mem_append_right _ (List.mem_append_right _ (List.mem_append_left _ h))))))))))))))))))))))))
theorem inU_10 : ∀ w ∈ wsL_law0_r10, w ∈ wsL_law := fun _ h => List.mem_append_left _ (List.mem_append_left _ (List.mem_append_left _ (List.mem_append_left _ (List.mem_append_left _ (List.mem_append_left _ (List.mem_append_left _ (List.mem_append_left _ (List.mem_append_left _ (List.mem_append_left _ (List.mem_append_left _ (List.mem_append_left _ (List.mem_append_left _ (List.mem_append_left _ (List.mem_append_left _ (List.mem_append_left _ (List.mem_append_right _ (List.mem_append_right _ (List.mem_append_right _ (List.mem_append_right _ (List.mem_append_right _ (List.mem_append_right _ (List.mem_append_right _ (List.mem_append_right _ (List.mem_append_right _ (List.mem_append_left _ h)))))))))))))))))))))))))
theorem inU_11 : ∀ w ∈ wsL_law0_r11, w ∈ wsL_law := fun _ h => List.mem_append_left _ (List.mem_append_left _ (List.mem_append_left _ (List.mem_append_left _ (List.mem_append_left _ (List.mem_append_left _ (List.mem_append_left _ (List.mem_append_left _ (List.mem_append_left _ (List.mem_append_left _ (List.mem_append_left _ (List.mem_append_left _ (List.mem_append_left _ (List.mem_append_left _ (List.mem_append_left _ (List.mem_append_left _ (List.mem_append_right _ (List.mem_append_right _ (List.mem_append_right _ (List.mem_append_right _ (List.mem_append_right _ (List.mem_append_right _ (List.mem_append_right _ (List.mem_append_right _ (List.mem_append_right _ (List.mem_append_right _ (List.mem_append_left _ h))))))))))))))))))))))))))
theorem inU_12 : ∀ w ∈ wsL_law0_r12, w ∈ wsL_law := fun _ h => List.mem_append_left _ (List.mem_append_left _ (List.mem_append_left _ (List.mem_append_left _ (List.mem_append_left _ (List.mem_append_left _ (List.mem_append_left _ (List.mem_append_left _ (List.mem_append_left _ (List.mem_append_left _ (List.mem_append_left _ (List.mem_append_left _ (List.mem_append_left _ (List.mem_append_left _ (List.mem_append_left _ (List.mem_append_left _ (List.mem_append_right _ (List.mem_append_right _ (List.mem_append_right _ (List.mem_append_right _ (List.mem_append_right _ (List.mem_append_right _ (List.mem_append_right _ (List.mem_append_right _ (List.mem_append_right _ (List.mem_append_right _ (List.mem_append_right _ (List.mem_append_left _ h)))))))))))))))))))))))))))
theorem inU_13 : ∀ w ∈ wsL_law0_r13, w ∈ wsL_law := fun _ h => List.mem_append_left _ (List.mem_append_left _ (List.mem_append_left _ (List.mem_append_left _ (List.mem_append_left _ (List.mem_append_left _ (List.mem_append_left _ (List.mem_append_left _ (List.mem_append_left _ (List.mem_append_left _ (List.mem_append_left _ (List.mem_append_left _ (List.mem_append_left _ (List.mem_append_left _ (List.mem_append_left _ (List.mem_append_left _ (List.mem_append_right _ (List.mem_append_right _ (List.mem_append_right _ (List.mem_append_right _ (List.mem_append_right _ (List.mem_append_right _ (List.mem_append_right _ (List.mem_append_right _ (List.mem_append_right _ (List.mem_append_right _ (List.mem_append_right _ (List.mem_append_right _ (List.mem_append_left _ h))))))))))))))))))))))))))))
theorem inU_14 : ∀ w ∈ wsL_law0_r14, w ∈ wsL_law := fun _ h => List.mem_append_left _ (List.mem_append_left _ (List.mem_append_left _ (List.mem_append_left _ (List.mem_append_left _ (List.mem_append_left _ (List.mem_append_left _ (List.mem_append_left _ (List.mem_append_left _ (List.mem_append_left _ (List.mem_append_left _ (List.mem_append_left _ (List.mem_append_left _ (List.mem_append_left _ (List.mem_append_left _ (List.mem_append_left _ (List.mem_append_right _ (List.mem_append_right _ (List.mem_append_right _ (List.mem_append_right _ (List.mem_append_right _ (List.mem_append_right _ (List.mem_append_right _ (List.mem_append_right _ (List.mem_append_right _ (List.mem_append_right _ (List.mem_append_right _ (List.mem_append_right _ (List.mem_append_right _ (List.mem_append_left _ h)))))))))))))))))))))))))))))
theorem inU_15 : ∀ w ∈ wsL_law0_r15, w ∈ wsL_law := fun _ h => List.mem_append_left _ (List.mem_append_left _ (List.mem_append_left _ (List.mem_append_left _ (List.mem_append_left _ (List.mem_append_left _ (List.mem_append_left _ (List.mem_append_left _ (List.mem_append_left _ (List.mem_append_left _ (List.mem_append_left _ (List.mem_append_left _ (List.mem_append_left _ (List.mem_append_left _ (List.mem_append_left _ (List.mem_append_left _ (List.mem_append_right _ (List.mem_append_right _ (List.mem_append_right _ (List.mem_append_right _ (List.mem_append_right _ (List.mem_append_right _ (List.mem_append_right _ (List.mem_append_right _ (List.mem_append_right _ (List.mem_append_right _ (List.mem_append_right _ (List.mem_append_right _ (List.mem_append_right _ (List.mem_append_right _ (List.mem_append_left _ h))))))))))))))))))))))))))))))
theorem inU_16 : ∀ w ∈ wsL_law0_r16, w ∈ wsL_law := fun _ h => List.mem_append_left _ (List.mem_append_left _ (List.mem_append_left _ (List.mem_append_left _ (List.mem_append_left _ (List.mem_append_left _ (List.mem_append_left _ (List.mem_append_left _ (List.mem_append_left _ (List.mem_append_left _ (List.mem_append_left _ (List.mem_append_left _ (List.mem_append_left _ (List.mem_append_left _ (List.mem_append_left _ (List.mem_append_left _ (List.mem_append_right _ (List.mem_append_right _ (List.mem_append_right _ (List.mem_append_right _ (List.mem_append_right _ (List.mem_append_right _ (List.mem_append_right _ (List.mem_append_right _ (List.mem_append_right _ (List.mem_append_right _ (List.mem_append_right _ (List.mem_append_right _ (List.mem_append_right _ (List.mem_append_right _ (List.mem_append_right _ (List.mem_append_left _ h)))))))))))))))))))))))))))))))
theorem inU_17 : ∀ w ∈ wsL_law0_r17, w ∈ wsL_law := fun _ h => List.mem_append_left _ (List.mem_append_left _ (List.mem_append_left _ (List.mem_append_left _ (List.mem_append_left _ (List.mem_append_left _ (List.mem_append_left _ (List.mem_append_left _ (List.mem_append_left _ (List.mem_append_left _ (List.mem_append_left _ (List.mem_append_left _ (List.mem_append_left _ (List.mem_append_left _ (List.mem_append_left _ (List.mem_append_left _ (List.mem_append_right _ (List.mem_append_right _ (List.mem_append_right _ (List.mem_append_right _ (List.mem_append_right _ (List.mem_append_right _ (List.mem_append_right _ (List.mem_append_right _ (List.mem_append_right _ (List.mem_append_right _ (List.mem_append_right _ (List.mem_append_right _ (List.mem_append_right _ (List.mem_append_right _ (List.mem_append_right _ (List.mem_append_right _ (List.mem_append_left _ h))))))))))))))))))))))))))))))))
theorem inU_18 : ∀ w ∈ wsL_law0_r18, w ∈ wsL_law := fun _ h => List.mem_append_left _ (List.mem_append_left _ (List.mem_append_left _ (List.mem_append_left _ (List.mem_append_left _ (List.mem_append_left _ (List.mem_append_left _ (List.mem_append_left _ (List.mem_append_left _ (List.mem_append_left _ (List.mem_append_left _ (List.mem_append_left _ (List.mem_append_left _ (List.mem_append_left _ (List.mem_append_left _ (List.mem_append_left _ (List.mem_append_right _ (List.mem_append_right _ (List.mem_append_right _ (List.mem_append_right _ (List.mem_append_right _ (List.mem_append_right _ (List.mem_append_right _ (List.mem_append_right _ (List.mem_append_right _ (List.mem_append_right _ (List.mem_append_right _ (List.mem_append_right _ (List.mem_append_right _ (List.mem_append_right _ (List.mem_append_right _ (List.mem_append_right _ (List.mem_append_right _ (List.mem_append_left _ h)))))))))))))))))))))))))))))))))
theorem inU_19 : ∀ w ∈ wsL_law0_r19, w ∈ wsL_law := fun _ h => List.mem_append_left _ (List.mem_append_left _ (List.mem_append_left _ (List.mem_append_left _ (List.mem_append_left _ (List.mem_append_left _ (List.mem_append_left _ (List.mem_append_left _ (List.mem_append_left _ (List.mem_append_left _ (List.mem_append_left _ (List.mem_append_left _ (List.mem_append_left _ (List.mem_append_left _ (List.mem_append_left _ (List.mem_append_left _ (List.mem_append_right _ (List.mem_append_right _ (List.mem_append_right _ (List.mem_append_right _ (List.mem_append_right _ (List.mem_append_right _ (List.mem_append_right _ (List.mem_append_right _ (List.mem_append_right _ (List.mem_append_right _ (List.mem_append_right _ (List.mem_append_right _ (List.mem_append_right _ (List.mem_append_right _ (List.mem_append_right _ (List.mem_append_right _ (List.mem_append_right _ (List.mem_append_right _ (List.mem_append_left _ h))))))))))))))))))))))))))))))))))
theorem inU_20 : ∀ w ∈ wsL_law0_r20, w ∈ wsL_law := fun _ h => List.mem_append_left _ (List.mem_append_left _ (List.mem_append_left _ (List.mem_append_left _ (List.mem_append_left _ (List.mem_append_left _ (List.mem_append_left _ (List.mem_append_left _ (List.mem_append_left _ (List.mem_append_left _ (List.mem_append_left _ (List.mem_append_left _ (List.mem_append_left _ (List.mem_append_left _ (List.mem_append_left _ (List.mem_append_left _ (List.mem_append_right _ (List.mem_append_right _ (List.mem_append_right _ (List.mem_append_right _ (List.mem_append_right _ (List.mem_append_right _ (List.mem_append_right _ (List.mem_append_right _ (List.mem_append_right _ (List.mem_append_right _ (List.mem_append_right _ (List.mem_append_right _ (List.mem_append_right _ (List.mem_append_right _ (List.mem_append_right _ (List.mem_append_right _ (List.mem_append_right _ (List.mem_append_right _ (List.mem_append_right _ (List.mem_append_left _ h)))))))))))))))))))))))))))))))))))
theorem inU_21 : ∀ w ∈ wsL_law0_r21, w ∈ wsL_law := fun _ h => List.mem_append_left _ (List.mem_append_left _ (List.mem_append_left _ (List.mem_append_left _ (List.mem_append_left _ (List.mem_append_left _ (List.mem_append_left _ (List.mem_append_left _ (List.mem_append_left _ (List.mem_append_left _ (List.mem_append_left _ (List.mem_append_left _ (List.mem_append_left _ (List.mem_append_left _ (List.mem_append_left _ (List.mem_append_left _ (List.mem_append_right _ (List.mem_append_right _ (List.mem_append_right _ (List.mem_append_right _ (List.mem_append_right _ (List.mem_append_right _ (List.mem_append_right _ (List.mem_append_right _ (List.mem_append_right _ (List.mem_append_right _ (List.mem_append_right _ (List.mem_append_right _ (List.mem_append_right _ (List.mem_append_right _ (List.mem_append_right _ (List.mem_append_right _ (List.mem_append_right _ (List.mem_append_right _ (List.mem_append_right _ (List.mem_append_right _ (List.mem_append_left _ h))))))))))))))))))))))))))))))))))))
theorem inU_22 : ∀ w ∈ wsL_law0_r22, w ∈ wsL_law := fun _ h => List.mem_append_left _ (List.mem_append_left _ (List.mem_append_left _ (List.mem_append_left _ (List.mem_append_left _ (List.mem_append_left _ (List.mem_append_left _ (List.mem_append_left _ (List.mem_append_left _ (List.mem_append_left _ (List.mem_append_left _ (List.mem_append_left _ (List.mem_append_left _ (List.mem_append_left _ (List.mem_append_left _ (List.mem_append_left _ (List.mem_append_right _ (List.mem_append_right _ (List.mem_append_right _ (List.mem_append_right _ (List.mem_append_right _ (List.mem_append_right _ (List.mem_append_right _ (List.mem_append_right _ (List.mem_append_right _ (List.mem_append_right _ (List.mem_append_right _ (List.mem_append_right _ (List.mem_append_right _ (List.mem_append_right _ (List.mem_append_right _ (List.mem_append_right _ (List.mem_append_right _ (List.mem_append_right _ (List.mem_append_right _ (List.mem_append_right _ (List.mem_append_right _ (List.mem_append_left _ h)))))))))))))))))))))))))))))))))))))
theorem inU_23 : ∀ w ∈ wsL_law0_r23, w ∈ wsL_law := fun _ h => List.mem_append_left _ (List.mem_append_left _ (List.mem_append_left _ (List.mem_append_left _ (List.mem_append_left _ (List.mem_append_left _ (List.mem_append_left _ (List.mem_append_left _ (List.mem_append_left _ (List.mem_append_left _ (List.mem_append_left _ (List.mem_append_left _ (List.mem_append_left _ (List.mem_append_left _ (List.mem_append_left _ (List.mem_append_left _ (List.mem_append_right _ (List.mem_append_right _ (List.mem_append_right _ (List.mem_append_right _ (List.mem_append_right _ (List.mem_append_right _ (List.mem_append_right _ (List.mem_append_right _ (List.mem_append_right _ (List.mem_append_right _ (List.mem_append_right _ (List.mem_append_right _ (List.mem_append_right _ (List.mem_append_right _ (List.mem_append_right _ (List.mem_append_right _ (List.mem_append_right _ (List.mem_append_right _ (List.mem_append_right _ (List.mem_append_right _ (List.mem_append_right _ (List.mem_append_right _ (List.mem_append_left _ h))))))))))))))))))))))))))))))))))))))
theorem inU_24 : ∀ w ∈ wsL_law0_r24, w ∈ wsL_law := fun _ h => List.mem_append_left _ (List.mem_append_left _ (List.mem_append_left _ (List.mem_append_left _ (List.mem_append_left _ (List.mem_append_left _ (List.mem_append_left _ (List.mem_append_left _ (List.mem_append_left _ (List.mem_append_left _ (List.mem_append_left _ (List.mem_append_left _ (List.mem_append_left _ (List.mem_append_left _ (List.mem_append_left _ (List.mem_append_left _ (List.mem_append_right _ (List.mem_append_right _ (List.mem_append_right _ (List.mem_append_right _ (List.mem_append_right _ (List.mem_append_right _ (List.mem_append_right _ (List.mem_append_right _ (List.mem_append_right _ (List.mem_append_right _ (List.mem_append_right _ (List.mem_append_right _ (List.mem_append_right _ (List.mem_append_right _ (List.mem_append_right _ (List.mem_append_right _ (List.mem_append_right _ (List.mem_append_right _ (List.mem_append_right _ (List.mem_append_right _ (List.mem_append_right _ (List.mem_append_right _ (List.mem_append_right _ (List.mem_append_left _ h)))))))))))))))))))))))))))))))))))))))
theorem inU_25 : ∀ w ∈ wsL_law0_r25, w ∈ wsL_law := fun _ h => List.mem_append_left _ (List.mem_append_left _ (List.mem_append_left _ (List.mem_append_left _ (List.mem_append_left _ (List.mem_append_left _ (List.mem_append_left _ (List.mem_append_left _ (List.mem_append_left _ (List.mem_append_left _ (List.mem_append_left _ (List.mem_append_left _ (List.mem_append_left _ (List.mem_append_left _ (List.mem_append_left _ (List.mem_append_left _ (List.mem_append_right _ (List.mem_append_right _ (List.mem_append_right _ (List.mem_append_right _ (List.mem_append_right _ (List.mem_append_right _ (List.mem_append_right _ (List.mem_append_right _ (List.mem_append_right _ (List.mem_append_right _ (List.mem_append_right _ (List.mem_append_right _ (List.mem_append_right _ (List.mem_append_right _ (List.mem_append_right _ (List.mem_append_right _ (List.mem_append_right _ (List.mem_append_right _ (List.mem_append_right _ (List.mem_append_right _ (List.mem_append_right _ (List.mem_append_right _ (List.mem_append_right _ (List.mem_append_right _ (List.mem_append_left _ h))))))))))))))))))))))))))))))))))))))))
theorem inU_26 : ∀ w ∈ wsL_law0_r26, w ∈ wsL_law := fun _ h => List.mem_append_left _ (List.mem_append_left _ (List.mem_append_left _ (List.mem_append_left _ (List.mem_append_left _ (List.mem_append_left _ (List.mem_append_left _ (List.mem_append_left _ (List.mem_append_left _ (List.mem_append_left _ (List.mem_append_left _ (List.mem_append_left _ (List.mem_append_left _ (List.mem_append_left _ (List.mem_append_left _ (List.mem_append_left _ (List.mem_append_right _ (List.mem_append_right _ (List.mem_append_right _ (List.mem_append_right _ (List.mem_append_right _ (List.mem_append_right _ (List.mem_append_right _ (List.mem_append_right _ (List.mem_append_right _ (List.mem_append_right _ (List.mem_append_right _ (List.mem_append_right _ (List.mem_append_right _ (List.mem_append_right _ (List.mem_append_right _ (List.mem_append_right _ (List.mem_append_right _ (List.mem_append_right _ (List.mem_append_right _ (List.mem_append_right _ (List.mem_append_right _ (List.mem_append_right _ (List.mem_append_right _ (List.mem_append_right _ (List.mem_append_right _ (List.mem_append_left _ h)))))))))))))))))))))))))))))))))))))))))
theorem inU_27 : ∀ w ∈ wsL_law0_r27, w ∈ wsL_law := fun _ h => List.mem_append_left _ (List.mem_append_left _ (List.mem_append_left _ (List.mem_append_left _ (List.mem_append_left _ (List.mem_append_left _ (List.mem_append_left _ (List.mem_append_left _ (List.mem_append_left _ (List.mem_append_left _ (List.mem_append_left _ (List.mem_append_left _ (List.mem_append_left _ (List.mem_append_left _ (List.mem_append_left _ (List.mem_append_left _ (List.mem_append_right _ (List.mem_append_right _ (List.mem_append_right _ (List.mem_append_right _ (List.mem_append_right _ (List.mem_append_right _ (List.mem_append_right _ (List.mem_append_right _ (List.mem_append_right _ (List.mem_append_right _ (List.mem_append_right _ (List.mem_append_right _ (List.mem_append_right _ (List.mem_append_right _ (List.mem_append_right _ (List.mem_append_right _ (List.mem_append_right _ (List.mem_append_right _ (List.mem_append_right _ (List.mem_append_right _ (List.mem_append_right _ (List.mem_append_right _ (List.mem_append_right _ (List.mem_append_right _ (List.mem_append_right _ (List.mem_append_right _ (List.mem_append_left _ h))))))))))))))))))))))))))))))))))))))))))
theorem inU_28 : ∀ w ∈ wsL_law0_r28, w ∈ wsL_law := fun _ h => List.mem_append_left _ (List.mem_append_left _ (List.mem_append_left _ (List.mem_append_left _ (List.mem_append_left _ (List.mem_append_left _ (List.mem_append_left _ (List.mem_append_left _ (List.mem_append_left _ (List.mem_append_left _ (List.mem_append_left _ (List.mem_append_left _ (List.mem_append_left _ (List.mem_append_left _ (List.mem_append_left _ (List.mem_append_left _ (List.mem_append_right _ (List.mem_append_right _ (List.mem_append_right _ (List.mem_append_right _ (List.mem_append_right _ (List.mem_append_right _ (List.mem_append_right _ (List.mem_append_right _ (List.mem_append_right _ (List.mem_append_right _ (List.mem_append_right _ (List.mem_append_right _ (List.mem_append_right _ (List.mem_append_right _ (List.mem_append_right _ (List.mem_append_right _ (List.mem_append_right _ (List.mem_append_right _ (List.mem_append_right _ (List.mem_append_right _ (List.mem_append_right _ (List.mem_append_right _ (List.mem_append_right _ (List.mem_append_right _ (List.mem_append_right _ (List.mem_append_right _ (List.mem_append_right _ (List.mem_append_left _ h)))))))))))))))))))))))))))))))))))))))))))
theorem inU_29 : ∀ w ∈ wsL_law0_r29, w ∈ wsL_law := fun _ h => List.mem_append_left _ (List.mem_append_left _ (List.mem_append_left _ (List.mem_append_left _ (List.mem_append_left _ (List.mem_append_left _ (List.mem_append_left _ (List.mem_append_left _ (List.mem_append_left _ (List.mem_append_left _ (List.mem_append_left _ (List.mem_append_left _ (List.mem_append_left _ (List.mem_append_left _ (List.mem_append_left _ (List.mem_append_left _ (List.mem_append_right _ (List.mem_append_right _ (List.mem_append_right _ (List.mem_append_right _ (List.mem_append_right _ (List.mem_append_right _ (List.mem_append_right _ (List.mem_append_right _ (List.mem_append_right _ (List.mem_append_right _ (List.mem_append_right _ (List.mem_append_right _ (List.mem_append_right _ (List.mem_append_right _ (List.mem_append_right _ (List.mem_append_right _ (List.mem_append_right _ (List.mem_append_right _ (List.mem_append_right _ (List.mem_append_right _ (List.mem_append_right _ (List.mem_append_right _ (List.mem_append_right _ (List.mem_append_right _ (List.mem_append_right _ (List.mem_append_right _ (List.mem_append_right _ (List.mem_append_right _ (List.mem_append_left _ h))))))))))))))))))))))))))))))))))))))))))))
theorem inU_30 : ∀ w ∈ wsL_law0_r30, w ∈ wsL_law := fun _ h => List.mem_append_left _ (List.mem_append_left _ (List.mem_append_left _ (List.mem_append_left _ (List.mem_append_left _ (List.mem_append_left _ (List.mem_append_left _ (List.mem_append_left _ (List.mem_append_left _ (List.mem_append_left _ (List.mem_append_left _ (List.mem_append_left _ (List.mem_append_left _ (List.mem_append_left _ (List.mem_append_left _ (List.mem_append_left _ (List.mem_append_right _ (List.mem_append_right _ (List.mem_append_right _ (List.mem_append_right _ (List.mem_append_right _ (List.mem_append_right _ (List.mem_append_right _ (List.mem_append_right _ (List.mem_append_right _ (List.mem_append_right _ (List.mem_append_right _ (List.mem_append_right _ (List.mem_append_right _ (List.mem_append_right _ (List.mem_append_right _ (List.mem_append_right _ (List.mem_append_right _ (List.mem_append_right _ (List.mem_append_right _ (List.mem_append_right _ (List.mem_append_right _ (List.mem_append_right _ (List.mem_append_right _ (List.mem_append_right _ (List.mem_append_right _ (List.mem_append_right _ (List.mem_append_right _ (List.mem_append_right _ (List.mem_append_right _ (List.mem_append_left _ h)))))))))))))))))))))))))))))))))))))))))))))
theorem inU_31 : ∀ w ∈ wsL_law0_r31, w ∈ wsL_law := fun _ h => List.mem_append_left _ (List.mem_append_left _ (List.mem_append_left _ (List.mem_append_left _ (List.mem_append_left _ (List.mem_append_left _ (List.mem_append_left _ (List.mem_append_left _ (List.mem_append_left _ (List.mem_append_left _ (List.mem_append_left _ (List.mem_append_left _ (List.mem_append_left _ (List.mem_append_left _ (List.mem_append_left _ (List.mem_append_left _ (List.mem_append_right _ (List.mem_append_right _ (List.mem_append_right _ (List.mem_append_right _ (List.mem_append_right _ (List.mem_append_right _ (List.mem_append_right _ (List.mem_append_right _ (List.mem_append_right _ (List.mem_append_right _ (List.mem_append_right _ (List.mem_append_right _ (List.mem_append_right _ (List.mem_append_right _ (List.mem_append_right _ (List.mem_append_right _ (List.mem_append_right _ (List.mem_append_right _ (List.mem_append_right _ (List.mem_append_right _ (List.mem_append_right _ (List.mem_append_right _ (List.mem_append_right _ (List.mem_append_right _ (List.mem_append_right _ (List.mem_append_right _ (List.mem_append_right _ (List.mem_append_right _ (List.mem_append_right _ (List.mem_append_right _ (List.mem_append_left _ h))))))))))))))))))))))))))))))))))))))))))))))
theorem inU_32 : ∀ w ∈ wsL_law0_r32, w ∈ wsL_law := fun _ h => List.mem_append_left _ (List.mem_append_left _ (List.mem_append_left _ (List.mem_append_left _ (List.mem_append_left _ (List.mem_append_left _ (List.mem_append_left _ (List.mem_append_left _ (List.mem_append_left _ (List.mem_append_left _ (List.mem_append_left _ (List.mem_append_left _ (List.mem_append_left _ (List.mem_append_left _ (List.mem_append_left _ (List.mem_append_left _ (List.mem_append_right _ (List.mem_append_right _ (List.mem_append_right _ (List.mem_append_right _ (List.mem_append_right _ (List.mem_append_right _ (List.mem_append_right _ (List.mem_append_right _ (List.mem_append_right _ (List.mem_append_right _ (List.mem_append_right _ (List.mem_append_right _ (List.mem_append_right _ (List.mem_append_right _ (List.mem_append_right _ (List.mem_append_right _ (List.mem_append_right _ (List.mem_append_right _ (List.mem_append_right _ (List.mem_append_right _ (List.mem_append_right _ (List.mem_append_right _ (List.mem_append_right _ (List.mem_append_right _ (List.mem_append_right _ (List.mem_append_right _ (List.mem_append_right _ (List.mem_append_right _ (List.mem_append_right _ (List.mem_append_right _ (List.mem_append_right _ (List.mem_append_left _ h)))))))))))))))))))))))))))))))))))))))))))))))
theorem inU_33 : ∀ w ∈ wsL_law0_r33, w ∈ wsL_law := fun _ h => List.mem_append_left _ (List.mem_append_left _ (List.mem_append_left _ (List.mem_append_left _ (List.mem_append_left _ (List.mem_append_left _ (List.mem_append_left _ (List.mem_append_left _ (List.mem_append_left _ (List.mem_append_left _ (List.mem_append_left _ (List.mem_append_left _ (List.mem_append_left _ (List.mem_append_left _ (List.mem_append_left _ (List.mem_append_left _ (List.mem_append_right _ (List.mem_append_right _ (List.mem_append_right _ (List.mem_append_right _ (List.mem_append_right _ (List.mem_append_right _ (List.mem_append_right _ (List.mem_append_right _ (List.mem_append_right _ (List.mem_append_right _ (List.mem_append_right _ (List.mem_append_right _ (List.mem_append_right _ (List.mem_append_right _ (List.mem_append_right _ (List.mem_append_right _ (List.mem_append_right _ (List.mem_append_right _ (List.mem_append_right _ (List.mem_append_right _ (List.mem_append_right _ (List.mem_append_right _ (List.mem_append_right _ (List.mem_append_right _ (List.mem_append_right _ (List.mem_append_right _ (List.mem_append_right _ (List.mem_append_right _ (List.mem_append_right _ (List.mem_append_right _ (List.mem_append_right _ (List.mem_append_right _ (List.mem_append_left _ h))))))))))))))))))))))))))))))))))))))))))))))))
theorem inU_34 : ∀ w ∈ wsL_law0_r34, w ∈ wsL_law := fun _ h => List.mem_append_left _ (List.mem_append_left _ (List.mem_append_left _ (List.mem_append_left _ (List.mem_append_left _ (List.mem_append_left _ (List.mem_append_left _ (List.mem_append_left _ (List.mem_append_left _ (List.mem_append_left _ (List.mem_append_left _ (List.mem_append_left _ (List.mem_append_left _ (List.mem_append_left _ (List.mem_append_left _ (List.mem_append_left _ (List.mem_append_right _ (List.mem_append_right _ (List.mem_append_right _ (List.mem_append_right _ (List.mem_append_right _ (List.mem_append_right _ (List.mem_append_right _ (List.mem_append_right _ (List.mem_append_right _ (List.mem_append_right _ (List.mem_append_right _ (List.mem_append_right _ (List.mem_append_right _ (List.mem_append_right _ (List.mem_append_right _ (List.mem_append_right _ (List.mem_append_right _ (List.mem_append_right _ (List.mem_append_right _ (List.mem_append_right _ (List.mem_append_right _ (List.mem_append_right _ (List.mem_append_right _ (List.mem_append_right _ (List.mem_append_right _ (List.mem_append_right _ (List.mem_append_right _ (List.mem_append_right _ (List.mem_append_right _ (List.mem_append_right _ (List.mem_append_right _ (List.mem_append_right _ (List.mem_append_right _ (List.mem_append_left _ h)))))))))))))))))))))))))))))))))))))))))))))))))
theorem inU_35 : ∀ w ∈ wsL_law0_r35, w ∈ wsL_law := fun _ h => List.mem_append_left _ (List.mem_append_left _ (List.mem_append_left _ (List.mem_append_left _ (List.mem_append_left _ (List.mem_append_left _ (List.mem_append_left _ (List.mem_append_left _ (List.mem_append_left _ (List.mem_append_left _ (List.mem_append_left _ (List.mem_append_left _ (List.mem_append_left _ (List.mem_append_left _ (List.mem_append_left _ (List.mem_append_left _ (List.mem_append_right _ (List.mem_append_right _ (List.mem_append_right _ (List.mem_append_right _ (List.mem_append_right _ (List.mem_append_right _ (List.mem_append_right _ (List.mem_append_right _ (List.mem_append_right _ (List.mem_append_right _ (List.mem_append_right _ (List.mem_append_right _ (List.mem_append_right _ (List.mem_append_right _ (List.mem_append_right _ (List.mem_append_right _ (List.mem_append_right _ (List.mem_append_right _ (List.mem_append_right _ (List.mem_append_right _ (List.mem_append_right _ (List.mem_append_right _ (List.mem_append_right _ (List.mem_append_right _ (List.mem_append_right _ (List.mem_append_right _ (List.mem_append_right _ (List.mem_append_right _ (List.mem_append_right _ (List.mem_append_right _ (List.mem_append_right _ (List.mem_append_right _ (List.mem_append_right _ (List.mem_append_right _ (List.mem_append_left _ h))))))))))))))))))))))))))))))))))))))))))))))))))
theorem inU_36 : ∀ w ∈ wsL_law0_r36, w ∈ wsL_law := fun _ h => List.mem_append_left _ (List.mem_append_left _ (List.mem_append_left _ (List.mem_append_left _ (List.mem_append_left _ (List.mem_append_left _ (List.mem_append_left _ (List.mem_append_left _ (List.mem_append_left _ (List.mem_append_left _ (List.mem_append_left _ (List.mem_append_left _ (List.mem_append_left _ (List.mem_append_left _ (List.mem_append_left _ (List.mem_append_left _ (List.mem_append_right _ (List.mem_append_right _ (List.mem_append_right _ (List.mem_append_right _ (List.mem_append_right _ (List.mem_append_right _ (List.mem_append_right _ (List.mem_append_right _ (List.mem_append_right _ (List.mem_append_right _ (List.mem_append_right _ (List.mem_append_right _ (List.mem_append_right _ (List.mem_append_right _ (List.mem_append_right _ (List.mem_append_right _ (List.mem_append_right _ (List.mem_append_right _ (List.mem_append_right _ (List.mem_append_right _ (List.mem_append_right _ (List.mem_append_right _ (List.mem_append_right _ (List.mem_append_right _ (List.mem_append_right _ (List.mem_append_right _ (List.mem_append_right _ (List.mem_append_right _ (List.mem_append_right _ (List.mem_append_right _ (List.mem_append_right _ (List.mem_append_right _ (List.mem_append_right _ (List.mem_append_right _ (List.mem_append_right _ (List.mem_append_left _ h)))))))))))))))))))))))))))))))))))))))))))))))))))
theorem inU_37 : ∀ w ∈ wsL_law0_r37, w ∈ wsL_law := fun _ h => List.mem_append_left _ (List.mem_append_left _ (List.mem_append_left _ (List.mem_append_left _ (List.mem_append_left _ (List.mem_append_left _ (List.mem_append_left _ (List.mem_append_left _ (List.mem_append_left _ (List.mem_append_left _ (List.mem_append_left _ (List.mem_append_left _ (List.mem_append_left _ (List.mem_append_left _ (List.mem_append_left _ (List.mem_append_left _ (List.mem_append_right _ (List.mem_append_right _ (List.mem_append_right _ (List.mem_append_right _ (List.mem_append_right _ (List.mem_append_right _ (List.mem_append_right _ (List.mem_append_right _ (List.mem_append_right _ (List.mem_append_right _ (List.mem_append_right _ (List.mem_append_right _ (List.mem_append_right _ (List.mem_append_right _ (List.mem_append_right _ (List.mem_append_right _ (List.mem_append_right _ (List.mem_append_right _ (List.mem_append_right _ (List.mem_append_right _ (List.mem_append_right _ (List.mem_append_right _ (List.mem_append_right _ (List.mem_append_right _ (List.mem_append_right _ (List.mem_append_right _ (List.mem_append_right _ (List.mem_append_right _ (List.mem_append_right _ (List.mem_append_right _ (List.mem_append_right _ (List.mem_append_right _ (List.mem_append_right _ (List.mem_append_right _ (List.mem_append_right _ (List.mem_append_right _ (List.mem_append_left _ h))))))))))))))))))))))))))))))))))))))))))))))))))))
theorem inU_38 : ∀ w ∈ wsL_law0_r38, w ∈ wsL_law := fun _ h => List.mem_append_left _ (List.mem_append_left _ (List.mem_append_left _ (List.mem_append_left _ (List.mem_append_left _ (List.mem_append_left _ (List.mem_append_left _ (List.mem_append_left _ (List.mem_append_left _ (List.mem_append_left _ (List.mem_append_left _ (List.mem_append_left _ (List.mem_append_left _ (List.mem_append_left _ (List.mem_append_left _ (List.mem_append_left _ (List.mem_append_right _ (List.mem_append_right _ (List.mem_append_right _ (List.mem_append_right _ (List.mem_append_right _ (List.mem_append_right _ (List.mem_append_right _ (List.mem_append_right _ (List.mem_append_right _ (List.mem_append_right _ (List.mem_append_right _ (List.mem_append_right _ (List.mem_append_right _ (List.mem_append_right _ (List.mem_append_right _ (List.mem_append_right _ (List.mem_append_right _ (List.mem_append_right _ (List.mem_append_right _ (List.mem_append_right _ (List.mem_append_right _ (List.mem_append_right _ (List.mem_append_right _ (List.mem_append_right _ (List.mem_append_right _ (List.mem_append_right _ (List.mem_append_right _ (List.mem_append_right _ (List.mem_append_right _ (List.mem_append_right _ (List.mem_append_right _ (List.mem_append_right _ (List.mem_append_right _ (List.mem_append_right _ (List.mem_append_right _ (List.mem_append_right _ (List.mem_append_right _ (h)))))))))))))))))))))))))))))))))))))))))))))))))))))
theorem inlX0 : ∀ w ∈ wsX00, w ∈ wsL_law := fun _ h => List.mem_append_left _ (List.mem_append_left _ (List.mem_append_left _ (List.mem_append_left _ (List.mem_append_left _ (List.mem_append_left _ (List.mem_append_left _ (List.mem_append_left _ (List.mem_append_left _ (List.mem_append_left _ (List.mem_append_left _ (List.mem_append_left _ (List.mem_append_right _ h))))))))))))
theorem inlX1 : ∀ w ∈ wsX10, w ∈ wsL_law := fun _ h => List.mem_append_left _ (List.mem_append_left _ (List.mem_append_left _ (List.mem_append_left _ (List.mem_append_left _ (List.mem_append_left _ (List.mem_append_left _ (List.mem_append_left _ (List.mem_append_left _ (List.mem_append_left _ (List.mem_append_left _ (List.mem_append_right _ h)))))))))))
theorem inlX2 : ∀ w ∈ wsX20, w ∈ wsL_law := fun _ h => List.mem_append_left _ (List.mem_append_left _ (List.mem_append_left _ (List.mem_append_left _ (List.mem_append_left _ (List.mem_append_left _ (List.mem_append_left _ (List.mem_append_left _ (List.mem_append_left _ (List.mem_append_left _ (List.mem_append_right _ h))))))))))
theorem inlX3 : ∀ w ∈ wsX30, w ∈ wsL_law := fun _ h => List.mem_append_left _ (List.mem_append_left _ (List.mem_append_left _ (List.mem_append_left _ (List.mem_append_left _ (List.mem_append_left _ (List.mem_append_left _ (List.mem_append_right _ h)))))))
theorem inlX4 : ∀ w ∈ wsX40, w ∈ wsL_law := fun _ h => List.mem_append_left _ (List.mem_append_left _ (List.mem_append_left _ (List.mem_append_left _ (List.mem_append_left _ (List.mem_append_left _ (List.mem_append_left _ (List.mem_append_left _ (List.mem_append_right _ h))))))))
theorem inlX5 : ∀ w ∈ wsX50, w ∈ wsL_law := fun _ h => List.mem_append_left _ (List.mem_append_left _ (List.mem_append_left _ (List.mem_append_left _ (List.mem_append_left _ (List.mem_append_left _ (List.mem_append_right _ h))))))
theorem inlX6 : ∀ w ∈ wsX60, w ∈ wsL_law := fun _ h => List.mem_append_left _ (List.mem_append_left _ (List.mem_append_left _ (List.mem_append_left _ (List.mem_append_left _ (List.mem_append_left _ (List.mem_append_left _ (List.mem_append_left _ (List.mem_append_left _ (List.mem_append_right _ h)))))))))
theorem inlX7 : ∀ w ∈ wsX70, w ∈ wsL_law := fun _ h => List.mem_append_left _ (List.mem_append_left _ (List.mem_append_left _ (List.mem_append_left _ (List.mem_append_left _ (List.mem_append_left _ (List.mem_append_left _ (List.mem_append_left _ (List.mem_append_left _ (List.mem_append_left _ (List.mem_append_left _ (List.mem_append_left _ (List.mem_append_left _ (List.mem_append_left _ (List.mem_append_left _ (List.mem_append_right _ h)))))))))))))))
theorem inlX8 : ∀ w ∈ wsX80, w ∈ wsL_law := fun _ h => List.mem_append_left _ (List.mem_append_left _ (List.mem_append_left _ (List.mem_append_left _ (List.mem_append_left _ (List.mem_append_left _ (List.mem_append_left _ (List.mem_append_left _ (List.mem_append_left _ (List.mem_append_left _ (List.mem_append_left _ (List.mem_append_left _ (List.mem_append_left _ (List.mem_append_left _ (List.mem_append_right _ h))))))))))))))
theorem inlJ0 : ∀ w ∈ wsJ00, w ∈ wsL_law := fun _ h => List.mem_append_left _ (List.mem_append_left _ (List.mem_append_left _ (List.mem_append_left _ (List.mem_append_right _ h))))
theorem inlJ4 : ∀ w ∈ wsJ40, w ∈ wsL_law := fun _ h => List.mem_append_left _ (List.mem_append_left _ (List.mem_append_left _ (List.mem_append_left _ (List.mem_append_left _ (List.mem_append_right _ h)))))
theorem inlJx4a65c : ∀ w ∈ wsJx4a65c0, w ∈ wsL_law := fun _ h => List.mem_append_left _ (List.mem_append_left _ (List.mem_append_left _ (List.mem_append_left _ (List.mem_append_left _ (List.mem_append_left _ (List.mem_append_left _ (List.mem_append_left _ (List.mem_append_left _ (List.mem_append_left _ (List.mem_append_left _ (List.mem_append_left _ (List.mem_append_left _ (List.mem_append_right _ h)))))))))))))
set_option maxRecDepth 100000 in
theorem wsL_good : ∀ w ∈ wsL_law, (w.onTables && w.keeps) = true ∨ ∃ ty, w = .arrayClass ty := fun w h => good_of_word (List.all_eq_true.mp (show wsL_law.all goodWord = true by decide +kernel) w h)
theorem k_goodIn {y : MethodName} {bytes : ByteArray} {maxL : Nat} {ret : Option FieldType} (h : Cond.code y bytes maxL ret ∈ wsL_law) : GoodIn wsL_law (Cond.code y bytes maxL ret :: wsL_law) := fun w hw => (List.mem_cons.mp hw).elim (fun e => by rw [e]; exact ⟨h, wsL_good _ h⟩) (fun h2 => ⟨h2, wsL_good w h2⟩)
section KW0
variable {R : Room} {s : State} {args : Array Value} {own C : String} {index maxL mc ms : Nat} {y : MethodName} {bytes : ByteArray} {ret : Option FieldType} {rm : Room}
theorem k_cwV (n : Nat) (ht : ∀ w ∈ wsL_law, w.before args s = true) (hl : Cond.methodLink own index y ∈ wsL_law) (hi : Cond.instanceMethod y ∈ wsL_law) (hse : Cond.selects C y y ∈ wsL_law) (hini : Cond.initialized y.cls ∈ wsL_law) (hc : Cond.code y bytes maxL ret ∈ wsL_law) (hrc : rm.cells = mc) (hrs : rm.slots = ms)
    (hd : y.cls ≠ "java/lang/invoke/MethodHandle" ∧ y.cls ≠ "java/lang/invoke/VarHandle" ∧ (parseMethodDescriptor y.desc).map (fun d => d.parameters.length) = some n) (hR : rm.frames + 1 ≤ R.frames ∧ 8 + (maxL + 11) + rm.locals ≤ R.locals) : CallW R s args own C index y bytes maxL ret (Cond.code y bytes maxL ret :: wsL_law) rm mc ms n :=
  ⟨callB_of n ht (k_goodIn hc) rfl hrc hrs (ht _ hini) (ht _ hl) hd hR, ht _ hi, ht _ hse⟩
theorem k_cwS (n : Nat) (ht : ∀ w ∈ wsL_law, w.before args s = true) (hl : Cond.methodLink own index y ∈ wsL_law) (hi : Cond.static y ∈ wsL_law) (hini : Cond.initialized y.cls ∈ wsL_law) (hc : Cond.code y bytes maxL ret ∈ wsL_law) (hrc : rm.cells = mc) (hrs : rm.slots = ms)
    (hd : y.cls ≠ "java/lang/invoke/MethodHandle" ∧ y.cls ≠ "java/lang/invoke/VarHandle" ∧ (parseMethodDescriptor y.desc).map (fun d => d.parameters.length) = some n) (hR : rm.frames + 1 ≤ R.frames ∧ 8 + (maxL + 11) + rm.locals ≤ R.locals) : CallB R s args own index y bytes maxL ret (Cond.code y bytes maxL ret :: wsL_law) rm mc ms n ∧ (Cond.static y).before args s = true :=
  ⟨callB_of n ht (k_goodIn hc) rfl hrc hrs (ht _ hini) (ht _ hl) hd hR, ht _ hi⟩
theorem k_cwI (n : Nat) (ht : ∀ w ∈ wsL_law, w.before args s = true) (hl : Cond.methodLink own index y ∈ wsL_law) (hi : Cond.instanceMethod y ∈ wsL_law) (hini : Cond.initialized y.cls ∈ wsL_law) (hc : Cond.code y bytes maxL none ∈ wsL_law) (hrc : rm.cells = mc) (hrs : rm.slots = ms) (hy1 : y.name = "<init>")
    (hd : y.cls ≠ "java/lang/invoke/MethodHandle" ∧ y.cls ≠ "java/lang/invoke/VarHandle" ∧ (parseMethodDescriptor y.desc).map (fun d => d.parameters.length) = some n) (hR : rm.frames + 1 ≤ R.frames ∧ 8 + (maxL + 11) + rm.locals ≤ R.locals) : CallB R s args own index y bytes maxL none (Cond.code y bytes maxL none :: wsL_law) rm mc ms n ∧ y.name = "<init>" ∧ (Cond.instanceMethod y).before args s = true :=
  ⟨callB_of n ht (k_goodIn hc) rfl hrc hrs (ht _ hini) (ht _ hl) hd hR, hy1, ht _ hi⟩
end KW0
/-! THE CORE: worlds by tags. A world is what each tag (kind, index) holds, and where: ct k i, ad k i. What lies below E's heap is never written. -/
abbrev kG : Type := va_G × (ClassId × ClassId × ClassId × ClassId × ClassId × Nat)
def kTy (G : kG) : List (ClassId × FieldType) := [(G.2.1, .byte), (G.2.2.1, .int), (G.2.2.2.1, .boolean), (G.2.2.2.2.1, .object "java/lang/Object"), (G.2.2.2.2.2.1, .long)]
abbrev kAd : Type := Nat → Nat → Nat
abbrev kCt : Type := Nat → Nat → Option va_E
def kW (b : Nat) (G : kG) (ad : kAd) (ct : kCt) (H : Heap) : Prop := b ≤ H.size ∧ (∀ (k i : Nat) (e : va_E), ct k i = some e → va_at G.1 vwCl (ad k i, e) H ∧ b ≤ ad k i) ∧ ∀ (k i k' i' : Nat) (e e' : va_E), ct k i = some e → ct k' i' = some e' → ad k i = ad k' i' → k = k' ∧ i = i'
def kB (b : Nat) : Nat → Prop := fun q => b ≤ q
def kM (E s : State) : Prop := E.WarmedH s.vm ∧ E.heap.size ≤ s.heap.size ∧ ∀ q : Nat, q < E.heap.size → s.heap[q]? = E.heap[q]?
def kX (E : State) (G : kG) (s : State) (H : Heap) (locs : List Loc) (ad : kAd) (ct : kCt) : Prop := kW E.heap.size G ad ct H ∧ va_S (kB E.heap.size) s.heap H locs
def kZ (p : Program) (m : MethodId) (c : Code) (cc : ByteArray) (nL : Nat) (s : State) (args : Array Value) (Ts : List Cond) (own : String) (E : State) (G : kG) : Prop := CallFix p m c cc nL s args Ts own ∧ kM E s ∧ va_K G.1 vwCl (kTy G) s
def kPre (E : State) (G : kG) (ad : kAd) (ct : kCt) (U : State) : Prop := kM E U ∧ va_K G.1 vwCl (kTy G) U ∧ kW E.heap.size G ad ct U.heap
def cup (ct : kCt) (k i : Nat) (e : va_E) : kCt := fun k' i' => if k' = k ∧ i' = i then some e else ct k' i'
def aup (ad : kAd) (k i q : Nat) : kAd := fun k' i' => if k' = k ∧ i' = i then q else ad k' i'
theorem cup_s {ct : kCt} {k i : Nat} {e : va_E} : cup ct k i e k i = some e := by simp [cup]
theorem cup_n {ct : kCt} {k i k' i' : Nat} {e : va_E} (h : ¬ (k' = k ∧ i' = i)) : cup ct k i e k' i' = ct k' i' := by simp [cup, h]
theorem cup_cup {ct : kCt} {k i : Nat} {e e' : va_E} : cup (cup ct k i e) k i e' = cup ct k i e' := by
  funext a b
  by_cases h : a = k ∧ b = i <;> simp [cup, h]
theorem aup_s {ad : kAd} {k i q : Nat} : aup ad k i q k i = q := by simp [aup]
theorem aup_n {ad : kAd} {k i k' i' q : Nat} (h : ¬ (k' = k ∧ i' = i)) : aup ad k i q k' i' = ad k' i' := by simp [aup, h]
theorem kW.at {b : Nat} {G : kG} {ad : kAd} {ct : kCt} {H : Heap} (h : kW b G ad ct H) {k i : Nat} {e : va_E} (hc : ct k i = some e) : va_P G.1 vwCl [(ad k i, e)] H := by
  intro j q hj
  have hz : j < 1 := (List.getElem?_eq_some_iff.mp hj).1
  rw [show j = 0 by omega] at hj
  cases hj
  exact (h.2.1 k i e hc).1
/-- one cell written -/
theorem kW.put {b : Nat} {G : kG} {ad : kAd} {ct : kCt} {H H1 : Heap} {k i : Nat} {e0 e : va_E} (h : kW b G ad ct H) (hc : ct k i = some e0) (z : H1.size = H.size) (he : va_at G.1 vwCl (ad k i, e) H1) (oq : ∀ q : Nat, q ≠ ad k i → H1[q]? = H[q]?) : kW b G ad (cup ct k i e) H1 := by
  obtain ⟨h1, h2, h3⟩ := h
  have key : ∀ (k' i' : Nat) (e' : va_E), cup ct k i e k' i' = some e' → (k' = k ∧ i' = i ∧ e' = e) ∨ (¬ (k' = k ∧ i' = i) ∧ ct k' i' = some e') := by
    intro k' i' e' hh
    by_cases hx : k' = k ∧ i' = i
    · rw [hx.1, hx.2, cup_s] at hh
      exact Or.inl ⟨hx.1, hx.2, (Option.some.inj hh).symm⟩
    · rw [cup_n hx] at hh
      exact Or.inr ⟨hx, hh⟩
  have key2 : ∀ (k' i' : Nat) (e' : va_E), cup ct k i e k' i' = some e' → ∃ e2, ct k' i' = some e2 := by
    intro k' i' e' hh
    rcases key k' i' e' hh with ⟨r1, r2, -⟩ | ⟨-, r⟩
    · rw [r1, r2]; exact ⟨_, hc⟩
    · exact ⟨_, r⟩
  refine ⟨by rw [z]; exact h1, fun k' i' e' hh => ?_, fun k1 i1 k2 i2 e1 e2 g1 g2 g3 => ?_⟩
  · rcases key k' i' e' hh with ⟨r1, r2, r3⟩ | ⟨r1, r2⟩
    · rw [r1, r2, r3]; exact ⟨he, (h2 k i e0 hc).2⟩
    · have hne : ad k' i' ≠ ad k i := fun z => r1 (h3 k' i' k i e' e0 r2 hc z)
      exact ⟨(h2 k' i' e' r2).1.kept (oq _ hne), (h2 k' i' e' r2).2⟩
  · obtain ⟨x1, y1⟩ := key2 k1 i1 e1 g1
    obtain ⟨x2, y2⟩ := key2 k2 i2 e2 g2
    exact h3 k1 i1 k2 i2 x1 x2 y1 y2 g3
/-- a cell that comes: under a tag that holds nothing, or whose thing is given up -/
theorem kW.push {b : Nat} {G : kG} {ad : kAd} {ct : kCt} {H H1 : Heap} {k i : Nat} {e : va_E} (h : kW b G ad ct H) (z : H1.size = H.size + 1) (he : va_at G.1 vwCl (H.size, e) H1) (oq : ∀ q : Nat, q < H.size → H1[q]? = H[q]?) : kW b G (aup ad k i H.size) (cup ct k i e) H1 := by
  obtain ⟨h1, h2, h3⟩ := h
  have key : ∀ (k' i' : Nat) (e' : va_E), cup ct k i e k' i' = some e' → (k' = k ∧ i' = i ∧ e' = e ∧ aup ad k i H.size k' i' = H.size) ∨ (¬ (k' = k ∧ i' = i) ∧ ct k' i' = some e' ∧ aup ad k i H.size k' i' = ad k' i' ∧ ad k' i' < H.size) := by
    intro k' i' e' hh
    by_cases hx : k' = k ∧ i' = i
    · rw [hx.1, hx.2, cup_s] at hh
      exact Or.inl ⟨hx.1, hx.2, (Option.some.inj hh).symm, by rw [hx.1, hx.2, aup_s]⟩
    · rw [cup_n hx] at hh
      exact Or.inr ⟨hx, hh, aup_n hx, (h2 k' i' e' hh).1.lt⟩
  refine ⟨by omega, fun k' i' e' hh => ?_, fun k1 i1 k2 i2 e1 e2 g1 g2 g3 => ?_⟩
  · rcases key k' i' e' hh with ⟨r1, r2, r3, r4⟩ | ⟨r1, r2, r3, r4⟩
    · rw [r4, r3]; exact ⟨he, h1⟩
    · rw [r3]; exact ⟨(h2 k' i' e' r2).1.kept (oq _ r4), (h2 k' i' e' r2).2⟩
  · rcases key k1 i1 e1 g1 with ⟨r1, r2, r3, r4⟩ | ⟨r1, r2, r3, r4⟩ <;> rcases key k2 i2 e2 g2 with ⟨q1, q2, q3, q4⟩ | ⟨q1, q2, q3, q4⟩
    · exact ⟨r1.trans q1.symm, r2.trans q2.symm⟩
    · rw [r4, q3] at g3; omega
    · rw [r3, q4] at g3; omega
    · rw [r3, q3] at g3; exact h3 k1 i1 k2 i2 e1 e2 r2 q2 g3
/-- cells that are told no more -/
theorem kW.drop {b : Nat} {G : kG} {ad ad' : kAd} {ct ct' : kCt} {H : Heap} (h : kW b G ad ct H) (hc : ∀ (k i : Nat) (e : va_E), ct' k i = some e → ct k i = some e ∧ ad' k i = ad k i) : kW b G ad' ct' H := by
  refine ⟨h.1, fun k i e hh => ?_, fun k i k' i' e e' g1 g2 g3 => ?_⟩
  · obtain ⟨r1, r2⟩ := hc k i e hh
    rw [r2]; exact h.2.1 k i e r1
  · obtain ⟨r1, r2⟩ := hc k i e g1
    obtain ⟨q1, q2⟩ := hc k' i' e' g2
    exact h.2.2 k i k' i' e e' r1 q1 (by rw [← r2, ← q2]; exact g3)
theorem kW.kept {b : Nat} {G : kG} {ad : kAd} {ct : kCt} {H H1 : Heap} (h : kW b G ad ct H) (hz : H.size ≤ H1.size) (oq : ∀ q : Nat, q < H.size → H1[q]? = H[q]?) : kW b G ad ct H1 :=
  ⟨Nat.le_trans h.1 hz, fun k i e hh => ⟨(h.2.1 k i e hh).1.kept (oq _ (h.2.1 k i e hh).1.lt), (h.2.1 k i e hh).2⟩, h.2.2⟩
theorem kX.drop {E : State} {G : kG} {s : State} {H : Heap} {locs : List Loc} {ad ad' : kAd} {ct ct' : kCt} (h : kX E G s H locs ad ct) (hc : ∀ (k i : Nat) (e : va_E), ct' k i = some e → ct k i = some e ∧ ad' k i = ad k i) : kX E G s H locs ad' ct' := ⟨h.1.drop hc, h.2⟩
theorem kX.eq {E : State} {G : kG} {s : State} {H : Heap} {locs : List Loc} {ad : kAd} {ct ct' : kCt} (h : kX E G s H locs ad ct) (e : ct = ct') : kX E G s H locs ad ct' := e ▸ h
theorem kX.of {E : State} {G : kG} {s : State} {ad : kAd} {ct : kCt} (h : kW E.heap.size G ad ct s.heap) : kX E G s s.heap [] ad ct := ⟨h, va_S.rf⟩
theorem kPre.at {E : State} {G : kG} {s : State} {H : Heap} {locs : List Loc} {ad : kAd} {ct : kCt} (hM : kM E s) (hK : va_K G.1 vwCl (kTy G) s) (h : kX E G s H locs ad ct) {U : State} (hU : U.heap = H) (hW : s.WarmedH U.vm) : kPre E G ad ct U := by
  refine ⟨⟨hM.1.trans hW, by rw [hU]; exact Nat.le_trans hM.2.1 h.2.1, fun q hq => ?_⟩, va_K.moved hW.alike hK, by rw [hU]; exact h.1⟩
  rw [hU, h.2.2.1 q (Nat.lt_of_lt_of_le hq hM.2.1) (Nat.not_le.mpr hq)]
  exact hM.2.2 q hq
theorem kBlind {E : State} {G : kG} {ad : kAd} {ct : kCt} {av : List Value} : FrameBlind (va_Pc av (kPre E G ad ct)) := by
  intro a U g mk q
  obtain ⟨q1, ⟨q2, q3, q4⟩, q5, q6⟩ := q
  exact ⟨q1, ⟨q2, q3, q4⟩, va_K.moved (u := U) (U := U.calling g mk a) (Vm.Alike.refl U.vm) q5, q6⟩
section KR
variable {p : Program} {l : Launch} {e : Env} {R : Room} {s : State} {m : MethodId} {args : Array Value} {below : List Frame} {meth : Method} {c : Code} {H : Heap} {locs : List Loc} {cells slots : Nat} {Q : State → Prop}
variable {cc : ByteArray} {nL : Nat} {Ts : List Cond} {own : String} {E : State} {G : kG} {ad : kAd} {ct : kCt} {pc : Nat} {ls : Array Slot} {rest : List Value}
theorem k_recv {k i ci : Nat} {r : vw_C} {fs : List Value} (Z : kZ p m c cc nL s args Ts own E G) (X : kX E G s H locs ad ct) (hc : ct k i = some (.inr (ci, fs))) (hcl : vwCl[ci]? = some r) : ∃ cell : Cell, H[ad k i]? = some cell ∧ cell.vm.isStatics = false ∧ s.vm.findClass r.1 = some cell.cls :=
  va_recv (q0 := 0) Z.2.2 (X.1.at hc) hcl rfl
theorem k_get {C ref : String} {T : u_T} {N ci k i j index : Nat} {fs : List Value} {v : Value} (Z : kZ p m c cc nL s args Ts own E G) (X : kX E G s H locs ad ct) (hc : ct k i = some (.inr (ci, fs))) (hin : ∀ w ∈ u_ws C T N, w ∈ Ts) (hcl : vwCl[ci]? = some (C, T, N)) (hj : j < N) (hlink : Cond.fieldLink own index ref (T j).2.1 (T j).2.2.1 ∈ Ts) (hsame : ∀ x, s.fieldFound? (T j).1 (T j).2.1 (T j).2.2.1 = some x → s.fieldFound? ref (T j).2.1 (T j).2.2.1 = some x) (hv : fs[j]? = some v) (hdg : decode cc pc = .ok (.getfield index, 3))
    (kk : W p l e R s m args below meth c H locs cells slots Q (F0 m (pc + 3) ls (v :: rest))) : W p l e R s m args below meth c H locs cells slots Q (F0 m pc ls (.ref (ad k i) :: rest)) :=
  va_get (D := G.1) Z.1.1 Z.1.2.1 Z.1.2.2.2.2 hin Z.1.2.2.2.1 Z.2.2 (X.1.at hc) 0 rfl hcl j hj (Z.1.2.2.2.2 _ hlink) hsame hv hdg kk
theorem k_put {C ref : String} {T : u_T} {N ci k i j index : Nat} {fs : List Value} {v : Value} {ty0 : Nat → FieldType} (Z : kZ p m c cc nL s args Ts own E G) (X : kX E G s H locs ad ct) (hc : ct k i = some (.inr (ci, fs))) (hin : ∀ w ∈ u_ws C T N, w ∈ Ts) (hty : ∀ k, k < N → parseFieldDescriptor (T k).2.2.1 = some (ty0 k)) (hnm : ∀ a, a < N → ∀ b, b < N → a ≠ b → (T a).2.1 ≠ (T b).2.1) (hcl : vwCl[ci]? = some (C, T, N)) (hj : j < N) (hlink : Cond.fieldLink own index ref (T j).2.1 (T j).2.2.1 ∈ Ts) (hsame : ∀ x, s.fieldFound? (T j).1 (T j).2.1 (T j).2.2.1 = some x → s.fieldFound? ref (T j).2.1 (T j).2.2.1 = some x) (hfin : (T j).2.2.2 = false) (hl : j < fs.length) (hn : narrow (ty0 j) v = v) (hfit : fits (ty0 j) v = true) (hdg : decode cc pc = .ok (.putfield index, 3))
    (kk : ∀ (H1 : Heap) (locs1 : List Loc), kX E G s H1 locs1 ad (cup ct k i (.inr (ci, fs.set j v))) → W p l e R s m args below meth c H1 locs1 cells slots Q (F0 m (pc + 3) ls rest)) : W p l e R s m args below meth c H locs cells slots Q (F0 m pc ls (v :: .ref (ad k i) :: rest)) := by
  obtain ⟨⟨hexec, hb, hml, hown, hts⟩, hM, hK⟩ := Z
  have hap := va_apart (own := own) hts hin ty0 hty hnm hK hcl
  obtain ⟨⟨r, h1, cell, q1, q2, q3, q4⟩, hba⟩ := X.1.2.1 k i _ hc
  have hr : r = (C, T, N) := Option.some.inj (h1.symm.trans hcl)
  subst hr
  obtain ⟨hS, hfc, kC, hkC, hkind⟩ := hK.1 ci _ hcl
  obtain ⟨cf, kf, fi, f, hi, hsl⟩ := hS j hj
  have hlay := hts _ (hin _ (u_in_lay hj))
  unfold u_lay at hlay
  rw [if_neg (by rw [hfin]; decide)] at hlay
  have hst := (u_facts hfc hkC (u_lays hts hin hj) hi).1
  have h6 := u_store hfc hkC hkind hlay hi (hty j hj) hn hfit
  refine W.putK hexec hb (f := f) ⟨hown, hts _ hlink, ⟨_, _, _, hsame _ hi⟩, hst⟩ (by rw [q2]; exact h6) q1 q3 (by rw [hsl]; exact k2_hasslot (q4 j hj)) rfl rfl hdg fun H' e1 e2 e3 => ?_
  rw [hsl] at e1 ⊢
  exact kk H' _ ⟨X.1.put hc e2 ⟨_, hcl, t_OB.to (V := updV (vp_V fs) j v) ⟨_, e1, q2, q3, t_set q4 hap hj v⟩ (fun j2 _ => vp_updV_set hl v j2)⟩ e3, X.2.put e2 e3 hba⟩
theorem k_putF {C : String} {T : u_T} {N ci k i j index : Nat} {fs : List Value} {v : Value} {ty0 : Nat → FieldType} (Z : kZ p m c cc nL s args Ts own E G) (X : kX E G s H locs ad ct) (hc : ct k i = some (.inr (ci, fs))) (hin : ∀ w ∈ u_ws C T N, w ∈ Ts) (hty : ∀ k, k < N → parseFieldDescriptor (T k).2.2.1 = some (ty0 k)) (hnm : ∀ a, a < N → ∀ b, b < N → a ≠ b → (T a).2.1 ≠ (T b).2.1) (hcl : vwCl[ci]? = some (C, T, N)) (hj : j < N) (hlink : Cond.fieldLink own index (T j).1 (T j).2.1 (T j).2.2.1 ∈ Ts) (hfin : (T j).2.2.2 = true) (hin2 : meth.name = "<init>") (hdecl : (T j).1 = own) (hl : j < fs.length) (hn : narrow (ty0 j) v = v) (hfit : fits (ty0 j) v = true) (hdg : decode cc pc = .ok (.putfield index, 3))
    (kk : ∀ (H1 : Heap) (locs1 : List Loc), kX E G s H1 locs1 ad (cup ct k i (.inr (ci, fs.set j v))) → W p l e R s m args below meth c H1 locs1 cells slots Q (F0 m (pc + 3) ls rest)) : W p l e R s m args below meth c H locs cells slots Q (F0 m pc ls (v :: .ref (ad k i) :: rest)) := by
  obtain ⟨⟨hexec, hb, hml, hown, hts⟩, hM, hK⟩ := Z
  have hap := va_apart (own := own) hts hin ty0 hty hnm hK hcl
  obtain ⟨⟨r, h1, cell, q1, q2, q3, q4⟩, hba⟩ := X.1.2.1 k i _ hc
  have hr : r = (C, T, N) := Option.some.inj (h1.symm.trans hcl)
  subst hr
  obtain ⟨hS, hfc, kC, hkC, hkind⟩ := hK.1 ci _ hcl
  obtain ⟨cf, kf, fi, f, hi, hsl⟩ := hS j hj
  have hlay := hts _ (hin _ (u_in_lay hj))
  unfold u_lay at hlay
  rw [if_pos hfin] at hlay
  have hst := (u_facts hfc hkC (u_lays hts hin hj) hi).1
  have hcf : m.cls = cf := by
    obtain ⟨_, _, c', _, _, _, -, -, hf', -, -, -, hown2, -⟩ := Cond.laysFinal_spec hlay
    have e1 : c' = cf := by have := hi.symm.trans hf'; simp at this; exact this.1.symm
    rw [hdecl] at hown2
    rw [← e1]; exact Option.some.inj (hown.symm.trans hown2)
  have h6 := u_fits hfc hkC hkind (Or.inr hlay) hi (hty j hj) hn hfit
  refine W.putFinK hexec hb hown (hts _ hlink) hi hst hcf hin2 (by rw [q2]; exact h6) q1 q3 (by rw [hsl]; exact k2_hasslot (q4 j hj)) rfl rfl hdg fun H' e1 e2 e3 => ?_
  rw [hsl] at e1 ⊢
  exact kk H' _ ⟨X.1.put hc e2 ⟨_, hcl, t_OB.to (V := updV (vp_V fs) j v) ⟨_, e1, q2, q3, t_set q4 hap hj v⟩ (fun j2 _ => vp_updV_set hl v j2)⟩ e3, X.2.put e2 e3 hba⟩
theorem k_ild {k i n : Nat} {f : Nat → Int32} {x : Int32} (Z : kZ p m c cc nL s args Ts own E G) (X : kX E G s H locs ad ct) (hc : ct k i = some (.inl (G.2.2.1, n, .inl f))) (hx : vp_in x n) (hdg : decode cc pc = .ok (.iaload, 1))
    (kk : W p l e R s m args below meth c H locs cells slots Q (F0 m (pc + 1) ls (.int (f x.toNatClampNeg) :: rest))) : W p l e R s m args below meth c H locs cells slots Q (F0 m pc ls (.int x :: .ref (ad k i) :: rest)) :=
  va_iald (tys := kTy G) Z.1.1 Z.1.2.1 Z.2.2 (X.1.at hc) 0 1 rfl rfl hx hdg kk
theorem k_bld {k i n : Nat} {f : Nat → Int32} {x : Int32} (Z : kZ p m c cc nL s args Ts own E G) (X : kX E G s H locs ad ct) (hc : ct k i = some (.inl (G.2.1, n, .inl f))) (hx : vp_in x n) (hdg : decode cc pc = .ok (.baload, 1))
    (kk : W p l e R s m args below meth c H locs cells slots Q (F0 m (pc + 1) ls (.int (f x.toNatClampNeg) :: rest))) : W p l e R s m args below meth c H locs cells slots Q (F0 m pc ls (.int x :: .ref (ad k i) :: rest)) :=
  va_bald (tys := kTy G) Z.1.1 Z.1.2.1 Z.2.2 (X.1.at hc) 0 0 rfl rfl hx hdg kk
theorem k_zld {k i n : Nat} {f : Nat → Int32} {x : Int32} (Z : kZ p m c cc nL s args Ts own E G) (X : kX E G s H locs ad ct) (hc : ct k i = some (.inl (G.2.2.2.1, n, .inl f))) (hx : vp_in x n) (hdg : decode cc pc = .ok (.baload, 1))
    (kk : W p l e R s m args below meth c H locs cells slots Q (F0 m (pc + 1) ls (.int (f x.toNatClampNeg) :: rest))) : W p l e R s m args below meth c H locs cells slots Q (F0 m pc ls (.int x :: .ref (ad k i) :: rest)) :=
  va_zald (tys := kTy G) Z.1.1 Z.1.2.1 Z.2.2 (X.1.at hc) 0 2 rfl rfl hx hdg kk
theorem k_lld {k i n : Nat} {f : Nat → Int64} {x : Int32} (Z : kZ p m c cc nL s args Ts own E G) (X : kX E G s H locs ad ct) (hc : ct k i = some (.inl (G.2.2.2.2.2.1, n, .inr (.inl f)))) (hx : vp_in x n) (hdg : decode cc pc = .ok (.laload, 1))
    (kk : W p l e R s m args below meth c H locs cells slots Q (F0 m (pc + 1) ls (.long (f x.toNatClampNeg) :: rest))) : W p l e R s m args below meth c H locs cells slots Q (F0 m pc ls (.int x :: .ref (ad k i) :: rest)) :=
  va_lald (tys := kTy G) Z.1.1 Z.1.2.1 Z.2.2 (X.1.at hc) 0 4 rfl rfl hx hdg kk
theorem k_ald {k i n : Nat} {f : Nat → Option Nat} {x : Int32} (Z : kZ p m c cc nL s args Ts own E G) (X : kX E G s H locs ad ct) (hc : ct k i = some (.inl (G.2.2.2.2.1, n, .inr (.inr (.inr (.inr f)))))) (hx : vp_in x n) (hdg : decode cc pc = .ok (.aaload, 1))
    (kk : W p l e R s m args below meth c H locs cells slots Q (F0 m (pc + 1) ls (va_rf (f x.toNatClampNeg) :: rest))) : W p l e R s m args below meth c H locs cells slots Q (F0 m pc ls (.int x :: .ref (ad k i) :: rest)) :=
  va_aldq (tys := kTy G) Z.1.1 Z.1.2.1 Z.2.2 (X.1.at hc) 0 3 rfl rfl hx hdg kk
theorem k_len {k i t0 : Nat} {cA : ClassId} {x : vp_A} {ty : FieldType} {v : Int32} (Z : kZ p m c cc nL s args Ts own E G) (X : kX E G s H locs ad ct) (hc : ct k i = some (.inl (cA, x))) (ht : (kTy G)[t0]? = some (cA, ty)) (hv : Int32.ofNat x.1 = v) (hdg : decode cc pc = .ok (.arraylength, 1))
    (kk : W p l e R s m args below meth c H locs cells slots Q (F0 m (pc + 1) ls (.int v :: rest))) : W p l e R s m args below meth c H locs cells slots Q (F0 m pc ls (.ref (ad k i) :: rest)) :=
  va_alen (tys := kTy G) Z.1.1 Z.1.2.1 Z.2.2 (X.1.at hc) 0 t0 rfl ht hv hdg kk
theorem k_ist {k i n : Nat} {f : Nat → Int32} {x v : Int32} (Z : kZ p m c cc nL s args Ts own E G) (X : kX E G s H locs ad ct) (hc : ct k i = some (.inl (G.2.2.1, n, .inl f))) (hx : vp_in x n) (hdg : decode cc pc = .ok (.iastore, 1))
    (kk : ∀ (H1 : Heap) (locs1 : List Loc), kX E G s H1 locs1 ad (cup ct k i (.inl (G.2.2.1, n, .inl (upd f x.toNatClampNeg v)))) → W p l e R s m args below meth c H1 locs1 cells slots Q (F0 m (pc + 1) ls rest)) : W p l e R s m args below meth c H locs cells slots Q (F0 m pc ls (.int v :: .int x :: .ref (ad k i) :: rest)) := by
  refine W.iast Z.1.1 Z.1.2.1 (X.1.2.1 k i _ hc).1 ((Z.2.2.2 1 _ rfl).1 n (fun j => .int (f j))) (fun q => by cases q) (by show ¬ (x < 0 ∨ (arrV _ _ _).slots.size ≤ _); rw [arrV_size]; exact hx) rfl rfl hdg fun H1 e z oq => ?_
  refine kk H1 _ ⟨X.1.put hc z ?_ oq, X.2.put z oq (X.1.2.1 k i _ hc).2⟩
  show H1[ad k i]? = some (vp_cell _ _)
  rw [e]
  rw [vp_cell_i, vp_cell_i, arrV_store]
  congr 2
  funext q
  by_cases hq : q = x.toNatClampNeg
  · subst hq
    simp [updV, upd]
  · simp [updV, upd, hq]
theorem k_bst {k i n : Nat} {f : Nat → Int32} {x v : Int32} (Z : kZ p m c cc nL s args Ts own E G) (X : kX E G s H locs ad ct) (hc : ct k i = some (.inl (G.2.1, n, .inl f))) (hx : vp_in x n) (hdg : decode cc pc = .ok (.bastore, 1))
    (kk : ∀ (H1 : Heap) (locs1 : List Loc), kX E G s H1 locs1 ad (cup ct k i (.inl (G.2.1, n, .inl (upd f x.toNatClampNeg v.toInt8.toInt32)))) → W p l e R s m args below meth c H1 locs1 cells slots Q (F0 m (pc + 1) ls rest)) : W p l e R s m args below meth c H locs cells slots Q (F0 m pc ls (.int v :: .int x :: .ref (ad k i) :: rest)) := by
  refine W.bast Z.1.1 Z.1.2.1 (X.1.2.1 k i _ hc).1 ((Z.2.2.2 0 _ rfl).1 n (fun j => .int (f j))) (fun q => by cases q) (by show ¬ (x < 0 ∨ (arrV _ _ _).slots.size ≤ _); rw [arrV_size]; exact hx) rfl rfl hdg fun H1 e z oq => ?_
  refine kk H1 _ ⟨X.1.put hc z ?_ oq, X.2.put z oq (X.1.2.1 k i _ hc).2⟩
  show H1[ad k i]? = some (vp_cell _ _)
  rw [e]
  rw [vp_cell_i, vp_cell_i, arrV_store]
  congr 2
  funext q
  by_cases hq : q = x.toNatClampNeg
  · subst hq
    simp [updV, upd]
    try rfl
  · simp [updV, upd, hq]
theorem k_zst {k i n : Nat} {f : Nat → Int32} {x v : Int32} (Z : kZ p m c cc nL s args Ts own E G) (X : kX E G s H locs ad ct) (hc : ct k i = some (.inl (G.2.2.2.1, n, .inl f))) (hx : vp_in x n) (hv : v = 0 ∨ v = 1) (hdg : decode cc pc = .ok (.bastore, 1))
    (kk : ∀ (H1 : Heap) (locs1 : List Loc), kX E G s H1 locs1 ad (cup ct k i (.inl (G.2.2.2.1, n, .inl (upd f x.toNatClampNeg v)))) → W p l e R s m args below meth c H1 locs1 cells slots Q (F0 m (pc + 1) ls rest)) : W p l e R s m args below meth c H locs cells slots Q (F0 m pc ls (.int v :: .int x :: .ref (ad k i) :: rest)) := by
  refine W.zast Z.1.1 Z.1.2.1 (X.1.2.1 k i _ hc).1 ((Z.2.2.2 2 _ rfl).1 n (fun j => .int (f j))) (fun q => by cases q) (by show ¬ (x < 0 ∨ (arrV _ _ _).slots.size ≤ _); rw [arrV_size]; exact hx) rfl rfl hdg fun H1 e z oq => ?_
  refine kk H1 _ ⟨X.1.put hc z ?_ oq, X.2.put z oq (X.1.2.1 k i _ hc).2⟩
  show H1[ad k i]? = some (vp_cell _ _)
  rw [e]
  have hnv : narrow .boolean (.int v) = .int v := by rcases hv with rfl | rfl <;> decide
  rw [hnv, vp_cell_i, vp_cell_i, arrV_store]
  congr 2
  funext q
  by_cases hq : q = x.toNatClampNeg
  · subst hq
    simp [updV, upd]
  · simp [updV, upd, hq]
theorem k_lst {k i n : Nat} {f : Nat → Int64} {x : Int32} {v : Int64} (Z : kZ p m c cc nL s args Ts own E G) (X : kX E G s H locs ad ct) (hc : ct k i = some (.inl (G.2.2.2.2.2.1, n, .inr (.inl f)))) (hx : vp_in x n) (hdg : decode cc pc = .ok (.lastore, 1))
    (kk : ∀ (H1 : Heap) (locs1 : List Loc), kX E G s H1 locs1 ad (cup ct k i (.inl (G.2.2.2.2.2.1, n, .inr (.inl (vp_updL f x.toNatClampNeg v))))) → W p l e R s m args below meth c H1 locs1 cells slots Q (F0 m (pc + 1) ls rest)) : W p l e R s m args below meth c H locs cells slots Q (F0 m pc ls (.long v :: .int x :: .ref (ad k i) :: rest)) := by
  refine W.last Z.1.1 Z.1.2.1 (X.1.2.1 k i _ hc).1 ((Z.2.2.2 4 _ rfl).1 n (fun j => .long (f j))) (fun q => by cases q) (by show ¬ (x < 0 ∨ (arrV _ _ _).slots.size ≤ _); rw [arrV_size]; exact hx) rfl rfl hdg fun H1 e z oq => ?_
  refine kk H1 _ ⟨X.1.put hc z ?_ oq, X.2.put z oq (X.1.2.1 k i _ hc).2⟩
  show H1[ad k i]? = some (vp_cell _ _)
  rw [e]
  rw [vp_cell_l, vp_cell_l, arrV_store]
  congr 2
  funext q
  by_cases hq : q = x.toNatClampNeg
  · subst hq
    simp [updV, vp_updL]
  · simp [updV, vp_updL, hq]
theorem k_ast {k i n k2 i2 ci : Nat} {r : vw_C} {vs : List Value} {f : Nat → Option Nat} {x : Int32} (Z : kZ p m c cc nL s args Ts own E G) (X : kX E G s H locs ad ct) (hc : ct k i = some (.inl (G.2.2.2.2.1, n, .inr (.inr (.inr (.inr f)))))) (hca : va_Nw (.castable r.1 "java/lang/Object") s) (hv : ct k2 i2 = some (.inr (ci, vs))) (hcl : vwCl[ci]? = some r) (hx : vp_in x n) (hdg : decode cc pc = .ok (.aastore, 1))
    (kk : ∀ (H1 : Heap) (locs1 : List Loc), kX E G s H1 locs1 ad (cup ct k i (.inl (G.2.2.2.2.1, n, .inr (.inr (.inr (.inr (va_up f x.toNatClampNeg (some (ad k2 i2))))))))) → W p l e R s m args below meth c H1 locs1 cells slots Q (F0 m (pc + 1) ls rest)) : W p l e R s m args below meth c H locs cells slots Q (F0 m pc ls (.ref (ad k2 i2) :: .int x :: .ref (ad k i) :: rest)) := by
  have hlt : x.toNatClampNeg < n := Nat.not_le.mp fun q => hx (Or.inr q)
  have h0 : ¬ x < 0 := fun q => hx (Or.inl q)
  obtain ⟨⟨r', hr', cellV, g1, g2, g3, -⟩, -⟩ := X.1.2.1 k2 i2 _ hv
  have hcls := (Z.2.2.1 ci r hcl).2
  obtain ⟨kA, comp, k1, k2', k3, -⟩ := (Z.2.2.2 3 _ rfl).2
  obtain ⟨kE, hkE, -⟩ := Vm.findClass_spec k3
  obtain ⟨c0, t1, f1, f2, f3⟩ := Cond.castable_spec (va_Nw.use (A := args) rfl hca)
  cases hcls.1.symm.trans f1
  cases k3.symm.trans f2
  obtain ⟨kC, hkC, -⟩ := hcls.2
  refine W.aast Z.1.1 Z.1.2.1 (X.1.2.1 k i _ hc).1 (fun q h => by cases h) (fun h => by cases h) k1 k2' rfl hkE ⟨h0, by show _ < (arrV _ _ _).slots.size; rw [arrV_size]; exact hlt⟩ g1 (fun q h => by rw [g3] at h; cases h) (by rw [g2]; exact hkC) (by rw [g2]; exact f3) rfl rfl hdg fun H1 e z oq => ?_
  refine kk H1 _ ⟨X.1.put hc z ?_ oq, X.2.put z oq (X.1.2.1 k i _ hc).2⟩
  show H1[ad k i]? = some (vp_cell _ _)
  rw [e]
  rw [vp_cell_q, vp_cell_q, arrV_store]
  congr 2
  funext q
  by_cases hq : q = x.toNatClampNeg
  · subst hq
    simp [updV, va_up, va_rf]
  · simp [updV, va_up, hq]
theorem va_S.push {A : Nat → Prop} {H0 H H1 : Heap} {locs : List Loc} (h : va_S A H0 H locs) (z : H1.size = H.size + 1) (oq : ∀ q : Nat, q < H.size → H1[q]? = H[q]?) : va_S A H0 H1 locs :=
  ⟨Nat.le_trans h.1 (by omega), fun x h1 h2 => (oq x (Nat.lt_of_lt_of_le h1 h.1)).trans (h.2.1 x h1 h2), h.2.2⟩
theorem k_new {C : String} {T : u_T} {N ci index : Nat} {fs : List Value} {ty0 : Nat → FieldType} (k i : Nat) (Z : kZ p m c cc nL s args Ts own E G) (X : kX E G s H locs ad ct) (hin : ∀ w ∈ u_ws C T N, w ∈ Ts) (hty : ∀ k, k < N → parseFieldDescriptor (T k).2.2.1 = some (ty0 k)) (hcl : vwCl[ci]? = some (C, T, N)) (hlink : Cond.classLink own index C ∈ Ts) (hinst : Cond.instantiable C N ∈ Ts) (hini : Cond.initialized C ∈ Ts) (hfs : ∀ j, j < N → defaultValue (ty0 j) = vp_V fs j) (hcells : cells + 1 ≤ R.cells) (hslots : slots + N ≤ R.slots) (hdg : decode cc pc = .ok (.new index, 3))
    (kk : ∀ (q : Nat) (H1 : Heap), kX E G s H1 locs (aup ad k i q) (cup ct k i (.inr (ci, fs))) → W p l e R s m args below meth c H1 locs (cells + 1) (slots + N) Q (F0 m (pc + 3) ls (.ref q :: rest))) : W p l e R s m args below meth c H locs cells slots Q (F0 m pc ls rest) := by
  obtain ⟨⟨hexec, hb, hml, hown, hts⟩, hM, hK⟩ := Z
  have hKn := hK.1 ci _ hcl
  refine W.newcK hexec hb hown (hts _ hlink) (hts _ hinst) (hts _ hini) rfl hdg hcells hslots hKn.2.1 rfl fun H1 kC hkC e1 z1 o1 => ?_
  exact kk H.size H1 ⟨X.1.push z1 ⟨_, hcl, (u_born ty0 hts hin hKn hkC e1 hty).to hfs⟩ o1, X.2.push z1 o1⟩
theorem k_newa {atype : ArrayType} {ty : FieldType} {t0 N' : Nat} {cA : ClassId} {n : Int32} {a0 : vp_A} (k i : Nat) (Z : kZ p m c cc nL s args Ts own E G) (X : kX E G s H locs ad ct) (harr : Cond.arrayClass (newarray.typeOf atype) ∈ Ts) (hty : newarray.typeOf atype = ty) (ht : (kTy G)[t0]? = some (cA, ty)) (hnm : va_RA s cA ty → s.vm.findClass ("[" ++ ty.toString) = some cA) (ha : vp_cell cA a0 = arrV cA N' (fun _ => defaultValue ty)) (hn : ¬ n < 0) (hN : n.toNatClampNeg = N') (hbytes : N' * componentBytes ty ≤ 536870912) (hcells : cells + 1 ≤ R.cells) (hslots : slots + N' ≤ R.slots) (hdg : decode cc pc = .ok (.newarray atype, 2))
    (kk : ∀ (q : Nat) (H1 : Heap), kX E G s H1 locs (aup ad k i q) (cup ct k i (.inl (cA, a0))) → W p l e R s m args below meth c H1 locs (cells + 1) (slots + N') Q (F0 m (pc + 2) ls (.ref q :: rest))) : W p l e R s m args below meth c H locs cells slots Q (F0 m pc ls (.int n :: rest)) := by
  subst hty
  obtain ⟨⟨hexec, hb, hml, hown, hts⟩, hM, hK⟩ := Z
  refine va_newaK hexec hb (hts _ harr) rfl hdg rfl hn hN hbytes hcells hslots rfl fun H1 cB e1 z1 o1 hAr hNm => ?_
  have he : cB = cA := Option.some.inj (hNm.symm.trans (hnm (hK.2 t0 _ ht).2))
  subst he
  refine kk H.size H1 ⟨X.1.push z1 ?_ o1, X.2.push z1 o1⟩
  show H1[H.size]? = some (vp_cell _ _)
  rw [ha]
  exact e1
theorem k_newq {index N' : Nat} {n : Int32} (k i : Nat) (Z : kZ p m c cc nL s args Ts own E G) (X : kX E G s H locs ad ct) (hlink : Cond.classLink own index "java/lang/Object" ∈ Ts) (hover : va_AO "java/lang/Object" s) (hn : ¬ n < 0) (hN : n.toNatClampNeg = N') (hbytes : N' * 4 ≤ 536870912) (hcells : cells + 1 ≤ R.cells) (hslots : slots + N' ≤ R.slots) (hdg : decode cc pc = .ok (.anewarray index, 3))
    (kk : ∀ (q : Nat) (H1 : Heap), kX E G s H1 locs (aup ad k i q) (cup ct k i (.inl (G.2.2.2.2.1, N', .inr (.inr (.inr (.inr (fun _ => none))))))) → W p l e R s m args below meth c H1 locs (cells + 1) (slots + N') Q (F0 m (pc + 3) ls (.ref q :: rest))) : W p l e R s m args below meth c H locs cells slots Q (F0 m pc ls (.int n :: rest)) := by
  subst hN
  obtain ⟨⟨hexec, hb, hml, hown, hts⟩, hM, hK⟩ := Z
  refine W.anew hexec hb hown (hts _ hlink) (va_AO.use hover) rfl hdg rfl hn hbytes hcells hslots fun cA kA comp f1 f2 f3 f4 => ?_
  generalize hH1 : H.push ({ cls := cA, slots := Array.replicate n.toNatClampNeg .null, vm := .none } : Cell) = H1
  have z1 : H1.size = H.size + 1 := by rw [← hH1, Array.size_push]
  have e1 : H1[H.size]? = some (arrV cA n.toNatClampNeg (fun _ => .null)) := by rw [← hH1, Array.getElem?_push_size, ← arrV_new]
  have o1 : ∀ q : Nat, q < H.size → H1[q]? = H[q]? := fun q hq => by rw [← hH1, Array.getElem?_push, if_neg (Nat.ne_of_lt hq)]
  obtain ⟨kA2, comp2, -, -, -, g4⟩ := (hK.2 3 _ rfl).2
  have he : cA = G.2.2.2.2.1 := Option.some.inj (f1.symm.trans g4)
  subst he
  refine kk H.size H1 ⟨X.1.push z1 ?_ o1, X.2.push z1 o1⟩
  show H1[H.size]? = some (vp_cell _ _)
  rw [vp_cell_q]
  exact e1
end KR
/-- the ends that a method may come to: P tells of the answer and the world behind it -/
def kQi (E : State) (G : kG) (P : Int32 → kAd → kCt → Prop) : Array Value → State → Outcome → State → Prop := va_Qi (fun (r : Int32) (u : kAd × kCt) => P r u.1 u.2) (fun (u : kAd × kCt) (t : State) => kW E.heap.size G u.1 u.2 t.heap) (kB E.heap.size)
def kQv (E : State) (G : kG) (P : kAd → kCt → Prop) : Array Value → State → Outcome → State → Prop := va_Qv (fun (u : kAd × kCt) => P u.1 u.2) (fun (u : kAd × kCt) (t : State) => kW E.heap.size G u.1 u.2 t.heap) (kB E.heap.size)
def kQq (E : State) (G : kG) (P : Option Nat → kAd → kCt → Prop) : Array Value → State → Outcome → State → Prop := va_Qq (fun (r : Option Nat) (u : kAd × kCt) => P r u.1 u.2) (fun (u : kAd × kCt) (t : State) => kW E.heap.size G u.1 u.2 t.heap) (kB E.heap.size)
def kXC (E : State) (G : kG) (P : String → kAd → kCt → Prop) : String → State → State → Prop := vx_X (fun (_ : kAd × kCt) => True) (fun (x : String) (u : kAd × kCt) (t : State) => P x u.1 u.2 ∧ kW E.heap.size G u.1 u.2 t.heap) (kB E.heap.size)
section KCALL
variable {p : Program} {l : Launch} {e : Env} {R : Room} {s : State} {m : MethodId} {args : Array Value} {below : List Frame} {meth : Method} {c : Code} {H : Heap} {locs : List Loc} {cells slots : Nat} {Q : State → Prop}
variable {cc : ByteArray} {nL : Nat} {Ts : List Cond} {own : String} {E : State} {G : kG} {ad : kAd} {ct : kCt} {pc : Nat} {ls : Array Slot} {rest st0 : List Value}
variable {ws : List Cond} {rm : Room} {mc ms index n b maxL : Nat} {y : MethodName} {bytes : ByteArray} {ret : Option FieldType} {C : String} {As : List Value}
theorem k_iret {P : Int32 → kAd → kCt → Prop} {v : Int32} {mc ms : Nat} {ty : FieldType} (Z : kZ p m c cc nL s args Ts own E G) (X : kX E G s H locs ad ct) (hr : meth.sig.returnType = some ty) (hlocks : meth.locks = false) (hn : narrow ty (.int v) = .int v) (hc : cells ≤ mc) (hs : slots ≤ ms) (hdg : decode cc pc = .ok (.ireturn, 1)) (hp : P v ad ct) : W p l e R s m args below meth c H locs cells slots (MQ below (kQi E G P) args s mc ms (kB E.heap.size)) (F0 m pc ls [.int v]) :=
  W.widen hc hs (W.zret Z.1.1 Z.1.2.1 hr hn (fun t ht _ => ⟨⟨v, (ad, ct), rfl, hp, by show kW _ _ _ _ t.heap; rw [ht]; exact X.1⟩, X.2.F ht⟩) X.2.2.2 hdg hlocks)
theorem k_vret {P : kAd → kCt → Prop} {mc ms : Nat} (Z : kZ p m c cc nL s args Ts own E G) (X : kX E G s H locs ad ct) (hr : meth.sig.returnType = none) (hlocks : meth.locks = false) (hc : cells ≤ mc) (hs : slots ≤ ms) (hdg : decode cc pc = .ok (.return_, 1)) (hp : P ad ct) : W p l e R s m args below meth c H locs cells slots (MQ below (kQv E G P) args s mc ms (kB E.heap.size)) (F0 m pc ls []) :=
  W.widen hc hs (W.vret Z.1.1 Z.1.2.1 hr (fun t ht _ => ⟨⟨(ad, ct), rfl, hp, by show kW _ _ _ _ t.heap; rw [ht]; exact X.1⟩, X.2.F ht⟩) X.2.2.2 hdg hlocks)
theorem k_aret {P : Option Nat → kAd → kCt → Prop} {mc ms : Nat} {rt : FieldType} (a : Option Nat) (Z : kZ p m c cc nL s args Ts own E G) (X : kX E G s H locs ad ct) (hr : meth.sig.returnType = some rt) (hlocks : meth.locks = false) (hrt : (∃ n, rt = .object n) ∨ ∃ t, rt = .array t) (hc : cells ≤ mc) (hs : slots ≤ ms) (hdg : decode cc pc = .ok (.areturn, 1)) (hp : P a ad ct) : W p l e R s m args below meth c H locs cells slots (MQ below (kQq E G P) args s mc ms (kB E.heap.size)) (F0 m pc ls [va_rf a]) :=
  W.widen hc hs (W.aret Z.1.1 Z.1.2.1 hr hrt (by cases a; exact Or.inl rfl; exact Or.inr ⟨_, rfl⟩) (fun t ht _ => ⟨⟨a, (ad, ct), rfl, hp, by show kW _ _ _ _ t.heap; rw [ht]; exact X.1⟩, X.2.F ht⟩) X.2.2.2 hdg hlocks)
theorem k_preS {av : List Value} (Z : kZ p m c cc nL s args Ts own E G) (X : kX E G s H locs ad ct) : PreS s H (va_Pc av (kPre E G ad ct)) av := ⟨kBlind, fun _ hU hW => ⟨rfl, kPre.at Z.2.1 Z.2.2 X hU hW⟩⟩
theorem k_runV {Qc : Array Value → State → Outcome → State → Prop} (Z : kZ p m c cc nL s args Ts own E G) (X : kX E G s H locs ad ct) (hM : Met l y ws rm (va_Pc (.ref b :: As) (kPre E G ad ct)) Qc mc ms (kB E.heap.size)) (cw : CallW R s args own C index y bytes maxL ret ws rm mc ms n) (hrecv : ∃ cell : Cell, H[b]? = some cell ∧ cell.vm.isStatics = false ∧ s.vm.findClass C = some cell.cls) (hn : As.length = n) (hsz : ls.size = nL) (hst : st0 = As.reverse ++ .ref b :: rest) (hcat : (rest.map fun v => v.category).sum ≤ 8) (hdg : decode cc pc = .ok (.invokevirtual index, 3)) (hf : cells + mc ≤ R.cells ∧ slots + ms ≤ R.slots) : va_Run p l e R s m args below meth c H locs cells slots mc ms (F0 m pc ls st0) rest (Qc (Value.ref b :: As).toArray) (kB E.heap.size) :=
  va_runV Z.1 hM cw ⟨kBlind, hrecv, fun _ hU hW => ⟨rfl, kPre.at Z.2.1 Z.2.2 X hU hW⟩⟩ rfl hn hsz hst (lv_room hcat) hdg hf
theorem k_runS {Qc : Array Value → State → Outcome → State → Prop} (Z : kZ p m c cc nL s args Ts own E G) (X : kX E G s H locs ad ct) (hM : Met l y ws rm (va_Pc As (kPre E G ad ct)) Qc mc ms (kB E.heap.size)) (cw : CallB R s args own index y bytes maxL ret ws rm mc ms n ∧ (Cond.static y).before args s = true) (hn : As.length = n) (hsz : ls.size = nL) (hst : st0 = As.reverse ++ rest) (hcat : (rest.map fun v => v.category).sum ≤ 8) (hdg : decode cc pc = .ok (.invokestatic index, 3)) (hf : cells + mc ≤ R.cells ∧ slots + ms ≤ R.slots) : va_Run p l e R s m args below meth c H locs cells slots mc ms (F0 m pc ls st0) rest (Qc As.toArray) (kB E.heap.size) :=
  va_runS Z.1 hM cw ⟨kBlind, fun _ hU hW => ⟨rfl, kPre.at Z.2.1 Z.2.2 X hU hW⟩⟩ rfl hn hsz hst (lv_room hcat) hdg hf
theorem k_runI {Qc : Array Value → State → Outcome → State → Prop} (Z : kZ p m c cc nL s args Ts own E G) (X : kX E G s H locs ad ct) (hM : Met l y ws rm (va_Pc (.ref b :: As) (kPre E G ad ct)) Qc mc ms (kB E.heap.size)) (cw : CallB R s args own index y bytes maxL none ws rm mc ms n ∧ y.name = "<init>" ∧ (Cond.instanceMethod y).before args s = true) (hn : As.length = n) (hsz : ls.size = nL) (hst : st0 = As.reverse ++ .ref b :: rest) (hcat : (rest.map fun v => v.category).sum ≤ 8) (hdg : decode cc pc = .ok (.invokespecial index, 3)) (hf : cells + mc ≤ R.cells ∧ slots + ms ≤ R.slots) : va_Run p l e R s m args below meth c H locs cells slots mc ms (F0 m pc ls st0) rest (Qc (Value.ref b :: As).toArray) (kB E.heap.size) :=
  va_runI Z.1 hM cw ⟨kBlind, fun _ hU hW => ⟨rfl, kPre.at Z.2.1 Z.2.2 X hU hW⟩⟩ rfl hn hsz hst (lv_room hcat) hdg hf
theorem k_Ri {P : Int32 → kAd → kCt → Prop} {a : Array Value} (X : kX E G s H locs ad ct) (hr : va_Run p l e R s m args below meth c H locs cells slots mc ms (F0 m pc ls st0) rest (kQi E G P a) (kB E.heap.size)) (kk : ∀ (r : Int32) (ad1 : kAd) (ct1 : kCt) (H1 : Heap) (locs1 : List Loc), P r ad1 ct1 → kX E G s H1 locs1 ad1 ct1 → W p l e R s m args below meth c H1 locs1 (cells + mc) (slots + ms) Q (F0 m (pc + 3) ls (.int r :: rest))) : W p l e R s m args below meth c H locs cells slots Q (F0 m pc ls st0) :=
  va_calli (post := fun (r : Int32) (u : kAd × kCt) => P r u.1 u.2) (B := fun (u : kAd × kCt) (t : State) => kW E.heap.size G u.1 u.2 t.heap) (A1 := kB E.heap.size) hr X.2 (fun _ _ h => h) (fun _ h => h) (fun r u t H1 locs1 ht _ hp hb _ _ hS => kk r u.1 u.2 H1 locs1 hp ⟨by rw [← ht]; exact hb, hS⟩)
theorem k_Rv {P : kAd → kCt → Prop} {a : Array Value} (X : kX E G s H locs ad ct) (hr : va_Run p l e R s m args below meth c H locs cells slots mc ms (F0 m pc ls st0) rest (kQv E G P a) (kB E.heap.size)) (kk : ∀ (ad1 : kAd) (ct1 : kCt) (H1 : Heap) (locs1 : List Loc), P ad1 ct1 → kX E G s H1 locs1 ad1 ct1 → W p l e R s m args below meth c H1 locs1 (cells + mc) (slots + ms) Q (F0 m (pc + 3) ls rest)) : W p l e R s m args below meth c H locs cells slots Q (F0 m pc ls st0) :=
  va_callv (post := fun (u : kAd × kCt) => P u.1 u.2) (B := fun (u : kAd × kCt) (t : State) => kW E.heap.size G u.1 u.2 t.heap) (A1 := kB E.heap.size) hr X.2 (fun _ _ h => h) (fun _ h => h) (fun u t H1 locs1 ht _ hp hb _ _ hS => kk u.1 u.2 H1 locs1 hp ⟨by rw [← ht]; exact hb, hS⟩)
theorem k_Rq {P : Option Nat → kAd → kCt → Prop} {a : Array Value} (X : kX E G s H locs ad ct) (hr : va_Run p l e R s m args below meth c H locs cells slots mc ms (F0 m pc ls st0) rest (kQq E G P a) (kB E.heap.size)) (kk : ∀ (r : Option Nat) (ad1 : kAd) (ct1 : kCt) (H1 : Heap) (locs1 : List Loc), P r ad1 ct1 → kX E G s H1 locs1 ad1 ct1 → W p l e R s m args below meth c H1 locs1 (cells + mc) (slots + ms) Q (F0 m (pc + 3) ls (va_rf r :: rest))) : W p l e R s m args below meth c H locs cells slots Q (F0 m pc ls st0) :=
  va_callq (post := fun (r : Option Nat) (u : kAd × kCt) => P r u.1 u.2) (B := fun (u : kAd × kCt) (t : State) => kW E.heap.size G u.1 u.2 t.heap) (A1 := kB E.heap.size) hr X.2 (fun _ _ h => h) (fun _ h => h) (fun r u t H1 locs1 ht _ hp hb _ _ hS => kk r u.1 u.2 H1 locs1 hp ⟨by rw [← ht]; exact hb, hS⟩)
end KCALL
end
section
/-! THE STATE: registers (Int32 by name and index; numbers by name and index), one of the class, one of the reference; what each tag holds of them -/
abbrev kI : Type := Nat → Nat → Int32
abbrev kN : Type := Nat → Nat → Nat
abbrev kSt : Type := kI × kN
def sI (S : kSt) (f i : Nat) (v : Int32) : kSt := (fun g j => if g = f ∧ j = i then v else S.1 g j, S.2)
def sN (S : kSt) (f i v : Nat) : kSt := (S.1, fun g j => if g = f ∧ j = i then v else S.2 g j)
theorem sI_s {S : kSt} {f i : Nat} {v : Int32} : (sI S f i v).1 f i = v := by simp [sI]
theorem sI_f {S : kSt} {f i g j : Nat} {v : Int32} (h : g ≠ f) : (sI S f i v).1 g j = S.1 g j := by simp [sI, h]
theorem sI_n {S : kSt} {f i j : Nat} {v : Int32} (h : j ≠ i) : (sI S f i v).1 f j = S.1 f j := by simp [sI, h]
theorem sI_2 {S : kSt} {f i : Nat} {v : Int32} : (sI S f i v).2 = S.2 := rfl
theorem sN_1 {S : kSt} {f i v : Nat} : (sN S f i v).1 = S.1 := rfl
theorem sN_s {S : kSt} {f i v : Nat} : (sN S f i v).2 f i = v := by simp [sN]
theorem sN_f {S : kSt} {f i g j v : Nat} (h : g ≠ f) : (sN S f i v).2 g j = S.2 g j := by simp [sN, h]
theorem sN_n {S : kSt} {f i j v : Nat} (h : j ≠ i) : (sN S f i v).2 f j = S.2 f j := by simp [sN, h]
/-- how many things a list of the class holds, of which kind they are -/
def lcnt (S : kSt) (l : Nat) : Nat := match l with
  | 0 => 6
  | 1 => S.2 0 0
  | 2 => S.2 0 1
  | 3 => S.2 0 2
  | _ => S.2 0 3
def lknd (l : Nat) : Nat := match l with
  | 0 => 3
  | 1 => 4
  | 2 => 5
  | 3 => 8
  | _ => 9
/-- a number's decimal digits, as signs -/
def dgs : Nat → Nat → List Nat
  | 0, _ => []
  | f + 1, n => if n < 10 then [48 + n] else dgs f (n / 10) ++ [48 + n % 10]
def lab (S : kSt) (t : Nat) : List Nat := dgs 20 (S.2 4 t) ++ 46 :: (dgs 20 (S.1 20 t).toNatClampNeg ++ 62 :: (dgs 20 (S.2 5 t) ++ 64 :: dgs 20 (S.1 13 t).toNatClampNeg))
/-- the arrays of the reference -/
def marr (G : kG) (T : kSt) (i : Nat) : Option va_E := match i with
  | 0 => some (.inl (G.2.2.1, 12, .inl (T.1 1)))
  | 1 => some (.inl (G.2.2.1, 12, .inl (T.1 2)))
  | 2 => some (.inl (G.2.2.1, 6, .inl (T.1 3)))
  | 3 => some (.inl (G.2.2.2.1, 6, .inl (T.1 4)))
  | 4 => some (.inl (G.2.2.1, 80, .inl (fun j => nI (T.2 1 j))))
  | 5 => some (.inl (G.2.2.1, 80, .inl (fun j => nI (T.2 2 j))))
  | 6 => some (.inl (G.2.2.1, 80, .inl (T.1 5)))
  | 7 => some (.inl (G.2.2.1, 80, .inl (T.1 7)))
  | 8 => some (.inl (G.2.2.1, 80, .inl (T.1 6)))
  | 9 => some (.inl (G.2.2.2.1, 80, .inl (T.1 8)))
  | 10 => some (.inl (G.2.2.1, 960, .inl (T.1 21)))
  | 11 => some (.inl (G.2.2.1, 960, .inl (T.1 22)))
  | 12 => some (.inl (G.2.2.1, 60, .inl (fun j => nI (T.2 3 j))))
  | 13 => some (.inl (G.2.2.1, 60, .inl (T.1 10)))
  | 14 => some (.inl (G.2.2.1, 60, .inl (T.1 11)))
  | 15 => some (.inl (G.2.2.2.1, 60, .inl (T.1 12)))
  | 16 => some (.inl (G.2.2.1, 60, .inl (fun j => nI (T.2 4 j))))
  | 17 => some (.inl (G.2.2.1, 60, .inl (T.1 20)))
  | 18 => some (.inl (G.2.2.1, 60, .inl (fun j => nI (T.2 5 j))))
  | 19 => some (.inl (G.2.2.1, 60, .inl (T.1 13)))
  | 20 => some (.inl (G.2.2.1, 60, .inl (T.1 14)))
  | 21 => some (.inl (G.2.2.1, 40, .inl (T.1 23)))
  | _ => none
/-- what each tag holds -/
def cto (G : kG) (S T : kSt) (o : Int64) (ad : kAd) : kCt := fun k i => match k with
  | 0 => if i = 0 then some (.inr (10, [.ref (ad 1 0), .ref (ad 1 1), .ref (ad 1 2), .ref (ad 1 3), .ref (ad 1 4), .ref (ad 12 0), .ref (ad 14 0), .int (S.1 0 0)])) else none
  | 1 => if i < 5 then some (.inr (2, [.int (S.1 19 i), .ref (if S.2 6 i = 0 then G.2.2.2.2.2.2 else ad 2 i), .int (nI (lcnt S i))])) else none
  | 2 => if i < 5 ∧ S.2 6 i ≠ 0 then some (.inl (G.2.2.2.2.1, S.2 6 i, .inr (.inr (.inr (.inr (fun j => if j < lcnt S i then some (ad (lknd i) j) else none)))))) else none
  | 3 => if i < 6 then some (.inr (3, [.int (nI i), .int (S.1 3 i), .int (S.1 4 i)])) else none
  | 4 => if i < S.2 0 0 then some (.inr (9, [.int (nI i), .int (S.1 1 i), .int (S.1 2 i)])) else none
  | 5 => if i < S.2 0 1 then some (.inr (6, [.int (nI i), .ref (ad 4 (S.2 1 i)), .ref (ad 3 (S.2 2 i)), .int (S.1 5 i), .int (S.1 6 i), .ref (ad 6 i), .int (S.1 7 i), .int (S.1 8 i)])) else none
  | 6 => if i < S.2 0 1 then some (.inr (5, [.ref (ad 7 i)])) else none
  | 7 => if i < S.2 0 1 then some (.inl (G.2.2.1, 12, .inl (fun j => S.1 9 (12 * i + j)))) else none
  | 8 => if i < S.2 0 2 then some (.inr (7, [.int (nI i), .ref (ad 5 (S.2 3 i)), .int (S.1 10 i), .int (S.1 11 i), .int (S.1 12 i)])) else none
  | 9 => if i < S.2 0 3 then some (.inr (8, [.int (nI i), .int (nI (S.2 4 i)), .ref (ad 4 (S.2 5 i)), .int (S.1 13 i), .ref (ad 10 i), .int (S.1 14 i)])) else none
  | 10 => if i < S.2 0 3 then some (.inr (0, [.ref (ad 11 i), .int 0, .int 0, .int 0])) else none
  | 11 => if i < S.2 0 3 then some (.inl (G.2.1, (lab S i).length, .inl (fun j => nI ((lab S i).getD j 0)))) else none
  | 12 => if i = 0 then some (.inr (4, [.ref (ad 13 0), .ref (ad 13 1), .ref (ad 13 2), .int (nI (S.2 0 4))])) else none
  | 13 => if i < 3 then some (.inl (G.2.2.1, 512, .inl (S.1 (15 + i)))) else none
  | 14 => if i = 0 then some (.inr (5, [.ref (ad 15 0)])) else none
  | 15 => if i = 0 then some (.inl (G.2.2.1, 12, .inl (S.1 18))) else none
  | 16 => if i = 0 then some (.inr (11, [.int (T.1 0 0), .int (nI (T.2 0 0)), .ref (ad 17 0), .ref (ad 17 1), .ref (ad 17 2), .ref (ad 17 3), .int (nI (T.2 0 1)), .ref (ad 17 4), .ref (ad 17 5), .ref (ad 17 6), .ref (ad 17 7), .ref (ad 17 8), .ref (ad 17 9), .ref (ad 17 10), .ref (ad 17 11), .int (nI (T.2 0 2)), .ref (ad 17 12), .ref (ad 17 13), .ref (ad 17 14), .ref (ad 17 15), .int (nI (T.2 0 3)), .ref (ad 17 16), .ref (ad 17 17), .ref (ad 17 18), .ref (ad 17 19), .ref (ad 17 20), .ref (ad 17 21), .int (nI (T.2 0 5)), .int (T.1 24 0)])) else none
  | 17 => marr G T i
  | 18 => if i = 0 then some (.inl (G.2.2.2.2.2.1, 1, .inr (.inl (fun _ => o)))) else none
  | _ => none
section CTO
variable {G : kG} {S T : kSt} {o : Int64} {ad : kAd} {i : Nat}
theorem ct_0 : cto G S T o ad 0 0 = some (.inr (10, [.ref (ad 1 0), .ref (ad 1 1), .ref (ad 1 2), .ref (ad 1 3), .ref (ad 1 4), .ref (ad 12 0), .ref (ad 14 0), .int (S.1 0 0)])) := rfl
theorem ct_1 (h : i < 5) : cto G S T o ad 1 i = some (.inr (2, [.int (S.1 19 i), .ref (if S.2 6 i = 0 then G.2.2.2.2.2.2 else ad 2 i), .int (nI (lcnt S i))])) := if_pos h
theorem ct_2 (h : i < 5) (h2 : S.2 6 i ≠ 0) : cto G S T o ad 2 i = some (.inl (G.2.2.2.2.1, S.2 6 i, .inr (.inr (.inr (.inr (fun j => if j < lcnt S i then some (ad (lknd i) j) else none)))))) := if_pos ⟨h, h2⟩
theorem ct_3 (h : i < 6) : cto G S T o ad 3 i = some (.inr (3, [.int (nI i), .int (S.1 3 i), .int (S.1 4 i)])) := if_pos h
theorem ct_4 (h : i < S.2 0 0) : cto G S T o ad 4 i = some (.inr (9, [.int (nI i), .int (S.1 1 i), .int (S.1 2 i)])) := if_pos h
theorem ct_5 (h : i < S.2 0 1) : cto G S T o ad 5 i = some (.inr (6, [.int (nI i), .ref (ad 4 (S.2 1 i)), .ref (ad 3 (S.2 2 i)), .int (S.1 5 i), .int (S.1 6 i), .ref (ad 6 i), .int (S.1 7 i), .int (S.1 8 i)])) := if_pos h
theorem ct_6 (h : i < S.2 0 1) : cto G S T o ad 6 i = some (.inr (5, [.ref (ad 7 i)])) := if_pos h
theorem ct_7 (h : i < S.2 0 1) : cto G S T o ad 7 i = some (.inl (G.2.2.1, 12, .inl (fun j => S.1 9 (12 * i + j)))) := if_pos h
theorem ct_8 (h : i < S.2 0 2) : cto G S T o ad 8 i = some (.inr (7, [.int (nI i), .ref (ad 5 (S.2 3 i)), .int (S.1 10 i), .int (S.1 11 i), .int (S.1 12 i)])) := if_pos h
theorem ct_9 (h : i < S.2 0 3) : cto G S T o ad 9 i = some (.inr (8, [.int (nI i), .int (nI (S.2 4 i)), .ref (ad 4 (S.2 5 i)), .int (S.1 13 i), .ref (ad 10 i), .int (S.1 14 i)])) := if_pos h
theorem ct_10 (h : i < S.2 0 3) : cto G S T o ad 10 i = some (.inr (0, [.ref (ad 11 i), .int 0, .int 0, .int 0])) := if_pos h
theorem ct_11 (h : i < S.2 0 3) : cto G S T o ad 11 i = some (.inl (G.2.1, (lab S i).length, .inl (fun j => nI ((lab S i).getD j 0)))) := if_pos h
theorem ct_12 : cto G S T o ad 12 0 = some (.inr (4, [.ref (ad 13 0), .ref (ad 13 1), .ref (ad 13 2), .int (nI (S.2 0 4))])) := rfl
theorem ct_13 (h : i < 3) : cto G S T o ad 13 i = some (.inl (G.2.2.1, 512, .inl (S.1 (15 + i)))) := if_pos h
theorem ct_14 : cto G S T o ad 14 0 = some (.inr (5, [.ref (ad 15 0)])) := rfl
theorem ct_15 : cto G S T o ad 15 0 = some (.inl (G.2.2.1, 12, .inl (S.1 18))) := rfl
theorem ct_16 : cto G S T o ad 16 0 = some (.inr (11, [.int (T.1 0 0), .int (nI (T.2 0 0)), .ref (ad 17 0), .ref (ad 17 1), .ref (ad 17 2), .ref (ad 17 3), .int (nI (T.2 0 1)), .ref (ad 17 4), .ref (ad 17 5), .ref (ad 17 6), .ref (ad 17 7), .ref (ad 17 8), .ref (ad 17 9), .ref (ad 17 10), .ref (ad 17 11), .int (nI (T.2 0 2)), .ref (ad 17 12), .ref (ad 17 13), .ref (ad 17 14), .ref (ad 17 15), .int (nI (T.2 0 3)), .ref (ad 17 16), .ref (ad 17 17), .ref (ad 17 18), .ref (ad 17 19), .ref (ad 17 20), .ref (ad 17 21), .int (nI (T.2 0 5)), .int (T.1 24 0)])) := rfl
theorem ct_18 : cto G S T o ad 18 0 = some (.inl (G.2.2.2.2.2.1, 1, .inr (.inl (fun _ => o)))) := rfl
theorem ct_17_0 : cto G S T o ad 17 0 = some (.inl (G.2.2.1, 12, .inl (T.1 1))) := rfl
theorem ct_17_1 : cto G S T o ad 17 1 = some (.inl (G.2.2.1, 12, .inl (T.1 2))) := rfl
theorem ct_17_2 : cto G S T o ad 17 2 = some (.inl (G.2.2.1, 6, .inl (T.1 3))) := rfl
theorem ct_17_3 : cto G S T o ad 17 3 = some (.inl (G.2.2.2.1, 6, .inl (T.1 4))) := rfl
theorem ct_17_4 : cto G S T o ad 17 4 = some (.inl (G.2.2.1, 80, .inl (fun j => nI (T.2 1 j)))) := rfl
theorem ct_17_5 : cto G S T o ad 17 5 = some (.inl (G.2.2.1, 80, .inl (fun j => nI (T.2 2 j)))) := rfl
theorem ct_17_6 : cto G S T o ad 17 6 = some (.inl (G.2.2.1, 80, .inl (T.1 5))) := rfl
theorem ct_17_7 : cto G S T o ad 17 7 = some (.inl (G.2.2.1, 80, .inl (T.1 7))) := rfl
theorem ct_17_8 : cto G S T o ad 17 8 = some (.inl (G.2.2.1, 80, .inl (T.1 6))) := rfl
theorem ct_17_9 : cto G S T o ad 17 9 = some (.inl (G.2.2.2.1, 80, .inl (T.1 8))) := rfl
theorem ct_17_10 : cto G S T o ad 17 10 = some (.inl (G.2.2.1, 960, .inl (T.1 21))) := rfl
theorem ct_17_11 : cto G S T o ad 17 11 = some (.inl (G.2.2.1, 960, .inl (T.1 22))) := rfl
theorem ct_17_12 : cto G S T o ad 17 12 = some (.inl (G.2.2.1, 60, .inl (fun j => nI (T.2 3 j)))) := rfl
theorem ct_17_13 : cto G S T o ad 17 13 = some (.inl (G.2.2.1, 60, .inl (T.1 10))) := rfl
theorem ct_17_14 : cto G S T o ad 17 14 = some (.inl (G.2.2.1, 60, .inl (T.1 11))) := rfl
theorem ct_17_15 : cto G S T o ad 17 15 = some (.inl (G.2.2.2.1, 60, .inl (T.1 12))) := rfl
theorem ct_17_16 : cto G S T o ad 17 16 = some (.inl (G.2.2.1, 60, .inl (fun j => nI (T.2 4 j)))) := rfl
theorem ct_17_17 : cto G S T o ad 17 17 = some (.inl (G.2.2.1, 60, .inl (T.1 20))) := rfl
theorem ct_17_18 : cto G S T o ad 17 18 = some (.inl (G.2.2.1, 60, .inl (fun j => nI (T.2 5 j)))) := rfl
theorem ct_17_19 : cto G S T o ad 17 19 = some (.inl (G.2.2.1, 60, .inl (T.1 13))) := rfl
theorem ct_17_20 : cto G S T o ad 17 20 = some (.inl (G.2.2.1, 60, .inl (T.1 14))) := rfl
theorem ct_17_21 : cto G S T o ad 17 21 = some (.inl (G.2.2.1, 40, .inl (T.1 23))) := rfl
end CTO
end
section
/-! THE MEANING: what both sides' methods answer, in words of the registers; kd tells the marks of a message by users (-1 none) -/
def bI (b : Bool) : Int32 := if b then 1 else 0
theorem bI_0 {b : Bool} (h : bI b = 0) : b = false := by cases b; rfl; exact absurd h (by decide)
theorem bI_1 {b : Bool} (h : ¬ bI b = 0) : b = true := by cases b; exact absurd rfl h; rfl
theorem bI_t {b : Bool} (h : b = true) : (1 : Int32) = bI b := by rw [h]; rfl
theorem bI_f {b : Bool} (h : b = false) : (0 : Int32) = bI b := by rw [h]; rfl
theorem bI_nar {b : Bool} : narrow .boolean (.int (bI b)) = .int (bI b) := by cases b <;> rfl
theorem bI_01 {b : Bool} : bI b = 0 ∨ bI b = 1 := by cases b; exact Or.inl rfl; exact Or.inr rfl
def inB (x : Int32) (n : Nat) : Bool := decide (0 ≤ x.toInt) && decide (x.toInt < n)
theorem inB_of {x : Int32} {n : Nat} (h : inB x n = true) (hn : n < 2 ^ 31) : ∃ j : Nat, j < n ∧ x = nI j := by
  simp only [inB, Bool.and_eq_true, decide_eq_true_eq] at h
  exact vp_in_of (vp_in_iff.mpr h) hn
theorem inB_nI {j n : Nat} (h : j < n) (hn : n < 2 ^ 31) : inB (nI j) n = true := by
  simp only [inB, Bool.and_eq_true, decide_eq_true_eq]
  exact vp_in_iff.mp (vp_in_nI h hn)
def gone (S : kSt) (u : Nat) : Bool := decide (S.1 2 u ≠ -1) && decide (¬ S.1 0 0 < S.1 2 u)
def cnts (S : kSt) (kd : Nat → Int32) (u : Nat) : Bool := decide (kd u ≠ -1) && (!gone S u && decide (S.1 1 u ≠ 0))
def kdT (T : kSt) (a u : Nat) : Int32 := if T.1 22 (12 * a + u) = T.1 7 a then T.1 21 (12 * a + u) else -1
def kdS (S : kSt) (a u : Nat) : Int32 := S.1 9 (12 * a + u)
def cntN (S : kSt) (kd : Nat → Int32) : Nat → Nat
  | 0 => 0
  | n + 1 => cntN S kd n + (if cnts S kd n then 1 else 0)
def bar (S : kSt) (kd : Nat → Int32) : Nat → Bool
  | 0 => false
  | n + 1 => bar S kd n || (cnts S kd n && decide (kd n = 1))
def isY (S : kSt) (kd : Nat → Int32) (a u : Nat) : Bool := cnts S kd u && (decide (kd u = 0) && (decide (¬ S.1 1 u < 2) && decide (u ≠ a)))
def yesN (S : kSt) (kd : Nat → Int32) (a : Nat) : Nat → Nat
  | 0 => 0
  | n + 1 => yesN S kd a n + (if isY S kd a n then 1 else 0)
def chfN (S : kSt) (kd : Nat → Int32) (a : Nat) : Nat → Nat
  | 0 => 0
  | n + 1 => chfN S kd a n + (if isY S kd a n && decide (S.1 1 n = 3) then 1 else 0)
def appr (S : kSt) (kd : Nat → Int32) (a n : Nat) (x : Int32) : Bool := !bar S kd n && (if 1000 < x then decide (1 < yesN S kd a n) && decide (0 < chfN S kd a n) else decide (0 < yesN S kd a n))
theorem cntN_le (S : kSt) (kd : Nat → Int32) : ∀ n, cntN S kd n ≤ n
  | 0 => Nat.le_refl _
  | n + 1 => by have := cntN_le S kd n; simp only [cntN]; split <;> omega
theorem yesN_le (S : kSt) (kd : Nat → Int32) (a : Nat) : ∀ n, yesN S kd a n ≤ n
  | 0 => Nat.le_refl _
  | n + 1 => by have := yesN_le S kd a n; simp only [yesN]; split <;> omega
theorem chfN_le (S : kSt) (kd : Nat → Int32) (a : Nat) : ∀ n, chfN S kd a n ≤ n
  | 0 => Nat.le_refl _
  | n + 1 => by have := chfN_le S kd a n; simp only [chfN]; split <;> omega
/-- from what is told of a message: one spend looked at -/
def stl1 (S : kSt) (kd : Nat → Nat → Int32) (s : Nat) : kSt :=
  if S.1 12 s = 0 ∧ ¬ (S.1 7 (S.2 3 s) = S.1 10 s ∧ appr S (kd (S.2 3 s)) (S.2 1 (S.2 3 s)) (S.2 0 0) (S.1 11 s) = true) then
    sI (sI S 12 s 1) 3 (S.2 2 (S.2 3 s)) (S.1 3 (S.2 2 (S.2 3 s)) + S.1 11 s)
  else S
def stl (S : kSt) (kd : Nat → Nat → Int32) : Nat → kSt
  | 0 => S
  | n + 1 => stl1 (stl S kd n) kd n
/-- what holds of a state of numbers, so that its things lie where they are looked for -/
def okN (S : kSt) : Prop := S.2 0 0 ≤ 12 ∧ S.2 0 1 ≤ 80 ∧ S.2 0 2 ≤ 60 ∧ S.2 0 3 ≤ 60 ∧ (∀ j, j < S.2 0 1 → S.2 1 j < S.2 0 0 ∧ S.2 2 j < 6) ∧ (∀ j, j < S.2 0 2 → S.2 3 j < S.2 0 1) ∧ ∀ j, j < S.2 0 3 → S.2 4 j < S.2 0 1 ∧ S.2 5 j < S.2 0 0
end
section
theorem dX8_thrown_0 : decode cX8_thrown 0 = .ok (.aload_n 0, 1) := by decide +kernel
theorem dX8_thrown_1 : decode cX8_thrown 1 = .ok (.getfield 77, 3) := by decide +kernel
theorem dX8_thrown_4 : decode cX8_thrown 4 = .ok (.ireturn, 1) := by decide +kernel
set_option maxHeartbeats 4000000 in
set_option maxRecDepth 100000 in
theorem c_X8_thrown (l : Launch) (E : State) (G : kG) (S T : kSt) (o : Int64) (ad : kAd) : Met l yX8_thrown (.code yX8_thrown cX8_thrown 1 (some .int) :: wsL_law) ({ frames := 1, cells := 0, slots := 0, locals := 8 } : Room) (va_Pc [.ref (ad 16 0)] (kPre E G ad (cto G S T o ad))) (kQi E G (fun r ad1 ct1 => r = T.1 24 0 ∧ ad = ad1 ∧ ct1 = cto G S T o ad)) 0 0 (kB E.heap.size) := by
  refine Met.ofW (cc := cX8_thrown) (maxL := 1) (ret := (some .int)) (by decide) rfl ?_
  intro p e s m args below meth c s₁ B hml hv
  obtain ⟨rfl, hM, hK, hW0⟩ := hv
  have hlocks := B.notSynchronized
  have hr := B.returns
  have Z : kZ p m c cX8_thrown 1 s _ wsL_law RX8 E G := ⟨⟨B.exec, B.bytes, hml, findClass_of_methodNamed B.named, fun w h => atoms_spec (ws := .code yX8_thrown cX8_thrown 1 (some .int) :: wsL_law) B.pre w (List.mem_cons_of_mem _ h)⟩, hM, hK⟩
  have hx := Z.1.1
  have hb := Z.1.2.1
  have X := kX.of hW0
  have hl := lv_entry ([.ref (ad 16 0)]) (n := 1) (Nat.le_of_ble_eq_true rfl)
  rw [lg_entry_eq]
  generalize (lg_sl ([.ref (ad 16 0)]) ++ List.replicate (1 - (lg_sl ([.ref (ad 16 0)])).length) Slot.unset).toArray = ls at hl ⊢
  have hl : lv_has ls 1 [(0, .ref (ad 16 0))] := hl
  refine lv_aload_n hx hb dX8_thrown_0 rfl (lv_at hl 0 rfl) ?_
  refine k_get (index := 77) (j := 28) (ad := ad) (k := 16) (i := 0) Z X ct_16 inlX8 rfl (by decide) (inU_9 _ (List.mem_of_getElem? (i := 6) rfl)) (fun _ h => h) rfl dX8_thrown_1 ?_
  exact k_iret Z X hr hlocks rfl (Nat.le_of_ble_eq_true rfl) (Nat.le_of_ble_eq_true rfl) dX8_thrown_4 ⟨rfl, rfl, rfl⟩
theorem st_thrown {G : kG} {S T : kSt} {o : Int64} {ad : kAd} (v : Int32) : cup (cto G S T o ad) 16 0 (.inr (11, [.int (T.1 0 0), .int (nI (T.2 0 0)), .ref (ad 17 0), .ref (ad 17 1), .ref (ad 17 2), .ref (ad 17 3), .int (nI (T.2 0 1)), .ref (ad 17 4), .ref (ad 17 5), .ref (ad 17 6), .ref (ad 17 7), .ref (ad 17 8), .ref (ad 17 9), .ref (ad 17 10), .ref (ad 17 11), .int (nI (T.2 0 2)), .ref (ad 17 12), .ref (ad 17 13), .ref (ad 17 14), .ref (ad 17 15), .int (nI (T.2 0 3)), .ref (ad 17 16), .ref (ad 17 17), .ref (ad 17 18), .ref (ad 17 19), .ref (ad 17 20), .ref (ad 17 21), .int (nI (T.2 0 5)), .int v])) = cto G S (sI T 24 0 v) o ad := by
  funext k i
  match k with
  | 0 => simp [cup, cto, sI]
  | 1 => simp [cup, cto, sI]
  | 2 => simp [cup, cto, sI]
  | 3 => simp [cup, cto, sI]
  | 4 => simp [cup, cto, sI]
  | 5 => simp [cup, cto, sI]
  | 6 => simp [cup, cto, sI]
  | 7 => simp [cup, cto, sI]
  | 8 => simp [cup, cto, sI]
  | 9 => simp [cup, cto, sI]
  | 10 => simp [cup, cto, sI]
  | 11 => simp [cup, cto, sI]
  | 12 => simp [cup, cto, sI]
  | 13 => simp [cup, cto, sI]
  | 14 => simp [cup, cto, sI]
  | 15 => simp [cup, cto, sI]
  | 16 => by_cases h : i = 0 <;> simp [cup, cto, sI, h]
  | 17 => simp only [cup, cto, marr, sI]; simp
  | 18 => simp [cup, cto, sI]
  | _ + 19 => simp [cup, cto]
theorem dX8_fails_0 : decode cX8_fails 0 = .ok (.aload_n 0, 1) := by decide +kernel
theorem dX8_fails_1 : decode cX8_fails 1 = .ok (.iload_n 1, 1) := by decide +kernel
theorem dX8_fails_2 : decode cX8_fails 2 = .ok (.putfield 77, 3) := by decide +kernel
theorem dX8_fails_5 : decode cX8_fails 5 = .ok (.iload_n 1, 1) := by decide +kernel
theorem dX8_fails_6 : decode cX8_fails 6 = .ok (.ifCond .le 7, 3) := by decide +kernel
theorem dX8_fails_9 : decode cX8_fails 9 = .ok (.iconst 1, 1) := by decide +kernel
theorem dX8_fails_10 : decode cX8_fails 10 = .ok (.goto 4, 3) := by decide +kernel
theorem dX8_fails_13 : decode cX8_fails 13 = .ok (.iconst 0, 1) := by decide +kernel
theorem dX8_fails_14 : decode cX8_fails 14 = .ok (.ireturn, 1) := by decide +kernel
set_option maxHeartbeats 4000000 in
set_option maxRecDepth 100000 in
theorem c_X8_fails (l : Launch) (E : State) (G : kG) (S T : kSt) (o : Int64) (ad : kAd) (x : Int32) : Met l yX8_fails (.code yX8_fails cX8_fails 2 (some .boolean) :: wsL_law) ({ frames := 1, cells := 0, slots := 0, locals := 8 } : Room) (va_Pc [.ref (ad 16 0), .int x] (kPre E G ad (cto G S T o ad))) (kQi E G (fun r ad1 ct1 => r = bI (decide (0 < x)) ∧ ad = ad1 ∧ ct1 = cto G S (sI T 24 0 x) o ad)) 0 0 (kB E.heap.size) := by
  refine Met.ofW (cc := cX8_fails) (maxL := 2) (ret := (some .boolean)) (by decide) rfl ?_
  intro p e s m args below meth c s₁ B hml hv
  obtain ⟨rfl, hM, hK, hW0⟩ := hv
  have hlocks := B.notSynchronized
  have hr := B.returns
  have Z : kZ p m c cX8_fails 2 s _ wsL_law RX8 E G := ⟨⟨B.exec, B.bytes, hml, findClass_of_methodNamed B.named, fun w h => atoms_spec (ws := .code yX8_fails cX8_fails 2 (some .boolean) :: wsL_law) B.pre w (List.mem_cons_of_mem _ h)⟩, hM, hK⟩
  have hx := Z.1.1
  have hb := Z.1.2.1
  have X := kX.of hW0
  have hl := lv_entry ([.ref (ad 16 0), .int x]) (n := 2) (Nat.le_of_ble_eq_true rfl)
  rw [lg_entry_eq]
  generalize (lg_sl ([.ref (ad 16 0), .int x]) ++ List.replicate (2 - (lg_sl ([.ref (ad 16 0), .int x])).length) Slot.unset).toArray = ls at hl ⊢
  have hl : lv_has ls 2 [(0, .ref (ad 16 0)), (1, .int x)] := hl
  refine lv_aload_n hx hb dX8_fails_0 rfl (lv_at hl 0 rfl) ?_
  refine lv_iload_n hx hb dX8_fails_1 rfl (lv_at hl 1 rfl) ?_
  refine k_put (index := 77) (j := 28) (k := 16) (i := 0) Z X ct_16 inlX8 tyX8_ok nmX8 rfl (by decide) (inU_9 _ (List.mem_of_getElem? (i := 6) rfl)) (fun _ h => h) rfl (Nat.le_of_ble_eq_true rfl) rfl rfl dX8_fails_2 (fun H locs X => ?_)
  have X : kX E G s H locs ad (cto G S (sI T 24 0 x) o ad) := X.eq (st_thrown x)
  refine lv_iload_n hx hb dX8_fails_5 rfl (lv_at hl 1 rfl) ?_
  refine lv_if_le (tgt := 13) hx hb dX8_fails_6 (by decide) (fun c_6 => ?_) (fun c_6 => ?_)
  · refine lv_iconst (v := 0) hx hb dX8_fails_13 (by decide) ?_
    exact k_iret Z X hr hlocks rfl (Nat.le_of_ble_eq_true rfl) (Nat.le_of_ble_eq_true rfl) dX8_fails_14 ⟨bI_f (decide_eq_false (Int32.not_lt.mpr c_6)), rfl, rfl⟩
  · refine lv_iconst (v := 1) hx hb dX8_fails_9 (by decide) ?_
    refine lv_goto (tgt := 14) hx hb dX8_fails_10 (by decide) ?_
    exact k_iret Z X hr hlocks rfl (Nat.le_of_ble_eq_true rfl) (Nat.le_of_ble_eq_true rfl) dX8_fails_14 ⟨bI_t (decide_eq_true (Int32.not_le.mp c_6)), rfl, rfl⟩
theorem dX8_isIn_0 : decode cX8_isIn 0 = .ok (.iload_n 0, 1) := by decide +kernel
theorem dX8_isIn_1 : decode cX8_isIn 1 = .ok (.iload_n 1, 1) := by decide +kernel
theorem dX8_isIn_2 : decode cX8_isIn 2 = .ok (.if_icmp .lt 12, 3) := by decide +kernel
theorem dX8_isIn_5 : decode cX8_isIn 5 = .ok (.iload_n 0, 1) := by decide +kernel
theorem dX8_isIn_6 : decode cX8_isIn 6 = .ok (.iload_n 2, 1) := by decide +kernel
theorem dX8_isIn_7 : decode cX8_isIn 7 = .ok (.if_icmp .gt 7, 3) := by decide +kernel
theorem dX8_isIn_10 : decode cX8_isIn 10 = .ok (.iconst 1, 1) := by decide +kernel
theorem dX8_isIn_11 : decode cX8_isIn 11 = .ok (.goto 4, 3) := by decide +kernel
theorem dX8_isIn_14 : decode cX8_isIn 14 = .ok (.iconst 0, 1) := by decide +kernel
theorem dX8_isIn_15 : decode cX8_isIn 15 = .ok (.ireturn, 1) := by decide +kernel
set_option maxHeartbeats 4000000 in
set_option maxRecDepth 100000 in
theorem c_X8_isIn (l : Launch) (E : State) (G : kG) (S T : kSt) (o : Int64) (ad : kAd) (v a b : Int32) : Met l yX8_isIn (.code yX8_isIn cX8_isIn 3 (some .boolean) :: wsL_law) ({ frames := 1, cells := 0, slots := 0, locals := 8 } : Room) (va_Pc [.int v, .int a, .int b] (kPre E G ad (cto G S T o ad))) (kQi E G (fun r ad1 ct1 => r = bI (decide (a ≤ v) && decide (v ≤ b)) ∧ ad = ad1 ∧ ct1 = cto G S T o ad)) 0 0 (kB E.heap.size) := by
  refine Met.ofW (cc := cX8_isIn) (maxL := 3) (ret := (some .boolean)) (by decide) rfl ?_
  intro p e s m args below meth c s₁ B hml hv
  obtain ⟨rfl, hM, hK, hW0⟩ := hv
  have hlocks := B.notSynchronized
  have hr := B.returns
  have Z : kZ p m c cX8_isIn 3 s _ wsL_law RX8 E G := ⟨⟨B.exec, B.bytes, hml, findClass_of_methodNamed B.named, fun w h => atoms_spec (ws := .code yX8_isIn cX8_isIn 3 (some .boolean) :: wsL_law) B.pre w (List.mem_cons_of_mem _ h)⟩, hM, hK⟩
  have hx := Z.1.1
  have hb := Z.1.2.1
  have X := kX.of hW0
  have hl := lv_entry ([.int v, .int a, .int b]) (n := 3) (Nat.le_of_ble_eq_true rfl)
  rw [lg_entry_eq]
  generalize (lg_sl ([.int v, .int a, .int b]) ++ List.replicate (3 - (lg_sl ([.int v, .int a, .int b])).length) Slot.unset).toArray = ls at hl ⊢
  have hl : lv_has ls 3 [(0, .int v), (1, .int a), (2, .int b)] := hl
  refine lv_iload_n hx hb dX8_isIn_0 rfl (lv_at hl 0 rfl) ?_
  refine lv_iload_n hx hb dX8_isIn_1 rfl (lv_at hl 1 rfl) ?_
  refine lv_icmp_lt (tgt := 14) hx hb dX8_isIn_2 (by decide) (fun c_2 => ?_) (fun c_2 => ?_)
  · refine lv_iconst (v := 0) hx hb dX8_isIn_14 (by decide) ?_
    exact k_iret Z X hr hlocks rfl (Nat.le_of_ble_eq_true rfl) (Nat.le_of_ble_eq_true rfl) dX8_isIn_15 ⟨by first | (rw [decide_eq_false (Int32.not_le.mpr c_2)]; rfl) | (rw [decide_eq_false (Int32.not_le.mpr c_7), Bool.and_false]; rfl), rfl, rfl⟩
  · refine lv_iload_n hx hb dX8_isIn_5 rfl (lv_at hl 0 rfl) ?_
    refine lv_iload_n hx hb dX8_isIn_6 rfl (lv_at hl 2 rfl) ?_
    refine lv_icmp_gt (tgt := 14) hx hb dX8_isIn_7 (by decide) (fun c_7 => ?_) (fun c_7 => ?_)
    · refine lv_iconst (v := 0) hx hb dX8_isIn_14 (by decide) ?_
      exact k_iret Z X hr hlocks rfl (Nat.le_of_ble_eq_true rfl) (Nat.le_of_ble_eq_true rfl) dX8_isIn_15 ⟨by first | (rw [decide_eq_false (Int32.not_le.mpr c_2)]; rfl) | (rw [decide_eq_false (Int32.not_le.mpr c_7), Bool.and_false]; rfl), rfl, rfl⟩
    · refine lv_iconst (v := 1) hx hb dX8_isIn_10 (by decide) ?_
      refine lv_goto (tgt := 15) hx hb dX8_isIn_11 (by decide) ?_
      exact k_iret Z X hr hlocks rfl (Nat.le_of_ble_eq_true rfl) (Nat.le_of_ble_eq_true rfl) dX8_isIn_15 ⟨by rw [decide_eq_true (Int32.not_lt.mp c_2), decide_eq_true (Int32.not_lt.mp c_7)]; rfl, rfl, rfl⟩
end
section
theorem inB_rng {u : Int32} {n : Nat} (hn : n ≤ 100000) : (decide (0 ≤ u) && decide (u ≤ nI n - 1)) = inB u n := by
  have h1 : (nI n - 1).toInt = (n : Int) - 1 := by
    have := pk_sub_toInt (a := n) (b := 1) (by omega) (by decide)
    exact this
  simp only [inB]
  have e1 : (0 ≤ u) = (0 ≤ u.toInt) := propext (Int32.le_iff_toInt_le)
  have e2 : (u ≤ nI n - 1) = (u.toInt < n) := by
    apply propext
    rw [Int32.le_iff_toInt_le, h1]
    omega
  simp only [e1, e2]
theorem kdT_of {T : kSt} {a u : Nat} (h : cnts T (kdT T a) u = true) : kdT T a u = T.1 21 (12 * a + u) := by
  by_cases h2 : T.1 22 (12 * a + u) = T.1 7 a
  · exact if_pos h2
  · have h3 : kdT T a u = -1 := if_neg h2
    simp [cnts, h3] at h
theorem dX8_isUser_0 : decode cX8_isUser 0 = .ok (.iload_n 1, 1) := by decide +kernel
theorem dX8_isUser_1 : decode cX8_isUser 1 = .ok (.iconst 0, 1) := by decide +kernel
theorem dX8_isUser_2 : decode cX8_isUser 2 = .ok (.aload_n 0, 1) := by decide +kernel
theorem dX8_isUser_3 : decode cX8_isUser 3 = .ok (.getfield 81, 3) := by decide +kernel
theorem dX8_isUser_6 : decode cX8_isUser 6 = .ok (.iconst 1, 1) := by decide +kernel
theorem dX8_isUser_7 : decode cX8_isUser 7 = .ok (.isub, 1) := by decide +kernel
theorem dX8_isUser_8 : decode cX8_isUser 8 = .ok (.invokestatic 84, 3) := by decide +kernel
theorem dX8_isUser_11 : decode cX8_isUser 11 = .ok (.ireturn, 1) := by decide +kernel
set_option maxHeartbeats 4000000 in
set_option maxRecDepth 100000 in
theorem c_X8_isUser (l : Launch) (E : State) (G : kG) (S T : kSt) (o : Int64) (ad : kAd) (x : Int32) (hT : T.2 0 0 ≤ 100000) : Met l yX8_isUser (.code yX8_isUser cX8_isUser 2 (some .boolean) :: wsL_law) ({ frames := 2, cells := 0, slots := 0, locals := 30 } : Room) (va_Pc [.ref (ad 16 0), .int x] (kPre E G ad (cto G S T o ad))) (kQi E G (fun r ad1 ct1 => r = bI (inB x (T.2 0 0)) ∧ ad = ad1 ∧ ct1 = cto G S T o ad)) 0 0 (kB E.heap.size) := by
  refine Met.ofW (cc := cX8_isUser) (maxL := 2) (ret := (some .boolean)) (by decide) rfl ?_
  intro p e s m args below meth c s₁ B hml hv
  obtain ⟨rfl, hM, hK, hW0⟩ := hv
  have hlocks := B.notSynchronized
  have hr := B.returns
  have Z : kZ p m c cX8_isUser 2 s _ wsL_law RX8 E G := ⟨⟨B.exec, B.bytes, hml, findClass_of_methodNamed B.named, fun w h => atoms_spec (ws := .code yX8_isUser cX8_isUser 2 (some .boolean) :: wsL_law) B.pre w (List.mem_cons_of_mem _ h)⟩, hM, hK⟩
  have hx := Z.1.1
  have hb := Z.1.2.1
  have X := kX.of hW0
  have hl := lv_entry ([.ref (ad 16 0), .int x]) (n := 2) (Nat.le_of_ble_eq_true rfl)
  rw [lg_entry_eq]
  generalize (lg_sl ([.ref (ad 16 0), .int x]) ++ List.replicate (2 - (lg_sl ([.ref (ad 16 0), .int x])).length) Slot.unset).toArray = ls at hl ⊢
  have hl : lv_has ls 2 [(0, .ref (ad 16 0)), (1, .int x)] := hl
  refine lv_iload_n hx hb dX8_isUser_0 rfl (lv_at hl 1 rfl) ?_
  refine lv_iconst (v := 0) hx hb dX8_isUser_1 (by decide) ?_
  refine lv_aload_n hx hb dX8_isUser_2 rfl (lv_at hl 0 rfl) ?_
  refine k_get (index := 81) (j := 1) (ad := ad) (k := 16) (i := 0) Z X ct_16 inlX8 rfl (by decide) (inU_8 _ (List.mem_of_getElem? (i := 19) rfl)) (fun _ h => h) rfl dX8_isUser_3 ?_
  refine lv_iconst (v := 1) hx hb dX8_isUser_6 (by decide) ?_
  refine lv_isub hx hb dX8_isUser_7 ?_
  refine k_Ri X (k_runS (As := [.int x, .int 0, .int ((nI (T.2 0 0)) - 1)]) (rest := []) Z X (c_X8_isIn l E G S T o ad x 0 ((nI (T.2 0 0)) - 1)) (k_cwS 3 Z.1.2.2.2.2 (inU_8 _ (List.mem_of_getElem? (i := 23) rfl)) (inU_9 _ (List.mem_of_getElem? (i := 0) rfl)) (inU_1 _ (List.mem_of_getElem? (i := 5) rfl)) (inU_9 _ (List.mem_of_getElem? (i := 1) rfl)) rfl rfl (by decide +kernel) ⟨Nat.le_of_ble_eq_true rfl, Nat.le_of_ble_eq_true rfl⟩) rfl hl.1 rfl (Nat.le_of_ble_eq_true rfl) dX8_isUser_8 ⟨Nat.le_of_ble_eq_true rfl, Nat.le_of_ble_eq_true rfl⟩) (fun r_8 ad1 ct1 H locs hp X => ?_)
  obtain ⟨rfl, rfl, rfl⟩ := hp
  exact k_iret Z X hr hlocks bI_nar (Nat.le_of_ble_eq_true rfl) (Nat.le_of_ble_eq_true rfl) dX8_isUser_11 ⟨congrArg bI (inB_rng hT), rfl, rfl⟩
theorem dX8_isMessage_0 : decode cX8_isMessage 0 = .ok (.iload_n 1, 1) := by decide +kernel
theorem dX8_isMessage_1 : decode cX8_isMessage 1 = .ok (.iconst 0, 1) := by decide +kernel
theorem dX8_isMessage_2 : decode cX8_isMessage 2 = .ok (.aload_n 0, 1) := by decide +kernel
theorem dX8_isMessage_3 : decode cX8_isMessage 3 = .ok (.getfield 91, 3) := by decide +kernel
theorem dX8_isMessage_6 : decode cX8_isMessage 6 = .ok (.iconst 1, 1) := by decide +kernel
theorem dX8_isMessage_7 : decode cX8_isMessage 7 = .ok (.isub, 1) := by decide +kernel
theorem dX8_isMessage_8 : decode cX8_isMessage 8 = .ok (.invokestatic 84, 3) := by decide +kernel
theorem dX8_isMessage_11 : decode cX8_isMessage 11 = .ok (.ireturn, 1) := by decide +kernel
set_option maxHeartbeats 4000000 in
set_option maxRecDepth 100000 in
theorem c_X8_isMessage (l : Launch) (E : State) (G : kG) (S T : kSt) (o : Int64) (ad : kAd) (x : Int32) (hT : T.2 0 1 ≤ 100000) : Met l yX8_isMessage (.code yX8_isMessage cX8_isMessage 2 (some .boolean) :: wsL_law) ({ frames := 2, cells := 0, slots := 0, locals := 30 } : Room) (va_Pc [.ref (ad 16 0), .int x] (kPre E G ad (cto G S T o ad))) (kQi E G (fun r ad1 ct1 => r = bI (inB x (T.2 0 1)) ∧ ad = ad1 ∧ ct1 = cto G S T o ad)) 0 0 (kB E.heap.size) := by
  refine Met.ofW (cc := cX8_isMessage) (maxL := 2) (ret := (some .boolean)) (by decide) rfl ?_
  intro p e s m args below meth c s₁ B hml hv
  obtain ⟨rfl, hM, hK, hW0⟩ := hv
  have hlocks := B.notSynchronized
  have hr := B.returns
  have Z : kZ p m c cX8_isMessage 2 s _ wsL_law RX8 E G := ⟨⟨B.exec, B.bytes, hml, findClass_of_methodNamed B.named, fun w h => atoms_spec (ws := .code yX8_isMessage cX8_isMessage 2 (some .boolean) :: wsL_law) B.pre w (List.mem_cons_of_mem _ h)⟩, hM, hK⟩
  have hx := Z.1.1
  have hb := Z.1.2.1
  have X := kX.of hW0
  have hl := lv_entry ([.ref (ad 16 0), .int x]) (n := 2) (Nat.le_of_ble_eq_true rfl)
  rw [lg_entry_eq]
  generalize (lg_sl ([.ref (ad 16 0), .int x]) ++ List.replicate (2 - (lg_sl ([.ref (ad 16 0), .int x])).length) Slot.unset).toArray = ls at hl ⊢
  have hl : lv_has ls 2 [(0, .ref (ad 16 0)), (1, .int x)] := hl
  refine lv_iload_n hx hb dX8_isMessage_0 rfl (lv_at hl 1 rfl) ?_
  refine lv_iconst (v := 0) hx hb dX8_isMessage_1 (by decide) ?_
  refine lv_aload_n hx hb dX8_isMessage_2 rfl (lv_at hl 0 rfl) ?_
  refine k_get (index := 91) (j := 6) (ad := ad) (k := 16) (i := 0) Z X ct_16 inlX8 rfl (by decide) (inU_16 _ (List.mem_of_getElem? (i := 12) rfl)) (fun _ h => h) rfl dX8_isMessage_3 ?_
  refine lv_iconst (v := 1) hx hb dX8_isMessage_6 (by decide) ?_
  refine lv_isub hx hb dX8_isMessage_7 ?_
  refine k_Ri X (k_runS (As := [.int x, .int 0, .int ((nI (T.2 0 1)) - 1)]) (rest := []) Z X (c_X8_isIn l E G S T o ad x 0 ((nI (T.2 0 1)) - 1)) (k_cwS 3 Z.1.2.2.2.2 (inU_8 _ (List.mem_of_getElem? (i := 23) rfl)) (inU_9 _ (List.mem_of_getElem? (i := 0) rfl)) (inU_1 _ (List.mem_of_getElem? (i := 5) rfl)) (inU_9 _ (List.mem_of_getElem? (i := 1) rfl)) rfl rfl (by decide +kernel) ⟨Nat.le_of_ble_eq_true rfl, Nat.le_of_ble_eq_true rfl⟩) rfl hl.1 rfl (Nat.le_of_ble_eq_true rfl) dX8_isMessage_8 ⟨Nat.le_of_ble_eq_true rfl, Nat.le_of_ble_eq_true rfl⟩) (fun r_8 ad1 ct1 H locs hp X => ?_)
  obtain ⟨rfl, rfl, rfl⟩ := hp
  exact k_iret Z X hr hlocks bI_nar (Nat.le_of_ble_eq_true rfl) (Nat.le_of_ble_eq_true rfl) dX8_isMessage_11 ⟨congrArg bI (inB_rng hT), rfl, rfl⟩
theorem dX8_isTask_0 : decode cX8_isTask 0 = .ok (.iload_n 1, 1) := by decide +kernel
theorem dX8_isTask_1 : decode cX8_isTask 1 = .ok (.iconst 0, 1) := by decide +kernel
theorem dX8_isTask_2 : decode cX8_isTask 2 = .ok (.aload_n 0, 1) := by decide +kernel
theorem dX8_isTask_3 : decode cX8_isTask 3 = .ok (.getfield 128, 3) := by decide +kernel
theorem dX8_isTask_6 : decode cX8_isTask 6 = .ok (.iconst 1, 1) := by decide +kernel
theorem dX8_isTask_7 : decode cX8_isTask 7 = .ok (.isub, 1) := by decide +kernel
theorem dX8_isTask_8 : decode cX8_isTask 8 = .ok (.invokestatic 84, 3) := by decide +kernel
theorem dX8_isTask_11 : decode cX8_isTask 11 = .ok (.ireturn, 1) := by decide +kernel
set_option maxHeartbeats 4000000 in
set_option maxRecDepth 100000 in
theorem c_X8_isTask (l : Launch) (E : State) (G : kG) (S T : kSt) (o : Int64) (ad : kAd) (x : Int32) (hT : T.2 0 3 ≤ 100000) : Met l yX8_isTask (.code yX8_isTask cX8_isTask 2 (some .boolean) :: wsL_law) ({ frames := 2, cells := 0, slots := 0, locals := 30 } : Room) (va_Pc [.ref (ad 16 0), .int x] (kPre E G ad (cto G S T o ad))) (kQi E G (fun r ad1 ct1 => r = bI (inB x (T.2 0 3)) ∧ ad = ad1 ∧ ct1 = cto G S T o ad)) 0 0 (kB E.heap.size) := by
  refine Met.ofW (cc := cX8_isTask) (maxL := 2) (ret := (some .boolean)) (by decide) rfl ?_
  intro p e s m args below meth c s₁ B hml hv
  obtain ⟨rfl, hM, hK, hW0⟩ := hv
  have hlocks := B.notSynchronized
  have hr := B.returns
  have Z : kZ p m c cX8_isTask 2 s _ wsL_law RX8 E G := ⟨⟨B.exec, B.bytes, hml, findClass_of_methodNamed B.named, fun w h => atoms_spec (ws := .code yX8_isTask cX8_isTask 2 (some .boolean) :: wsL_law) B.pre w (List.mem_cons_of_mem _ h)⟩, hM, hK⟩
  have hx := Z.1.1
  have hb := Z.1.2.1
  have X := kX.of hW0
  have hl := lv_entry ([.ref (ad 16 0), .int x]) (n := 2) (Nat.le_of_ble_eq_true rfl)
  rw [lg_entry_eq]
  generalize (lg_sl ([.ref (ad 16 0), .int x]) ++ List.replicate (2 - (lg_sl ([.ref (ad 16 0), .int x])).length) Slot.unset).toArray = ls at hl ⊢
  have hl : lv_has ls 2 [(0, .ref (ad 16 0)), (1, .int x)] := hl
  refine lv_iload_n hx hb dX8_isTask_0 rfl (lv_at hl 1 rfl) ?_
  refine lv_iconst (v := 0) hx hb dX8_isTask_1 (by decide) ?_
  refine lv_aload_n hx hb dX8_isTask_2 rfl (lv_at hl 0 rfl) ?_
  refine k_get (index := 128) (j := 20) (ad := ad) (k := 16) (i := 0) Z X ct_16 inlX8 rfl (by decide) (inU_18 _ (List.mem_of_getElem? (i := 1) rfl)) (fun _ h => h) rfl dX8_isTask_3 ?_
  refine lv_iconst (v := 1) hx hb dX8_isTask_6 (by decide) ?_
  refine lv_isub hx hb dX8_isTask_7 ?_
  refine k_Ri X (k_runS (As := [.int x, .int 0, .int ((nI (T.2 0 3)) - 1)]) (rest := []) Z X (c_X8_isIn l E G S T o ad x 0 ((nI (T.2 0 3)) - 1)) (k_cwS 3 Z.1.2.2.2.2 (inU_8 _ (List.mem_of_getElem? (i := 23) rfl)) (inU_9 _ (List.mem_of_getElem? (i := 0) rfl)) (inU_1 _ (List.mem_of_getElem? (i := 5) rfl)) (inU_9 _ (List.mem_of_getElem? (i := 1) rfl)) rfl rfl (by decide +kernel) ⟨Nat.le_of_ble_eq_true rfl, Nat.le_of_ble_eq_true rfl⟩) rfl hl.1 rfl (Nat.le_of_ble_eq_true rfl) dX8_isTask_8 ⟨Nat.le_of_ble_eq_true rfl, Nat.le_of_ble_eq_true rfl⟩) (fun r_8 ad1 ct1 H locs hp X => ?_)
  obtain ⟨rfl, rfl, rfl⟩ := hp
  exact k_iret Z X hr hlocks bI_nar (Nat.le_of_ble_eq_true rfl) (Nat.le_of_ble_eq_true rfl) dX8_isTask_11 ⟨congrArg bI (inB_rng hT), rfl, rfl⟩
theorem dX8_isChannel_0 : decode cX8_isChannel 0 = .ok (.iload_n 0, 1) := by decide +kernel
theorem dX8_isChannel_1 : decode cX8_isChannel 1 = .ok (.iconst 0, 1) := by decide +kernel
theorem dX8_isChannel_2 : decode cX8_isChannel 2 = .ok (.iconst 5, 1) := by decide +kernel
theorem dX8_isChannel_3 : decode cX8_isChannel 3 = .ok (.invokestatic 84, 3) := by decide +kernel
theorem dX8_isChannel_6 : decode cX8_isChannel 6 = .ok (.ireturn, 1) := by decide +kernel
set_option maxHeartbeats 4000000 in
set_option maxRecDepth 100000 in
theorem c_X8_isChannel (l : Launch) (E : State) (G : kG) (S T : kSt) (o : Int64) (ad : kAd) (x : Int32) : Met l yX8_isChannel (.code yX8_isChannel cX8_isChannel 1 (some .boolean) :: wsL_law) ({ frames := 2, cells := 0, slots := 0, locals := 30 } : Room) (va_Pc [.int x] (kPre E G ad (cto G S T o ad))) (kQi E G (fun r ad1 ct1 => r = bI (decide (0 ≤ x) && decide (x ≤ 5)) ∧ ad = ad1 ∧ ct1 = cto G S T o ad)) 0 0 (kB E.heap.size) := by
  refine Met.ofW (cc := cX8_isChannel) (maxL := 1) (ret := (some .boolean)) (by decide) rfl ?_
  intro p e s m args below meth c s₁ B hml hv
  obtain ⟨rfl, hM, hK, hW0⟩ := hv
  have hlocks := B.notSynchronized
  have hr := B.returns
  have Z : kZ p m c cX8_isChannel 1 s _ wsL_law RX8 E G := ⟨⟨B.exec, B.bytes, hml, findClass_of_methodNamed B.named, fun w h => atoms_spec (ws := .code yX8_isChannel cX8_isChannel 1 (some .boolean) :: wsL_law) B.pre w (List.mem_cons_of_mem _ h)⟩, hM, hK⟩
  have hx := Z.1.1
  have hb := Z.1.2.1
  have X := kX.of hW0
  have hl := lv_entry ([.int x]) (n := 1) (Nat.le_of_ble_eq_true rfl)
  rw [lg_entry_eq]
  generalize (lg_sl ([.int x]) ++ List.replicate (1 - (lg_sl ([.int x])).length) Slot.unset).toArray = ls at hl ⊢
  have hl : lv_has ls 1 [(0, .int x)] := hl
  refine lv_iload_n hx hb dX8_isChannel_0 rfl (lv_at hl 0 rfl) ?_
  refine lv_iconst (v := 0) hx hb dX8_isChannel_1 (by decide) ?_
  refine lv_iconst (v := 5) hx hb dX8_isChannel_2 (by decide) ?_
  refine k_Ri X (k_runS (As := [.int x, .int 0, .int 5]) (rest := []) Z X (c_X8_isIn l E G S T o ad x 0 5) (k_cwS 3 Z.1.2.2.2.2 (inU_8 _ (List.mem_of_getElem? (i := 23) rfl)) (inU_9 _ (List.mem_of_getElem? (i := 0) rfl)) (inU_1 _ (List.mem_of_getElem? (i := 5) rfl)) (inU_9 _ (List.mem_of_getElem? (i := 1) rfl)) rfl rfl (by decide +kernel) ⟨Nat.le_of_ble_eq_true rfl, Nat.le_of_ble_eq_true rfl⟩) rfl hl.1 rfl (Nat.le_of_ble_eq_true rfl) dX8_isChannel_3 ⟨Nat.le_of_ble_eq_true rfl, Nat.le_of_ble_eq_true rfl⟩) (fun r_3 ad1 ct1 H locs hp X => ?_)
  obtain ⟨rfl, rfl, rfl⟩ := hp
  exact k_iret Z X hr hlocks bI_nar (Nat.le_of_ble_eq_true rfl) (Nat.le_of_ble_eq_true rfl) dX8_isChannel_6 ⟨rfl, rfl, rfl⟩
theorem dX8_isRole_0 : decode cX8_isRole 0 = .ok (.iload_n 0, 1) := by decide +kernel
theorem dX8_isRole_1 : decode cX8_isRole 1 = .ok (.iconst 0, 1) := by decide +kernel
theorem dX8_isRole_2 : decode cX8_isRole 2 = .ok (.iconst 3, 1) := by decide +kernel
theorem dX8_isRole_3 : decode cX8_isRole 3 = .ok (.invokestatic 84, 3) := by decide +kernel
theorem dX8_isRole_6 : decode cX8_isRole 6 = .ok (.ireturn, 1) := by decide +kernel
set_option maxHeartbeats 4000000 in
set_option maxRecDepth 100000 in
theorem c_X8_isRole (l : Launch) (E : State) (G : kG) (S T : kSt) (o : Int64) (ad : kAd) (x : Int32) : Met l yX8_isRole (.code yX8_isRole cX8_isRole 1 (some .boolean) :: wsL_law) ({ frames := 2, cells := 0, slots := 0, locals := 30 } : Room) (va_Pc [.int x] (kPre E G ad (cto G S T o ad))) (kQi E G (fun r ad1 ct1 => r = bI (decide (0 ≤ x) && decide (x ≤ 3)) ∧ ad = ad1 ∧ ct1 = cto G S T o ad)) 0 0 (kB E.heap.size) := by
  refine Met.ofW (cc := cX8_isRole) (maxL := 1) (ret := (some .boolean)) (by decide) rfl ?_
  intro p e s m args below meth c s₁ B hml hv
  obtain ⟨rfl, hM, hK, hW0⟩ := hv
  have hlocks := B.notSynchronized
  have hr := B.returns
  have Z : kZ p m c cX8_isRole 1 s _ wsL_law RX8 E G := ⟨⟨B.exec, B.bytes, hml, findClass_of_methodNamed B.named, fun w h => atoms_spec (ws := .code yX8_isRole cX8_isRole 1 (some .boolean) :: wsL_law) B.pre w (List.mem_cons_of_mem _ h)⟩, hM, hK⟩
  have hx := Z.1.1
  have hb := Z.1.2.1
  have X := kX.of hW0
  have hl := lv_entry ([.int x]) (n := 1) (Nat.le_of_ble_eq_true rfl)
  rw [lg_entry_eq]
  generalize (lg_sl ([.int x]) ++ List.replicate (1 - (lg_sl ([.int x])).length) Slot.unset).toArray = ls at hl ⊢
  have hl : lv_has ls 1 [(0, .int x)] := hl
  refine lv_iload_n hx hb dX8_isRole_0 rfl (lv_at hl 0 rfl) ?_
  refine lv_iconst (v := 0) hx hb dX8_isRole_1 (by decide) ?_
  refine lv_iconst (v := 3) hx hb dX8_isRole_2 (by decide) ?_
  refine k_Ri X (k_runS (As := [.int x, .int 0, .int 3]) (rest := []) Z X (c_X8_isIn l E G S T o ad x 0 3) (k_cwS 3 Z.1.2.2.2.2 (inU_8 _ (List.mem_of_getElem? (i := 23) rfl)) (inU_9 _ (List.mem_of_getElem? (i := 0) rfl)) (inU_1 _ (List.mem_of_getElem? (i := 5) rfl)) (inU_9 _ (List.mem_of_getElem? (i := 1) rfl)) rfl rfl (by decide +kernel) ⟨Nat.le_of_ble_eq_true rfl, Nat.le_of_ble_eq_true rfl⟩) rfl hl.1 rfl (Nat.le_of_ble_eq_true rfl) dX8_isRole_3 ⟨Nat.le_of_ble_eq_true rfl, Nat.le_of_ble_eq_true rfl⟩) (fun r_3 ad1 ct1 H locs hp X => ?_)
  obtain ⟨rfl, rfl, rfl⟩ := hp
  exact k_iret Z X hr hlocks bI_nar (Nat.le_of_ble_eq_true rfl) (Nat.le_of_ble_eq_true rfl) dX8_isRole_6 ⟨rfl, rfl, rfl⟩
theorem dX8_isGone_0 : decode cX8_isGone 0 = .ok (.aload_n 0, 1) := by decide +kernel
theorem dX8_isGone_1 : decode cX8_isGone 1 = .ok (.getfield 13, 3) := by decide +kernel
theorem dX8_isGone_4 : decode cX8_isGone 4 = .ok (.iload_n 1, 1) := by decide +kernel
theorem dX8_isGone_5 : decode cX8_isGone 5 = .ok (.iaload, 1) := by decide +kernel
theorem dX8_isGone_6 : decode cX8_isGone 6 = .ok (.iconst (-1), 1) := by decide +kernel
theorem dX8_isGone_7 : decode cX8_isGone 7 = .ok (.if_icmp .eq 20, 3) := by decide +kernel
theorem dX8_isGone_10 : decode cX8_isGone 10 = .ok (.aload_n 0, 1) := by decide +kernel
theorem dX8_isGone_11 : decode cX8_isGone 11 = .ok (.getfield 88, 3) := by decide +kernel
theorem dX8_isGone_14 : decode cX8_isGone 14 = .ok (.aload_n 0, 1) := by decide +kernel
theorem dX8_isGone_15 : decode cX8_isGone 15 = .ok (.getfield 13, 3) := by decide +kernel
theorem dX8_isGone_18 : decode cX8_isGone 18 = .ok (.iload_n 1, 1) := by decide +kernel
theorem dX8_isGone_19 : decode cX8_isGone 19 = .ok (.iaload, 1) := by decide +kernel
theorem dX8_isGone_20 : decode cX8_isGone 20 = .ok (.if_icmp .lt 7, 3) := by decide +kernel
theorem dX8_isGone_23 : decode cX8_isGone 23 = .ok (.iconst 1, 1) := by decide +kernel
theorem dX8_isGone_24 : decode cX8_isGone 24 = .ok (.goto 4, 3) := by decide +kernel
theorem dX8_isGone_27 : decode cX8_isGone 27 = .ok (.iconst 0, 1) := by decide +kernel
theorem dX8_isGone_28 : decode cX8_isGone 28 = .ok (.ireturn, 1) := by decide +kernel
set_option maxHeartbeats 4000000 in
set_option maxRecDepth 100000 in
theorem c_X8_isGone (l : Launch) (E : State) (G : kG) (S T : kSt) (o : Int64) (ad : kAd) (j : Nat) (hj : j < 12) : Met l yX8_isGone (.code yX8_isGone cX8_isGone 2 (some .boolean) :: wsL_law) ({ frames := 1, cells := 0, slots := 0, locals := 8 } : Room) (va_Pc [.ref (ad 16 0), .int (nI j)] (kPre E G ad (cto G S T o ad))) (kQi E G (fun r ad1 ct1 => r = bI (gone T j) ∧ ad = ad1 ∧ ct1 = cto G S T o ad)) 0 0 (kB E.heap.size) := by
  refine Met.ofW (cc := cX8_isGone) (maxL := 2) (ret := (some .boolean)) (by decide) rfl ?_
  intro p e s m args below meth c s₁ B hml hv
  obtain ⟨rfl, hM, hK, hW0⟩ := hv
  have hlocks := B.notSynchronized
  have hr := B.returns
  have Z : kZ p m c cX8_isGone 2 s _ wsL_law RX8 E G := ⟨⟨B.exec, B.bytes, hml, findClass_of_methodNamed B.named, fun w h => atoms_spec (ws := .code yX8_isGone cX8_isGone 2 (some .boolean) :: wsL_law) B.pre w (List.mem_cons_of_mem _ h)⟩, hM, hK⟩
  have hx := Z.1.1
  have hb := Z.1.2.1
  have X := kX.of hW0
  have hl := lv_entry ([.ref (ad 16 0), .int (nI j)]) (n := 2) (Nat.le_of_ble_eq_true rfl)
  rw [lg_entry_eq]
  generalize (lg_sl ([.ref (ad 16 0), .int (nI j)]) ++ List.replicate (2 - (lg_sl ([.ref (ad 16 0), .int (nI j)])).length) Slot.unset).toArray = ls at hl ⊢
  have hl : lv_has ls 2 [(0, .ref (ad 16 0)), (1, .int (nI j))] := hl
  refine lv_aload_n hx hb dX8_isGone_0 rfl (lv_at hl 0 rfl) ?_
  refine k_get (index := 13) (j := 3) (ad := ad) (k := 16) (i := 0) Z X ct_16 inlX8 rfl (by decide) (inU_6 _ (List.mem_of_getElem? (i := 7) rfl)) (fun _ h => h) rfl dX8_isGone_1 ?_
  refine lv_iload_n hx hb dX8_isGone_4 rfl (lv_at hl 1 rfl) ?_
  refine k_ild (ad := ad) (k := 17) (i := 1) Z X ct_17_1 (vp_in_nI (by first | assumption | omega) (by decide)) dX8_isGone_5 ?_
  refine lv_topi (fun x_5 e_5 => ?_)
  obtain rfl : x_5 = T.1 2 j := e_5.trans (by simp only [nI_clamp (show j < 2 ^ 31 by omega)])
  refine lv_iconst (v := (-1)) hx hb dX8_isGone_6 (by decide) ?_
  refine lv_icmp_eq (tgt := 27) hx hb dX8_isGone_7 (by decide) (fun c_7 => ?_) (fun c_7 => ?_)
  · refine lv_iconst (v := 0) hx hb dX8_isGone_27 (by decide) ?_
    exact k_iret Z X hr hlocks rfl (Nat.le_of_ble_eq_true rfl) (Nat.le_of_ble_eq_true rfl) dX8_isGone_28 ⟨bI_f (by simp [gone, c_7]), rfl, rfl⟩
  · refine lv_aload_n hx hb dX8_isGone_10 rfl (lv_at hl 0 rfl) ?_
    refine k_get (index := 88) (j := 0) (ad := ad) (k := 16) (i := 0) Z X ct_16 inlX8 rfl (by decide) (inU_13 _ (List.mem_of_getElem? (i := 6) rfl)) (fun _ h => h) rfl dX8_isGone_11 ?_
    refine lv_aload_n hx hb dX8_isGone_14 rfl (lv_at hl 0 rfl) ?_
    refine k_get (index := 13) (j := 3) (ad := ad) (k := 16) (i := 0) Z X ct_16 inlX8 rfl (by decide) (inU_6 _ (List.mem_of_getElem? (i := 7) rfl)) (fun _ h => h) rfl dX8_isGone_15 ?_
    refine lv_iload_n hx hb dX8_isGone_18 rfl (lv_at hl 1 rfl) ?_
    refine k_ild (ad := ad) (k := 17) (i := 1) Z X ct_17_1 (vp_in_nI (by first | assumption | omega) (by decide)) dX8_isGone_19 ?_
    refine lv_topi (fun x_19 e_19 => ?_)
    obtain rfl : x_19 = T.1 2 j := e_19.trans (by simp only [nI_clamp (show j < 2 ^ 31 by omega)])
    refine lv_icmp_lt (tgt := 27) hx hb dX8_isGone_20 (by decide) (fun c_20 => ?_) (fun c_20 => ?_)
    · refine lv_iconst (v := 0) hx hb dX8_isGone_27 (by decide) ?_
      exact k_iret Z X hr hlocks rfl (Nat.le_of_ble_eq_true rfl) (Nat.le_of_ble_eq_true rfl) dX8_isGone_28 ⟨bI_f (by simp [gone, c_7, c_20]), rfl, rfl⟩
    · refine lv_iconst (v := 1) hx hb dX8_isGone_23 (by decide) ?_
      refine lv_goto (tgt := 28) hx hb dX8_isGone_24 (by decide) ?_
      exact k_iret Z X hr hlocks rfl (Nat.le_of_ble_eq_true rfl) (Nat.le_of_ble_eq_true rfl) dX8_isGone_28 ⟨bI_t (by simp [gone, c_7, c_20]), rfl, rfl⟩
theorem dX8_counts_0 : decode cX8_counts 0 = .ok (.bipush 12, 2) := by decide +kernel
theorem dX8_counts_2 : decode cX8_counts 2 = .ok (.iload_n 1, 1) := by decide +kernel
theorem dX8_counts_3 : decode cX8_counts 3 = .ok (.imul, 1) := by decide +kernel
theorem dX8_counts_4 : decode cX8_counts 4 = .ok (.iload_n 2, 1) := by decide +kernel
theorem dX8_counts_5 : decode cX8_counts 5 = .ok (.iadd, 1) := by decide +kernel
theorem dX8_counts_6 : decode cX8_counts 6 = .ok (.istore_n 3, 1) := by decide +kernel
theorem dX8_counts_7 : decode cX8_counts 7 = .ok (.aload_n 0, 1) := by decide +kernel
theorem dX8_counts_8 : decode cX8_counts 8 = .ok (.getfield 41, 3) := by decide +kernel
theorem dX8_counts_11 : decode cX8_counts 11 = .ok (.iload_n 3, 1) := by decide +kernel
theorem dX8_counts_12 : decode cX8_counts 12 = .ok (.iaload, 1) := by decide +kernel
theorem dX8_counts_13 : decode cX8_counts 13 = .ok (.iconst (-1), 1) := by decide +kernel
theorem dX8_counts_14 : decode cX8_counts 14 = .ok (.if_icmp .eq 39, 3) := by decide +kernel
theorem dX8_counts_17 : decode cX8_counts 17 = .ok (.aload_n 0, 1) := by decide +kernel
theorem dX8_counts_18 : decode cX8_counts 18 = .ok (.getfield 44, 3) := by decide +kernel
theorem dX8_counts_21 : decode cX8_counts 21 = .ok (.iload_n 3, 1) := by decide +kernel
theorem dX8_counts_22 : decode cX8_counts 22 = .ok (.iaload, 1) := by decide +kernel
theorem dX8_counts_23 : decode cX8_counts 23 = .ok (.aload_n 0, 1) := by decide +kernel
theorem dX8_counts_24 : decode cX8_counts 24 = .ok (.getfield 32, 3) := by decide +kernel
theorem dX8_counts_27 : decode cX8_counts 27 = .ok (.iload_n 1, 1) := by decide +kernel
theorem dX8_counts_28 : decode cX8_counts 28 = .ok (.iaload, 1) := by decide +kernel
theorem dX8_counts_29 : decode cX8_counts 29 = .ok (.if_icmp .ne 24, 3) := by decide +kernel
theorem dX8_counts_32 : decode cX8_counts 32 = .ok (.aload_n 0, 1) := by decide +kernel
theorem dX8_counts_33 : decode cX8_counts 33 = .ok (.iload_n 2, 1) := by decide +kernel
theorem dX8_counts_34 : decode cX8_counts 34 = .ok (.invokevirtual 94, 3) := by decide +kernel
theorem dX8_counts_37 : decode cX8_counts 37 = .ok (.ifCond .ne 16, 3) := by decide +kernel
theorem dX8_counts_40 : decode cX8_counts 40 = .ok (.aload_n 0, 1) := by decide +kernel
theorem dX8_counts_41 : decode cX8_counts 41 = .ok (.getfield 7, 3) := by decide +kernel
theorem dX8_counts_44 : decode cX8_counts 44 = .ok (.iload_n 2, 1) := by decide +kernel
theorem dX8_counts_45 : decode cX8_counts 45 = .ok (.iaload, 1) := by decide +kernel
theorem dX8_counts_46 : decode cX8_counts 46 = .ok (.ifCond .eq 7, 3) := by decide +kernel
theorem dX8_counts_49 : decode cX8_counts 49 = .ok (.iconst 1, 1) := by decide +kernel
theorem dX8_counts_50 : decode cX8_counts 50 = .ok (.goto 4, 3) := by decide +kernel
theorem dX8_counts_53 : decode cX8_counts 53 = .ok (.iconst 0, 1) := by decide +kernel
theorem dX8_counts_54 : decode cX8_counts 54 = .ok (.ireturn, 1) := by decide +kernel
set_option maxHeartbeats 4000000 in
set_option maxRecDepth 100000 in
theorem c_X8_counts (l : Launch) (E : State) (G : kG) (S T : kSt) (o : Int64) (ad : kAd) (a j : Nat) (ha : a < 80) (hj : j < 12) : Met l yX8_counts (.code yX8_counts cX8_counts 4 (some .boolean) :: wsL_law) ({ frames := 2, cells := 0, slots := 0, locals := 29 } : Room) (va_Pc [.ref (ad 16 0), .int (nI a), .int (nI j)] (kPre E G ad (cto G S T o ad))) (kQi E G (fun r ad1 ct1 => r = bI (cnts T (kdT T a) j) ∧ ad = ad1 ∧ ct1 = cto G S T o ad)) 0 0 (kB E.heap.size) := by
  refine Met.ofW (cc := cX8_counts) (maxL := 4) (ret := (some .boolean)) (by decide) rfl ?_
  intro p e s m args below meth c s₁ B hml hv
  obtain ⟨rfl, hM, hK, hW0⟩ := hv
  have hlocks := B.notSynchronized
  have hr := B.returns
  have Z : kZ p m c cX8_counts 4 s _ wsL_law RX8 E G := ⟨⟨B.exec, B.bytes, hml, findClass_of_methodNamed B.named, fun w h => atoms_spec (ws := .code yX8_counts cX8_counts 4 (some .boolean) :: wsL_law) B.pre w (List.mem_cons_of_mem _ h)⟩, hM, hK⟩
  have hx := Z.1.1
  have hb := Z.1.2.1
  have X := kX.of hW0
  have hl := lv_entry ([.ref (ad 16 0), .int (nI a), .int (nI j)]) (n := 4) (Nat.le_of_ble_eq_true rfl)
  rw [lg_entry_eq]
  generalize (lg_sl ([.ref (ad 16 0), .int (nI a), .int (nI j)]) ++ List.replicate (4 - (lg_sl ([.ref (ad 16 0), .int (nI a), .int (nI j)])).length) Slot.unset).toArray = ls at hl ⊢
  have hl : lv_has ls 4 [(0, .ref (ad 16 0)), (1, .int (nI a)), (2, .int (nI j))] := hl
  refine lv_bipush (v := 12) hx hb dX8_counts_0 (by decide) ?_
  refine lv_iload_n hx hb dX8_counts_2 rfl (lv_at hl 1 rfl) ?_
  refine lv_imul hx hb dX8_counts_3 ?_
  refine lv_iload_n hx hb dX8_counts_4 rfl (lv_at hl 2 rfl) ?_
  refine lv_iadd hx hb dX8_counts_5 ?_
  refine lv_topi (fun x_5 e_5 => ?_)
  obtain rfl : x_5 = nI (12 * a + j) := e_5.trans (by rw [show (12 : Int32) = nI 12 from rfl, pk_mul, nI_add])
  refine lv_istore_n (lv' := [(3, .int (nI (12 * a + j))), (0, .ref (ad 16 0)), (1, .int (nI a)), (2, .int (nI j))]) hx hb dX8_counts_6 rfl hl (by decide) rfl (fun ls hl => ?_)
  refine lv_aload_n hx hb dX8_counts_7 rfl (lv_at hl 1 rfl) ?_
  refine k_get (index := 41) (j := 13) (ad := ad) (k := 16) (i := 0) Z X ct_16 inlX8 rfl (by decide) (inU_6 _ (List.mem_of_getElem? (i := 17) rfl)) (fun _ h => h) rfl dX8_counts_8 ?_
  refine lv_iload_n hx hb dX8_counts_11 rfl (lv_at hl 0 rfl) ?_
  refine k_ild (ad := ad) (k := 17) (i := 10) Z X ct_17_10 (vp_in_nI (by first | assumption | omega) (by decide)) dX8_counts_12 ?_
  refine lv_topi (fun x_12 e_12 => ?_)
  obtain rfl : x_12 = T.1 21 (12 * a + j) := e_12.trans (by simp only [nI_clamp (show 12 * a + j < 2 ^ 31 by omega)])
  refine lv_iconst (v := (-1)) hx hb dX8_counts_13 (by decide) ?_
  refine lv_icmp_eq (tgt := 53) hx hb dX8_counts_14 (by decide) (fun c_14 => ?_) (fun c_14 => ?_)
  · refine lv_iconst (v := 0) hx hb dX8_counts_53 (by decide) ?_
    exact k_iret Z X hr hlocks rfl (Nat.le_of_ble_eq_true rfl) (Nat.le_of_ble_eq_true rfl) dX8_counts_54 ⟨bI_f (by simp [cnts, kdT, c_14]), rfl, rfl⟩
  · refine lv_aload_n hx hb dX8_counts_17 rfl (lv_at hl 1 rfl) ?_
    refine k_get (index := 44) (j := 14) (ad := ad) (k := 16) (i := 0) Z X ct_16 inlX8 rfl (by decide) (inU_6 _ (List.mem_of_getElem? (i := 18) rfl)) (fun _ h => h) rfl dX8_counts_18 ?_
    refine lv_iload_n hx hb dX8_counts_21 rfl (lv_at hl 0 rfl) ?_
    refine k_ild (ad := ad) (k := 17) (i := 11) Z X ct_17_11 (vp_in_nI (by first | assumption | omega) (by decide)) dX8_counts_22 ?_
    refine lv_topi (fun x_22 e_22 => ?_)
    obtain rfl : x_22 = T.1 22 (12 * a + j) := e_22.trans (by simp only [nI_clamp (show 12 * a + j < 2 ^ 31 by omega)])
    refine lv_aload_n hx hb dX8_counts_23 rfl (lv_at hl 1 rfl) ?_
    refine k_get (index := 32) (j := 10) (ad := ad) (k := 16) (i := 0) Z X ct_16 inlX8 rfl (by decide) (inU_6 _ (List.mem_of_getElem? (i := 14) rfl)) (fun _ h => h) rfl dX8_counts_24 ?_
    refine lv_iload_n hx hb dX8_counts_27 rfl (lv_at hl 2 rfl) ?_
    refine k_ild (ad := ad) (k := 17) (i := 7) Z X ct_17_7 (vp_in_nI (by first | assumption | omega) (by decide)) dX8_counts_28 ?_
    refine lv_topi (fun x_28 e_28 => ?_)
    obtain rfl : x_28 = T.1 7 a := e_28.trans (by simp only [nI_clamp (show a < 2 ^ 31 by omega)])
    refine lv_icmp_ne (tgt := 53) hx hb dX8_counts_29 (by decide) (fun c_29 => ?_) (fun c_29 => ?_)
    · refine lv_iconst (v := 0) hx hb dX8_counts_53 (by decide) ?_
      exact k_iret Z X hr hlocks rfl (Nat.le_of_ble_eq_true rfl) (Nat.le_of_ble_eq_true rfl) dX8_counts_54 ⟨bI_f (by simp [cnts, kdT, c_14, c_29]), rfl, rfl⟩
    · refine lv_aload_n hx hb dX8_counts_32 rfl (lv_at hl 1 rfl) ?_
      refine lv_iload_n hx hb dX8_counts_33 rfl (lv_at hl 3 rfl) ?_
      refine k_Ri X (k_runV (As := [.int (nI j)]) (rest := []) Z X (c_X8_isGone l E G S T o ad j hj) (k_cwV 1 Z.1.2.2.2.2 (inU_13 _ (List.mem_of_getElem? (i := 2) rfl)) (inU_13 _ (List.mem_of_getElem? (i := 3) rfl)) (inU_13 _ (List.mem_of_getElem? (i := 4) rfl)) (inU_1 _ (List.mem_of_getElem? (i := 5) rfl)) (inU_13 _ (List.mem_of_getElem? (i := 5) rfl)) rfl rfl (by decide +kernel) ⟨Nat.le_of_ble_eq_true rfl, Nat.le_of_ble_eq_true rfl⟩) (k_recv Z X ct_16 rfl) rfl hl.1 rfl (Nat.le_of_ble_eq_true rfl) dX8_counts_34 ⟨Nat.le_of_ble_eq_true rfl, Nat.le_of_ble_eq_true rfl⟩) (fun r_34 ad1 ct1 H locs hp X => ?_)
      obtain ⟨rfl, rfl, rfl⟩ := hp
      refine lv_if_ne (tgt := 53) hx hb dX8_counts_37 (by decide) (fun c_37 => ?_) (fun c_37 => ?_)
      · have c_37 : (gone T j) = true := bI_1 c_37
        refine lv_iconst (v := 0) hx hb dX8_counts_53 (by decide) ?_
        exact k_iret Z X hr hlocks rfl (Nat.le_of_ble_eq_true rfl) (Nat.le_of_ble_eq_true rfl) dX8_counts_54 ⟨bI_f (by simp [cnts, kdT, c_14, c_29, c_37]), rfl, rfl⟩
      · have c_37 : (gone T j) = false := bI_0 c_37
        refine lv_aload_n hx hb dX8_counts_40 rfl (lv_at hl 1 rfl) ?_
        refine k_get (index := 7) (j := 2) (ad := ad) (k := 16) (i := 0) Z X ct_16 inlX8 rfl (by decide) (inU_6 _ (List.mem_of_getElem? (i := 6) rfl)) (fun _ h => h) rfl dX8_counts_41 ?_
        refine lv_iload_n hx hb dX8_counts_44 rfl (lv_at hl 3 rfl) ?_
        refine k_ild (ad := ad) (k := 17) (i := 0) Z X ct_17_0 (vp_in_nI (by first | assumption | omega) (by decide)) dX8_counts_45 ?_
        refine lv_topi (fun x_45 e_45 => ?_)
        obtain rfl : x_45 = T.1 1 j := e_45.trans (by simp only [nI_clamp (show j < 2 ^ 31 by omega)])
        refine lv_if_eq (tgt := 53) hx hb dX8_counts_46 (by decide) (fun c_46 => ?_) (fun c_46 => ?_)
        · refine lv_iconst (v := 0) hx hb dX8_counts_53 (by decide) ?_
          exact k_iret Z X hr hlocks rfl (Nat.le_of_ble_eq_true rfl) (Nat.le_of_ble_eq_true rfl) dX8_counts_54 ⟨bI_f (by simp [cnts, kdT, c_14, c_29, c_37, c_46]), rfl, rfl⟩
        · refine lv_iconst (v := 1) hx hb dX8_counts_49 (by decide) ?_
          refine lv_goto (tgt := 54) hx hb dX8_counts_50 (by decide) ?_
          exact k_iret Z X hr hlocks rfl (Nat.le_of_ble_eq_true rfl) (Nat.le_of_ble_eq_true rfl) dX8_counts_54 ⟨bI_t (by simp [cnts, kdT, c_14, c_29, c_37, c_46]), rfl, rfl⟩
theorem dX8_counted_0 : decode cX8_counted 0 = .ok (.iconst 0, 1) := by decide +kernel
theorem dX8_counted_1 : decode cX8_counted 1 = .ok (.istore_n 2, 1) := by decide +kernel
theorem dX8_counted_2 : decode cX8_counted 2 = .ok (.iconst 0, 1) := by decide +kernel
theorem dX8_counted_3 : decode cX8_counted 3 = .ok (.istore_n 3, 1) := by decide +kernel
theorem dX8_counted_4 : decode cX8_counted 4 = .ok (.iload_n 3, 1) := by decide +kernel
theorem dX8_counted_5 : decode cX8_counted 5 = .ok (.aload_n 0, 1) := by decide +kernel
theorem dX8_counted_6 : decode cX8_counted 6 = .ok (.getfield 81, 3) := by decide +kernel
theorem dX8_counted_9 : decode cX8_counted 9 = .ok (.if_icmp .ge 26, 3) := by decide +kernel
theorem dX8_counted_12 : decode cX8_counted 12 = .ok (.iload_n 2, 1) := by decide +kernel
theorem dX8_counted_13 : decode cX8_counted 13 = .ok (.aload_n 0, 1) := by decide +kernel
theorem dX8_counted_14 : decode cX8_counted 14 = .ok (.iload_n 1, 1) := by decide +kernel
theorem dX8_counted_15 : decode cX8_counted 15 = .ok (.iload_n 3, 1) := by decide +kernel
theorem dX8_counted_16 : decode cX8_counted 16 = .ok (.invokevirtual 98, 3) := by decide +kernel
theorem dX8_counted_19 : decode cX8_counted 19 = .ok (.ifCond .eq 7, 3) := by decide +kernel
theorem dX8_counted_22 : decode cX8_counted 22 = .ok (.iconst 1, 1) := by decide +kernel
theorem dX8_counted_23 : decode cX8_counted 23 = .ok (.goto 4, 3) := by decide +kernel
theorem dX8_counted_26 : decode cX8_counted 26 = .ok (.iconst 0, 1) := by decide +kernel
theorem dX8_counted_27 : decode cX8_counted 27 = .ok (.iadd, 1) := by decide +kernel
theorem dX8_counted_28 : decode cX8_counted 28 = .ok (.istore_n 2, 1) := by decide +kernel
theorem dX8_counted_29 : decode cX8_counted 29 = .ok (.iinc 3 1, 3) := by decide +kernel
theorem dX8_counted_32 : decode cX8_counted 32 = .ok (.goto (-28), 3) := by decide +kernel
theorem dX8_counted_35 : decode cX8_counted 35 = .ok (.iload_n 2, 1) := by decide +kernel
theorem dX8_counted_36 : decode cX8_counted 36 = .ok (.ireturn, 1) := by decide +kernel
set_option maxHeartbeats 4000000 in
set_option maxRecDepth 100000 in
theorem c_X8_counted (l : Launch) (E : State) (G : kG) (S T : kSt) (o : Int64) (ad : kAd) (a : Nat) (ha : a < 80) (hT : T.2 0 0 ≤ 12) : Met l yX8_counted (.code yX8_counted cX8_counted 4 (some .int) :: wsL_law) ({ frames := 3, cells := 0, slots := 0, locals := 52 } : Room) (va_Pc [.ref (ad 16 0), .int (nI a)] (kPre E G ad (cto G S T o ad))) (kQi E G (fun r ad1 ct1 => r = nI (cntN T (kdT T a) (T.2 0 0)) ∧ ad = ad1 ∧ ct1 = cto G S T o ad)) 0 0 (kB E.heap.size) := by
  refine Met.ofW (cc := cX8_counted) (maxL := 4) (ret := (some .int)) (by decide) rfl ?_
  intro p e s m args below meth c s₁ B hml hv
  obtain ⟨rfl, hM, hK, hW0⟩ := hv
  have hlocks := B.notSynchronized
  have hr := B.returns
  have Z : kZ p m c cX8_counted 4 s _ wsL_law RX8 E G := ⟨⟨B.exec, B.bytes, hml, findClass_of_methodNamed B.named, fun w h => atoms_spec (ws := .code yX8_counted cX8_counted 4 (some .int) :: wsL_law) B.pre w (List.mem_cons_of_mem _ h)⟩, hM, hK⟩
  have hx := Z.1.1
  have hb := Z.1.2.1
  have X := kX.of hW0
  have hl := lv_entry ([.ref (ad 16 0), .int (nI a)]) (n := 4) (Nat.le_of_ble_eq_true rfl)
  rw [lg_entry_eq]
  generalize (lg_sl ([.ref (ad 16 0), .int (nI a)]) ++ List.replicate (4 - (lg_sl ([.ref (ad 16 0), .int (nI a)])).length) Slot.unset).toArray = ls at hl ⊢
  have hl : lv_has ls 4 [(0, .ref (ad 16 0)), (1, .int (nI a))] := hl
  refine lv_iconst (v := 0) hx hb dX8_counted_0 (by decide) ?_
  refine lv_istore_n (lv' := [(2, .int 0), (0, .ref (ad 16 0)), (1, .int (nI a))]) hx hb dX8_counted_1 rfl hl (by decide) rfl (fun ls hl => ?_)
  refine lv_iconst (v := 0) hx hb dX8_counted_2 (by decide) ?_
  refine lv_istore_n (lv' := [(3, .int 0), (2, .int 0), (0, .ref (ad 16 0)), (1, .int (nI a))]) hx hb dX8_counted_3 rfl hl (by decide) rfl (fun ls hl => ?_)
  have LOOP_4 : ∀ (d : Nat) (n : Nat), n ≤ T.2 0 0 → T.2 0 0 < n + d → ∀ (H : Heap) (locs : List Loc) (ls : Array Slot), kX E G s H locs ad (cto G S T o ad) → lv_has ls 4 [(3, .int (nI n)), (2, .int (nI (cntN T (kdT T a) n))), (0, .ref (ad 16 0)), (1, .int (nI a))] → W p l e (headSpec (Cond.code yX8_counted cX8_counted 4 (some .int) :: wsL_law) ({ frames := 3, cells := 0, slots := 0, locals := 52 } : Room)).room s m ([.ref (ad 16 0), .int (nI a)] : List Value).toArray below meth c H locs 0 0 (MQ below (kQi E G (fun r ad1 ct1 => r = nI (cntN T (kdT T a) (T.2 0 0)) ∧ ad = ad1 ∧ ct1 = cto G S T o ad)) ([.ref (ad 16 0), .int (nI a)] : List Value).toArray s 0 0 (kB E.heap.size)) (F0 m 4 ls []) := by
    intro d
    induction d with
    | zero => intro n h1 h2; intros; exact absurd h2 (by omega)
    | succ d ih =>
      intro n h1 h2 H locs ls X hl
      refine lv_iload_n hx hb dX8_counted_4 rfl (lv_at hl 0 rfl) ?_
      refine lv_aload_n hx hb dX8_counted_5 rfl (lv_at hl 2 rfl) ?_
      refine k_get (index := 81) (j := 1) (ad := ad) (k := 16) (i := 0) Z X ct_16 inlX8 rfl (by decide) (inU_8 _ (List.mem_of_getElem? (i := 19) rfl)) (fun _ h => h) rfl dX8_counted_6 ?_
      refine lv_icmp_ge (tgt := 35) hx hb dX8_counted_9 (by decide) (fun c_9 => ?_) (fun c_9 => ?_)
      · have c_9 : (T.2 0 0) ≤ n := (nI_leI (a := (T.2 0 0)) (b := n) (by omega) (by omega)).mp c_9
        refine lv_iload_n hx hb dX8_counted_35 rfl (lv_at hl 1 rfl) ?_
        have hn : n = T.2 0 0 := by omega
        subst hn
        exact k_iret Z X hr hlocks rfl (Nat.le_of_ble_eq_true rfl) (Nat.le_of_ble_eq_true rfl) dX8_counted_36 ⟨rfl, rfl, rfl⟩
      · have c_9 : ¬ (T.2 0 0) ≤ n := fun h => c_9 ((nI_leI (a := (T.2 0 0)) (b := n) (by omega) (by omega)).mpr h)
        refine lv_iload_n hx hb dX8_counted_12 rfl (lv_at hl 1 rfl) ?_
        refine lv_aload_n hx hb dX8_counted_13 rfl (lv_at hl 2 rfl) ?_
        refine lv_iload_n hx hb dX8_counted_14 rfl (lv_at hl 3 rfl) ?_
        refine lv_iload_n hx hb dX8_counted_15 rfl (lv_at hl 0 rfl) ?_
        refine k_Ri X (k_runV (As := [.int (nI a), .int (nI n)]) (rest := [.int (nI (cntN T (kdT T a) n))]) Z X (c_X8_counts l E G S T o ad a n ha (by omega)) (k_cwV 2 Z.1.2.2.2.2 (inU_12 _ (List.mem_of_getElem? (i := 22) rfl)) (inU_12 _ (List.mem_of_getElem? (i := 23) rfl)) (inU_13 _ (List.mem_of_getElem? (i := 0) rfl)) (inU_1 _ (List.mem_of_getElem? (i := 5) rfl)) (inU_13 _ (List.mem_of_getElem? (i := 1) rfl)) rfl rfl (by decide +kernel) ⟨Nat.le_of_ble_eq_true rfl, Nat.le_of_ble_eq_true rfl⟩) (k_recv Z X ct_16 rfl) rfl hl.1 rfl (Nat.le_of_ble_eq_true rfl) dX8_counted_16 ⟨Nat.le_of_ble_eq_true rfl, Nat.le_of_ble_eq_true rfl⟩) (fun r_16 ad1 ct1 H locs hp X => ?_)
        obtain ⟨rfl, rfl, rfl⟩ := hp
        refine lv_if_eq (tgt := 26) hx hb dX8_counted_19 (by decide) (fun c_19 => ?_) (fun c_19 => ?_)
        · have c_19 : (cnts T (kdT T a) n) = false := bI_0 c_19
          refine lv_iconst (v := 0) hx hb dX8_counted_26 (by decide) ?_
          refine lv_iadd hx hb dX8_counted_27 ?_
          refine lv_topi (fun x_27 e_27 => ?_)
          obtain rfl : x_27 = nI (cntN T (kdT T a) (n + 1)) := e_27.trans (by simp [cntN, c_19, nI_1])
          refine lv_istore_n (lv' := [(2, .int (nI (cntN T (kdT T a) (n + 1)))), (3, .int (nI n)), (0, .ref (ad 16 0)), (1, .int (nI a))]) hx hb dX8_counted_28 rfl hl (by decide) rfl (fun ls hl => ?_)
          refine lv_iinc (v := (nI (n + 1))) (lv' := [(3, .int (nI (n + 1))), (2, .int (nI (cntN T (kdT T a) (n + 1)))), (0, .ref (ad 16 0)), (1, .int (nI a))]) hx hb dX8_counted_29 hl (k := 1) rfl (nI_1 _) (by decide) rfl (fun ls hl => ?_)
          refine lv_goto (tgt := 4) hx hb dX8_counted_32 (by decide) ?_
          exact ih (n + 1) (by omega) (by omega) _ _ _ X (lv_sub hl [0, 1, 2, 3] rfl)
        · have c_19 : (cnts T (kdT T a) n) = true := bI_1 c_19
          refine lv_iconst (v := 1) hx hb dX8_counted_22 (by decide) ?_
          refine lv_goto (tgt := 27) hx hb dX8_counted_23 (by decide) ?_
          refine lv_iadd hx hb dX8_counted_27 ?_
          refine lv_topi (fun x_27 e_27 => ?_)
          obtain rfl : x_27 = nI (cntN T (kdT T a) (n + 1)) := e_27.trans (by simp [cntN, c_19, nI_1])
          refine lv_istore_n (lv' := [(2, .int (nI (cntN T (kdT T a) (n + 1)))), (3, .int (nI n)), (0, .ref (ad 16 0)), (1, .int (nI a))]) hx hb dX8_counted_28 rfl hl (by decide) rfl (fun ls hl => ?_)
          refine lv_iinc (v := (nI (n + 1))) (lv' := [(3, .int (nI (n + 1))), (2, .int (nI (cntN T (kdT T a) (n + 1)))), (0, .ref (ad 16 0)), (1, .int (nI a))]) hx hb dX8_counted_29 hl (k := 1) rfl (nI_1 _) (by decide) rfl (fun ls hl => ?_)
          refine lv_goto (tgt := 4) hx hb dX8_counted_32 (by decide) ?_
          exact ih (n + 1) (by omega) (by omega) _ _ _ X (lv_sub hl [0, 1, 2, 3] rfl)
  exact LOOP_4 (T.2 0 0 + 1) 0 (by omega) (by omega) _ _ _ X (lv_sub hl [0, 1, 2, 3] rfl)
end
section
/-! STORES into the reference: a cell written is a register changed -/
section STM
variable {G : kG} {S T : kSt} {o : Int64} {ad : kAd}
theorem st_17_0 (i : Nat) (v : Int32) (h : i < 2 ^ 31) : cup (cto G S T o ad) 17 0 (.inl (G.2.2.1, 12, .inl (upd (T.1 1) (nI i).toNatClampNeg v))) = cto G S (sI T 1 i v) o ad := by
  rw [nI_clamp h]
  funext k j
  match k with
  | 0 => simp [cup, cto, sI, sN]
  | 1 => simp [cup, cto, sI, sN]
  | 2 => simp [cup, cto, sI, sN]
  | 3 => simp [cup, cto, sI, sN]
  | 4 => simp [cup, cto, sI, sN]
  | 5 => simp [cup, cto, sI, sN]
  | 6 => simp [cup, cto, sI, sN]
  | 7 => simp [cup, cto, sI, sN]
  | 8 => simp [cup, cto, sI, sN]
  | 9 => simp [cup, cto, sI, sN]
  | 10 => simp [cup, cto, sI, sN]
  | 11 => simp [cup, cto, sI, sN]
  | 12 => simp [cup, cto, sI, sN]
  | 13 => simp [cup, cto, sI, sN]
  | 14 => simp [cup, cto, sI, sN]
  | 15 => simp [cup, cto, sI, sN]
  | 16 => simp [cup, cto, sI, sN]
  | 17 =>
    match j with
    | 0 =>
      simp [cup, cto, marr, sI]
      rfl
    | 1 => simp [cup, cto, marr, sI, sN]
    | 2 => simp [cup, cto, marr, sI, sN]
    | 3 => simp [cup, cto, marr, sI, sN]
    | 4 => simp [cup, cto, marr, sI, sN]
    | 5 => simp [cup, cto, marr, sI, sN]
    | 6 => simp [cup, cto, marr, sI, sN]
    | 7 => simp [cup, cto, marr, sI, sN]
    | 8 => simp [cup, cto, marr, sI, sN]
    | 9 => simp [cup, cto, marr, sI, sN]
    | 10 => simp [cup, cto, marr, sI, sN]
    | 11 => simp [cup, cto, marr, sI, sN]
    | 12 => simp [cup, cto, marr, sI, sN]
    | 13 => simp [cup, cto, marr, sI, sN]
    | 14 => simp [cup, cto, marr, sI, sN]
    | 15 => simp [cup, cto, marr, sI, sN]
    | 16 => simp [cup, cto, marr, sI, sN]
    | 17 => simp [cup, cto, marr, sI, sN]
    | 18 => simp [cup, cto, marr, sI, sN]
    | 19 => simp [cup, cto, marr, sI, sN]
    | 20 => simp [cup, cto, marr, sI, sN]
    | 21 => simp [cup, cto, marr, sI, sN]
    | _ + 22 => simp [cup, cto, marr]
  | 18 => simp [cup, cto, sI, sN]
  | _ + 19 => simp [cup, cto]
theorem st_17_1 (i : Nat) (v : Int32) (h : i < 2 ^ 31) : cup (cto G S T o ad) 17 1 (.inl (G.2.2.1, 12, .inl (upd (T.1 2) (nI i).toNatClampNeg v))) = cto G S (sI T 2 i v) o ad := by
  rw [nI_clamp h]
  funext k j
  match k with
  | 0 => simp [cup, cto, sI, sN]
  | 1 => simp [cup, cto, sI, sN]
  | 2 => simp [cup, cto, sI, sN]
  | 3 => simp [cup, cto, sI, sN]
  | 4 => simp [cup, cto, sI, sN]
  | 5 => simp [cup, cto, sI, sN]
  | 6 => simp [cup, cto, sI, sN]
  | 7 => simp [cup, cto, sI, sN]
  | 8 => simp [cup, cto, sI, sN]
  | 9 => simp [cup, cto, sI, sN]
  | 10 => simp [cup, cto, sI, sN]
  | 11 => simp [cup, cto, sI, sN]
  | 12 => simp [cup, cto, sI, sN]
  | 13 => simp [cup, cto, sI, sN]
  | 14 => simp [cup, cto, sI, sN]
  | 15 => simp [cup, cto, sI, sN]
  | 16 => simp [cup, cto, sI, sN]
  | 17 =>
    match j with
    | 0 => simp [cup, cto, marr, sI, sN]
    | 1 =>
      simp [cup, cto, marr, sI]
      rfl
    | 2 => simp [cup, cto, marr, sI, sN]
    | 3 => simp [cup, cto, marr, sI, sN]
    | 4 => simp [cup, cto, marr, sI, sN]
    | 5 => simp [cup, cto, marr, sI, sN]
    | 6 => simp [cup, cto, marr, sI, sN]
    | 7 => simp [cup, cto, marr, sI, sN]
    | 8 => simp [cup, cto, marr, sI, sN]
    | 9 => simp [cup, cto, marr, sI, sN]
    | 10 => simp [cup, cto, marr, sI, sN]
    | 11 => simp [cup, cto, marr, sI, sN]
    | 12 => simp [cup, cto, marr, sI, sN]
    | 13 => simp [cup, cto, marr, sI, sN]
    | 14 => simp [cup, cto, marr, sI, sN]
    | 15 => simp [cup, cto, marr, sI, sN]
    | 16 => simp [cup, cto, marr, sI, sN]
    | 17 => simp [cup, cto, marr, sI, sN]
    | 18 => simp [cup, cto, marr, sI, sN]
    | 19 => simp [cup, cto, marr, sI, sN]
    | 20 => simp [cup, cto, marr, sI, sN]
    | 21 => simp [cup, cto, marr, sI, sN]
    | _ + 22 => simp [cup, cto, marr]
  | 18 => simp [cup, cto, sI, sN]
  | _ + 19 => simp [cup, cto]
theorem st_17_2 (i : Nat) (v : Int32) (h : i < 2 ^ 31) : cup (cto G S T o ad) 17 2 (.inl (G.2.2.1, 6, .inl (upd (T.1 3) (nI i).toNatClampNeg v))) = cto G S (sI T 3 i v) o ad := by
  rw [nI_clamp h]
  funext k j
  match k with
  | 0 => simp [cup, cto, sI, sN]
  | 1 => simp [cup, cto, sI, sN]
  | 2 => simp [cup, cto, sI, sN]
  | 3 => simp [cup, cto, sI, sN]
  | 4 => simp [cup, cto, sI, sN]
  | 5 => simp [cup, cto, sI, sN]
  | 6 => simp [cup, cto, sI, sN]
  | 7 => simp [cup, cto, sI, sN]
  | 8 => simp [cup, cto, sI, sN]
  | 9 => simp [cup, cto, sI, sN]
  | 10 => simp [cup, cto, sI, sN]
  | 11 => simp [cup, cto, sI, sN]
  | 12 => simp [cup, cto, sI, sN]
  | 13 => simp [cup, cto, sI, sN]
  | 14 => simp [cup, cto, sI, sN]
  | 15 => simp [cup, cto, sI, sN]
  | 16 => simp [cup, cto, sI, sN]
  | 17 =>
    match j with
    | 0 => simp [cup, cto, marr, sI, sN]
    | 1 => simp [cup, cto, marr, sI, sN]
    | 2 =>
      simp [cup, cto, marr, sI]
      rfl
    | 3 => simp [cup, cto, marr, sI, sN]
    | 4 => simp [cup, cto, marr, sI, sN]
    | 5 => simp [cup, cto, marr, sI, sN]
    | 6 => simp [cup, cto, marr, sI, sN]
    | 7 => simp [cup, cto, marr, sI, sN]
    | 8 => simp [cup, cto, marr, sI, sN]
    | 9 => simp [cup, cto, marr, sI, sN]
    | 10 => simp [cup, cto, marr, sI, sN]
    | 11 => simp [cup, cto, marr, sI, sN]
    | 12 => simp [cup, cto, marr, sI, sN]
    | 13 => simp [cup, cto, marr, sI, sN]
    | 14 => simp [cup, cto, marr, sI, sN]
    | 15 => simp [cup, cto, marr, sI, sN]
    | 16 => simp [cup, cto, marr, sI, sN]
    | 17 => simp [cup, cto, marr, sI, sN]
    | 18 => simp [cup, cto, marr, sI, sN]
    | 19 => simp [cup, cto, marr, sI, sN]
    | 20 => simp [cup, cto, marr, sI, sN]
    | 21 => simp [cup, cto, marr, sI, sN]
    | _ + 22 => simp [cup, cto, marr]
  | 18 => simp [cup, cto, sI, sN]
  | _ + 19 => simp [cup, cto]
theorem st_17_3 (i : Nat) (v : Int32) (h : i < 2 ^ 31) : cup (cto G S T o ad) 17 3 (.inl (G.2.2.2.1, 6, .inl (upd (T.1 4) (nI i).toNatClampNeg v))) = cto G S (sI T 4 i v) o ad := by
  rw [nI_clamp h]
  funext k j
  match k with
  | 0 => simp [cup, cto, sI, sN]
  | 1 => simp [cup, cto, sI, sN]
  | 2 => simp [cup, cto, sI, sN]
  | 3 => simp [cup, cto, sI, sN]
  | 4 => simp [cup, cto, sI, sN]
  | 5 => simp [cup, cto, sI, sN]
  | 6 => simp [cup, cto, sI, sN]
  | 7 => simp [cup, cto, sI, sN]
  | 8 => simp [cup, cto, sI, sN]
  | 9 => simp [cup, cto, sI, sN]
  | 10 => simp [cup, cto, sI, sN]
  | 11 => simp [cup, cto, sI, sN]
  | 12 => simp [cup, cto, sI, sN]
  | 13 => simp [cup, cto, sI, sN]
  | 14 => simp [cup, cto, sI, sN]
  | 15 => simp [cup, cto, sI, sN]
  | 16 => simp [cup, cto, sI, sN]
  | 17 =>
    match j with
    | 0 => simp [cup, cto, marr, sI, sN]
    | 1 => simp [cup, cto, marr, sI, sN]
    | 2 => simp [cup, cto, marr, sI, sN]
    | 3 =>
      simp [cup, cto, marr, sI]
      rfl
    | 4 => simp [cup, cto, marr, sI, sN]
    | 5 => simp [cup, cto, marr, sI, sN]
    | 6 => simp [cup, cto, marr, sI, sN]
    | 7 => simp [cup, cto, marr, sI, sN]
    | 8 => simp [cup, cto, marr, sI, sN]
    | 9 => simp [cup, cto, marr, sI, sN]
    | 10 => simp [cup, cto, marr, sI, sN]
    | 11 => simp [cup, cto, marr, sI, sN]
    | 12 => simp [cup, cto, marr, sI, sN]
    | 13 => simp [cup, cto, marr, sI, sN]
    | 14 => simp [cup, cto, marr, sI, sN]
    | 15 => simp [cup, cto, marr, sI, sN]
    | 16 => simp [cup, cto, marr, sI, sN]
    | 17 => simp [cup, cto, marr, sI, sN]
    | 18 => simp [cup, cto, marr, sI, sN]
    | 19 => simp [cup, cto, marr, sI, sN]
    | 20 => simp [cup, cto, marr, sI, sN]
    | 21 => simp [cup, cto, marr, sI, sN]
    | _ + 22 => simp [cup, cto, marr]
  | 18 => simp [cup, cto, sI, sN]
  | _ + 19 => simp [cup, cto]
theorem st_17_4 (i v : Nat) (h : i < 2 ^ 31) : cup (cto G S T o ad) 17 4 (.inl (G.2.2.1, 80, .inl (upd (fun j => nI (T.2 1 j)) (nI i).toNatClampNeg (nI v)))) = cto G S (sN T 1 i v) o ad := by
  rw [nI_clamp h]
  funext k j
  match k with
  | 0 => simp [cup, cto, sI, sN]
  | 1 => simp [cup, cto, sI, sN]
  | 2 => simp [cup, cto, sI, sN]
  | 3 => simp [cup, cto, sI, sN]
  | 4 => simp [cup, cto, sI, sN]
  | 5 => simp [cup, cto, sI, sN]
  | 6 => simp [cup, cto, sI, sN]
  | 7 => simp [cup, cto, sI, sN]
  | 8 => simp [cup, cto, sI, sN]
  | 9 => simp [cup, cto, sI, sN]
  | 10 => simp [cup, cto, sI, sN]
  | 11 => simp [cup, cto, sI, sN]
  | 12 => simp [cup, cto, sI, sN]
  | 13 => simp [cup, cto, sI, sN]
  | 14 => simp [cup, cto, sI, sN]
  | 15 => simp [cup, cto, sI, sN]
  | 16 => simp [cup, cto, sI, sN]
  | 17 =>
    match j with
    | 0 => simp [cup, cto, marr, sI, sN]
    | 1 => simp [cup, cto, marr, sI, sN]
    | 2 => simp [cup, cto, marr, sI, sN]
    | 3 => simp [cup, cto, marr, sI, sN]
    | 4 =>
      simp only [cup, cto, marr, sN, and_self, if_true]
      congr 5
      funext q
      by_cases hq : q = i <;> simp [upd, hq]
    | 5 => simp [cup, cto, marr, sI, sN]
    | 6 => simp [cup, cto, marr, sI, sN]
    | 7 => simp [cup, cto, marr, sI, sN]
    | 8 => simp [cup, cto, marr, sI, sN]
    | 9 => simp [cup, cto, marr, sI, sN]
    | 10 => simp [cup, cto, marr, sI, sN]
    | 11 => simp [cup, cto, marr, sI, sN]
    | 12 => simp [cup, cto, marr, sI, sN]
    | 13 => simp [cup, cto, marr, sI, sN]
    | 14 => simp [cup, cto, marr, sI, sN]
    | 15 => simp [cup, cto, marr, sI, sN]
    | 16 => simp [cup, cto, marr, sI, sN]
    | 17 => simp [cup, cto, marr, sI, sN]
    | 18 => simp [cup, cto, marr, sI, sN]
    | 19 => simp [cup, cto, marr, sI, sN]
    | 20 => simp [cup, cto, marr, sI, sN]
    | 21 => simp [cup, cto, marr, sI, sN]
    | _ + 22 => simp [cup, cto, marr]
  | 18 => simp [cup, cto, sI, sN]
  | _ + 19 => simp [cup, cto]
theorem st_17_5 (i v : Nat) (h : i < 2 ^ 31) : cup (cto G S T o ad) 17 5 (.inl (G.2.2.1, 80, .inl (upd (fun j => nI (T.2 2 j)) (nI i).toNatClampNeg (nI v)))) = cto G S (sN T 2 i v) o ad := by
  rw [nI_clamp h]
  funext k j
  match k with
  | 0 => simp [cup, cto, sI, sN]
  | 1 => simp [cup, cto, sI, sN]
  | 2 => simp [cup, cto, sI, sN]
  | 3 => simp [cup, cto, sI, sN]
  | 4 => simp [cup, cto, sI, sN]
  | 5 => simp [cup, cto, sI, sN]
  | 6 => simp [cup, cto, sI, sN]
  | 7 => simp [cup, cto, sI, sN]
  | 8 => simp [cup, cto, sI, sN]
  | 9 => simp [cup, cto, sI, sN]
  | 10 => simp [cup, cto, sI, sN]
  | 11 => simp [cup, cto, sI, sN]
  | 12 => simp [cup, cto, sI, sN]
  | 13 => simp [cup, cto, sI, sN]
  | 14 => simp [cup, cto, sI, sN]
  | 15 => simp [cup, cto, sI, sN]
  | 16 => simp [cup, cto, sI, sN]
  | 17 =>
    match j with
    | 0 => simp [cup, cto, marr, sI, sN]
    | 1 => simp [cup, cto, marr, sI, sN]
    | 2 => simp [cup, cto, marr, sI, sN]
    | 3 => simp [cup, cto, marr, sI, sN]
    | 4 => simp [cup, cto, marr, sI, sN]
    | 5 =>
      simp only [cup, cto, marr, sN, and_self, if_true]
      congr 5
      funext q
      by_cases hq : q = i <;> simp [upd, hq]
    | 6 => simp [cup, cto, marr, sI, sN]
    | 7 => simp [cup, cto, marr, sI, sN]
    | 8 => simp [cup, cto, marr, sI, sN]
    | 9 => simp [cup, cto, marr, sI, sN]
    | 10 => simp [cup, cto, marr, sI, sN]
    | 11 => simp [cup, cto, marr, sI, sN]
    | 12 => simp [cup, cto, marr, sI, sN]
    | 13 => simp [cup, cto, marr, sI, sN]
    | 14 => simp [cup, cto, marr, sI, sN]
    | 15 => simp [cup, cto, marr, sI, sN]
    | 16 => simp [cup, cto, marr, sI, sN]
    | 17 => simp [cup, cto, marr, sI, sN]
    | 18 => simp [cup, cto, marr, sI, sN]
    | 19 => simp [cup, cto, marr, sI, sN]
    | 20 => simp [cup, cto, marr, sI, sN]
    | 21 => simp [cup, cto, marr, sI, sN]
    | _ + 22 => simp [cup, cto, marr]
  | 18 => simp [cup, cto, sI, sN]
  | _ + 19 => simp [cup, cto]
theorem st_17_6 (i : Nat) (v : Int32) (h : i < 2 ^ 31) : cup (cto G S T o ad) 17 6 (.inl (G.2.2.1, 80, .inl (upd (T.1 5) (nI i).toNatClampNeg v))) = cto G S (sI T 5 i v) o ad := by
  rw [nI_clamp h]
  funext k j
  match k with
  | 0 => simp [cup, cto, sI, sN]
  | 1 => simp [cup, cto, sI, sN]
  | 2 => simp [cup, cto, sI, sN]
  | 3 => simp [cup, cto, sI, sN]
  | 4 => simp [cup, cto, sI, sN]
  | 5 => simp [cup, cto, sI, sN]
  | 6 => simp [cup, cto, sI, sN]
  | 7 => simp [cup, cto, sI, sN]
  | 8 => simp [cup, cto, sI, sN]
  | 9 => simp [cup, cto, sI, sN]
  | 10 => simp [cup, cto, sI, sN]
  | 11 => simp [cup, cto, sI, sN]
  | 12 => simp [cup, cto, sI, sN]
  | 13 => simp [cup, cto, sI, sN]
  | 14 => simp [cup, cto, sI, sN]
  | 15 => simp [cup, cto, sI, sN]
  | 16 => simp [cup, cto, sI, sN]
  | 17 =>
    match j with
    | 0 => simp [cup, cto, marr, sI, sN]
    | 1 => simp [cup, cto, marr, sI, sN]
    | 2 => simp [cup, cto, marr, sI, sN]
    | 3 => simp [cup, cto, marr, sI, sN]
    | 4 => simp [cup, cto, marr, sI, sN]
    | 5 => simp [cup, cto, marr, sI, sN]
    | 6 =>
      simp [cup, cto, marr, sI]
      rfl
    | 7 => simp [cup, cto, marr, sI, sN]
    | 8 => simp [cup, cto, marr, sI, sN]
    | 9 => simp [cup, cto, marr, sI, sN]
    | 10 => simp [cup, cto, marr, sI, sN]
    | 11 => simp [cup, cto, marr, sI, sN]
    | 12 => simp [cup, cto, marr, sI, sN]
    | 13 => simp [cup, cto, marr, sI, sN]
    | 14 => simp [cup, cto, marr, sI, sN]
    | 15 => simp [cup, cto, marr, sI, sN]
    | 16 => simp [cup, cto, marr, sI, sN]
    | 17 => simp [cup, cto, marr, sI, sN]
    | 18 => simp [cup, cto, marr, sI, sN]
    | 19 => simp [cup, cto, marr, sI, sN]
    | 20 => simp [cup, cto, marr, sI, sN]
    | 21 => simp [cup, cto, marr, sI, sN]
    | _ + 22 => simp [cup, cto, marr]
  | 18 => simp [cup, cto, sI, sN]
  | _ + 19 => simp [cup, cto]
theorem st_17_7 (i : Nat) (v : Int32) (h : i < 2 ^ 31) : cup (cto G S T o ad) 17 7 (.inl (G.2.2.1, 80, .inl (upd (T.1 7) (nI i).toNatClampNeg v))) = cto G S (sI T 7 i v) o ad := by
  rw [nI_clamp h]
  funext k j
  match k with
  | 0 => simp [cup, cto, sI, sN]
  | 1 => simp [cup, cto, sI, sN]
  | 2 => simp [cup, cto, sI, sN]
  | 3 => simp [cup, cto, sI, sN]
  | 4 => simp [cup, cto, sI, sN]
  | 5 => simp [cup, cto, sI, sN]
  | 6 => simp [cup, cto, sI, sN]
  | 7 => simp [cup, cto, sI, sN]
  | 8 => simp [cup, cto, sI, sN]
  | 9 => simp [cup, cto, sI, sN]
  | 10 => simp [cup, cto, sI, sN]
  | 11 => simp [cup, cto, sI, sN]
  | 12 => simp [cup, cto, sI, sN]
  | 13 => simp [cup, cto, sI, sN]
  | 14 => simp [cup, cto, sI, sN]
  | 15 => simp [cup, cto, sI, sN]
  | 16 => simp [cup, cto, sI, sN]
  | 17 =>
    match j with
    | 0 => simp [cup, cto, marr, sI, sN]
    | 1 => simp [cup, cto, marr, sI, sN]
    | 2 => simp [cup, cto, marr, sI, sN]
    | 3 => simp [cup, cto, marr, sI, sN]
    | 4 => simp [cup, cto, marr, sI, sN]
    | 5 => simp [cup, cto, marr, sI, sN]
    | 6 => simp [cup, cto, marr, sI, sN]
    | 7 =>
      simp [cup, cto, marr, sI]
      rfl
    | 8 => simp [cup, cto, marr, sI, sN]
    | 9 => simp [cup, cto, marr, sI, sN]
    | 10 => simp [cup, cto, marr, sI, sN]
    | 11 => simp [cup, cto, marr, sI, sN]
    | 12 => simp [cup, cto, marr, sI, sN]
    | 13 => simp [cup, cto, marr, sI, sN]
    | 14 => simp [cup, cto, marr, sI, sN]
    | 15 => simp [cup, cto, marr, sI, sN]
    | 16 => simp [cup, cto, marr, sI, sN]
    | 17 => simp [cup, cto, marr, sI, sN]
    | 18 => simp [cup, cto, marr, sI, sN]
    | 19 => simp [cup, cto, marr, sI, sN]
    | 20 => simp [cup, cto, marr, sI, sN]
    | 21 => simp [cup, cto, marr, sI, sN]
    | _ + 22 => simp [cup, cto, marr]
  | 18 => simp [cup, cto, sI, sN]
  | _ + 19 => simp [cup, cto]
theorem st_17_8 (i : Nat) (v : Int32) (h : i < 2 ^ 31) : cup (cto G S T o ad) 17 8 (.inl (G.2.2.1, 80, .inl (upd (T.1 6) (nI i).toNatClampNeg v))) = cto G S (sI T 6 i v) o ad := by
  rw [nI_clamp h]
  funext k j
  match k with
  | 0 => simp [cup, cto, sI, sN]
  | 1 => simp [cup, cto, sI, sN]
  | 2 => simp [cup, cto, sI, sN]
  | 3 => simp [cup, cto, sI, sN]
  | 4 => simp [cup, cto, sI, sN]
  | 5 => simp [cup, cto, sI, sN]
  | 6 => simp [cup, cto, sI, sN]
  | 7 => simp [cup, cto, sI, sN]
  | 8 => simp [cup, cto, sI, sN]
  | 9 => simp [cup, cto, sI, sN]
  | 10 => simp [cup, cto, sI, sN]
  | 11 => simp [cup, cto, sI, sN]
  | 12 => simp [cup, cto, sI, sN]
  | 13 => simp [cup, cto, sI, sN]
  | 14 => simp [cup, cto, sI, sN]
  | 15 => simp [cup, cto, sI, sN]
  | 16 => simp [cup, cto, sI, sN]
  | 17 =>
    match j with
    | 0 => simp [cup, cto, marr, sI, sN]
    | 1 => simp [cup, cto, marr, sI, sN]
    | 2 => simp [cup, cto, marr, sI, sN]
    | 3 => simp [cup, cto, marr, sI, sN]
    | 4 => simp [cup, cto, marr, sI, sN]
    | 5 => simp [cup, cto, marr, sI, sN]
    | 6 => simp [cup, cto, marr, sI, sN]
    | 7 => simp [cup, cto, marr, sI, sN]
    | 8 =>
      simp [cup, cto, marr, sI]
      rfl
    | 9 => simp [cup, cto, marr, sI, sN]
    | 10 => simp [cup, cto, marr, sI, sN]
    | 11 => simp [cup, cto, marr, sI, sN]
    | 12 => simp [cup, cto, marr, sI, sN]
    | 13 => simp [cup, cto, marr, sI, sN]
    | 14 => simp [cup, cto, marr, sI, sN]
    | 15 => simp [cup, cto, marr, sI, sN]
    | 16 => simp [cup, cto, marr, sI, sN]
    | 17 => simp [cup, cto, marr, sI, sN]
    | 18 => simp [cup, cto, marr, sI, sN]
    | 19 => simp [cup, cto, marr, sI, sN]
    | 20 => simp [cup, cto, marr, sI, sN]
    | 21 => simp [cup, cto, marr, sI, sN]
    | _ + 22 => simp [cup, cto, marr]
  | 18 => simp [cup, cto, sI, sN]
  | _ + 19 => simp [cup, cto]
theorem st_17_9 (i : Nat) (v : Int32) (h : i < 2 ^ 31) : cup (cto G S T o ad) 17 9 (.inl (G.2.2.2.1, 80, .inl (upd (T.1 8) (nI i).toNatClampNeg v))) = cto G S (sI T 8 i v) o ad := by
  rw [nI_clamp h]
  funext k j
  match k with
  | 0 => simp [cup, cto, sI, sN]
  | 1 => simp [cup, cto, sI, sN]
  | 2 => simp [cup, cto, sI, sN]
  | 3 => simp [cup, cto, sI, sN]
  | 4 => simp [cup, cto, sI, sN]
  | 5 => simp [cup, cto, sI, sN]
  | 6 => simp [cup, cto, sI, sN]
  | 7 => simp [cup, cto, sI, sN]
  | 8 => simp [cup, cto, sI, sN]
  | 9 => simp [cup, cto, sI, sN]
  | 10 => simp [cup, cto, sI, sN]
  | 11 => simp [cup, cto, sI, sN]
  | 12 => simp [cup, cto, sI, sN]
  | 13 => simp [cup, cto, sI, sN]
  | 14 => simp [cup, cto, sI, sN]
  | 15 => simp [cup, cto, sI, sN]
  | 16 => simp [cup, cto, sI, sN]
  | 17 =>
    match j with
    | 0 => simp [cup, cto, marr, sI, sN]
    | 1 => simp [cup, cto, marr, sI, sN]
    | 2 => simp [cup, cto, marr, sI, sN]
    | 3 => simp [cup, cto, marr, sI, sN]
    | 4 => simp [cup, cto, marr, sI, sN]
    | 5 => simp [cup, cto, marr, sI, sN]
    | 6 => simp [cup, cto, marr, sI, sN]
    | 7 => simp [cup, cto, marr, sI, sN]
    | 8 => simp [cup, cto, marr, sI, sN]
    | 9 =>
      simp [cup, cto, marr, sI]
      rfl
    | 10 => simp [cup, cto, marr, sI, sN]
    | 11 => simp [cup, cto, marr, sI, sN]
    | 12 => simp [cup, cto, marr, sI, sN]
    | 13 => simp [cup, cto, marr, sI, sN]
    | 14 => simp [cup, cto, marr, sI, sN]
    | 15 => simp [cup, cto, marr, sI, sN]
    | 16 => simp [cup, cto, marr, sI, sN]
    | 17 => simp [cup, cto, marr, sI, sN]
    | 18 => simp [cup, cto, marr, sI, sN]
    | 19 => simp [cup, cto, marr, sI, sN]
    | 20 => simp [cup, cto, marr, sI, sN]
    | 21 => simp [cup, cto, marr, sI, sN]
    | _ + 22 => simp [cup, cto, marr]
  | 18 => simp [cup, cto, sI, sN]
  | _ + 19 => simp [cup, cto]
theorem st_17_10 (i : Nat) (v : Int32) (h : i < 2 ^ 31) : cup (cto G S T o ad) 17 10 (.inl (G.2.2.1, 960, .inl (upd (T.1 21) (nI i).toNatClampNeg v))) = cto G S (sI T 21 i v) o ad := by
  rw [nI_clamp h]
  funext k j
  match k with
  | 0 => simp [cup, cto, sI, sN]
  | 1 => simp [cup, cto, sI, sN]
  | 2 => simp [cup, cto, sI, sN]
  | 3 => simp [cup, cto, sI, sN]
  | 4 => simp [cup, cto, sI, sN]
  | 5 => simp [cup, cto, sI, sN]
  | 6 => simp [cup, cto, sI, sN]
  | 7 => simp [cup, cto, sI, sN]
  | 8 => simp [cup, cto, sI, sN]
  | 9 => simp [cup, cto, sI, sN]
  | 10 => simp [cup, cto, sI, sN]
  | 11 => simp [cup, cto, sI, sN]
  | 12 => simp [cup, cto, sI, sN]
  | 13 => simp [cup, cto, sI, sN]
  | 14 => simp [cup, cto, sI, sN]
  | 15 => simp [cup, cto, sI, sN]
  | 16 => simp [cup, cto, sI, sN]
  | 17 =>
    match j with
    | 0 => simp [cup, cto, marr, sI, sN]
    | 1 => simp [cup, cto, marr, sI, sN]
    | 2 => simp [cup, cto, marr, sI, sN]
    | 3 => simp [cup, cto, marr, sI, sN]
    | 4 => simp [cup, cto, marr, sI, sN]
    | 5 => simp [cup, cto, marr, sI, sN]
    | 6 => simp [cup, cto, marr, sI, sN]
    | 7 => simp [cup, cto, marr, sI, sN]
    | 8 => simp [cup, cto, marr, sI, sN]
    | 9 => simp [cup, cto, marr, sI, sN]
    | 10 =>
      simp [cup, cto, marr, sI]
      rfl
    | 11 => simp [cup, cto, marr, sI, sN]
    | 12 => simp [cup, cto, marr, sI, sN]
    | 13 => simp [cup, cto, marr, sI, sN]
    | 14 => simp [cup, cto, marr, sI, sN]
    | 15 => simp [cup, cto, marr, sI, sN]
    | 16 => simp [cup, cto, marr, sI, sN]
    | 17 => simp [cup, cto, marr, sI, sN]
    | 18 => simp [cup, cto, marr, sI, sN]
    | 19 => simp [cup, cto, marr, sI, sN]
    | 20 => simp [cup, cto, marr, sI, sN]
    | 21 => simp [cup, cto, marr, sI, sN]
    | _ + 22 => simp [cup, cto, marr]
  | 18 => simp [cup, cto, sI, sN]
  | _ + 19 => simp [cup, cto]
theorem st_17_11 (i : Nat) (v : Int32) (h : i < 2 ^ 31) : cup (cto G S T o ad) 17 11 (.inl (G.2.2.1, 960, .inl (upd (T.1 22) (nI i).toNatClampNeg v))) = cto G S (sI T 22 i v) o ad := by
  rw [nI_clamp h]
  funext k j
  match k with
  | 0 => simp [cup, cto, sI, sN]
  | 1 => simp [cup, cto, sI, sN]
  | 2 => simp [cup, cto, sI, sN]
  | 3 => simp [cup, cto, sI, sN]
  | 4 => simp [cup, cto, sI, sN]
  | 5 => simp [cup, cto, sI, sN]
  | 6 => simp [cup, cto, sI, sN]
  | 7 => simp [cup, cto, sI, sN]
  | 8 => simp [cup, cto, sI, sN]
  | 9 => simp [cup, cto, sI, sN]
  | 10 => simp [cup, cto, sI, sN]
  | 11 => simp [cup, cto, sI, sN]
  | 12 => simp [cup, cto, sI, sN]
  | 13 => simp [cup, cto, sI, sN]
  | 14 => simp [cup, cto, sI, sN]
  | 15 => simp [cup, cto, sI, sN]
  | 16 => simp [cup, cto, sI, sN]
  | 17 =>
    match j with
    | 0 => simp [cup, cto, marr, sI, sN]
    | 1 => simp [cup, cto, marr, sI, sN]
    | 2 => simp [cup, cto, marr, sI, sN]
    | 3 => simp [cup, cto, marr, sI, sN]
    | 4 => simp [cup, cto, marr, sI, sN]
    | 5 => simp [cup, cto, marr, sI, sN]
    | 6 => simp [cup, cto, marr, sI, sN]
    | 7 => simp [cup, cto, marr, sI, sN]
    | 8 => simp [cup, cto, marr, sI, sN]
    | 9 => simp [cup, cto, marr, sI, sN]
    | 10 => simp [cup, cto, marr, sI, sN]
    | 11 =>
      simp [cup, cto, marr, sI]
      rfl
    | 12 => simp [cup, cto, marr, sI, sN]
    | 13 => simp [cup, cto, marr, sI, sN]
    | 14 => simp [cup, cto, marr, sI, sN]
    | 15 => simp [cup, cto, marr, sI, sN]
    | 16 => simp [cup, cto, marr, sI, sN]
    | 17 => simp [cup, cto, marr, sI, sN]
    | 18 => simp [cup, cto, marr, sI, sN]
    | 19 => simp [cup, cto, marr, sI, sN]
    | 20 => simp [cup, cto, marr, sI, sN]
    | 21 => simp [cup, cto, marr, sI, sN]
    | _ + 22 => simp [cup, cto, marr]
  | 18 => simp [cup, cto, sI, sN]
  | _ + 19 => simp [cup, cto]
theorem st_17_12 (i v : Nat) (h : i < 2 ^ 31) : cup (cto G S T o ad) 17 12 (.inl (G.2.2.1, 60, .inl (upd (fun j => nI (T.2 3 j)) (nI i).toNatClampNeg (nI v)))) = cto G S (sN T 3 i v) o ad := by
  rw [nI_clamp h]
  funext k j
  match k with
  | 0 => simp [cup, cto, sI, sN]
  | 1 => simp [cup, cto, sI, sN]
  | 2 => simp [cup, cto, sI, sN]
  | 3 => simp [cup, cto, sI, sN]
  | 4 => simp [cup, cto, sI, sN]
  | 5 => simp [cup, cto, sI, sN]
  | 6 => simp [cup, cto, sI, sN]
  | 7 => simp [cup, cto, sI, sN]
  | 8 => simp [cup, cto, sI, sN]
  | 9 => simp [cup, cto, sI, sN]
  | 10 => simp [cup, cto, sI, sN]
  | 11 => simp [cup, cto, sI, sN]
  | 12 => simp [cup, cto, sI, sN]
  | 13 => simp [cup, cto, sI, sN]
  | 14 => simp [cup, cto, sI, sN]
  | 15 => simp [cup, cto, sI, sN]
  | 16 => simp [cup, cto, sI, sN]
  | 17 =>
    match j with
    | 0 => simp [cup, cto, marr, sI, sN]
    | 1 => simp [cup, cto, marr, sI, sN]
    | 2 => simp [cup, cto, marr, sI, sN]
    | 3 => simp [cup, cto, marr, sI, sN]
    | 4 => simp [cup, cto, marr, sI, sN]
    | 5 => simp [cup, cto, marr, sI, sN]
    | 6 => simp [cup, cto, marr, sI, sN]
    | 7 => simp [cup, cto, marr, sI, sN]
    | 8 => simp [cup, cto, marr, sI, sN]
    | 9 => simp [cup, cto, marr, sI, sN]
    | 10 => simp [cup, cto, marr, sI, sN]
    | 11 => simp [cup, cto, marr, sI, sN]
    | 12 =>
      simp only [cup, cto, marr, sN, and_self, if_true]
      congr 5
      funext q
      by_cases hq : q = i <;> simp [upd, hq]
    | 13 => simp [cup, cto, marr, sI, sN]
    | 14 => simp [cup, cto, marr, sI, sN]
    | 15 => simp [cup, cto, marr, sI, sN]
    | 16 => simp [cup, cto, marr, sI, sN]
    | 17 => simp [cup, cto, marr, sI, sN]
    | 18 => simp [cup, cto, marr, sI, sN]
    | 19 => simp [cup, cto, marr, sI, sN]
    | 20 => simp [cup, cto, marr, sI, sN]
    | 21 => simp [cup, cto, marr, sI, sN]
    | _ + 22 => simp [cup, cto, marr]
  | 18 => simp [cup, cto, sI, sN]
  | _ + 19 => simp [cup, cto]
theorem st_17_13 (i : Nat) (v : Int32) (h : i < 2 ^ 31) : cup (cto G S T o ad) 17 13 (.inl (G.2.2.1, 60, .inl (upd (T.1 10) (nI i).toNatClampNeg v))) = cto G S (sI T 10 i v) o ad := by
  rw [nI_clamp h]
  funext k j
  match k with
  | 0 => simp [cup, cto, sI, sN]
  | 1 => simp [cup, cto, sI, sN]
  | 2 => simp [cup, cto, sI, sN]
  | 3 => simp [cup, cto, sI, sN]
  | 4 => simp [cup, cto, sI, sN]
  | 5 => simp [cup, cto, sI, sN]
  | 6 => simp [cup, cto, sI, sN]
  | 7 => simp [cup, cto, sI, sN]
  | 8 => simp [cup, cto, sI, sN]
  | 9 => simp [cup, cto, sI, sN]
  | 10 => simp [cup, cto, sI, sN]
  | 11 => simp [cup, cto, sI, sN]
  | 12 => simp [cup, cto, sI, sN]
  | 13 => simp [cup, cto, sI, sN]
  | 14 => simp [cup, cto, sI, sN]
  | 15 => simp [cup, cto, sI, sN]
  | 16 => simp [cup, cto, sI, sN]
  | 17 =>
    match j with
    | 0 => simp [cup, cto, marr, sI, sN]
    | 1 => simp [cup, cto, marr, sI, sN]
    | 2 => simp [cup, cto, marr, sI, sN]
    | 3 => simp [cup, cto, marr, sI, sN]
    | 4 => simp [cup, cto, marr, sI, sN]
    | 5 => simp [cup, cto, marr, sI, sN]
    | 6 => simp [cup, cto, marr, sI, sN]
    | 7 => simp [cup, cto, marr, sI, sN]
    | 8 => simp [cup, cto, marr, sI, sN]
    | 9 => simp [cup, cto, marr, sI, sN]
    | 10 => simp [cup, cto, marr, sI, sN]
    | 11 => simp [cup, cto, marr, sI, sN]
    | 12 => simp [cup, cto, marr, sI, sN]
    | 13 =>
      simp [cup, cto, marr, sI]
      rfl
    | 14 => simp [cup, cto, marr, sI, sN]
    | 15 => simp [cup, cto, marr, sI, sN]
    | 16 => simp [cup, cto, marr, sI, sN]
    | 17 => simp [cup, cto, marr, sI, sN]
    | 18 => simp [cup, cto, marr, sI, sN]
    | 19 => simp [cup, cto, marr, sI, sN]
    | 20 => simp [cup, cto, marr, sI, sN]
    | 21 => simp [cup, cto, marr, sI, sN]
    | _ + 22 => simp [cup, cto, marr]
  | 18 => simp [cup, cto, sI, sN]
  | _ + 19 => simp [cup, cto]
theorem st_17_14 (i : Nat) (v : Int32) (h : i < 2 ^ 31) : cup (cto G S T o ad) 17 14 (.inl (G.2.2.1, 60, .inl (upd (T.1 11) (nI i).toNatClampNeg v))) = cto G S (sI T 11 i v) o ad := by
  rw [nI_clamp h]
  funext k j
  match k with
  | 0 => simp [cup, cto, sI, sN]
  | 1 => simp [cup, cto, sI, sN]
  | 2 => simp [cup, cto, sI, sN]
  | 3 => simp [cup, cto, sI, sN]
  | 4 => simp [cup, cto, sI, sN]
  | 5 => simp [cup, cto, sI, sN]
  | 6 => simp [cup, cto, sI, sN]
  | 7 => simp [cup, cto, sI, sN]
  | 8 => simp [cup, cto, sI, sN]
  | 9 => simp [cup, cto, sI, sN]
  | 10 => simp [cup, cto, sI, sN]
  | 11 => simp [cup, cto, sI, sN]
  | 12 => simp [cup, cto, sI, sN]
  | 13 => simp [cup, cto, sI, sN]
  | 14 => simp [cup, cto, sI, sN]
  | 15 => simp [cup, cto, sI, sN]
  | 16 => simp [cup, cto, sI, sN]
  | 17 =>
    match j with
    | 0 => simp [cup, cto, marr, sI, sN]
    | 1 => simp [cup, cto, marr, sI, sN]
    | 2 => simp [cup, cto, marr, sI, sN]
    | 3 => simp [cup, cto, marr, sI, sN]
    | 4 => simp [cup, cto, marr, sI, sN]
    | 5 => simp [cup, cto, marr, sI, sN]
    | 6 => simp [cup, cto, marr, sI, sN]
    | 7 => simp [cup, cto, marr, sI, sN]
    | 8 => simp [cup, cto, marr, sI, sN]
    | 9 => simp [cup, cto, marr, sI, sN]
    | 10 => simp [cup, cto, marr, sI, sN]
    | 11 => simp [cup, cto, marr, sI, sN]
    | 12 => simp [cup, cto, marr, sI, sN]
    | 13 => simp [cup, cto, marr, sI, sN]
    | 14 =>
      simp [cup, cto, marr, sI]
      rfl
    | 15 => simp [cup, cto, marr, sI, sN]
    | 16 => simp [cup, cto, marr, sI, sN]
    | 17 => simp [cup, cto, marr, sI, sN]
    | 18 => simp [cup, cto, marr, sI, sN]
    | 19 => simp [cup, cto, marr, sI, sN]
    | 20 => simp [cup, cto, marr, sI, sN]
    | 21 => simp [cup, cto, marr, sI, sN]
    | _ + 22 => simp [cup, cto, marr]
  | 18 => simp [cup, cto, sI, sN]
  | _ + 19 => simp [cup, cto]
theorem st_17_15 (i : Nat) (v : Int32) (h : i < 2 ^ 31) : cup (cto G S T o ad) 17 15 (.inl (G.2.2.2.1, 60, .inl (upd (T.1 12) (nI i).toNatClampNeg v))) = cto G S (sI T 12 i v) o ad := by
  rw [nI_clamp h]
  funext k j
  match k with
  | 0 => simp [cup, cto, sI, sN]
  | 1 => simp [cup, cto, sI, sN]
  | 2 => simp [cup, cto, sI, sN]
  | 3 => simp [cup, cto, sI, sN]
  | 4 => simp [cup, cto, sI, sN]
  | 5 => simp [cup, cto, sI, sN]
  | 6 => simp [cup, cto, sI, sN]
  | 7 => simp [cup, cto, sI, sN]
  | 8 => simp [cup, cto, sI, sN]
  | 9 => simp [cup, cto, sI, sN]
  | 10 => simp [cup, cto, sI, sN]
  | 11 => simp [cup, cto, sI, sN]
  | 12 => simp [cup, cto, sI, sN]
  | 13 => simp [cup, cto, sI, sN]
  | 14 => simp [cup, cto, sI, sN]
  | 15 => simp [cup, cto, sI, sN]
  | 16 => simp [cup, cto, sI, sN]
  | 17 =>
    match j with
    | 0 => simp [cup, cto, marr, sI, sN]
    | 1 => simp [cup, cto, marr, sI, sN]
    | 2 => simp [cup, cto, marr, sI, sN]
    | 3 => simp [cup, cto, marr, sI, sN]
    | 4 => simp [cup, cto, marr, sI, sN]
    | 5 => simp [cup, cto, marr, sI, sN]
    | 6 => simp [cup, cto, marr, sI, sN]
    | 7 => simp [cup, cto, marr, sI, sN]
    | 8 => simp [cup, cto, marr, sI, sN]
    | 9 => simp [cup, cto, marr, sI, sN]
    | 10 => simp [cup, cto, marr, sI, sN]
    | 11 => simp [cup, cto, marr, sI, sN]
    | 12 => simp [cup, cto, marr, sI, sN]
    | 13 => simp [cup, cto, marr, sI, sN]
    | 14 => simp [cup, cto, marr, sI, sN]
    | 15 =>
      simp [cup, cto, marr, sI]
      rfl
    | 16 => simp [cup, cto, marr, sI, sN]
    | 17 => simp [cup, cto, marr, sI, sN]
    | 18 => simp [cup, cto, marr, sI, sN]
    | 19 => simp [cup, cto, marr, sI, sN]
    | 20 => simp [cup, cto, marr, sI, sN]
    | 21 => simp [cup, cto, marr, sI, sN]
    | _ + 22 => simp [cup, cto, marr]
  | 18 => simp [cup, cto, sI, sN]
  | _ + 19 => simp [cup, cto]
theorem st_17_16 (i v : Nat) (h : i < 2 ^ 31) : cup (cto G S T o ad) 17 16 (.inl (G.2.2.1, 60, .inl (upd (fun j => nI (T.2 4 j)) (nI i).toNatClampNeg (nI v)))) = cto G S (sN T 4 i v) o ad := by
  rw [nI_clamp h]
  funext k j
  match k with
  | 0 => simp [cup, cto, sI, sN]
  | 1 => simp [cup, cto, sI, sN]
  | 2 => simp [cup, cto, sI, sN]
  | 3 => simp [cup, cto, sI, sN]
  | 4 => simp [cup, cto, sI, sN]
  | 5 => simp [cup, cto, sI, sN]
  | 6 => simp [cup, cto, sI, sN]
  | 7 => simp [cup, cto, sI, sN]
  | 8 => simp [cup, cto, sI, sN]
  | 9 => simp [cup, cto, sI, sN]
  | 10 => simp [cup, cto, sI, sN]
  | 11 => simp [cup, cto, sI, sN]
  | 12 => simp [cup, cto, sI, sN]
  | 13 => simp [cup, cto, sI, sN]
  | 14 => simp [cup, cto, sI, sN]
  | 15 => simp [cup, cto, sI, sN]
  | 16 => simp [cup, cto, sI, sN]
  | 17 =>
    match j with
    | 0 => simp [cup, cto, marr, sI, sN]
    | 1 => simp [cup, cto, marr, sI, sN]
    | 2 => simp [cup, cto, marr, sI, sN]
    | 3 => simp [cup, cto, marr, sI, sN]
    | 4 => simp [cup, cto, marr, sI, sN]
    | 5 => simp [cup, cto, marr, sI, sN]
    | 6 => simp [cup, cto, marr, sI, sN]
    | 7 => simp [cup, cto, marr, sI, sN]
    | 8 => simp [cup, cto, marr, sI, sN]
    | 9 => simp [cup, cto, marr, sI, sN]
    | 10 => simp [cup, cto, marr, sI, sN]
    | 11 => simp [cup, cto, marr, sI, sN]
    | 12 => simp [cup, cto, marr, sI, sN]
    | 13 => simp [cup, cto, marr, sI, sN]
    | 14 => simp [cup, cto, marr, sI, sN]
    | 15 => simp [cup, cto, marr, sI, sN]
    | 16 =>
      simp only [cup, cto, marr, sN, and_self, if_true]
      congr 5
      funext q
      by_cases hq : q = i <;> simp [upd, hq]
    | 17 => simp [cup, cto, marr, sI, sN]
    | 18 => simp [cup, cto, marr, sI, sN]
    | 19 => simp [cup, cto, marr, sI, sN]
    | 20 => simp [cup, cto, marr, sI, sN]
    | 21 => simp [cup, cto, marr, sI, sN]
    | _ + 22 => simp [cup, cto, marr]
  | 18 => simp [cup, cto, sI, sN]
  | _ + 19 => simp [cup, cto]
theorem st_17_17 (i : Nat) (v : Int32) (h : i < 2 ^ 31) : cup (cto G S T o ad) 17 17 (.inl (G.2.2.1, 60, .inl (upd (T.1 20) (nI i).toNatClampNeg v))) = cto G S (sI T 20 i v) o ad := by
  rw [nI_clamp h]
  funext k j
  match k with
  | 0 => simp [cup, cto, sI, sN]
  | 1 => simp [cup, cto, sI, sN]
  | 2 => simp [cup, cto, sI, sN]
  | 3 => simp [cup, cto, sI, sN]
  | 4 => simp [cup, cto, sI, sN]
  | 5 => simp [cup, cto, sI, sN]
  | 6 => simp [cup, cto, sI, sN]
  | 7 => simp [cup, cto, sI, sN]
  | 8 => simp [cup, cto, sI, sN]
  | 9 => simp [cup, cto, sI, sN]
  | 10 => simp [cup, cto, sI, sN]
  | 11 => simp [cup, cto, sI, sN]
  | 12 => simp [cup, cto, sI, sN]
  | 13 => simp [cup, cto, sI, sN]
  | 14 => simp [cup, cto, sI, sN]
  | 15 => simp [cup, cto, sI, sN]
  | 16 => simp [cup, cto, sI, sN]
  | 17 =>
    match j with
    | 0 => simp [cup, cto, marr, sI, sN]
    | 1 => simp [cup, cto, marr, sI, sN]
    | 2 => simp [cup, cto, marr, sI, sN]
    | 3 => simp [cup, cto, marr, sI, sN]
    | 4 => simp [cup, cto, marr, sI, sN]
    | 5 => simp [cup, cto, marr, sI, sN]
    | 6 => simp [cup, cto, marr, sI, sN]
    | 7 => simp [cup, cto, marr, sI, sN]
    | 8 => simp [cup, cto, marr, sI, sN]
    | 9 => simp [cup, cto, marr, sI, sN]
    | 10 => simp [cup, cto, marr, sI, sN]
    | 11 => simp [cup, cto, marr, sI, sN]
    | 12 => simp [cup, cto, marr, sI, sN]
    | 13 => simp [cup, cto, marr, sI, sN]
    | 14 => simp [cup, cto, marr, sI, sN]
    | 15 => simp [cup, cto, marr, sI, sN]
    | 16 => simp [cup, cto, marr, sI, sN]
    | 17 =>
      simp [cup, cto, marr, sI]
      rfl
    | 18 => simp [cup, cto, marr, sI, sN]
    | 19 => simp [cup, cto, marr, sI, sN]
    | 20 => simp [cup, cto, marr, sI, sN]
    | 21 => simp [cup, cto, marr, sI, sN]
    | _ + 22 => simp [cup, cto, marr]
  | 18 => simp [cup, cto, sI, sN]
  | _ + 19 => simp [cup, cto]
theorem st_17_18 (i v : Nat) (h : i < 2 ^ 31) : cup (cto G S T o ad) 17 18 (.inl (G.2.2.1, 60, .inl (upd (fun j => nI (T.2 5 j)) (nI i).toNatClampNeg (nI v)))) = cto G S (sN T 5 i v) o ad := by
  rw [nI_clamp h]
  funext k j
  match k with
  | 0 => simp [cup, cto, sI, sN]
  | 1 => simp [cup, cto, sI, sN]
  | 2 => simp [cup, cto, sI, sN]
  | 3 => simp [cup, cto, sI, sN]
  | 4 => simp [cup, cto, sI, sN]
  | 5 => simp [cup, cto, sI, sN]
  | 6 => simp [cup, cto, sI, sN]
  | 7 => simp [cup, cto, sI, sN]
  | 8 => simp [cup, cto, sI, sN]
  | 9 => simp [cup, cto, sI, sN]
  | 10 => simp [cup, cto, sI, sN]
  | 11 => simp [cup, cto, sI, sN]
  | 12 => simp [cup, cto, sI, sN]
  | 13 => simp [cup, cto, sI, sN]
  | 14 => simp [cup, cto, sI, sN]
  | 15 => simp [cup, cto, sI, sN]
  | 16 => simp [cup, cto, sI, sN]
  | 17 =>
    match j with
    | 0 => simp [cup, cto, marr, sI, sN]
    | 1 => simp [cup, cto, marr, sI, sN]
    | 2 => simp [cup, cto, marr, sI, sN]
    | 3 => simp [cup, cto, marr, sI, sN]
    | 4 => simp [cup, cto, marr, sI, sN]
    | 5 => simp [cup, cto, marr, sI, sN]
    | 6 => simp [cup, cto, marr, sI, sN]
    | 7 => simp [cup, cto, marr, sI, sN]
    | 8 => simp [cup, cto, marr, sI, sN]
    | 9 => simp [cup, cto, marr, sI, sN]
    | 10 => simp [cup, cto, marr, sI, sN]
    | 11 => simp [cup, cto, marr, sI, sN]
    | 12 => simp [cup, cto, marr, sI, sN]
    | 13 => simp [cup, cto, marr, sI, sN]
    | 14 => simp [cup, cto, marr, sI, sN]
    | 15 => simp [cup, cto, marr, sI, sN]
    | 16 => simp [cup, cto, marr, sI, sN]
    | 17 => simp [cup, cto, marr, sI, sN]
    | 18 =>
      simp only [cup, cto, marr, sN, and_self, if_true]
      congr 5
      funext q
      by_cases hq : q = i <;> simp [upd, hq]
    | 19 => simp [cup, cto, marr, sI, sN]
    | 20 => simp [cup, cto, marr, sI, sN]
    | 21 => simp [cup, cto, marr, sI, sN]
    | _ + 22 => simp [cup, cto, marr]
  | 18 => simp [cup, cto, sI, sN]
  | _ + 19 => simp [cup, cto]
theorem st_17_19 (i : Nat) (v : Int32) (h : i < 2 ^ 31) : cup (cto G S T o ad) 17 19 (.inl (G.2.2.1, 60, .inl (upd (T.1 13) (nI i).toNatClampNeg v))) = cto G S (sI T 13 i v) o ad := by
  rw [nI_clamp h]
  funext k j
  match k with
  | 0 => simp [cup, cto, sI, sN]
  | 1 => simp [cup, cto, sI, sN]
  | 2 => simp [cup, cto, sI, sN]
  | 3 => simp [cup, cto, sI, sN]
  | 4 => simp [cup, cto, sI, sN]
  | 5 => simp [cup, cto, sI, sN]
  | 6 => simp [cup, cto, sI, sN]
  | 7 => simp [cup, cto, sI, sN]
  | 8 => simp [cup, cto, sI, sN]
  | 9 => simp [cup, cto, sI, sN]
  | 10 => simp [cup, cto, sI, sN]
  | 11 => simp [cup, cto, sI, sN]
  | 12 => simp [cup, cto, sI, sN]
  | 13 => simp [cup, cto, sI, sN]
  | 14 => simp [cup, cto, sI, sN]
  | 15 => simp [cup, cto, sI, sN]
  | 16 => simp [cup, cto, sI, sN]
  | 17 =>
    match j with
    | 0 => simp [cup, cto, marr, sI, sN]
    | 1 => simp [cup, cto, marr, sI, sN]
    | 2 => simp [cup, cto, marr, sI, sN]
    | 3 => simp [cup, cto, marr, sI, sN]
    | 4 => simp [cup, cto, marr, sI, sN]
    | 5 => simp [cup, cto, marr, sI, sN]
    | 6 => simp [cup, cto, marr, sI, sN]
    | 7 => simp [cup, cto, marr, sI, sN]
    | 8 => simp [cup, cto, marr, sI, sN]
    | 9 => simp [cup, cto, marr, sI, sN]
    | 10 => simp [cup, cto, marr, sI, sN]
    | 11 => simp [cup, cto, marr, sI, sN]
    | 12 => simp [cup, cto, marr, sI, sN]
    | 13 => simp [cup, cto, marr, sI, sN]
    | 14 => simp [cup, cto, marr, sI, sN]
    | 15 => simp [cup, cto, marr, sI, sN]
    | 16 => simp [cup, cto, marr, sI, sN]
    | 17 => simp [cup, cto, marr, sI, sN]
    | 18 => simp [cup, cto, marr, sI, sN]
    | 19 =>
      simp [cup, cto, marr, sI]
      rfl
    | 20 => simp [cup, cto, marr, sI, sN]
    | 21 => simp [cup, cto, marr, sI, sN]
    | _ + 22 => simp [cup, cto, marr]
  | 18 => simp [cup, cto, sI, sN]
  | _ + 19 => simp [cup, cto]
theorem st_17_20 (i : Nat) (v : Int32) (h : i < 2 ^ 31) : cup (cto G S T o ad) 17 20 (.inl (G.2.2.1, 60, .inl (upd (T.1 14) (nI i).toNatClampNeg v))) = cto G S (sI T 14 i v) o ad := by
  rw [nI_clamp h]
  funext k j
  match k with
  | 0 => simp [cup, cto, sI, sN]
  | 1 => simp [cup, cto, sI, sN]
  | 2 => simp [cup, cto, sI, sN]
  | 3 => simp [cup, cto, sI, sN]
  | 4 => simp [cup, cto, sI, sN]
  | 5 => simp [cup, cto, sI, sN]
  | 6 => simp [cup, cto, sI, sN]
  | 7 => simp [cup, cto, sI, sN]
  | 8 => simp [cup, cto, sI, sN]
  | 9 => simp [cup, cto, sI, sN]
  | 10 => simp [cup, cto, sI, sN]
  | 11 => simp [cup, cto, sI, sN]
  | 12 => simp [cup, cto, sI, sN]
  | 13 => simp [cup, cto, sI, sN]
  | 14 => simp [cup, cto, sI, sN]
  | 15 => simp [cup, cto, sI, sN]
  | 16 => simp [cup, cto, sI, sN]
  | 17 =>
    match j with
    | 0 => simp [cup, cto, marr, sI, sN]
    | 1 => simp [cup, cto, marr, sI, sN]
    | 2 => simp [cup, cto, marr, sI, sN]
    | 3 => simp [cup, cto, marr, sI, sN]
    | 4 => simp [cup, cto, marr, sI, sN]
    | 5 => simp [cup, cto, marr, sI, sN]
    | 6 => simp [cup, cto, marr, sI, sN]
    | 7 => simp [cup, cto, marr, sI, sN]
    | 8 => simp [cup, cto, marr, sI, sN]
    | 9 => simp [cup, cto, marr, sI, sN]
    | 10 => simp [cup, cto, marr, sI, sN]
    | 11 => simp [cup, cto, marr, sI, sN]
    | 12 => simp [cup, cto, marr, sI, sN]
    | 13 => simp [cup, cto, marr, sI, sN]
    | 14 => simp [cup, cto, marr, sI, sN]
    | 15 => simp [cup, cto, marr, sI, sN]
    | 16 => simp [cup, cto, marr, sI, sN]
    | 17 => simp [cup, cto, marr, sI, sN]
    | 18 => simp [cup, cto, marr, sI, sN]
    | 19 => simp [cup, cto, marr, sI, sN]
    | 20 =>
      simp [cup, cto, marr, sI]
      rfl
    | 21 => simp [cup, cto, marr, sI, sN]
    | _ + 22 => simp [cup, cto, marr]
  | 18 => simp [cup, cto, sI, sN]
  | _ + 19 => simp [cup, cto]
theorem st_17_21 (i : Nat) (v : Int32) (h : i < 2 ^ 31) : cup (cto G S T o ad) 17 21 (.inl (G.2.2.1, 40, .inl (upd (T.1 23) (nI i).toNatClampNeg v))) = cto G S (sI T 23 i v) o ad := by
  rw [nI_clamp h]
  funext k j
  match k with
  | 0 => simp [cup, cto, sI, sN]
  | 1 => simp [cup, cto, sI, sN]
  | 2 => simp [cup, cto, sI, sN]
  | 3 => simp [cup, cto, sI, sN]
  | 4 => simp [cup, cto, sI, sN]
  | 5 => simp [cup, cto, sI, sN]
  | 6 => simp [cup, cto, sI, sN]
  | 7 => simp [cup, cto, sI, sN]
  | 8 => simp [cup, cto, sI, sN]
  | 9 => simp [cup, cto, sI, sN]
  | 10 => simp [cup, cto, sI, sN]
  | 11 => simp [cup, cto, sI, sN]
  | 12 => simp [cup, cto, sI, sN]
  | 13 => simp [cup, cto, sI, sN]
  | 14 => simp [cup, cto, sI, sN]
  | 15 => simp [cup, cto, sI, sN]
  | 16 => simp [cup, cto, sI, sN]
  | 17 =>
    match j with
    | 0 => simp [cup, cto, marr, sI, sN]
    | 1 => simp [cup, cto, marr, sI, sN]
    | 2 => simp [cup, cto, marr, sI, sN]
    | 3 => simp [cup, cto, marr, sI, sN]
    | 4 => simp [cup, cto, marr, sI, sN]
    | 5 => simp [cup, cto, marr, sI, sN]
    | 6 => simp [cup, cto, marr, sI, sN]
    | 7 => simp [cup, cto, marr, sI, sN]
    | 8 => simp [cup, cto, marr, sI, sN]
    | 9 => simp [cup, cto, marr, sI, sN]
    | 10 => simp [cup, cto, marr, sI, sN]
    | 11 => simp [cup, cto, marr, sI, sN]
    | 12 => simp [cup, cto, marr, sI, sN]
    | 13 => simp [cup, cto, marr, sI, sN]
    | 14 => simp [cup, cto, marr, sI, sN]
    | 15 => simp [cup, cto, marr, sI, sN]
    | 16 => simp [cup, cto, marr, sI, sN]
    | 17 => simp [cup, cto, marr, sI, sN]
    | 18 => simp [cup, cto, marr, sI, sN]
    | 19 => simp [cup, cto, marr, sI, sN]
    | 20 => simp [cup, cto, marr, sI, sN]
    | 21 =>
      simp [cup, cto, marr, sI]
      rfl
    | _ + 22 => simp [cup, cto, marr]
  | 18 => simp [cup, cto, sI, sN]
  | _ + 19 => simp [cup, cto]
theorem st_hour (v : Int32) : cup (cto G S T o ad) 16 0 (.inr (11, [.int v, .int (nI (T.2 0 0)), .ref (ad 17 0), .ref (ad 17 1), .ref (ad 17 2), .ref (ad 17 3), .int (nI (T.2 0 1)), .ref (ad 17 4), .ref (ad 17 5), .ref (ad 17 6), .ref (ad 17 7), .ref (ad 17 8), .ref (ad 17 9), .ref (ad 17 10), .ref (ad 17 11), .int (nI (T.2 0 2)), .ref (ad 17 12), .ref (ad 17 13), .ref (ad 17 14), .ref (ad 17 15), .int (nI (T.2 0 3)), .ref (ad 17 16), .ref (ad 17 17), .ref (ad 17 18), .ref (ad 17 19), .ref (ad 17 20), .ref (ad 17 21), .int (nI (T.2 0 5)), .int (T.1 24 0)])) = cto G S (sI T 0 0 v) o ad := by
  funext k i
  match k with
  | 0 => simp [cup, cto, sI, sN]
  | 1 => simp [cup, cto, sI, sN]
  | 2 => simp [cup, cto, sI, sN]
  | 3 => simp [cup, cto, sI, sN]
  | 4 => simp [cup, cto, sI, sN]
  | 5 => simp [cup, cto, sI, sN]
  | 6 => simp [cup, cto, sI, sN]
  | 7 => simp [cup, cto, sI, sN]
  | 8 => simp [cup, cto, sI, sN]
  | 9 => simp [cup, cto, sI, sN]
  | 10 => simp [cup, cto, sI, sN]
  | 11 => simp [cup, cto, sI, sN]
  | 12 => simp [cup, cto, sI, sN]
  | 13 => simp [cup, cto, sI, sN]
  | 14 => simp [cup, cto, sI, sN]
  | 15 => simp [cup, cto, sI, sN]
  | 16 => by_cases h : i = 0 <;> simp [cup, cto, sI, sN, h]
  | 17 => match i with
    | 0 => simp [cup, cto, marr, sI, sN]
    | 1 => simp [cup, cto, marr, sI, sN]
    | 2 => simp [cup, cto, marr, sI, sN]
    | 3 => simp [cup, cto, marr, sI, sN]
    | 4 => simp [cup, cto, marr, sI, sN]
    | 5 => simp [cup, cto, marr, sI, sN]
    | 6 => simp [cup, cto, marr, sI, sN]
    | 7 => simp [cup, cto, marr, sI, sN]
    | 8 => simp [cup, cto, marr, sI, sN]
    | 9 => simp [cup, cto, marr, sI, sN]
    | 10 => simp [cup, cto, marr, sI, sN]
    | 11 => simp [cup, cto, marr, sI, sN]
    | 12 => simp [cup, cto, marr, sI, sN]
    | 13 => simp [cup, cto, marr, sI, sN]
    | 14 => simp [cup, cto, marr, sI, sN]
    | 15 => simp [cup, cto, marr, sI, sN]
    | 16 => simp [cup, cto, marr, sI, sN]
    | 17 => simp [cup, cto, marr, sI, sN]
    | 18 => simp [cup, cto, marr, sI, sN]
    | 19 => simp [cup, cto, marr, sI, sN]
    | 20 => simp [cup, cto, marr, sI, sN]
    | 21 => simp [cup, cto, marr, sI, sN]
    | _ + 22 => simp [cup, cto, marr]
  | 18 => simp [cup, cto, sI, sN]
  | _ + 19 => simp [cup, cto]
theorem st_users (v : Nat) : cup (cto G S T o ad) 16 0 (.inr (11, [.int (T.1 0 0), .int (nI v), .ref (ad 17 0), .ref (ad 17 1), .ref (ad 17 2), .ref (ad 17 3), .int (nI (T.2 0 1)), .ref (ad 17 4), .ref (ad 17 5), .ref (ad 17 6), .ref (ad 17 7), .ref (ad 17 8), .ref (ad 17 9), .ref (ad 17 10), .ref (ad 17 11), .int (nI (T.2 0 2)), .ref (ad 17 12), .ref (ad 17 13), .ref (ad 17 14), .ref (ad 17 15), .int (nI (T.2 0 3)), .ref (ad 17 16), .ref (ad 17 17), .ref (ad 17 18), .ref (ad 17 19), .ref (ad 17 20), .ref (ad 17 21), .int (nI (T.2 0 5)), .int (T.1 24 0)])) = cto G S (sN T 0 0 v) o ad := by
  funext k i
  match k with
  | 0 => simp [cup, cto, sI, sN]
  | 1 => simp [cup, cto, sI, sN]
  | 2 => simp [cup, cto, sI, sN]
  | 3 => simp [cup, cto, sI, sN]
  | 4 => simp [cup, cto, sI, sN]
  | 5 => simp [cup, cto, sI, sN]
  | 6 => simp [cup, cto, sI, sN]
  | 7 => simp [cup, cto, sI, sN]
  | 8 => simp [cup, cto, sI, sN]
  | 9 => simp [cup, cto, sI, sN]
  | 10 => simp [cup, cto, sI, sN]
  | 11 => simp [cup, cto, sI, sN]
  | 12 => simp [cup, cto, sI, sN]
  | 13 => simp [cup, cto, sI, sN]
  | 14 => simp [cup, cto, sI, sN]
  | 15 => simp [cup, cto, sI, sN]
  | 16 => by_cases h : i = 0 <;> simp [cup, cto, sI, sN, h]
  | 17 => match i with
    | 0 => simp [cup, cto, marr, sI, sN]
    | 1 => simp [cup, cto, marr, sI, sN]
    | 2 => simp [cup, cto, marr, sI, sN]
    | 3 => simp [cup, cto, marr, sI, sN]
    | 4 => simp [cup, cto, marr, sI, sN]
    | 5 => simp [cup, cto, marr, sI, sN]
    | 6 => simp [cup, cto, marr, sI, sN]
    | 7 => simp [cup, cto, marr, sI, sN]
    | 8 => simp [cup, cto, marr, sI, sN]
    | 9 => simp [cup, cto, marr, sI, sN]
    | 10 => simp [cup, cto, marr, sI, sN]
    | 11 => simp [cup, cto, marr, sI, sN]
    | 12 => simp [cup, cto, marr, sI, sN]
    | 13 => simp [cup, cto, marr, sI, sN]
    | 14 => simp [cup, cto, marr, sI, sN]
    | 15 => simp [cup, cto, marr, sI, sN]
    | 16 => simp [cup, cto, marr, sI, sN]
    | 17 => simp [cup, cto, marr, sI, sN]
    | 18 => simp [cup, cto, marr, sI, sN]
    | 19 => simp [cup, cto, marr, sI, sN]
    | 20 => simp [cup, cto, marr, sI, sN]
    | 21 => simp [cup, cto, marr, sI, sN]
    | _ + 22 => simp [cup, cto, marr]
  | 18 => simp [cup, cto, sI, sN]
  | _ + 19 => simp [cup, cto]
theorem st_messages (v : Nat) : cup (cto G S T o ad) 16 0 (.inr (11, [.int (T.1 0 0), .int (nI (T.2 0 0)), .ref (ad 17 0), .ref (ad 17 1), .ref (ad 17 2), .ref (ad 17 3), .int (nI v), .ref (ad 17 4), .ref (ad 17 5), .ref (ad 17 6), .ref (ad 17 7), .ref (ad 17 8), .ref (ad 17 9), .ref (ad 17 10), .ref (ad 17 11), .int (nI (T.2 0 2)), .ref (ad 17 12), .ref (ad 17 13), .ref (ad 17 14), .ref (ad 17 15), .int (nI (T.2 0 3)), .ref (ad 17 16), .ref (ad 17 17), .ref (ad 17 18), .ref (ad 17 19), .ref (ad 17 20), .ref (ad 17 21), .int (nI (T.2 0 5)), .int (T.1 24 0)])) = cto G S (sN T 0 1 v) o ad := by
  funext k i
  match k with
  | 0 => simp [cup, cto, sI, sN]
  | 1 => simp [cup, cto, sI, sN]
  | 2 => simp [cup, cto, sI, sN]
  | 3 => simp [cup, cto, sI, sN]
  | 4 => simp [cup, cto, sI, sN]
  | 5 => simp [cup, cto, sI, sN]
  | 6 => simp [cup, cto, sI, sN]
  | 7 => simp [cup, cto, sI, sN]
  | 8 => simp [cup, cto, sI, sN]
  | 9 => simp [cup, cto, sI, sN]
  | 10 => simp [cup, cto, sI, sN]
  | 11 => simp [cup, cto, sI, sN]
  | 12 => simp [cup, cto, sI, sN]
  | 13 => simp [cup, cto, sI, sN]
  | 14 => simp [cup, cto, sI, sN]
  | 15 => simp [cup, cto, sI, sN]
  | 16 => by_cases h : i = 0 <;> simp [cup, cto, sI, sN, h]
  | 17 => match i with
    | 0 => simp [cup, cto, marr, sI, sN]
    | 1 => simp [cup, cto, marr, sI, sN]
    | 2 => simp [cup, cto, marr, sI, sN]
    | 3 => simp [cup, cto, marr, sI, sN]
    | 4 => simp [cup, cto, marr, sI, sN]
    | 5 => simp [cup, cto, marr, sI, sN]
    | 6 => simp [cup, cto, marr, sI, sN]
    | 7 => simp [cup, cto, marr, sI, sN]
    | 8 => simp [cup, cto, marr, sI, sN]
    | 9 => simp [cup, cto, marr, sI, sN]
    | 10 => simp [cup, cto, marr, sI, sN]
    | 11 => simp [cup, cto, marr, sI, sN]
    | 12 => simp [cup, cto, marr, sI, sN]
    | 13 => simp [cup, cto, marr, sI, sN]
    | 14 => simp [cup, cto, marr, sI, sN]
    | 15 => simp [cup, cto, marr, sI, sN]
    | 16 => simp [cup, cto, marr, sI, sN]
    | 17 => simp [cup, cto, marr, sI, sN]
    | 18 => simp [cup, cto, marr, sI, sN]
    | 19 => simp [cup, cto, marr, sI, sN]
    | 20 => simp [cup, cto, marr, sI, sN]
    | 21 => simp [cup, cto, marr, sI, sN]
    | _ + 22 => simp [cup, cto, marr]
  | 18 => simp [cup, cto, sI, sN]
  | _ + 19 => simp [cup, cto]
theorem st_spends (v : Nat) : cup (cto G S T o ad) 16 0 (.inr (11, [.int (T.1 0 0), .int (nI (T.2 0 0)), .ref (ad 17 0), .ref (ad 17 1), .ref (ad 17 2), .ref (ad 17 3), .int (nI (T.2 0 1)), .ref (ad 17 4), .ref (ad 17 5), .ref (ad 17 6), .ref (ad 17 7), .ref (ad 17 8), .ref (ad 17 9), .ref (ad 17 10), .ref (ad 17 11), .int (nI v), .ref (ad 17 12), .ref (ad 17 13), .ref (ad 17 14), .ref (ad 17 15), .int (nI (T.2 0 3)), .ref (ad 17 16), .ref (ad 17 17), .ref (ad 17 18), .ref (ad 17 19), .ref (ad 17 20), .ref (ad 17 21), .int (nI (T.2 0 5)), .int (T.1 24 0)])) = cto G S (sN T 0 2 v) o ad := by
  funext k i
  match k with
  | 0 => simp [cup, cto, sI, sN]
  | 1 => simp [cup, cto, sI, sN]
  | 2 => simp [cup, cto, sI, sN]
  | 3 => simp [cup, cto, sI, sN]
  | 4 => simp [cup, cto, sI, sN]
  | 5 => simp [cup, cto, sI, sN]
  | 6 => simp [cup, cto, sI, sN]
  | 7 => simp [cup, cto, sI, sN]
  | 8 => simp [cup, cto, sI, sN]
  | 9 => simp [cup, cto, sI, sN]
  | 10 => simp [cup, cto, sI, sN]
  | 11 => simp [cup, cto, sI, sN]
  | 12 => simp [cup, cto, sI, sN]
  | 13 => simp [cup, cto, sI, sN]
  | 14 => simp [cup, cto, sI, sN]
  | 15 => simp [cup, cto, sI, sN]
  | 16 => by_cases h : i = 0 <;> simp [cup, cto, sI, sN, h]
  | 17 => match i with
    | 0 => simp [cup, cto, marr, sI, sN]
    | 1 => simp [cup, cto, marr, sI, sN]
    | 2 => simp [cup, cto, marr, sI, sN]
    | 3 => simp [cup, cto, marr, sI, sN]
    | 4 => simp [cup, cto, marr, sI, sN]
    | 5 => simp [cup, cto, marr, sI, sN]
    | 6 => simp [cup, cto, marr, sI, sN]
    | 7 => simp [cup, cto, marr, sI, sN]
    | 8 => simp [cup, cto, marr, sI, sN]
    | 9 => simp [cup, cto, marr, sI, sN]
    | 10 => simp [cup, cto, marr, sI, sN]
    | 11 => simp [cup, cto, marr, sI, sN]
    | 12 => simp [cup, cto, marr, sI, sN]
    | 13 => simp [cup, cto, marr, sI, sN]
    | 14 => simp [cup, cto, marr, sI, sN]
    | 15 => simp [cup, cto, marr, sI, sN]
    | 16 => simp [cup, cto, marr, sI, sN]
    | 17 => simp [cup, cto, marr, sI, sN]
    | 18 => simp [cup, cto, marr, sI, sN]
    | 19 => simp [cup, cto, marr, sI, sN]
    | 20 => simp [cup, cto, marr, sI, sN]
    | 21 => simp [cup, cto, marr, sI, sN]
    | _ + 22 => simp [cup, cto, marr]
  | 18 => simp [cup, cto, sI, sN]
  | _ + 19 => simp [cup, cto]
theorem st_tasks (v : Nat) : cup (cto G S T o ad) 16 0 (.inr (11, [.int (T.1 0 0), .int (nI (T.2 0 0)), .ref (ad 17 0), .ref (ad 17 1), .ref (ad 17 2), .ref (ad 17 3), .int (nI (T.2 0 1)), .ref (ad 17 4), .ref (ad 17 5), .ref (ad 17 6), .ref (ad 17 7), .ref (ad 17 8), .ref (ad 17 9), .ref (ad 17 10), .ref (ad 17 11), .int (nI (T.2 0 2)), .ref (ad 17 12), .ref (ad 17 13), .ref (ad 17 14), .ref (ad 17 15), .int (nI v), .ref (ad 17 16), .ref (ad 17 17), .ref (ad 17 18), .ref (ad 17 19), .ref (ad 17 20), .ref (ad 17 21), .int (nI (T.2 0 5)), .int (T.1 24 0)])) = cto G S (sN T 0 3 v) o ad := by
  funext k i
  match k with
  | 0 => simp [cup, cto, sI, sN]
  | 1 => simp [cup, cto, sI, sN]
  | 2 => simp [cup, cto, sI, sN]
  | 3 => simp [cup, cto, sI, sN]
  | 4 => simp [cup, cto, sI, sN]
  | 5 => simp [cup, cto, sI, sN]
  | 6 => simp [cup, cto, sI, sN]
  | 7 => simp [cup, cto, sI, sN]
  | 8 => simp [cup, cto, sI, sN]
  | 9 => simp [cup, cto, sI, sN]
  | 10 => simp [cup, cto, sI, sN]
  | 11 => simp [cup, cto, sI, sN]
  | 12 => simp [cup, cto, sI, sN]
  | 13 => simp [cup, cto, sI, sN]
  | 14 => simp [cup, cto, sI, sN]
  | 15 => simp [cup, cto, sI, sN]
  | 16 => by_cases h : i = 0 <;> simp [cup, cto, sI, sN, h]
  | 17 => match i with
    | 0 => simp [cup, cto, marr, sI, sN]
    | 1 => simp [cup, cto, marr, sI, sN]
    | 2 => simp [cup, cto, marr, sI, sN]
    | 3 => simp [cup, cto, marr, sI, sN]
    | 4 => simp [cup, cto, marr, sI, sN]
    | 5 => simp [cup, cto, marr, sI, sN]
    | 6 => simp [cup, cto, marr, sI, sN]
    | 7 => simp [cup, cto, marr, sI, sN]
    | 8 => simp [cup, cto, marr, sI, sN]
    | 9 => simp [cup, cto, marr, sI, sN]
    | 10 => simp [cup, cto, marr, sI, sN]
    | 11 => simp [cup, cto, marr, sI, sN]
    | 12 => simp [cup, cto, marr, sI, sN]
    | 13 => simp [cup, cto, marr, sI, sN]
    | 14 => simp [cup, cto, marr, sI, sN]
    | 15 => simp [cup, cto, marr, sI, sN]
    | 16 => simp [cup, cto, marr, sI, sN]
    | 17 => simp [cup, cto, marr, sI, sN]
    | 18 => simp [cup, cto, marr, sI, sN]
    | 19 => simp [cup, cto, marr, sI, sN]
    | 20 => simp [cup, cto, marr, sI, sN]
    | 21 => simp [cup, cto, marr, sI, sN]
    | _ + 22 => simp [cup, cto, marr]
  | 18 => simp [cup, cto, sI, sN]
  | _ + 19 => simp [cup, cto]
theorem st_written (v : Nat) : cup (cto G S T o ad) 16 0 (.inr (11, [.int (T.1 0 0), .int (nI (T.2 0 0)), .ref (ad 17 0), .ref (ad 17 1), .ref (ad 17 2), .ref (ad 17 3), .int (nI (T.2 0 1)), .ref (ad 17 4), .ref (ad 17 5), .ref (ad 17 6), .ref (ad 17 7), .ref (ad 17 8), .ref (ad 17 9), .ref (ad 17 10), .ref (ad 17 11), .int (nI (T.2 0 2)), .ref (ad 17 12), .ref (ad 17 13), .ref (ad 17 14), .ref (ad 17 15), .int (nI (T.2 0 3)), .ref (ad 17 16), .ref (ad 17 17), .ref (ad 17 18), .ref (ad 17 19), .ref (ad 17 20), .ref (ad 17 21), .int (nI v), .int (T.1 24 0)])) = cto G S (sN T 0 5 v) o ad := by
  funext k i
  match k with
  | 0 => simp [cup, cto, sI, sN]
  | 1 => simp [cup, cto, sI, sN]
  | 2 => simp [cup, cto, sI, sN]
  | 3 => simp [cup, cto, sI, sN]
  | 4 => simp [cup, cto, sI, sN]
  | 5 => simp [cup, cto, sI, sN]
  | 6 => simp [cup, cto, sI, sN]
  | 7 => simp [cup, cto, sI, sN]
  | 8 => simp [cup, cto, sI, sN]
  | 9 => simp [cup, cto, sI, sN]
  | 10 => simp [cup, cto, sI, sN]
  | 11 => simp [cup, cto, sI, sN]
  | 12 => simp [cup, cto, sI, sN]
  | 13 => simp [cup, cto, sI, sN]
  | 14 => simp [cup, cto, sI, sN]
  | 15 => simp [cup, cto, sI, sN]
  | 16 => by_cases h : i = 0 <;> simp [cup, cto, sI, sN, h]
  | 17 => match i with
    | 0 => simp [cup, cto, marr, sI, sN]
    | 1 => simp [cup, cto, marr, sI, sN]
    | 2 => simp [cup, cto, marr, sI, sN]
    | 3 => simp [cup, cto, marr, sI, sN]
    | 4 => simp [cup, cto, marr, sI, sN]
    | 5 => simp [cup, cto, marr, sI, sN]
    | 6 => simp [cup, cto, marr, sI, sN]
    | 7 => simp [cup, cto, marr, sI, sN]
    | 8 => simp [cup, cto, marr, sI, sN]
    | 9 => simp [cup, cto, marr, sI, sN]
    | 10 => simp [cup, cto, marr, sI, sN]
    | 11 => simp [cup, cto, marr, sI, sN]
    | 12 => simp [cup, cto, marr, sI, sN]
    | 13 => simp [cup, cto, marr, sI, sN]
    | 14 => simp [cup, cto, marr, sI, sN]
    | 15 => simp [cup, cto, marr, sI, sN]
    | 16 => simp [cup, cto, marr, sI, sN]
    | 17 => simp [cup, cto, marr, sI, sN]
    | 18 => simp [cup, cto, marr, sI, sN]
    | 19 => simp [cup, cto, marr, sI, sN]
    | 20 => simp [cup, cto, marr, sI, sN]
    | 21 => simp [cup, cto, marr, sI, sN]
    | _ + 22 => simp [cup, cto, marr]
  | 18 => simp [cup, cto, sI, sN]
  | _ + 19 => simp [cup, cto]
end STM
end
section
/-! THE CALLS: for each its code (0: it answers) and, where that is 0, the state behind it and the answer; u, m, t .. are numbers where they are told to be in range -/
def inR (x a b : Int32) : Bool := decide (a ≤ x) && decide (x ≤ b)
def cl (x : Int32) : Nat := x.toNatClampNeg
def sR (S : kSt) (f a n : Nat) (v : Int32) : kSt := (fun g j => if g = f ∧ (a ≤ j ∧ j < a + n) then v else S.1 g j, S.2)
def cUser (S : kSt) (x : Int32) : Int32 := if inR x 0 3 = false then 1 else if S.2 0 0 = 12 then 2 else 0
def oUser (S : kSt) (x : Int32) : kSt := sN (sI (sI S 1 (S.2 0 0) x) 2 (S.2 0 0) (-1)) 0 0 (S.2 0 0 + 1)
def cRole (S : kSt) (u x : Int32) : Int32 := if inB u (S.2 0 0) = false then 1 else if inR x 0 3 = false then 2 else 0
def oRole (S : kSt) (kd : Nat → Nat → Int32) (u x : Int32) : kSt := stl (sI S 1 (cl u) x) kd (S.2 0 2)
def cEnds (S : kSt) (u x : Int32) : Int32 := if inB u (S.2 0 0) = false then 1 else if inR x (-1) 10000 = false then 2 else 0
def vEnds (S : kSt) (x : Int32) : Int32 := if x = -1 then -1 else S.1 0 0 + x
def oEnds (S : kSt) (kd : Nat → Nat → Int32) (u x : Int32) : kSt := stl (sI S 2 (cl u) (vEnds S x)) kd (S.2 0 2)
def cBudget (S : kSt) (c x : Int32) : Int32 := if inB c 6 = false then 1 else if inR x 0 1000000 = false then 2 else if 1000000000 < S.1 3 (cl c) + x then 3 else 0
def oBudget (S : kSt) (c x : Int32) : kSt := sI S 3 (cl c) (S.1 3 (cl c) + x)
def cPost (S : kSt) (u c p : Int32) : Int32 := if (inB u (S.2 0 0) && (inB c 6 && (decide (p = -1) || inB p (S.2 0 1)))) = false then 1 else if (!gone S (cl u) && (decide (S.2 0 1 < 80) && (decide (p = -1) || (decide (S.2 2 (cl p) = cl c) && decide (S.1 8 (cl p) = 0))))) = false then 2 else 0
def oPost (S : kSt) (u c p : Int32) : kSt := sN (sI (sI (sN (sN S 1 (S.2 0 1) (cl u)) 2 (S.2 0 1) (cl c)) 5 (S.2 0 1) p) 6 (S.2 0 1) (S.1 0 0)) 0 1 (S.2 0 1 + 1)
def cEdit (S : kSt) (u m : Int32) : Int32 := if (inB u (S.2 0 0) && inB m (S.2 0 1)) = false then 1 else if (!gone S (cl u) && (decide (S.2 1 (cl m) = cl u) && decide (S.1 8 (cl m) = 0))) = false then 2 else 0
/-- tasks that are dropped as their message is edited -/
def drp (S : kSt) (m : Nat) : Nat → kSt
  | 0 => S
  | n + 1 => if S.2 4 n = m ∧ S.1 14 n = 0 then sI (drp S m n) 14 n 2 else drp S m n
def cMark (S : kSt) (kd : Nat → Nat → Int32) (u m x : Int32) : Int32 := if (inB u (S.2 0 0) && inB m (S.2 0 1)) = false then 1 else if inR x (-1) 1 = false then 2 else if (!gone S (cl u) && (decide (S.1 8 (cl m) = 0) && (decide (x ≠ -1) || decide (kd (cl m) (cl u) ≠ -1)))) = false then 3 else 0
def cSpend (S : kSt) (kd : Nat → Nat → Int32) (u m x : Int32) : Int32 := if (inB u (S.2 0 0) && inB m (S.2 0 1)) = false then 1 else if inR x 1 1000000 = false then 2 else if (!gone S (cl u) && (decide (S.1 8 (cl m) = 0) && (decide (S.2 0 2 < 60) && (appr S (kd (cl m)) (S.2 1 (cl m)) (S.2 0 0) x && decide (¬ S.1 3 (S.2 2 (cl m)) < x))))) = false then 3 else 0
def oSpend (S : kSt) (m x : Int32) : kSt := sN (sI (sI (sI (sI (sN S 3 (S.2 0 2) (cl m)) 10 (S.2 0 2) (S.1 7 (cl m))) 11 (S.2 0 2) x) 12 (S.2 0 2) 0) 3 (S.2 2 (cl m)) (S.1 3 (S.2 2 (cl m)) - x)) 0 2 (S.2 0 2 + 1)
def cTask (S : kSt) (u m w x : Int32) : Int32 := if (inB u (S.2 0 0) && (inB m (S.2 0 1) && inB w (S.2 0 0))) = false then 1 else if inR x 0 10000 = false then 2 else if (!gone S (cl u) && (decide (S.1 8 (cl m) = 0) && decide (S.2 0 3 ≠ 60))) = false then 3 else 0
def oTask (S : kSt) (m w x : Int32) : kSt := sN (sI (sI (sN (sI (sN S 4 (S.2 0 3) (cl m)) 20 (S.2 0 3) (S.1 7 (cl m))) 5 (S.2 0 3) (cl w)) 13 (S.2 0 3) (S.1 0 0 + x)) 14 (S.2 0 3) 0) 0 3 (S.2 0 3 + 1)
def cDone (S : kSt) (u t : Int32) : Int32 := if (inB u (S.2 0 0) && inB t (S.2 0 3)) = false then 1 else if (!gone S (cl u) && (decide (S.2 5 (cl t) = cl u) && decide (S.1 14 (cl t) = 0))) = false then 2 else 0
def oDone (S : kSt) (t : Int32) : kSt := sI S 14 (cl t) 1
def cHold (c : Int32) : Int32 := if inB c 6 = false then 1 else 0
def vHold (S : kSt) (c : Int32) : Int32 := bI (decide (S.1 4 (cl c) = 0))
def oHold (S : kSt) (c : Int32) : kSt := sI S 4 (cl c) (vHold S c)
def cArch (S : kSt) (c : Int32) : Int32 := if inB c 6 = false then 1 else if S.1 4 (cl c) ≠ 0 then 2 else 0
/-- no spend of message m stands, no task of it is open, no reply to it is left: looking at the first n -/
def noSp (S : kSt) (m : Nat) : Nat → Bool
  | 0 => true
  | n + 1 => noSp S m n && (decide (S.2 3 n ≠ m) || decide (S.1 12 n ≠ 0))
def noTk (S : kSt) (m : Nat) : Nat → Bool
  | 0 => true
  | n + 1 => noTk S m n && (decide (S.2 4 n ≠ m) || decide (S.1 14 n ≠ 0))
def noRp (S : kSt) (m : Nat) : Nat → Bool
  | 0 => true
  | n + 1 => noRp S m n && (decide (S.1 5 n ≠ nI m) || decide (S.1 8 n ≠ 0))
def canA (S : kSt) (m : Nat) : Bool := (decide (S.1 8 m = 0) && decide (¬ S.1 0 0 - S.1 6 m < 720)) && (noSp S m (S.2 0 2) && (noTk S m (S.2 0 3) && noRp S m (S.2 0 1)))
/-- the messages from n - 1 down to 0 -/
def arcS (S : kSt) (c : Nat) : Nat → kSt
  | 0 => S
  | n + 1 => if S.2 2 n = c ∧ canA S n = true then arcS (sI S 8 n 1) c n else arcS S c n
def arcN (S : kSt) (c : Nat) : Nat → Nat
  | 0 => 0
  | n + 1 => if S.2 2 n = c ∧ canA S n = true then arcN (sI S 8 n 1) c n + 1 else arcN S c n
def cPass (x : Int32) : Int32 := if inR x 1 1000 = false then 1 else 0
def cMsgOf (S : kSt) (m w : Int32) : Int32 := if inB m (S.2 0 1) = false then 1 else if inR w 0 6 = false then 2 else 0
def rMsgOf (S : kSt) (kd : Nat → Nat → Int32) (m w : Int32) : Int32 := if w = 0 then nI (S.2 1 (cl m)) else if w = 1 then nI (S.2 2 (cl m)) else if w = 2 then S.1 5 (cl m) else if w = 3 then S.1 7 (cl m) else if w = 4 then S.1 6 (cl m) else if w = 5 then bI (decide (S.1 8 (cl m) ≠ 0)) else nI (cntN S (kd (cl m)) (S.2 0 0))
def cAppr (S : kSt) (m x : Int32) : Int32 := if inB m (S.2 0 1) = false then 1 else if inR x 1 1000000 = false then 2 else 0
def rAppr (S : kSt) (kd : Nat → Nat → Int32) (m x : Int32) : Bool := appr S (kd (cl m)) (S.2 1 (cl m)) (S.2 0 0) x
def cSpOf (S : kSt) (s w : Int32) : Int32 := if inB s (S.2 0 2) = false then 1 else if inR w 0 3 = false then 2 else 0
def rSpOf (S : kSt) (s w : Int32) : Int32 := if w = 0 then S.1 12 (cl s) else if w = 1 then nI (S.2 3 (cl s)) else if w = 2 then S.1 10 (cl s) else S.1 11 (cl s)
def cLeft (c : Int32) : Int32 := if inB c 6 = false then 1 else 0
def cNext (S : kSt) (u r : Int32) : Int32 := if (inB u (S.2 0 0) && decide (0 ≤ r)) = false then 1 else 0
/-- how many of the first n tasks are open, for u, and come ahead of task t -/
def ahead (S : kSt) (t k : Nat) : Bool := decide (S.1 13 k < S.1 13 t) || (decide (S.1 13 k = S.1 13 t) && decide (k < t))
def opn (S : kSt) (u k : Nat) : Bool := decide (S.2 5 k = u) && decide (S.1 14 k = 0)
def rnk (S : kSt) (u t : Nat) : Nat → Nat
  | 0 => 0
  | n + 1 => rnk S u t n + (if (opn S u n && ahead S t n) = true then 1 else 0)
/-- the last of the first n that is open for u with so many ahead -/
def nxt (S : kSt) (u : Nat) (r : Int32) : Nat → Int32
  | 0 => -1
  | n + 1 => if (opn S u n && decide (nI (rnk S u n (S.2 0 3)) = r)) = true then nI n else nxt S u r n
def cTaskOf (S : kSt) (t : Int32) : Int32 := if inB t (S.2 0 3) = false then 1 else 0
def cLabel (S : kSt) (t p : Int32) : Int32 := if (inB t (S.2 0 3) && decide (0 ≤ p)) = false then 1 else 0
def rLabel (S : kSt) (t p : Int32) : Int32 := nI ((lab S (cl t)).getD (cl p) 0)
end
section
theorem dX8_approves_0 : decode cX8_approves 0 = .ok (.iconst 0, 1) := by decide +kernel
theorem dX8_approves_1 : decode cX8_approves 1 = .ok (.istore_n 3, 1) := by decide +kernel
theorem dX8_approves_2 : decode cX8_approves 2 = .ok (.iconst 0, 1) := by decide +kernel
theorem dX8_approves_3 : decode cX8_approves 3 = .ok (.istore 4, 2) := by decide +kernel
theorem dX8_approves_5 : decode cX8_approves 5 = .ok (.iconst 0, 1) := by decide +kernel
theorem dX8_approves_6 : decode cX8_approves 6 = .ok (.istore 5, 2) := by decide +kernel
theorem dX8_approves_8 : decode cX8_approves 8 = .ok (.iconst 0, 1) := by decide +kernel
theorem dX8_approves_9 : decode cX8_approves 9 = .ok (.istore 6, 2) := by decide +kernel
theorem dX8_approves_11 : decode cX8_approves 11 = .ok (.iload 6, 2) := by decide +kernel
theorem dX8_approves_13 : decode cX8_approves 13 = .ok (.aload_n 0, 1) := by decide +kernel
theorem dX8_approves_14 : decode cX8_approves 14 = .ok (.getfield 81, 3) := by decide +kernel
theorem dX8_approves_17 : decode cX8_approves 17 = .ok (.if_icmp .ge 140, 3) := by decide +kernel
theorem dX8_approves_20 : decode cX8_approves 20 = .ok (.aload_n 0, 1) := by decide +kernel
theorem dX8_approves_21 : decode cX8_approves 21 = .ok (.iload_n 1, 1) := by decide +kernel
theorem dX8_approves_22 : decode cX8_approves 22 = .ok (.iload 6, 2) := by decide +kernel
theorem dX8_approves_24 : decode cX8_approves 24 = .ok (.invokevirtual 98, 3) := by decide +kernel
theorem dX8_approves_27 : decode cX8_approves 27 = .ok (.ifCond .eq 44, 3) := by decide +kernel
theorem dX8_approves_30 : decode cX8_approves 30 = .ok (.aload_n 0, 1) := by decide +kernel
theorem dX8_approves_31 : decode cX8_approves 31 = .ok (.getfield 41, 3) := by decide +kernel
theorem dX8_approves_34 : decode cX8_approves 34 = .ok (.bipush 12, 2) := by decide +kernel
theorem dX8_approves_36 : decode cX8_approves 36 = .ok (.iload_n 1, 1) := by decide +kernel
theorem dX8_approves_37 : decode cX8_approves 37 = .ok (.imul, 1) := by decide +kernel
theorem dX8_approves_38 : decode cX8_approves 38 = .ok (.iload 6, 2) := by decide +kernel
theorem dX8_approves_40 : decode cX8_approves 40 = .ok (.iadd, 1) := by decide +kernel
theorem dX8_approves_41 : decode cX8_approves 41 = .ok (.iaload, 1) := by decide +kernel
theorem dX8_approves_42 : decode cX8_approves 42 = .ok (.ifCond .ne 29, 3) := by decide +kernel
theorem dX8_approves_45 : decode cX8_approves 45 = .ok (.aload_n 0, 1) := by decide +kernel
theorem dX8_approves_46 : decode cX8_approves 46 = .ok (.getfield 7, 3) := by decide +kernel
theorem dX8_approves_49 : decode cX8_approves 49 = .ok (.iload 6, 2) := by decide +kernel
theorem dX8_approves_51 : decode cX8_approves 51 = .ok (.iaload, 1) := by decide +kernel
theorem dX8_approves_52 : decode cX8_approves 52 = .ok (.iconst 2, 1) := by decide +kernel
theorem dX8_approves_53 : decode cX8_approves 53 = .ok (.if_icmp .lt 18, 3) := by decide +kernel
theorem dX8_approves_56 : decode cX8_approves 56 = .ok (.iload 6, 2) := by decide +kernel
theorem dX8_approves_58 : decode cX8_approves 58 = .ok (.aload_n 0, 1) := by decide +kernel
theorem dX8_approves_59 : decode cX8_approves 59 = .ok (.getfield 23, 3) := by decide +kernel
theorem dX8_approves_62 : decode cX8_approves 62 = .ok (.iload_n 1, 1) := by decide +kernel
theorem dX8_approves_63 : decode cX8_approves 63 = .ok (.iaload, 1) := by decide +kernel
theorem dX8_approves_64 : decode cX8_approves 64 = .ok (.if_icmp .eq 7, 3) := by decide +kernel
theorem dX8_approves_67 : decode cX8_approves 67 = .ok (.iconst 1, 1) := by decide +kernel
theorem dX8_approves_68 : decode cX8_approves 68 = .ok (.goto 4, 3) := by decide +kernel
theorem dX8_approves_71 : decode cX8_approves 71 = .ok (.iconst 0, 1) := by decide +kernel
theorem dX8_approves_72 : decode cX8_approves 72 = .ok (.istore 7, 2) := by decide +kernel
theorem dX8_approves_74 : decode cX8_approves 74 = .ok (.iload 5, 2) := by decide +kernel
theorem dX8_approves_76 : decode cX8_approves 76 = .ok (.ifCond .ne 29, 3) := by decide +kernel
theorem dX8_approves_79 : decode cX8_approves 79 = .ok (.aload_n 0, 1) := by decide +kernel
theorem dX8_approves_80 : decode cX8_approves 80 = .ok (.iload_n 1, 1) := by decide +kernel
theorem dX8_approves_81 : decode cX8_approves 81 = .ok (.iload 6, 2) := by decide +kernel
theorem dX8_approves_83 : decode cX8_approves 83 = .ok (.invokevirtual 98, 3) := by decide +kernel
theorem dX8_approves_86 : decode cX8_approves 86 = .ok (.ifCond .eq 23, 3) := by decide +kernel
theorem dX8_approves_89 : decode cX8_approves 89 = .ok (.aload_n 0, 1) := by decide +kernel
theorem dX8_approves_90 : decode cX8_approves 90 = .ok (.getfield 41, 3) := by decide +kernel
theorem dX8_approves_93 : decode cX8_approves 93 = .ok (.bipush 12, 2) := by decide +kernel
theorem dX8_approves_95 : decode cX8_approves 95 = .ok (.iload_n 1, 1) := by decide +kernel
theorem dX8_approves_96 : decode cX8_approves 96 = .ok (.imul, 1) := by decide +kernel
theorem dX8_approves_97 : decode cX8_approves 97 = .ok (.iload 6, 2) := by decide +kernel
theorem dX8_approves_99 : decode cX8_approves 99 = .ok (.iadd, 1) := by decide +kernel
theorem dX8_approves_100 : decode cX8_approves 100 = .ok (.iaload, 1) := by decide +kernel
theorem dX8_approves_101 : decode cX8_approves 101 = .ok (.iconst 1, 1) := by decide +kernel
theorem dX8_approves_102 : decode cX8_approves 102 = .ok (.if_icmp .ne 7, 3) := by decide +kernel
theorem dX8_approves_105 : decode cX8_approves 105 = .ok (.iconst 1, 1) := by decide +kernel
theorem dX8_approves_106 : decode cX8_approves 106 = .ok (.goto 4, 3) := by decide +kernel
theorem dX8_approves_109 : decode cX8_approves 109 = .ok (.iconst 0, 1) := by decide +kernel
theorem dX8_approves_110 : decode cX8_approves 110 = .ok (.istore 5, 2) := by decide +kernel
theorem dX8_approves_112 : decode cX8_approves 112 = .ok (.iload_n 3, 1) := by decide +kernel
theorem dX8_approves_113 : decode cX8_approves 113 = .ok (.iload 7, 2) := by decide +kernel
theorem dX8_approves_115 : decode cX8_approves 115 = .ok (.ifCond .eq 7, 3) := by decide +kernel
theorem dX8_approves_118 : decode cX8_approves 118 = .ok (.iconst 1, 1) := by decide +kernel
theorem dX8_approves_119 : decode cX8_approves 119 = .ok (.goto 4, 3) := by decide +kernel
theorem dX8_approves_122 : decode cX8_approves 122 = .ok (.iconst 0, 1) := by decide +kernel
theorem dX8_approves_123 : decode cX8_approves 123 = .ok (.iadd, 1) := by decide +kernel
theorem dX8_approves_124 : decode cX8_approves 124 = .ok (.istore_n 3, 1) := by decide +kernel
theorem dX8_approves_125 : decode cX8_approves 125 = .ok (.iload 4, 2) := by decide +kernel
theorem dX8_approves_127 : decode cX8_approves 127 = .ok (.iload 7, 2) := by decide +kernel
theorem dX8_approves_129 : decode cX8_approves 129 = .ok (.ifCond .eq 18, 3) := by decide +kernel
theorem dX8_approves_132 : decode cX8_approves 132 = .ok (.aload_n 0, 1) := by decide +kernel
theorem dX8_approves_133 : decode cX8_approves 133 = .ok (.getfield 7, 3) := by decide +kernel
theorem dX8_approves_136 : decode cX8_approves 136 = .ok (.iload 6, 2) := by decide +kernel
theorem dX8_approves_138 : decode cX8_approves 138 = .ok (.iaload, 1) := by decide +kernel
theorem dX8_approves_139 : decode cX8_approves 139 = .ok (.iconst 3, 1) := by decide +kernel
theorem dX8_approves_140 : decode cX8_approves 140 = .ok (.if_icmp .ne 7, 3) := by decide +kernel
theorem dX8_approves_143 : decode cX8_approves 143 = .ok (.iconst 1, 1) := by decide +kernel
theorem dX8_approves_144 : decode cX8_approves 144 = .ok (.goto 4, 3) := by decide +kernel
theorem dX8_approves_147 : decode cX8_approves 147 = .ok (.iconst 0, 1) := by decide +kernel
theorem dX8_approves_148 : decode cX8_approves 148 = .ok (.iadd, 1) := by decide +kernel
theorem dX8_approves_149 : decode cX8_approves 149 = .ok (.istore 4, 2) := by decide +kernel
theorem dX8_approves_151 : decode cX8_approves 151 = .ok (.iinc 6 1, 3) := by decide +kernel
theorem dX8_approves_154 : decode cX8_approves 154 = .ok (.goto (-143), 3) := by decide +kernel
theorem dX8_approves_157 : decode cX8_approves 157 = .ok (.iload 5, 2) := by decide +kernel
theorem dX8_approves_159 : decode cX8_approves 159 = .ok (.ifCond .ne 31, 3) := by decide +kernel
theorem dX8_approves_162 : decode cX8_approves 162 = .ok (.iload_n 2, 1) := by decide +kernel
theorem dX8_approves_163 : decode cX8_approves 163 = .ok (.sipush 1000, 3) := by decide +kernel
theorem dX8_approves_166 : decode cX8_approves 166 = .ok (.if_icmp .le 16, 3) := by decide +kernel
theorem dX8_approves_169 : decode cX8_approves 169 = .ok (.iload_n 3, 1) := by decide +kernel
theorem dX8_approves_170 : decode cX8_approves 170 = .ok (.iconst 1, 1) := by decide +kernel
theorem dX8_approves_171 : decode cX8_approves 171 = .ok (.if_icmp .le 19, 3) := by decide +kernel
theorem dX8_approves_174 : decode cX8_approves 174 = .ok (.iload 4, 2) := by decide +kernel
theorem dX8_approves_176 : decode cX8_approves 176 = .ok (.ifCond .le 14, 3) := by decide +kernel
theorem dX8_approves_179 : decode cX8_approves 179 = .ok (.goto 7, 3) := by decide +kernel
theorem dX8_approves_182 : decode cX8_approves 182 = .ok (.iload_n 3, 1) := by decide +kernel
theorem dX8_approves_183 : decode cX8_approves 183 = .ok (.ifCond .le 7, 3) := by decide +kernel
theorem dX8_approves_186 : decode cX8_approves 186 = .ok (.iconst 1, 1) := by decide +kernel
theorem dX8_approves_187 : decode cX8_approves 187 = .ok (.goto 4, 3) := by decide +kernel
theorem dX8_approves_190 : decode cX8_approves 190 = .ok (.iconst 0, 1) := by decide +kernel
theorem dX8_approves_191 : decode cX8_approves 191 = .ok (.ireturn, 1) := by decide +kernel
set_option maxHeartbeats 4000000 in
set_option maxRecDepth 100000 in
theorem c_X8_approves (l : Launch) (E : State) (G : kG) (S T : kSt) (o : Int64) (ad : kAd) (a : Nat) (x : Int32) (ha : a < 80) (hT : T.2 0 0 ≤ 12) (hA : T.2 1 a < 12) : Met l yX8_approves (.code yX8_approves cX8_approves 8 (some .boolean) :: wsL_law) ({ frames := 3, cells := 0, slots := 0, locals := 70 } : Room) (va_Pc [.ref (ad 16 0), .int (nI a), .int x] (kPre E G ad (cto G S T o ad))) (kQi E G (fun r ad1 ct1 => r = bI (appr T (kdT T a) (T.2 1 a) (T.2 0 0) x) ∧ ad = ad1 ∧ ct1 = cto G S T o ad)) 0 0 (kB E.heap.size) := by
  refine Met.ofW (cc := cX8_approves) (maxL := 8) (ret := (some .boolean)) (by decide) rfl ?_
  intro p e s m args below meth c s₁ B hml hv
  obtain ⟨rfl, hM, hK, hW0⟩ := hv
  have hlocks := B.notSynchronized
  have hr := B.returns
  have Z : kZ p m c cX8_approves 8 s _ wsL_law RX8 E G := ⟨⟨B.exec, B.bytes, hml, findClass_of_methodNamed B.named, fun w h => atoms_spec (ws := .code yX8_approves cX8_approves 8 (some .boolean) :: wsL_law) B.pre w (List.mem_cons_of_mem _ h)⟩, hM, hK⟩
  have hx := Z.1.1
  have hb := Z.1.2.1
  have X := kX.of hW0
  have hl := lv_entry ([.ref (ad 16 0), .int (nI a), .int x]) (n := 8) (Nat.le_of_ble_eq_true rfl)
  rw [lg_entry_eq]
  generalize (lg_sl ([.ref (ad 16 0), .int (nI a), .int x]) ++ List.replicate (8 - (lg_sl ([.ref (ad 16 0), .int (nI a), .int x])).length) Slot.unset).toArray = ls at hl ⊢
  have hl : lv_has ls 8 [(0, .ref (ad 16 0)), (1, .int (nI a)), (2, .int x)] := hl
  refine lv_iconst (v := 0) hx hb dX8_approves_0 (by decide) ?_
  refine lv_istore_n (lv' := [(3, .int 0), (0, .ref (ad 16 0)), (1, .int (nI a)), (2, .int x)]) hx hb dX8_approves_1 rfl hl (by decide) rfl (fun ls hl => ?_)
  refine lv_iconst (v := 0) hx hb dX8_approves_2 (by decide) ?_
  refine lv_istore (lv' := [(4, .int 0), (3, .int 0), (0, .ref (ad 16 0)), (1, .int (nI a)), (2, .int x)]) hx hb dX8_approves_3 hl (by decide) rfl (fun ls hl => ?_)
  refine lv_iconst (v := 0) hx hb dX8_approves_5 (by decide) ?_
  refine lv_istore (lv' := [(5, .int 0), (4, .int 0), (3, .int 0), (0, .ref (ad 16 0)), (1, .int (nI a)), (2, .int x)]) hx hb dX8_approves_6 hl (by decide) rfl (fun ls hl => ?_)
  refine lv_iconst (v := 0) hx hb dX8_approves_8 (by decide) ?_
  refine lv_istore (lv' := [(6, .int 0), (5, .int 0), (4, .int 0), (3, .int 0), (0, .ref (ad 16 0)), (1, .int (nI a)), (2, .int x)]) hx hb dX8_approves_9 hl (by decide) rfl (fun ls hl => ?_)
  have LOOP_11 : ∀ (d : Nat) (n : Nat), n ≤ T.2 0 0 → T.2 0 0 < n + d → ∀ (H : Heap) (locs : List Loc) (ls : Array Slot), kX E G s H locs ad (cto G S T o ad) → lv_has ls 8 [(6, .int (nI n)), (5, .int (bI (bar T (kdT T a) n))), (4, .int (nI (chfN T (kdT T a) (T.2 1 a) n))), (3, .int (nI (yesN T (kdT T a) (T.2 1 a) n))), (0, .ref (ad 16 0)), (1, .int (nI a)), (2, .int x)] → W p l e (headSpec (Cond.code yX8_approves cX8_approves 8 (some .boolean) :: wsL_law) ({ frames := 3, cells := 0, slots := 0, locals := 70 } : Room)).room s m ([.ref (ad 16 0), .int (nI a), .int x] : List Value).toArray below meth c H locs 0 0 (MQ below (kQi E G (fun r ad1 ct1 => r = bI (appr T (kdT T a) (T.2 1 a) (T.2 0 0) x) ∧ ad = ad1 ∧ ct1 = cto G S T o ad)) ([.ref (ad 16 0), .int (nI a), .int x] : List Value).toArray s 0 0 (kB E.heap.size)) (F0 m 11 ls []) := by
    intro d
    induction d with
    | zero => intro n h1 h2; intros; exact absurd h2 (by omega)
    | succ d ih =>
      intro n h1 h2 H locs ls X hl
      refine lv_iload hx hb dX8_approves_11 (lv_at hl 0 rfl) ?_
      refine lv_aload_n hx hb dX8_approves_13 rfl (lv_at hl 4 rfl) ?_
      refine k_get (index := 81) (j := 1) (ad := ad) (k := 16) (i := 0) Z X ct_16 inlX8 rfl (by decide) (inU_8 _ (List.mem_of_getElem? (i := 19) rfl)) (fun _ h => h) rfl dX8_approves_14 ?_
      refine lv_icmp_ge (tgt := 157) hx hb dX8_approves_17 (by decide) (fun c_17 => ?_) (fun c_17 => ?_)
      · have c_17 : (T.2 0 0) ≤ n := (nI_leI (a := (T.2 0 0)) (b := n) (by omega) (by omega)).mp c_17
        have hn : n = T.2 0 0 := by omega
        have hy := yesN_le T (kdT T a) (T.2 1 a) n
        have hc := chfN_le T (kdT T a) (T.2 1 a) n
        refine lv_iload hx hb dX8_approves_157 (lv_at hl 1 rfl) ?_
        refine lv_if_ne (tgt := 190) hx hb dX8_approves_159 (by decide) (fun c_159 => ?_) (fun c_159 => ?_)
        · have c_159 : (bar T (kdT T a) n) = true := bI_1 c_159
          refine lv_iconst (v := 0) hx hb dX8_approves_190 (by decide) ?_
          exact k_iret Z X hr hlocks rfl (Nat.le_of_ble_eq_true rfl) (Nat.le_of_ble_eq_true rfl) dX8_approves_191 ⟨bI_f (by subst hn; simp only [appr]; first | (simp [c_159]; done) | (simp [c_159]; omega)), rfl, rfl⟩
        · have c_159 : (bar T (kdT T a) n) = false := bI_0 c_159
          refine lv_iload_n hx hb dX8_approves_162 rfl (lv_at hl 6 rfl) ?_
          refine lv_sipush (v := 1000) hx hb dX8_approves_163 (by decide) ?_
          refine lv_icmp_le (tgt := 182) hx hb dX8_approves_166 (by decide) (fun c_166 => ?_) (fun c_166 => ?_)
          · have c_166 : ¬ (1000 : Int32) < x := Int32.not_lt.mpr c_166
            refine lv_iload_n hx hb dX8_approves_182 rfl (lv_at hl 3 rfl) ?_
            refine lv_if_le (tgt := 190) hx hb dX8_approves_183 (by decide) (fun c_183 => ?_) (fun c_183 => ?_)
            · have c_183 : (yesN T (kdT T a) (T.2 1 a) n) ≤ 0 := (nI_leI (a := (yesN T (kdT T a) (T.2 1 a) n)) (b := 0) (by omega) (by decide)).mp c_183
              refine lv_iconst (v := 0) hx hb dX8_approves_190 (by decide) ?_
              exact k_iret Z X hr hlocks rfl (Nat.le_of_ble_eq_true rfl) (Nat.le_of_ble_eq_true rfl) dX8_approves_191 ⟨bI_f (by subst hn; simp only [appr]; first | (simp [c_159, c_166, c_183]; done) | (simp [c_159, c_166, c_183]; omega)), rfl, rfl⟩
            · have c_183 : ¬ (yesN T (kdT T a) (T.2 1 a) n) ≤ 0 := fun h => c_183 ((nI_leI (a := (yesN T (kdT T a) (T.2 1 a) n)) (b := 0) (by omega) (by decide)).mpr h)
              refine lv_iconst (v := 1) hx hb dX8_approves_186 (by decide) ?_
              refine lv_goto (tgt := 191) hx hb dX8_approves_187 (by decide) ?_
              exact k_iret Z X hr hlocks rfl (Nat.le_of_ble_eq_true rfl) (Nat.le_of_ble_eq_true rfl) dX8_approves_191 ⟨bI_t (by subst hn; simp only [appr]; first | (simp [c_159, c_166, c_183]; done) | (simp [c_159, c_166, c_183]; omega)), rfl, rfl⟩
          · have c_166 : (1000 : Int32) < x := Int32.not_le.mp c_166
            refine lv_iload_n hx hb dX8_approves_169 rfl (lv_at hl 3 rfl) ?_
            refine lv_iconst (v := 1) hx hb dX8_approves_170 (by decide) ?_
            refine lv_icmp_le (tgt := 190) hx hb dX8_approves_171 (by decide) (fun c_171 => ?_) (fun c_171 => ?_)
            · have c_171 : (yesN T (kdT T a) (T.2 1 a) n) ≤ 1 := (nI_leI (a := (yesN T (kdT T a) (T.2 1 a) n)) (b := 1) (by omega) (by decide)).mp c_171
              refine lv_iconst (v := 0) hx hb dX8_approves_190 (by decide) ?_
              exact k_iret Z X hr hlocks rfl (Nat.le_of_ble_eq_true rfl) (Nat.le_of_ble_eq_true rfl) dX8_approves_191 ⟨bI_f (by subst hn; simp only [appr]; first | (simp [c_159, c_166, c_171]; done) | (simp [c_159, c_166, c_171]; omega)), rfl, rfl⟩
            · have c_171 : ¬ (yesN T (kdT T a) (T.2 1 a) n) ≤ 1 := fun h => c_171 ((nI_leI (a := (yesN T (kdT T a) (T.2 1 a) n)) (b := 1) (by omega) (by decide)).mpr h)
              refine lv_iload hx hb dX8_approves_174 (lv_at hl 2 rfl) ?_
              refine lv_if_le (tgt := 190) hx hb dX8_approves_176 (by decide) (fun c_176 => ?_) (fun c_176 => ?_)
              · have c_176 : (chfN T (kdT T a) (T.2 1 a) n) ≤ 0 := (nI_leI (a := (chfN T (kdT T a) (T.2 1 a) n)) (b := 0) (by omega) (by decide)).mp c_176
                refine lv_iconst (v := 0) hx hb dX8_approves_190 (by decide) ?_
                exact k_iret Z X hr hlocks rfl (Nat.le_of_ble_eq_true rfl) (Nat.le_of_ble_eq_true rfl) dX8_approves_191 ⟨bI_f (by subst hn; simp only [appr]; first | (simp [c_159, c_166, c_171, c_176]; done) | (simp [c_159, c_166, c_171, c_176]; omega)), rfl, rfl⟩
              · have c_176 : ¬ (chfN T (kdT T a) (T.2 1 a) n) ≤ 0 := fun h => c_176 ((nI_leI (a := (chfN T (kdT T a) (T.2 1 a) n)) (b := 0) (by omega) (by decide)).mpr h)
                refine lv_goto (tgt := 186) hx hb dX8_approves_179 (by decide) ?_
                refine lv_iconst (v := 1) hx hb dX8_approves_186 (by decide) ?_
                refine lv_goto (tgt := 191) hx hb dX8_approves_187 (by decide) ?_
                exact k_iret Z X hr hlocks rfl (Nat.le_of_ble_eq_true rfl) (Nat.le_of_ble_eq_true rfl) dX8_approves_191 ⟨bI_t (by subst hn; simp only [appr]; first | (simp [c_159, c_166, c_171, c_176]; done) | (simp [c_159, c_166, c_171, c_176]; omega)), rfl, rfl⟩
      · have c_17 : ¬ (T.2 0 0) ≤ n := fun h => c_17 ((nI_leI (a := (T.2 0 0)) (b := n) (by omega) (by omega)).mpr h)
        have M_72 : ∀ (H : Heap) (locs : List Loc), kX E G s H locs ad (cto G S T o ad) → W p l e (headSpec (Cond.code yX8_approves cX8_approves 8 (some .boolean) :: wsL_law) ({ frames := 3, cells := 0, slots := 0, locals := 70 } : Room)).room s m ([.ref (ad 16 0), .int (nI a), .int x] : List Value).toArray below meth c H locs 0 0 (MQ below (kQi E G (fun r ad1 ct1 => r = bI (appr T (kdT T a) (T.2 1 a) (T.2 0 0) x) ∧ ad = ad1 ∧ ct1 = cto G S T o ad)) ([.ref (ad 16 0), .int (nI a), .int x] : List Value).toArray s 0 0 (kB E.heap.size)) (F0 m 72 ls [.int (bI (isY T (kdT T a) (T.2 1 a) n))]) := by
          intro H locs X
          refine lv_istore (lv' := [(7, .int (bI (isY T (kdT T a) (T.2 1 a) n))), (6, .int (nI n)), (5, .int (bI (bar T (kdT T a) n))), (4, .int (nI (chfN T (kdT T a) (T.2 1 a) n))), (3, .int (nI (yesN T (kdT T a) (T.2 1 a) n))), (0, .ref (ad 16 0)), (1, .int (nI a)), (2, .int x)]) hx hb dX8_approves_72 hl (by decide) rfl (fun ls hl => ?_)
          have M_110 : ∀ (H : Heap) (locs : List Loc), kX E G s H locs ad (cto G S T o ad) → W p l e (headSpec (Cond.code yX8_approves cX8_approves 8 (some .boolean) :: wsL_law) ({ frames := 3, cells := 0, slots := 0, locals := 70 } : Room)).room s m ([.ref (ad 16 0), .int (nI a), .int x] : List Value).toArray below meth c H locs 0 0 (MQ below (kQi E G (fun r ad1 ct1 => r = bI (appr T (kdT T a) (T.2 1 a) (T.2 0 0) x) ∧ ad = ad1 ∧ ct1 = cto G S T o ad)) ([.ref (ad 16 0), .int (nI a), .int x] : List Value).toArray s 0 0 (kB E.heap.size)) (F0 m 110 ls [.int (bI (bar T (kdT T a) (n + 1)))]) := by
            intro H locs X
            refine lv_istore (lv' := [(5, .int (bI (bar T (kdT T a) (n + 1)))), (7, .int (bI (isY T (kdT T a) (T.2 1 a) n))), (6, .int (nI n)), (4, .int (nI (chfN T (kdT T a) (T.2 1 a) n))), (3, .int (nI (yesN T (kdT T a) (T.2 1 a) n))), (0, .ref (ad 16 0)), (1, .int (nI a)), (2, .int x)]) hx hb dX8_approves_110 hl (by decide) rfl (fun ls hl => ?_)
            refine lv_iload_n hx hb dX8_approves_112 rfl (lv_at hl 4 rfl) ?_
            have M_123 : ∀ (H : Heap) (locs : List Loc), kX E G s H locs ad (cto G S T o ad) → W p l e (headSpec (Cond.code yX8_approves cX8_approves 8 (some .boolean) :: wsL_law) ({ frames := 3, cells := 0, slots := 0, locals := 70 } : Room)).room s m ([.ref (ad 16 0), .int (nI a), .int x] : List Value).toArray below meth c H locs 0 0 (MQ below (kQi E G (fun r ad1 ct1 => r = bI (appr T (kdT T a) (T.2 1 a) (T.2 0 0) x) ∧ ad = ad1 ∧ ct1 = cto G S T o ad)) ([.ref (ad 16 0), .int (nI a), .int x] : List Value).toArray s 0 0 (kB E.heap.size)) (F0 m 123 ls [.int (bI (isY T (kdT T a) (T.2 1 a) n)), .int (nI (yesN T (kdT T a) (T.2 1 a) n))]) := by
              intro H locs X
              refine lv_iadd hx hb dX8_approves_123 ?_
              refine lv_topi (fun x_123 e_123 => ?_)
              obtain rfl : x_123 = nI (yesN T (kdT T a) (T.2 1 a) (n + 1)) := e_123.trans (by cases h : isY T (kdT T a) (T.2 1 a) n <;> simp [yesN, h, bI, nI_1])
              refine lv_istore_n (lv' := [(3, .int (nI (yesN T (kdT T a) (T.2 1 a) (n + 1)))), (5, .int (bI (bar T (kdT T a) (n + 1)))), (7, .int (bI (isY T (kdT T a) (T.2 1 a) n))), (6, .int (nI n)), (4, .int (nI (chfN T (kdT T a) (T.2 1 a) n))), (0, .ref (ad 16 0)), (1, .int (nI a)), (2, .int x)]) hx hb dX8_approves_124 rfl hl (by decide) rfl (fun ls hl => ?_)
              refine lv_iload hx hb dX8_approves_125 (lv_at hl 4 rfl) ?_
              have M_148 : ∀ (H : Heap) (locs : List Loc), kX E G s H locs ad (cto G S T o ad) → W p l e (headSpec (Cond.code yX8_approves cX8_approves 8 (some .boolean) :: wsL_law) ({ frames := 3, cells := 0, slots := 0, locals := 70 } : Room)).room s m ([.ref (ad 16 0), .int (nI a), .int x] : List Value).toArray below meth c H locs 0 0 (MQ below (kQi E G (fun r ad1 ct1 => r = bI (appr T (kdT T a) (T.2 1 a) (T.2 0 0) x) ∧ ad = ad1 ∧ ct1 = cto G S T o ad)) ([.ref (ad 16 0), .int (nI a), .int x] : List Value).toArray s 0 0 (kB E.heap.size)) (F0 m 148 ls [.int (bI (isY T (kdT T a) (T.2 1 a) n && decide (T.1 1 n = 3))), .int (nI (chfN T (kdT T a) (T.2 1 a) n))]) := by
                intro H locs X
                refine lv_iadd hx hb dX8_approves_148 ?_
                refine lv_topi (fun x_148 e_148 => ?_)
                obtain rfl : x_148 = nI (chfN T (kdT T a) (T.2 1 a) (n + 1)) := e_148.trans (by cases h : (isY T (kdT T a) (T.2 1 a) n && decide (T.1 1 n = 3)) <;> simp only [chfN, h, bI] <;> simp [nI_1])
                refine lv_istore (lv' := [(4, .int (nI (chfN T (kdT T a) (T.2 1 a) (n + 1)))), (3, .int (nI (yesN T (kdT T a) (T.2 1 a) (n + 1)))), (5, .int (bI (bar T (kdT T a) (n + 1)))), (7, .int (bI (isY T (kdT T a) (T.2 1 a) n))), (6, .int (nI n)), (0, .ref (ad 16 0)), (1, .int (nI a)), (2, .int x)]) hx hb dX8_approves_149 hl (by decide) rfl (fun ls hl => ?_)
                refine lv_iinc (v := (nI (n + 1))) (lv' := [(6, .int (nI (n + 1))), (4, .int (nI (chfN T (kdT T a) (T.2 1 a) (n + 1)))), (3, .int (nI (yesN T (kdT T a) (T.2 1 a) (n + 1)))), (5, .int (bI (bar T (kdT T a) (n + 1)))), (7, .int (bI (isY T (kdT T a) (T.2 1 a) n))), (0, .ref (ad 16 0)), (1, .int (nI a)), (2, .int x)]) hx hb dX8_approves_151 hl (k := 4) rfl (nI_1 _) (by decide) rfl (fun ls hl => ?_)
                refine lv_goto (tgt := 11) hx hb dX8_approves_154 (by decide) ?_
                exact ih (n + 1) (by omega) (by omega) _ _ _ X (lv_sub hl [0, 3, 1, 2, 5, 6, 7] rfl)
              refine lv_iload hx hb dX8_approves_127 (lv_at hl 2 rfl) ?_
              refine lv_if_eq (tgt := 147) hx hb dX8_approves_129 (by decide) (fun c_129 => ?_) (fun c_129 => ?_)
              · have c_129 : (isY T (kdT T a) (T.2 1 a) n) = false := bI_0 c_129
                refine lv_iconst (v := 0) hx hb dX8_approves_147 (by decide) ?_
                exact W.eq (congrArg (fun z => F0 m 148 ls (.int z :: [.int (nI (chfN T (kdT T a) (T.2 1 a) n))])) (bI_f (by simp [c_17, c_129]))) (M_148 H locs X)
              · have c_129 : (isY T (kdT T a) (T.2 1 a) n) = true := bI_1 c_129
                refine lv_aload_n hx hb dX8_approves_132 rfl (lv_at hl 5 rfl) ?_
                refine k_get (index := 7) (j := 2) (ad := ad) (k := 16) (i := 0) Z X ct_16 inlX8 rfl (by decide) (inU_6 _ (List.mem_of_getElem? (i := 6) rfl)) (fun _ h => h) rfl dX8_approves_133 ?_
                refine lv_iload hx hb dX8_approves_136 (lv_at hl 3 rfl) ?_
                refine k_ild (ad := ad) (k := 17) (i := 0) Z X ct_17_0 (vp_in_nI (by first | assumption | omega) (by decide)) dX8_approves_138 ?_
                refine lv_topi (fun x_138 e_138 => ?_)
                obtain rfl : x_138 = T.1 1 n := e_138.trans (by simp only [nI_clamp (show n < 2 ^ 31 by omega)])
                refine lv_iconst (v := 3) hx hb dX8_approves_139 (by decide) ?_
                refine lv_icmp_ne (tgt := 147) hx hb dX8_approves_140 (by decide) (fun c_140 => ?_) (fun c_140 => ?_)
                · refine lv_iconst (v := 0) hx hb dX8_approves_147 (by decide) ?_
                  exact W.eq (congrArg (fun z => F0 m 148 ls (.int z :: [.int (nI (chfN T (kdT T a) (T.2 1 a) n))])) (bI_f (by simp [c_17, c_129, c_140]))) (M_148 H locs X)
                · refine lv_iconst (v := 1) hx hb dX8_approves_143 (by decide) ?_
                  refine lv_goto (tgt := 148) hx hb dX8_approves_144 (by decide) ?_
                  exact W.eq (congrArg (fun z => F0 m 148 ls (.int z :: [.int (nI (chfN T (kdT T a) (T.2 1 a) n))])) (bI_t (by simp [c_17, c_129, c_140]))) (M_148 H locs X)
            refine lv_iload hx hb dX8_approves_113 (lv_at hl 1 rfl) ?_
            refine lv_if_eq (tgt := 122) hx hb dX8_approves_115 (by decide) (fun c_115 => ?_) (fun c_115 => ?_)
            · have c_115 : (isY T (kdT T a) (T.2 1 a) n) = false := bI_0 c_115
              refine lv_iconst (v := 0) hx hb dX8_approves_122 (by decide) ?_
              exact W.eq (congrArg (fun z => F0 m 123 ls (.int z :: [.int (nI (yesN T (kdT T a) (T.2 1 a) n))])) (bI_f c_115)) (M_123 H locs X)
            · have c_115 : (isY T (kdT T a) (T.2 1 a) n) = true := bI_1 c_115
              refine lv_iconst (v := 1) hx hb dX8_approves_118 (by decide) ?_
              refine lv_goto (tgt := 123) hx hb dX8_approves_119 (by decide) ?_
              exact W.eq (congrArg (fun z => F0 m 123 ls (.int z :: [.int (nI (yesN T (kdT T a) (T.2 1 a) n))])) (bI_t c_115)) (M_123 H locs X)
          refine lv_iload hx hb dX8_approves_74 (lv_at hl 2 rfl) ?_
          refine lv_if_ne (tgt := 105) hx hb dX8_approves_76 (by decide) (fun c_76 => ?_) (fun c_76 => ?_)
          · have c_76 : (bar T (kdT T a) n) = true := bI_1 c_76
            refine lv_iconst (v := 1) hx hb dX8_approves_105 (by decide) ?_
            refine lv_goto (tgt := 110) hx hb dX8_approves_106 (by decide) ?_
            exact W.eq (congrArg (fun z => F0 m 110 ls (.int z :: [])) (bI_t (by simp [bar, c_17, c_76]))) (M_110 H locs X)
          · have c_76 : (bar T (kdT T a) n) = false := bI_0 c_76
            refine lv_aload_n hx hb dX8_approves_79 rfl (lv_at hl 5 rfl) ?_
            refine lv_iload_n hx hb dX8_approves_80 rfl (lv_at hl 6 rfl) ?_
            refine lv_iload hx hb dX8_approves_81 (lv_at hl 1 rfl) ?_
            refine k_Ri X (k_runV (As := [.int (nI a), .int (nI n)]) (rest := []) Z X (c_X8_counts l E G S T o ad a n ha (by omega)) (k_cwV 2 Z.1.2.2.2.2 (inU_12 _ (List.mem_of_getElem? (i := 22) rfl)) (inU_12 _ (List.mem_of_getElem? (i := 23) rfl)) (inU_13 _ (List.mem_of_getElem? (i := 0) rfl)) (inU_1 _ (List.mem_of_getElem? (i := 5) rfl)) (inU_13 _ (List.mem_of_getElem? (i := 1) rfl)) rfl rfl (by decide +kernel) ⟨Nat.le_of_ble_eq_true rfl, Nat.le_of_ble_eq_true rfl⟩) (k_recv Z X ct_16 rfl) rfl hl.1 rfl (Nat.le_of_ble_eq_true rfl) dX8_approves_83 ⟨Nat.le_of_ble_eq_true rfl, Nat.le_of_ble_eq_true rfl⟩) (fun r_83 ad1 ct1 H locs hp X => ?_)
            obtain ⟨rfl, rfl, rfl⟩ := hp
            refine lv_if_eq (tgt := 109) hx hb dX8_approves_86 (by decide) (fun c_86 => ?_) (fun c_86 => ?_)
            · have c_86 : cnts T (kdT T a) n = false := bI_0 c_86
              refine lv_iconst (v := 0) hx hb dX8_approves_109 (by decide) ?_
              exact W.eq (congrArg (fun z => F0 m 110 ls (.int z :: [])) (bI_f (by simp [bar, c_17, c_76, c_86]))) (M_110 H locs X)
            · have c_86 : cnts T (kdT T a) n = true := bI_1 c_86
              have hk := kdT_of c_86
              refine lv_aload_n hx hb dX8_approves_89 rfl (lv_at hl 5 rfl) ?_
              refine k_get (index := 41) (j := 13) (ad := ad) (k := 16) (i := 0) Z X ct_16 inlX8 rfl (by decide) (inU_6 _ (List.mem_of_getElem? (i := 17) rfl)) (fun _ h => h) rfl dX8_approves_90 ?_
              refine lv_bipush (v := 12) hx hb dX8_approves_93 (by decide) ?_
              refine lv_iload_n hx hb dX8_approves_95 rfl (lv_at hl 6 rfl) ?_
              refine lv_imul hx hb dX8_approves_96 ?_
              refine lv_iload hx hb dX8_approves_97 (lv_at hl 1 rfl) ?_
              refine lv_iadd hx hb dX8_approves_99 ?_
              refine lv_topi (fun x_99 e_99 => ?_)
              obtain rfl : x_99 = nI (12 * a + n) := e_99.trans (by rw [show (12 : Int32) = nI 12 from rfl, pk_mul, nI_add])
              refine k_ild (ad := ad) (k := 17) (i := 10) Z X ct_17_10 (vp_in_nI (by first | assumption | omega) (by decide)) dX8_approves_100 ?_
              refine lv_topi (fun x_100 e_100 => ?_)
              obtain rfl : x_100 = T.1 21 (12 * a + n) := e_100.trans (by simp only [nI_clamp (show 12 * a + n < 2 ^ 31 by omega)])
              refine lv_iconst (v := 1) hx hb dX8_approves_101 (by decide) ?_
              refine lv_icmp_ne (tgt := 109) hx hb dX8_approves_102 (by decide) (fun c_102 => ?_) (fun c_102 => ?_)
              · refine lv_iconst (v := 0) hx hb dX8_approves_109 (by decide) ?_
                exact W.eq (congrArg (fun z => F0 m 110 ls (.int z :: [])) (bI_f (by simp [bar, c_17, c_76, c_86, c_102, hk]))) (M_110 H locs X)
              · refine lv_iconst (v := 1) hx hb dX8_approves_105 (by decide) ?_
                refine lv_goto (tgt := 110) hx hb dX8_approves_106 (by decide) ?_
                exact W.eq (congrArg (fun z => F0 m 110 ls (.int z :: [])) (bI_t (by simp [bar, c_17, c_76, c_86, c_102, hk]))) (M_110 H locs X)
        refine lv_aload_n hx hb dX8_approves_20 rfl (lv_at hl 4 rfl) ?_
        refine lv_iload_n hx hb dX8_approves_21 rfl (lv_at hl 5 rfl) ?_
        refine lv_iload hx hb dX8_approves_22 (lv_at hl 0 rfl) ?_
        refine k_Ri X (k_runV (As := [.int (nI a), .int (nI n)]) (rest := []) Z X (c_X8_counts l E G S T o ad a n ha (by omega)) (k_cwV 2 Z.1.2.2.2.2 (inU_12 _ (List.mem_of_getElem? (i := 22) rfl)) (inU_12 _ (List.mem_of_getElem? (i := 23) rfl)) (inU_13 _ (List.mem_of_getElem? (i := 0) rfl)) (inU_1 _ (List.mem_of_getElem? (i := 5) rfl)) (inU_13 _ (List.mem_of_getElem? (i := 1) rfl)) rfl rfl (by decide +kernel) ⟨Nat.le_of_ble_eq_true rfl, Nat.le_of_ble_eq_true rfl⟩) (k_recv Z X ct_16 rfl) rfl hl.1 rfl (Nat.le_of_ble_eq_true rfl) dX8_approves_24 ⟨Nat.le_of_ble_eq_true rfl, Nat.le_of_ble_eq_true rfl⟩) (fun r_24 ad1 ct1 H locs hp X => ?_)
        obtain ⟨rfl, rfl, rfl⟩ := hp
        refine lv_if_eq (tgt := 71) hx hb dX8_approves_27 (by decide) (fun c_27 => ?_) (fun c_27 => ?_)
        · have c_27 : cnts T (kdT T a) n = false := bI_0 c_27
          refine lv_iconst (v := 0) hx hb dX8_approves_71 (by decide) ?_
          exact W.eq (congrArg (fun z => F0 m 72 ls (.int z :: [])) (bI_f (by simp [isY, c_17, c_27]))) (M_72 H locs X)
        · have c_27 : cnts T (kdT T a) n = true := bI_1 c_27
          have hk := kdT_of c_27
          refine lv_aload_n hx hb dX8_approves_30 rfl (lv_at hl 4 rfl) ?_
          refine k_get (index := 41) (j := 13) (ad := ad) (k := 16) (i := 0) Z X ct_16 inlX8 rfl (by decide) (inU_6 _ (List.mem_of_getElem? (i := 17) rfl)) (fun _ h => h) rfl dX8_approves_31 ?_
          refine lv_bipush (v := 12) hx hb dX8_approves_34 (by decide) ?_
          refine lv_iload_n hx hb dX8_approves_36 rfl (lv_at hl 5 rfl) ?_
          refine lv_imul hx hb dX8_approves_37 ?_
          refine lv_iload hx hb dX8_approves_38 (lv_at hl 0 rfl) ?_
          refine lv_iadd hx hb dX8_approves_40 ?_
          refine lv_topi (fun x_40 e_40 => ?_)
          obtain rfl : x_40 = nI (12 * a + n) := e_40.trans (by rw [show (12 : Int32) = nI 12 from rfl, pk_mul, nI_add])
          refine k_ild (ad := ad) (k := 17) (i := 10) Z X ct_17_10 (vp_in_nI (by first | assumption | omega) (by decide)) dX8_approves_41 ?_
          refine lv_topi (fun x_41 e_41 => ?_)
          obtain rfl : x_41 = T.1 21 (12 * a + n) := e_41.trans (by simp only [nI_clamp (show 12 * a + n < 2 ^ 31 by omega)])
          refine lv_if_ne (tgt := 71) hx hb dX8_approves_42 (by decide) (fun c_42 => ?_) (fun c_42 => ?_)
          · refine lv_iconst (v := 0) hx hb dX8_approves_71 (by decide) ?_
            exact W.eq (congrArg (fun z => F0 m 72 ls (.int z :: [])) (bI_f (by simp [isY, c_17, c_27, c_42, hk]))) (M_72 H locs X)
          · refine lv_aload_n hx hb dX8_approves_45 rfl (lv_at hl 4 rfl) ?_
            refine k_get (index := 7) (j := 2) (ad := ad) (k := 16) (i := 0) Z X ct_16 inlX8 rfl (by decide) (inU_6 _ (List.mem_of_getElem? (i := 6) rfl)) (fun _ h => h) rfl dX8_approves_46 ?_
            refine lv_iload hx hb dX8_approves_49 (lv_at hl 0 rfl) ?_
            refine k_ild (ad := ad) (k := 17) (i := 0) Z X ct_17_0 (vp_in_nI (by first | assumption | omega) (by decide)) dX8_approves_51 ?_
            refine lv_topi (fun x_51 e_51 => ?_)
            obtain rfl : x_51 = T.1 1 n := e_51.trans (by simp only [nI_clamp (show n < 2 ^ 31 by omega)])
            refine lv_iconst (v := 2) hx hb dX8_approves_52 (by decide) ?_
            refine lv_icmp_lt (tgt := 71) hx hb dX8_approves_53 (by decide) (fun c_53 => ?_) (fun c_53 => ?_)
            · refine lv_iconst (v := 0) hx hb dX8_approves_71 (by decide) ?_
              exact W.eq (congrArg (fun z => F0 m 72 ls (.int z :: [])) (bI_f (by simp [isY, c_17, c_27, c_42, c_53, hk]))) (M_72 H locs X)
            · refine lv_iload hx hb dX8_approves_56 (lv_at hl 0 rfl) ?_
              refine lv_aload_n hx hb dX8_approves_58 rfl (lv_at hl 4 rfl) ?_
              refine k_get (index := 23) (j := 7) (ad := ad) (k := 16) (i := 0) Z X ct_16 inlX8 rfl (by decide) (inU_6 _ (List.mem_of_getElem? (i := 11) rfl)) (fun _ h => h) rfl dX8_approves_59 ?_
              refine lv_iload_n hx hb dX8_approves_62 rfl (lv_at hl 5 rfl) ?_
              refine k_ild (ad := ad) (k := 17) (i := 4) Z X ct_17_4 (vp_in_nI (by first | assumption | omega) (by decide)) dX8_approves_63 ?_
              refine lv_topi (fun x_63 e_63 => ?_)
              obtain rfl : x_63 = nI (T.2 1 a) := e_63.trans (by simp only [nI_clamp (show a < 2 ^ 31 by omega)])
              refine lv_icmp_eq (tgt := 71) hx hb dX8_approves_64 (by decide) (fun c_64 => ?_) (fun c_64 => ?_)
              · have c_64 : n = (T.2 1 a) := (nI_eq (a := n) (b := (T.2 1 a)) (by omega) (by omega)).mp c_64
                refine lv_iconst (v := 0) hx hb dX8_approves_71 (by decide) ?_
                exact W.eq (congrArg (fun z => F0 m 72 ls (.int z :: [])) (bI_f (by simp [isY, c_17, c_27, c_42, c_53, c_64, hk]))) (M_72 H locs X)
              · have c_64 : ¬ n = (T.2 1 a) := fun h => c_64 ((nI_eq (a := n) (b := (T.2 1 a)) (by omega) (by omega)).mpr h)
                refine lv_iconst (v := 1) hx hb dX8_approves_67 (by decide) ?_
                refine lv_goto (tgt := 72) hx hb dX8_approves_68 (by decide) ?_
                exact W.eq (congrArg (fun z => F0 m 72 ls (.int z :: [])) (bI_t (by simp [isY, c_17, c_27, c_42, c_53, c_64, hk]))) (M_72 H locs X)
  exact LOOP_11 (T.2 0 0 + 1) 0 (by omega) (by omega) _ _ _ X (lv_sub hl [0, 1, 2, 3, 4, 5, 6] rfl)
theorem stl_r (S : kSt) (kd : Nat → Nat → Int32) : ∀ n, (stl S kd n).2 = S.2 ∧ (∀ f j, f ≠ 12 → f ≠ 3 → (stl S kd n).1 f j = S.1 f j) ∧ ∀ j, n ≤ j → (stl S kd n).1 12 j = S.1 12 j
  | 0 => ⟨rfl, fun _ _ _ _ => rfl, fun _ _ => rfl⟩
  | n + 1 => by
    obtain ⟨h1, h2, h3⟩ := stl_r S kd n
    refine ⟨?_, fun f j ha hb => ?_, fun j hj => ?_⟩
    · simp only [stl, stl1]
      split
      · exact h1
      · exact h1
    · simp only [stl, stl1]
      split
      · simp [sI, ha, hb, h2 f j ha hb]
      · exact h2 f j ha hb
    · simp only [stl, stl1]
      split
      · have : j ≠ n := by omega
        simp [sI, this, h3 j (by omega)]
      · exact h3 j (by omega)
theorem gone_c {S S' : kSt} (h0 : S'.1 0 0 = S.1 0 0) (h2 : ∀ j, S'.1 2 j = S.1 2 j) (u : Nat) : gone S' u = gone S u := by simp only [gone, h0, h2]
theorem cnts_c {S S' : kSt} (h0 : S'.1 0 0 = S.1 0 0) (h1 : ∀ j, S'.1 1 j = S.1 1 j) (h2 : ∀ j, S'.1 2 j = S.1 2 j) {kd kd' : Nat → Int32} {u : Nat} (hk : kd' u = kd u) : cnts S' kd' u = cnts S kd u := by simp only [cnts, gone_c h0 h2, h1, hk]
theorem bar_c {S S' : kSt} (h0 : S'.1 0 0 = S.1 0 0) (h1 : ∀ j, S'.1 1 j = S.1 1 j) (h2 : ∀ j, S'.1 2 j = S.1 2 j) {kd kd' : Nat → Int32} : ∀ {n : Nat}, (∀ u, u < n → kd' u = kd u) → bar S' kd' n = bar S kd n
  | 0, _ => rfl
  | n + 1, hk => by
    have ih := bar_c h0 h1 h2 (n := n) (fun u hu => hk u (Nat.lt_succ_of_lt hu))
    simp only [bar, ih, cnts_c h0 h1 h2 (hk n (by omega)), hk n (by omega)]
theorem isY_c {S S' : kSt} (h0 : S'.1 0 0 = S.1 0 0) (h1 : ∀ j, S'.1 1 j = S.1 1 j) (h2 : ∀ j, S'.1 2 j = S.1 2 j) {kd kd' : Nat → Int32} {u a : Nat} (hk : kd' u = kd u) : isY S' kd' a u = isY S kd a u := by simp only [isY, cnts_c h0 h1 h2 hk, h1, hk]
theorem yesN_c {S S' : kSt} (h0 : S'.1 0 0 = S.1 0 0) (h1 : ∀ j, S'.1 1 j = S.1 1 j) (h2 : ∀ j, S'.1 2 j = S.1 2 j) {kd kd' : Nat → Int32} {a : Nat} : ∀ {n : Nat}, (∀ u, u < n → kd' u = kd u) → yesN S' kd' a n = yesN S kd a n
  | 0, _ => rfl
  | n + 1, hk => by
    have ih := yesN_c h0 h1 h2 (a := a) (n := n) (fun u hu => hk u (Nat.lt_succ_of_lt hu))
    simp only [yesN, ih, isY_c h0 h1 h2 (hk n (by omega))]
theorem chfN_c {S S' : kSt} (h0 : S'.1 0 0 = S.1 0 0) (h1 : ∀ j, S'.1 1 j = S.1 1 j) (h2 : ∀ j, S'.1 2 j = S.1 2 j) {kd kd' : Nat → Int32} {a : Nat} : ∀ {n : Nat}, (∀ u, u < n → kd' u = kd u) → chfN S' kd' a n = chfN S kd a n
  | 0, _ => rfl
  | n + 1, hk => by
    have ih := chfN_c h0 h1 h2 (a := a) (n := n) (fun u hu => hk u (Nat.lt_succ_of_lt hu))
    simp only [chfN, ih, isY_c h0 h1 h2 (hk n (by omega)), h1]
theorem cntN_c {S S' : kSt} (h0 : S'.1 0 0 = S.1 0 0) (h1 : ∀ j, S'.1 1 j = S.1 1 j) (h2 : ∀ j, S'.1 2 j = S.1 2 j) {kd kd' : Nat → Int32} : ∀ {n : Nat}, (∀ u, u < n → kd' u = kd u) → cntN S' kd' n = cntN S kd n
  | 0, _ => rfl
  | n + 1, hk => by
    have ih := cntN_c h0 h1 h2 (n := n) (fun u hu => hk u (Nat.lt_succ_of_lt hu))
    simp only [cntN, ih, cnts_c h0 h1 h2 (hk n (by omega))]
/-- what approves looks at alone decides -/
theorem appr_c {S S' : kSt} (h0 : S'.1 0 0 = S.1 0 0) (h1 : ∀ j, S'.1 1 j = S.1 1 j) (h2 : ∀ j, S'.1 2 j = S.1 2 j) {kd kd' : Nat → Int32} {a n : Nat} {x : Int32} (hk : ∀ u, u < n → kd' u = kd u) : appr S' kd' a n x = appr S kd a n x := by
  simp only [appr, bar_c h0 h1 h2 hk, yesN_c h0 h1 h2 hk, chfN_c h0 h1 h2 hk]
theorem dX8_settles_0 : decode cX8_settles 0 = .ok (.iconst 0, 1) := by decide +kernel
theorem dX8_settles_1 : decode cX8_settles 1 = .ok (.istore_n 1, 1) := by decide +kernel
theorem dX8_settles_2 : decode cX8_settles 2 = .ok (.iload_n 1, 1) := by decide +kernel
theorem dX8_settles_3 : decode cX8_settles 3 = .ok (.aload_n 0, 1) := by decide +kernel
theorem dX8_settles_4 : decode cX8_settles 4 = .ok (.getfield 102, 3) := by decide +kernel
theorem dX8_settles_7 : decode cX8_settles 7 = .ok (.if_icmp .ge 81, 3) := by decide +kernel
theorem dX8_settles_10 : decode cX8_settles 10 = .ok (.aload_n 0, 1) := by decide +kernel
theorem dX8_settles_11 : decode cX8_settles 11 = .ok (.getfield 47, 3) := by decide +kernel
theorem dX8_settles_14 : decode cX8_settles 14 = .ok (.iload_n 1, 1) := by decide +kernel
theorem dX8_settles_15 : decode cX8_settles 15 = .ok (.iaload, 1) := by decide +kernel
theorem dX8_settles_16 : decode cX8_settles 16 = .ok (.istore_n 2, 1) := by decide +kernel
theorem dX8_settles_17 : decode cX8_settles 17 = .ok (.aload_n 0, 1) := by decide +kernel
theorem dX8_settles_18 : decode cX8_settles 18 = .ok (.getfield 56, 3) := by decide +kernel
theorem dX8_settles_21 : decode cX8_settles 21 = .ok (.iload_n 1, 1) := by decide +kernel
theorem dX8_settles_22 : decode cX8_settles 22 = .ok (.baload, 1) := by decide +kernel
theorem dX8_settles_23 : decode cX8_settles 23 = .ok (.ifCond .ne 59, 3) := by decide +kernel
theorem dX8_settles_26 : decode cX8_settles 26 = .ok (.aload_n 0, 1) := by decide +kernel
theorem dX8_settles_27 : decode cX8_settles 27 = .ok (.getfield 32, 3) := by decide +kernel
theorem dX8_settles_30 : decode cX8_settles 30 = .ok (.iload_n 2, 1) := by decide +kernel
theorem dX8_settles_31 : decode cX8_settles 31 = .ok (.iaload, 1) := by decide +kernel
theorem dX8_settles_32 : decode cX8_settles 32 = .ok (.aload_n 0, 1) := by decide +kernel
theorem dX8_settles_33 : decode cX8_settles 33 = .ok (.getfield 50, 3) := by decide +kernel
theorem dX8_settles_36 : decode cX8_settles 36 = .ok (.iload_n 1, 1) := by decide +kernel
theorem dX8_settles_37 : decode cX8_settles 37 = .ok (.iaload, 1) := by decide +kernel
theorem dX8_settles_38 : decode cX8_settles 38 = .ok (.if_icmp .ne 17, 3) := by decide +kernel
theorem dX8_settles_41 : decode cX8_settles 41 = .ok (.aload_n 0, 1) := by decide +kernel
theorem dX8_settles_42 : decode cX8_settles 42 = .ok (.iload_n 2, 1) := by decide +kernel
theorem dX8_settles_43 : decode cX8_settles 43 = .ok (.aload_n 0, 1) := by decide +kernel
theorem dX8_settles_44 : decode cX8_settles 44 = .ok (.getfield 53, 3) := by decide +kernel
theorem dX8_settles_47 : decode cX8_settles 47 = .ok (.iload_n 1, 1) := by decide +kernel
theorem dX8_settles_48 : decode cX8_settles 48 = .ok (.iaload, 1) := by decide +kernel
theorem dX8_settles_49 : decode cX8_settles 49 = .ok (.invokevirtual 105, 3) := by decide +kernel
theorem dX8_settles_52 : decode cX8_settles 52 = .ok (.ifCond .ne 30, 3) := by decide +kernel
theorem dX8_settles_55 : decode cX8_settles 55 = .ok (.aload_n 0, 1) := by decide +kernel
theorem dX8_settles_56 : decode cX8_settles 56 = .ok (.getfield 56, 3) := by decide +kernel
theorem dX8_settles_59 : decode cX8_settles 59 = .ok (.iload_n 1, 1) := by decide +kernel
theorem dX8_settles_60 : decode cX8_settles 60 = .ok (.iconst 1, 1) := by decide +kernel
theorem dX8_settles_61 : decode cX8_settles 61 = .ok (.bastore, 1) := by decide +kernel
theorem dX8_settles_62 : decode cX8_settles 62 = .ok (.aload_n 0, 1) := by decide +kernel
theorem dX8_settles_63 : decode cX8_settles 63 = .ok (.getfield 16, 3) := by decide +kernel
theorem dX8_settles_66 : decode cX8_settles 66 = .ok (.aload_n 0, 1) := by decide +kernel
theorem dX8_settles_67 : decode cX8_settles 67 = .ok (.getfield 26, 3) := by decide +kernel
theorem dX8_settles_70 : decode cX8_settles 70 = .ok (.iload_n 2, 1) := by decide +kernel
theorem dX8_settles_71 : decode cX8_settles 71 = .ok (.iaload, 1) := by decide +kernel
theorem dX8_settles_72 : decode cX8_settles 72 = .ok (.dup2, 1) := by decide +kernel
theorem dX8_settles_73 : decode cX8_settles 73 = .ok (.iaload, 1) := by decide +kernel
theorem dX8_settles_74 : decode cX8_settles 74 = .ok (.aload_n 0, 1) := by decide +kernel
theorem dX8_settles_75 : decode cX8_settles 75 = .ok (.getfield 53, 3) := by decide +kernel
theorem dX8_settles_78 : decode cX8_settles 78 = .ok (.iload_n 1, 1) := by decide +kernel
theorem dX8_settles_79 : decode cX8_settles 79 = .ok (.iaload, 1) := by decide +kernel
theorem dX8_settles_80 : decode cX8_settles 80 = .ok (.iadd, 1) := by decide +kernel
theorem dX8_settles_81 : decode cX8_settles 81 = .ok (.iastore, 1) := by decide +kernel
theorem dX8_settles_82 : decode cX8_settles 82 = .ok (.iinc 1 1, 3) := by decide +kernel
theorem dX8_settles_85 : decode cX8_settles 85 = .ok (.goto (-83), 3) := by decide +kernel
theorem dX8_settles_88 : decode cX8_settles 88 = .ok (.return_, 1) := by decide +kernel
set_option maxHeartbeats 4000000 in
set_option maxRecDepth 100000 in
theorem c_X8_settles (l : Launch) (E : State) (G : kG) (S T : kSt) (o : Int64) (ad : kAd) (hT : okN T) : Met l yX8_settles (.code yX8_settles cX8_settles 3 none :: wsL_law) ({ frames := 4, cells := 0, slots := 0, locals := 100 } : Room) (va_Pc [.ref (ad 16 0)] (kPre E G ad (cto G S T o ad))) (kQv E G (fun ad1 ct1 => ad = ad1 ∧ ct1 = cto G S (stl T (kdT T) (T.2 0 2)) o ad)) 0 0 (kB E.heap.size) := by
  refine Met.ofW (cc := cX8_settles) (maxL := 3) (ret := none) (by decide) rfl ?_
  intro p e s m args below meth c s₁ B hml hv
  obtain ⟨rfl, hM, hK, hW0⟩ := hv
  have hlocks := B.notSynchronized
  have hr := B.returns
  have Z : kZ p m c cX8_settles 3 s _ wsL_law RX8 E G := ⟨⟨B.exec, B.bytes, hml, findClass_of_methodNamed B.named, fun w h => atoms_spec (ws := .code yX8_settles cX8_settles 3 none :: wsL_law) B.pre w (List.mem_cons_of_mem _ h)⟩, hM, hK⟩
  have hx := Z.1.1
  have hb := Z.1.2.1
  have X := kX.of hW0
  have hl := lv_entry ([.ref (ad 16 0)]) (n := 3) (Nat.le_of_ble_eq_true rfl)
  rw [lg_entry_eq]
  generalize (lg_sl ([.ref (ad 16 0)]) ++ List.replicate (3 - (lg_sl ([.ref (ad 16 0)])).length) Slot.unset).toArray = ls at hl ⊢
  have hl : lv_has ls 3 [(0, .ref (ad 16 0))] := hl
  obtain ⟨hT1, hT2, hT3, hT4, hT5, hT6, hT7⟩ := hT
  refine lv_iconst (v := 0) hx hb dX8_settles_0 (by decide) ?_
  refine lv_istore_n (lv' := [(1, .int 0), (0, .ref (ad 16 0))]) hx hb dX8_settles_1 rfl hl (by decide) rfl (fun ls hl => ?_)
  have LOOP_2 : ∀ (d : Nat) (n : Nat), n ≤ T.2 0 2 → T.2 0 2 < n + d → ∀ (H : Heap) (locs : List Loc) (ls : Array Slot), kX E G s H locs ad (cto G S (stl T (kdT T) n) o ad) → lv_has ls 3 [(1, .int (nI n)), (0, .ref (ad 16 0))] → W p l e (headSpec (Cond.code yX8_settles cX8_settles 3 none :: wsL_law) ({ frames := 4, cells := 0, slots := 0, locals := 100 } : Room)).room s m ([.ref (ad 16 0)] : List Value).toArray below meth c H locs 0 0 (MQ below (kQv E G (fun ad1 ct1 => ad = ad1 ∧ ct1 = cto G S (stl T (kdT T) (T.2 0 2)) o ad)) ([.ref (ad 16 0)] : List Value).toArray s 0 0 (kB E.heap.size)) (F0 m 2 ls []) := by
    intro d
    induction d with
    | zero => intro n h1 h2; intros; exact absurd h2 (by omega)
    | succ d ih =>
      intro n h1 h2 H locs ls X hl
      obtain ⟨s2, s1, s12⟩ := stl_r T (kdT T) n
      generalize hTn : stl T (kdT T) n = Tn at X s2 s1 s12
      refine lv_iload_n hx hb dX8_settles_2 rfl (lv_at hl 0 rfl) ?_
      refine lv_aload_n hx hb dX8_settles_3 rfl (lv_at hl 1 rfl) ?_
      refine k_get (index := 102) (j := 15) (ad := ad) (k := 16) (i := 0) Z X ct_16 inlX8 rfl (by decide) (inU_12 _ (List.mem_of_getElem? (i := 17) rfl)) (fun _ h => h) rfl dX8_settles_4 ?_
      refine lv_icmp_ge (tgt := 88) hx hb dX8_settles_7 (by decide) (fun c_7 => ?_) (fun c_7 => ?_)
      · have c_7 : (Tn.2 0 2) ≤ n := (nI_leI (a := (Tn.2 0 2)) (b := n) (by rw [s2]; omega) (by omega)).mp c_7
        rw [s2] at c_7
        have hn : n = T.2 0 2 := by omega
        subst hn
        exact k_vret Z X hr hlocks (Nat.le_of_ble_eq_true rfl) (Nat.le_of_ble_eq_true rfl) dX8_settles_88 ⟨rfl, by rw [hTn]⟩
      · have c_7 : ¬ (Tn.2 0 2) ≤ n := fun h => c_7 ((nI_leI (a := (Tn.2 0 2)) (b := n) (by rw [s2]; omega) (by omega)).mpr h)
        rw [s2] at c_7
        have hm := hT6 n (by omega)
        have hmm := hT5 _ hm
        have e3 : Tn.2 3 = T.2 3 := by rw [s2]
        refine lv_aload_n hx hb dX8_settles_10 rfl (lv_at hl 1 rfl) ?_
        refine k_get (index := 47) (j := 16) (ad := ad) (k := 16) (i := 0) Z X ct_16 inlX8 rfl (by decide) (inU_6 _ (List.mem_of_getElem? (i := 19) rfl)) (fun _ h => h) rfl dX8_settles_11 ?_
        refine lv_iload_n hx hb dX8_settles_14 rfl (lv_at hl 0 rfl) ?_
        refine k_ild (ad := ad) (k := 17) (i := 12) Z X ct_17_12 (vp_in_nI (by first | assumption | omega) (by decide)) dX8_settles_15 ?_
        refine lv_topi (fun x_15 e_15 => ?_)
        obtain rfl : x_15 = nI (Tn.2 3 n) := e_15.trans (by simp only [nI_clamp (show n < 2 ^ 31 by omega)])
        refine lv_topi (fun x_15 e_15 => ?_)
        obtain rfl : x_15 = nI (T.2 3 n) := e_15.trans (by rw [s2])
        refine lv_istore_n (lv' := [(2, .int (nI (T.2 3 n))), (1, .int (nI n)), (0, .ref (ad 16 0))]) hx hb dX8_settles_16 rfl hl (by decide) rfl (fun ls hl => ?_)
        refine lv_aload_n hx hb dX8_settles_17 rfl (lv_at hl 2 rfl) ?_
        refine k_get (index := 56) (j := 19) (ad := ad) (k := 16) (i := 0) Z X ct_16 inlX8 rfl (by decide) (inU_6 _ (List.mem_of_getElem? (i := 22) rfl)) (fun _ h => h) rfl dX8_settles_18 ?_
        refine lv_iload_n hx hb dX8_settles_21 rfl (lv_at hl 1 rfl) ?_
        refine k_zld (ad := ad) (k := 17) (i := 15) Z X ct_17_15 (vp_in_nI (by first | assumption | omega) (by decide)) dX8_settles_22 ?_
        refine lv_topi (fun x_22 e_22 => ?_)
        obtain rfl : x_22 = Tn.1 12 n := e_22.trans (by simp only [nI_clamp (show n < 2 ^ 31 by omega)])
        refine lv_if_ne (tgt := 82) hx hb dX8_settles_23 (by decide) (fun c_23 => ?_) (fun c_23 => ?_)
        · refine lv_iinc (v := (nI (n + 1))) (lv' := [(1, .int (nI (n + 1))), (2, .int (nI (T.2 3 n))), (0, .ref (ad 16 0))]) hx hb dX8_settles_82 hl (k := 1) rfl (nI_1 _) (by decide) rfl (fun ls hl => ?_)
          refine lv_goto (tgt := 2) hx hb dX8_settles_85 (by decide) ?_
          have hs : stl T (kdT T) (n + 1) = Tn := by simp only [stl, hTn, stl1]; refine if_neg ?_; rw [s2]; simp only [s2] at *; simp [c_23]
          exact ih (n + 1) (by omega) (by omega) _ _ _ (hs ▸ X) (lv_sub hl [0, 2] rfl)
        · refine lv_aload_n hx hb dX8_settles_26 rfl (lv_at hl 2 rfl) ?_
          refine k_get (index := 32) (j := 10) (ad := ad) (k := 16) (i := 0) Z X ct_16 inlX8 rfl (by decide) (inU_6 _ (List.mem_of_getElem? (i := 14) rfl)) (fun _ h => h) rfl dX8_settles_27 ?_
          refine lv_iload_n hx hb dX8_settles_30 rfl (lv_at hl 0 rfl) ?_
          refine k_ild (ad := ad) (k := 17) (i := 7) Z X ct_17_7 (vp_in_nI (by first | assumption | omega) (by decide)) dX8_settles_31 ?_
          refine lv_topi (fun x_31 e_31 => ?_)
          obtain rfl : x_31 = Tn.1 7 (T.2 3 n) := e_31.trans (by simp only [nI_clamp (show T.2 3 n < 2 ^ 31 by omega)])
          refine lv_aload_n hx hb dX8_settles_32 rfl (lv_at hl 2 rfl) ?_
          refine k_get (index := 50) (j := 17) (ad := ad) (k := 16) (i := 0) Z X ct_16 inlX8 rfl (by decide) (inU_6 _ (List.mem_of_getElem? (i := 20) rfl)) (fun _ h => h) rfl dX8_settles_33 ?_
          refine lv_iload_n hx hb dX8_settles_36 rfl (lv_at hl 1 rfl) ?_
          refine k_ild (ad := ad) (k := 17) (i := 13) Z X ct_17_13 (vp_in_nI (by first | assumption | omega) (by decide)) dX8_settles_37 ?_
          refine lv_topi (fun x_37 e_37 => ?_)
          obtain rfl : x_37 = Tn.1 10 n := e_37.trans (by simp only [nI_clamp (show n < 2 ^ 31 by omega)])
          refine lv_icmp_ne (tgt := 55) hx hb dX8_settles_38 (by decide) (fun c_38 => ?_) (fun c_38 => ?_)
          · refine lv_aload_n hx hb dX8_settles_55 rfl (lv_at hl 2 rfl) ?_
            refine k_get (index := 56) (j := 19) (ad := ad) (k := 16) (i := 0) Z X ct_16 inlX8 rfl (by decide) (inU_6 _ (List.mem_of_getElem? (i := 22) rfl)) (fun _ h => h) rfl dX8_settles_56 ?_
            refine lv_iload_n hx hb dX8_settles_59 rfl (lv_at hl 1 rfl) ?_
            refine lv_iconst (v := 1) hx hb dX8_settles_60 (by decide) ?_
            refine k_zst (ad := ad) (k := 17) (i := 15) Z X ct_17_15 (vp_in_nI (by first | assumption | omega) (by decide)) (Or.inr rfl) dX8_settles_61 (fun H locs X => ?_)
            have X : kX E G s H locs ad (cto G S (sI Tn 12 n 1) o ad) := X.eq (st_17_15 n 1 (by omega))
            refine lv_aload_n hx hb dX8_settles_62 rfl (lv_at hl 2 rfl) ?_
            refine k_get (index := 16) (j := 4) (ad := ad) (k := 16) (i := 0) Z X ct_16 inlX8 rfl (by decide) (inU_6 _ (List.mem_of_getElem? (i := 8) rfl)) (fun _ h => h) rfl dX8_settles_63 ?_
            refine lv_aload_n hx hb dX8_settles_66 rfl (lv_at hl 2 rfl) ?_
            refine k_get (index := 26) (j := 8) (ad := ad) (k := 16) (i := 0) Z X ct_16 inlX8 rfl (by decide) (inU_6 _ (List.mem_of_getElem? (i := 12) rfl)) (fun _ h => h) rfl dX8_settles_67 ?_
            refine lv_iload_n hx hb dX8_settles_70 rfl (lv_at hl 0 rfl) ?_
            refine k_ild (ad := ad) (k := 17) (i := 5) Z X ct_17_5 (vp_in_nI (by first | assumption | omega) (by decide)) dX8_settles_71 ?_
            refine lv_topi (fun x_71 e_71 => ?_)
            obtain rfl : x_71 = nI ((sI Tn 12 n 1).2 2 (T.2 3 n)) := e_71.trans (by simp only [nI_clamp (show T.2 3 n < 2 ^ 31 by omega)])
            refine lv_topi (fun x_71 e_71 => ?_)
            obtain rfl : x_71 = nI (T.2 2 (T.2 3 n)) := e_71.trans (by rw [sI_2, s2])
            refine lv_dup2_11 hx hb dX8_settles_72 rfl rfl ?_
            refine k_ild (ad := ad) (k := 17) (i := 2) Z X ct_17_2 (vp_in_nI (by first | assumption | omega) (by decide)) dX8_settles_73 ?_
            refine lv_topi (fun x_73 e_73 => ?_)
            obtain rfl : x_73 = (sI Tn 12 n 1).1 3 (T.2 2 (T.2 3 n)) := e_73.trans (by simp only [nI_clamp (show T.2 2 (T.2 3 n) < 2 ^ 31 by omega)])
            refine lv_topi (fun x_73 e_73 => ?_)
            obtain rfl : x_73 = Tn.1 3 (T.2 2 (T.2 3 n)) := e_73.trans (sI_f (by decide))
            refine lv_aload_n hx hb dX8_settles_74 rfl (lv_at hl 2 rfl) ?_
            refine k_get (index := 53) (j := 18) (ad := ad) (k := 16) (i := 0) Z X ct_16 inlX8 rfl (by decide) (inU_6 _ (List.mem_of_getElem? (i := 21) rfl)) (fun _ h => h) rfl dX8_settles_75 ?_
            refine lv_iload_n hx hb dX8_settles_78 rfl (lv_at hl 1 rfl) ?_
            refine k_ild (ad := ad) (k := 17) (i := 14) Z X ct_17_14 (vp_in_nI (by first | assumption | omega) (by decide)) dX8_settles_79 ?_
            refine lv_topi (fun x_79 e_79 => ?_)
            obtain rfl : x_79 = (sI Tn 12 n 1).1 11 n := e_79.trans (by simp only [nI_clamp (show n < 2 ^ 31 by omega)])
            refine lv_topi (fun x_79 e_79 => ?_)
            obtain rfl : x_79 = Tn.1 11 n := e_79.trans (sI_f (by decide))
            refine lv_iadd hx hb dX8_settles_80 ?_
            refine k_ist (ad := ad) (k := 17) (i := 2) Z X ct_17_2 (vp_in_nI (by first | assumption | omega) (by decide)) dX8_settles_81 (fun H locs X => ?_)
            have X : kX E G s H locs ad (cto G S (sI (sI Tn 12 n 1) 3 (T.2 2 (T.2 3 n)) (Tn.1 3 (T.2 2 (T.2 3 n)) + Tn.1 11 n)) o ad) := X.eq (st_17_2 _ _ (by omega))
            refine lv_iinc (v := (nI (n + 1))) (lv' := [(1, .int (nI (n + 1))), (2, .int (nI (T.2 3 n))), (0, .ref (ad 16 0))]) hx hb dX8_settles_82 hl (k := 1) rfl (nI_1 _) (by decide) rfl (fun ls hl => ?_)
            refine lv_goto (tgt := 2) hx hb dX8_settles_85 (by decide) ?_
            have hs : stl T (kdT T) (n + 1) = sI (sI Tn 12 n 1) 3 (T.2 2 (T.2 3 n)) (Tn.1 3 (T.2 2 (T.2 3 n)) + Tn.1 11 n) := by simp only [stl, hTn, stl1]; refine (if_pos ?_).trans (by simp only [s2]); simp only [s2] at *; simp [c_23, c_38]
            exact ih (n + 1) (by omega) (by omega) _ _ _ (hs ▸ X) (lv_sub hl [0, 2] rfl)
          · refine lv_aload_n hx hb dX8_settles_41 rfl (lv_at hl 2 rfl) ?_
            refine lv_iload_n hx hb dX8_settles_42 rfl (lv_at hl 0 rfl) ?_
            refine lv_aload_n hx hb dX8_settles_43 rfl (lv_at hl 2 rfl) ?_
            refine k_get (index := 53) (j := 18) (ad := ad) (k := 16) (i := 0) Z X ct_16 inlX8 rfl (by decide) (inU_6 _ (List.mem_of_getElem? (i := 21) rfl)) (fun _ h => h) rfl dX8_settles_44 ?_
            refine lv_iload_n hx hb dX8_settles_47 rfl (lv_at hl 1 rfl) ?_
            refine k_ild (ad := ad) (k := 17) (i := 14) Z X ct_17_14 (vp_in_nI (by first | assumption | omega) (by decide)) dX8_settles_48 ?_
            refine lv_topi (fun x_48 e_48 => ?_)
            obtain rfl : x_48 = Tn.1 11 n := e_48.trans (by simp only [nI_clamp (show n < 2 ^ 31 by omega)])
            refine k_Ri X (k_runV (As := [.int (nI (T.2 3 n)), .int (Tn.1 11 n)]) (rest := []) Z X (c_X8_approves l E G S Tn o ad (T.2 3 n) (Tn.1 11 n) (by omega) (by rw [s2]; omega) (by rw [s2]; omega)) (k_cwV 2 Z.1.2.2.2.2 (inU_12 _ (List.mem_of_getElem? (i := 18) rfl)) (inU_12 _ (List.mem_of_getElem? (i := 19) rfl)) (inU_12 _ (List.mem_of_getElem? (i := 20) rfl)) (inU_1 _ (List.mem_of_getElem? (i := 5) rfl)) (inU_12 _ (List.mem_of_getElem? (i := 21) rfl)) rfl rfl (by decide +kernel) ⟨Nat.le_of_ble_eq_true rfl, Nat.le_of_ble_eq_true rfl⟩) (k_recv Z X ct_16 rfl) rfl hl.1 rfl (Nat.le_of_ble_eq_true rfl) dX8_settles_49 ⟨Nat.le_of_ble_eq_true rfl, Nat.le_of_ble_eq_true rfl⟩) (fun r_49 ad1 ct1 H locs hp X => ?_)
            obtain ⟨rfl, rfl, rfl⟩ := hp
            have hkd : ∀ a u, kdT Tn a u = kdT T a u := fun a u => by simp only [kdT, s1 22 _ (by decide) (by decide), s1 7 _ (by decide) (by decide), s1 21 _ (by decide) (by decide)]
            have hap : appr Tn (kdT Tn (T.2 3 n)) (Tn.2 1 (T.2 3 n)) (Tn.2 0 0) (Tn.1 11 n) = appr Tn (kdT T (T.2 3 n)) (Tn.2 1 (T.2 3 n)) (Tn.2 0 0) (Tn.1 11 n) := appr_c rfl (fun _ => rfl) (fun _ => rfl) (fun u _ => hkd _ u)
            refine lv_if_ne (tgt := 82) hx hb dX8_settles_52 (by decide) (fun c_52 => ?_) (fun c_52 => ?_)
            · have c_52 : (appr Tn (kdT Tn (T.2 3 n)) (Tn.2 1 (T.2 3 n)) (Tn.2 0 0) (Tn.1 11 n)) = true := bI_1 c_52
              refine lv_iinc (v := (nI (n + 1))) (lv' := [(1, .int (nI (n + 1))), (2, .int (nI (T.2 3 n))), (0, .ref (ad 16 0))]) hx hb dX8_settles_82 hl (k := 1) rfl (nI_1 _) (by decide) rfl (fun ls hl => ?_)
              refine lv_goto (tgt := 2) hx hb dX8_settles_85 (by decide) ?_
              rw [hap] at c_52
              have hs : stl T (kdT T) (n + 1) = Tn := by simp only [stl, hTn, stl1]; refine if_neg ?_; rw [s2]; simp only [s2] at *; simp [c_23, c_38, c_52]
              exact ih (n + 1) (by omega) (by omega) _ _ _ (hs ▸ X) (lv_sub hl [0, 2] rfl)
            · have c_52 : (appr Tn (kdT Tn (T.2 3 n)) (Tn.2 1 (T.2 3 n)) (Tn.2 0 0) (Tn.1 11 n)) = false := bI_0 c_52
              refine lv_aload_n hx hb dX8_settles_55 rfl (lv_at hl 2 rfl) ?_
              refine k_get (index := 56) (j := 19) (ad := ad) (k := 16) (i := 0) Z X ct_16 inlX8 rfl (by decide) (inU_6 _ (List.mem_of_getElem? (i := 22) rfl)) (fun _ h => h) rfl dX8_settles_56 ?_
              refine lv_iload_n hx hb dX8_settles_59 rfl (lv_at hl 1 rfl) ?_
              refine lv_iconst (v := 1) hx hb dX8_settles_60 (by decide) ?_
              refine k_zst (ad := ad) (k := 17) (i := 15) Z X ct_17_15 (vp_in_nI (by first | assumption | omega) (by decide)) (Or.inr rfl) dX8_settles_61 (fun H locs X => ?_)
              have X : kX E G s H locs ad (cto G S (sI Tn 12 n 1) o ad) := X.eq (st_17_15 n 1 (by omega))
              refine lv_aload_n hx hb dX8_settles_62 rfl (lv_at hl 2 rfl) ?_
              refine k_get (index := 16) (j := 4) (ad := ad) (k := 16) (i := 0) Z X ct_16 inlX8 rfl (by decide) (inU_6 _ (List.mem_of_getElem? (i := 8) rfl)) (fun _ h => h) rfl dX8_settles_63 ?_
              refine lv_aload_n hx hb dX8_settles_66 rfl (lv_at hl 2 rfl) ?_
              refine k_get (index := 26) (j := 8) (ad := ad) (k := 16) (i := 0) Z X ct_16 inlX8 rfl (by decide) (inU_6 _ (List.mem_of_getElem? (i := 12) rfl)) (fun _ h => h) rfl dX8_settles_67 ?_
              refine lv_iload_n hx hb dX8_settles_70 rfl (lv_at hl 0 rfl) ?_
              refine k_ild (ad := ad) (k := 17) (i := 5) Z X ct_17_5 (vp_in_nI (by first | assumption | omega) (by decide)) dX8_settles_71 ?_
              refine lv_topi (fun x_71 e_71 => ?_)
              obtain rfl : x_71 = nI ((sI Tn 12 n 1).2 2 (T.2 3 n)) := e_71.trans (by simp only [nI_clamp (show T.2 3 n < 2 ^ 31 by omega)])
              refine lv_topi (fun x_71 e_71 => ?_)
              obtain rfl : x_71 = nI (T.2 2 (T.2 3 n)) := e_71.trans (by rw [sI_2, s2])
              refine lv_dup2_11 hx hb dX8_settles_72 rfl rfl ?_
              refine k_ild (ad := ad) (k := 17) (i := 2) Z X ct_17_2 (vp_in_nI (by first | assumption | omega) (by decide)) dX8_settles_73 ?_
              refine lv_topi (fun x_73 e_73 => ?_)
              obtain rfl : x_73 = (sI Tn 12 n 1).1 3 (T.2 2 (T.2 3 n)) := e_73.trans (by simp only [nI_clamp (show T.2 2 (T.2 3 n) < 2 ^ 31 by omega)])
              refine lv_topi (fun x_73 e_73 => ?_)
              obtain rfl : x_73 = Tn.1 3 (T.2 2 (T.2 3 n)) := e_73.trans (sI_f (by decide))
              refine lv_aload_n hx hb dX8_settles_74 rfl (lv_at hl 2 rfl) ?_
              refine k_get (index := 53) (j := 18) (ad := ad) (k := 16) (i := 0) Z X ct_16 inlX8 rfl (by decide) (inU_6 _ (List.mem_of_getElem? (i := 21) rfl)) (fun _ h => h) rfl dX8_settles_75 ?_
              refine lv_iload_n hx hb dX8_settles_78 rfl (lv_at hl 1 rfl) ?_
              refine k_ild (ad := ad) (k := 17) (i := 14) Z X ct_17_14 (vp_in_nI (by first | assumption | omega) (by decide)) dX8_settles_79 ?_
              refine lv_topi (fun x_79 e_79 => ?_)
              obtain rfl : x_79 = (sI Tn 12 n 1).1 11 n := e_79.trans (by simp only [nI_clamp (show n < 2 ^ 31 by omega)])
              refine lv_topi (fun x_79 e_79 => ?_)
              obtain rfl : x_79 = Tn.1 11 n := e_79.trans (sI_f (by decide))
              refine lv_iadd hx hb dX8_settles_80 ?_
              refine k_ist (ad := ad) (k := 17) (i := 2) Z X ct_17_2 (vp_in_nI (by first | assumption | omega) (by decide)) dX8_settles_81 (fun H locs X => ?_)
              have X : kX E G s H locs ad (cto G S (sI (sI Tn 12 n 1) 3 (T.2 2 (T.2 3 n)) (Tn.1 3 (T.2 2 (T.2 3 n)) + Tn.1 11 n)) o ad) := X.eq (st_17_2 _ _ (by omega))
              refine lv_iinc (v := (nI (n + 1))) (lv' := [(1, .int (nI (n + 1))), (2, .int (nI (T.2 3 n))), (0, .ref (ad 16 0))]) hx hb dX8_settles_82 hl (k := 1) rfl (nI_1 _) (by decide) rfl (fun ls hl => ?_)
              refine lv_goto (tgt := 2) hx hb dX8_settles_85 (by decide) ?_
              rw [hap] at c_52
              have hs : stl T (kdT T) (n + 1) = sI (sI Tn 12 n 1) 3 (T.2 2 (T.2 3 n)) (Tn.1 3 (T.2 2 (T.2 3 n)) + Tn.1 11 n) := by simp only [stl, hTn, stl1]; refine (if_pos ?_).trans (by simp only [s2]); simp only [s2] at *; simp [c_23, c_38, c_52]
              exact ih (n + 1) (by omega) (by omega) _ _ _ (hs ▸ X) (lv_sub hl [0, 2] rfl)
  exact LOOP_2 (T.2 0 2 + 1) 0 (by omega) (by omega) _ _ _ X (lv_sub hl [0, 1] rfl)
end
section
theorem cl_nI {n : Nat} (h : n < 2 ^ 31) : cl (nI n) = n := nI_clamp h
theorem chan_inB (x : Int32) : inR x 0 5 = inB x 6 := by
  have h := inB_rng (u := x) (n := 6) (by decide)
  have e : nI 6 - 1 = (5 : Int32) := by decide
  rw [e] at h
  exact h
theorem dX8_user_0 : decode cX8_user 0 = .ok (.aload_n 0, 1) := by decide +kernel
theorem dX8_user_1 : decode cX8_user 1 = .ok (.iload_n 1, 1) := by decide +kernel
theorem dX8_user_2 : decode cX8_user 2 = .ok (.invokestatic 108, 3) := by decide +kernel
theorem dX8_user_5 : decode cX8_user 5 = .ok (.ifCond .ne 7, 3) := by decide +kernel
theorem dX8_user_8 : decode cX8_user 8 = .ok (.iconst 1, 1) := by decide +kernel
theorem dX8_user_9 : decode cX8_user 9 = .ok (.goto 17, 3) := by decide +kernel
theorem dX8_user_12 : decode cX8_user 12 = .ok (.aload_n 0, 1) := by decide +kernel
theorem dX8_user_13 : decode cX8_user 13 = .ok (.getfield 81, 3) := by decide +kernel
theorem dX8_user_16 : decode cX8_user 16 = .ok (.bipush 12, 2) := by decide +kernel
theorem dX8_user_18 : decode cX8_user 18 = .ok (.if_icmp .ne 7, 3) := by decide +kernel
theorem dX8_user_21 : decode cX8_user 21 = .ok (.iconst 2, 1) := by decide +kernel
theorem dX8_user_22 : decode cX8_user 22 = .ok (.goto 4, 3) := by decide +kernel
theorem dX8_user_25 : decode cX8_user 25 = .ok (.iconst 0, 1) := by decide +kernel
theorem dX8_user_26 : decode cX8_user 26 = .ok (.invokevirtual 111, 3) := by decide +kernel
theorem dX8_user_29 : decode cX8_user 29 = .ok (.ifCond .eq 5, 3) := by decide +kernel
theorem dX8_user_32 : decode cX8_user 32 = .ok (.iconst 0, 1) := by decide +kernel
theorem dX8_user_33 : decode cX8_user 33 = .ok (.ireturn, 1) := by decide +kernel
theorem dX8_user_34 : decode cX8_user 34 = .ok (.aload_n 0, 1) := by decide +kernel
theorem dX8_user_35 : decode cX8_user 35 = .ok (.getfield 7, 3) := by decide +kernel
theorem dX8_user_38 : decode cX8_user 38 = .ok (.aload_n 0, 1) := by decide +kernel
theorem dX8_user_39 : decode cX8_user 39 = .ok (.getfield 81, 3) := by decide +kernel
theorem dX8_user_42 : decode cX8_user 42 = .ok (.iload_n 1, 1) := by decide +kernel
theorem dX8_user_43 : decode cX8_user 43 = .ok (.iastore, 1) := by decide +kernel
theorem dX8_user_44 : decode cX8_user 44 = .ok (.aload_n 0, 1) := by decide +kernel
theorem dX8_user_45 : decode cX8_user 45 = .ok (.getfield 13, 3) := by decide +kernel
theorem dX8_user_48 : decode cX8_user 48 = .ok (.aload_n 0, 1) := by decide +kernel
theorem dX8_user_49 : decode cX8_user 49 = .ok (.getfield 81, 3) := by decide +kernel
theorem dX8_user_52 : decode cX8_user 52 = .ok (.iconst (-1), 1) := by decide +kernel
theorem dX8_user_53 : decode cX8_user 53 = .ok (.iastore, 1) := by decide +kernel
theorem dX8_user_54 : decode cX8_user 54 = .ok (.aload_n 0, 1) := by decide +kernel
theorem dX8_user_55 : decode cX8_user 55 = .ok (.dup, 1) := by decide +kernel
theorem dX8_user_56 : decode cX8_user 56 = .ok (.getfield 81, 3) := by decide +kernel
theorem dX8_user_59 : decode cX8_user 59 = .ok (.iconst 1, 1) := by decide +kernel
theorem dX8_user_60 : decode cX8_user 60 = .ok (.iadd, 1) := by decide +kernel
theorem dX8_user_61 : decode cX8_user 61 = .ok (.putfield 81, 3) := by decide +kernel
theorem dX8_user_64 : decode cX8_user 64 = .ok (.aload_n 0, 1) := by decide +kernel
theorem dX8_user_65 : decode cX8_user 65 = .ok (.getfield 81, 3) := by decide +kernel
theorem dX8_user_68 : decode cX8_user 68 = .ok (.iconst 1, 1) := by decide +kernel
theorem dX8_user_69 : decode cX8_user 69 = .ok (.isub, 1) := by decide +kernel
theorem dX8_user_70 : decode cX8_user 70 = .ok (.ireturn, 1) := by decide +kernel
set_option maxHeartbeats 4000000 in
set_option maxRecDepth 100000 in
theorem c_X8_user (l : Launch) (E : State) (G : kG) (S T : kSt) (o : Int64) (ad : kAd) (xr : Int32) (hT : okN T) : Met l yX8_user (.code yX8_user cX8_user 2 (some .int) :: wsL_law) ({ frames := 4, cells := 0, slots := 0, locals := 90 } : Room) (va_Pc [.ref (ad 16 0), .int xr] (kPre E G ad (cto G S T o ad))) (kQi E G (fun r ad1 ct1 => (cUser T xr = 0 → r = nI (T.2 0 0)) ∧ ad = ad1 ∧ ct1 = cto G S (if cUser T xr = 0 then oUser (sI T 24 0 0) xr else sI T 24 0 (cUser T xr)) o ad)) 0 0 (kB E.heap.size) := by
  refine Met.ofW (cc := cX8_user) (maxL := 2) (ret := (some .int)) (by decide) rfl ?_
  intro p e s m args below meth c s₁ B hml hv
  obtain ⟨rfl, hM, hK, hW0⟩ := hv
  have hlocks := B.notSynchronized
  have hr := B.returns
  have Z : kZ p m c cX8_user 2 s _ wsL_law RX8 E G := ⟨⟨B.exec, B.bytes, hml, findClass_of_methodNamed B.named, fun w h => atoms_spec (ws := .code yX8_user cX8_user 2 (some .int) :: wsL_law) B.pre w (List.mem_cons_of_mem _ h)⟩, hM, hK⟩
  have hx := Z.1.1
  have hb := Z.1.2.1
  have X := kX.of hW0
  have hl := lv_entry ([.ref (ad 16 0), .int xr]) (n := 2) (Nat.le_of_ble_eq_true rfl)
  rw [lg_entry_eq]
  generalize (lg_sl ([.ref (ad 16 0), .int xr]) ++ List.replicate (2 - (lg_sl ([.ref (ad 16 0), .int xr])).length) Slot.unset).toArray = ls at hl ⊢
  have hl : lv_has ls 2 [(0, .ref (ad 16 0)), (1, .int xr)] := hl
  have hT0 := hT
  obtain ⟨hT1, hT2, hT3, hT4, hT5, hT6, hT7⟩ := hT0
  refine lv_aload_n hx hb dX8_user_0 rfl (lv_at hl 0 rfl) ?_
  refine lv_iload_n hx hb dX8_user_1 rfl (lv_at hl 1 rfl) ?_
  refine k_Ri X (k_runS (As := [.int xr]) (rest := [.ref (ad 16 0)]) Z X (c_X8_isRole l E G S T o ad xr) (k_cwS 1 Z.1.2.2.2.2 (inU_8 _ (List.mem_of_getElem? (i := 20) rfl)) (inU_8 _ (List.mem_of_getElem? (i := 21) rfl)) (inU_1 _ (List.mem_of_getElem? (i := 5) rfl)) (inU_8 _ (List.mem_of_getElem? (i := 22) rfl)) rfl rfl (by decide +kernel) ⟨Nat.le_of_ble_eq_true rfl, Nat.le_of_ble_eq_true rfl⟩) rfl hl.1 rfl (Nat.le_of_ble_eq_true rfl) dX8_user_2 ⟨Nat.le_of_ble_eq_true rfl, Nat.le_of_ble_eq_true rfl⟩) (fun r_2 ad1 ct1 H locs hp X => ?_)
  obtain ⟨rfl, rfl, rfl⟩ := hp
  refine lv_if_ne (tgt := 12) hx hb dX8_user_5 (by decide) (fun c_5 => ?_) (fun c_5 => ?_)
  · have c_5 : (inR xr 0 3) = true := bI_1 c_5
    refine lv_aload_n hx hb dX8_user_12 rfl (lv_at hl 0 rfl) ?_
    refine k_get (index := 81) (j := 1) (ad := ad) (k := 16) (i := 0) Z X ct_16 inlX8 rfl (by decide) (inU_8 _ (List.mem_of_getElem? (i := 19) rfl)) (fun _ h => h) (v := .int (nI (T.2 0 0))) rfl dX8_user_13 ?_
    refine lv_bipush (v := 12) hx hb dX8_user_16 (by decide) ?_
    refine lv_icmp_ne (tgt := 25) hx hb dX8_user_18 (by decide) (fun c_18 => ?_) (fun c_18 => ?_)
    · have c_18 : ¬ (T.2 0 0) = 12 := fun h => c_18 ((nI_eq (a := (T.2 0 0)) (b := 12) (by omega) (by decide)).mpr h)
      refine lv_iconst (v := 0) hx hb dX8_user_25 (by decide) ?_
      refine k_Ri X (k_runV (As := [.int 0]) (rest := []) Z X (c_X8_fails l E G S T o ad 0) (k_cwV 1 Z.1.2.2.2.2 (inU_9 _ (List.mem_of_getElem? (i := 2) rfl)) (inU_9 _ (List.mem_of_getElem? (i := 3) rfl)) (inU_9 _ (List.mem_of_getElem? (i := 4) rfl)) (inU_1 _ (List.mem_of_getElem? (i := 5) rfl)) (inU_9 _ (List.mem_of_getElem? (i := 5) rfl)) rfl rfl (by decide +kernel) ⟨Nat.le_of_ble_eq_true rfl, Nat.le_of_ble_eq_true rfl⟩) (k_recv Z X ct_16 rfl) rfl hl.1 rfl (Nat.le_of_ble_eq_true rfl) dX8_user_26 ⟨Nat.le_of_ble_eq_true rfl, Nat.le_of_ble_eq_true rfl⟩) (fun r_26 ad1 ct1 H locs hp X => ?_)
      obtain ⟨rfl, rfl, rfl⟩ := hp
      refine lv_topi (fun x_26 e_26 => ?_)
      obtain rfl : x_26 = 0 := e_26.trans (by decide)
      refine lv_if_eq (tgt := 34) hx hb dX8_user_29 (by decide) (fun c_29 => ?_) (fun c_29 => ?_)
      · have hlt : T.2 0 0 < 12 := by omega
        refine lv_aload_n hx hb dX8_user_34 rfl (lv_at hl 0 rfl) ?_
        refine k_get (index := 7) (j := 2) (ad := ad) (k := 16) (i := 0) Z X ct_16 inlX8 rfl (by decide) (inU_6 _ (List.mem_of_getElem? (i := 6) rfl)) (fun _ h => h) (v := .ref (ad 17 0)) rfl dX8_user_35 ?_
        refine lv_aload_n hx hb dX8_user_38 rfl (lv_at hl 0 rfl) ?_
        refine k_get (index := 81) (j := 1) (ad := ad) (k := 16) (i := 0) Z X ct_16 inlX8 rfl (by decide) (inU_8 _ (List.mem_of_getElem? (i := 19) rfl)) (fun _ h => h) (v := .int (nI (T.2 0 0))) rfl dX8_user_39 ?_
        refine lv_iload_n hx hb dX8_user_42 rfl (lv_at hl 1 rfl) ?_
        refine k_ist (ad := ad) (k := 17) (i := 0) Z X ct_17_0 (vp_in_nI (by first | assumption | omega) (by decide)) dX8_user_43 (fun H locs X => ?_)
        have X : kX E G s H locs ad (cto G S (sI (sI T 24 0 0) 1 (T.2 0 0) xr) o ad) := X.eq (st_17_0 _ _ (by omega))
        refine lv_aload_n hx hb dX8_user_44 rfl (lv_at hl 0 rfl) ?_
        refine k_get (index := 13) (j := 3) (ad := ad) (k := 16) (i := 0) Z X ct_16 inlX8 rfl (by decide) (inU_6 _ (List.mem_of_getElem? (i := 7) rfl)) (fun _ h => h) (v := .ref (ad 17 1)) rfl dX8_user_45 ?_
        refine lv_aload_n hx hb dX8_user_48 rfl (lv_at hl 0 rfl) ?_
        refine k_get (index := 81) (j := 1) (ad := ad) (k := 16) (i := 0) Z X ct_16 inlX8 rfl (by decide) (inU_8 _ (List.mem_of_getElem? (i := 19) rfl)) (fun _ h => h) (v := .int (nI (T.2 0 0))) rfl dX8_user_49 ?_
        refine lv_iconst (v := (-1)) hx hb dX8_user_52 (by decide) ?_
        refine k_ist (ad := ad) (k := 17) (i := 1) Z X ct_17_1 (vp_in_nI (by first | assumption | omega) (by decide)) dX8_user_53 (fun H locs X => ?_)
        have X : kX E G s H locs ad (cto G S (sI (sI (sI T 24 0 0) 1 (T.2 0 0) xr) 2 (T.2 0 0) (-1)) o ad) := X.eq (st_17_1 _ _ (by omega))
        refine lv_aload_n hx hb dX8_user_54 rfl (lv_at hl 0 rfl) ?_
        refine lv_dup hx hb dX8_user_55 rfl ?_
        refine k_get (index := 81) (j := 1) (ad := ad) (k := 16) (i := 0) Z X ct_16 inlX8 rfl (by decide) (inU_8 _ (List.mem_of_getElem? (i := 19) rfl)) (fun _ h => h) (v := .int (nI (T.2 0 0))) rfl dX8_user_56 ?_
        refine lv_iconst (v := 1) hx hb dX8_user_59 (by decide) ?_
        refine lv_iadd hx hb dX8_user_60 ?_
        refine lv_topi (fun x_60 e_60 => ?_)
        obtain rfl : x_60 = nI (T.2 0 0 + 1) := e_60.trans (nI_1 _)
        refine k_put (index := 81) (j := 1) (k := 16) (i := 0) Z X ct_16 inlX8 tyX8_ok nmX8 rfl (by decide) (inU_8 _ (List.mem_of_getElem? (i := 19) rfl)) (fun _ h => h) rfl (Nat.le_of_ble_eq_true rfl) rfl rfl dX8_user_61 (fun H locs X => ?_)
        have X : kX E G s H locs ad (cto G S (sN (sI (sI (sI T 24 0 0) 1 (T.2 0 0) xr) 2 (T.2 0 0) (-1)) 0 0 (T.2 0 0 + 1)) o ad) := X.eq (st_users _)
        refine lv_aload_n hx hb dX8_user_64 rfl (lv_at hl 0 rfl) ?_
        refine k_get (index := 81) (j := 1) (ad := ad) (k := 16) (i := 0) Z X ct_16 inlX8 rfl (by decide) (inU_8 _ (List.mem_of_getElem? (i := 19) rfl)) (fun _ h => h) (v := .int (nI (T.2 0 0 + 1))) rfl dX8_user_65 ?_
        refine lv_iconst (v := 1) hx hb dX8_user_68 (by decide) ?_
        refine lv_isub hx hb dX8_user_69 ?_
        refine lv_topi (fun x_69 e_69 => ?_)
        obtain rfl : x_69 = nI (T.2 0 0) := e_69.trans (nI_pred _)
        have hk : cUser T xr = 0 := by simp [cUser, c_5, c_18, c_29]
        exact k_iret Z X hr hlocks rfl (Nat.le_of_ble_eq_true rfl) (Nat.le_of_ble_eq_true rfl) dX8_user_70 ⟨fun _ => rfl, rfl, (congrArg (fun z => cto G S z o ad) (show (sN (sI (sI (sI T 24 0 0) 1 (T.2 0 0) xr) 2 (T.2 0 0) (-1)) 0 0 (T.2 0 0 + 1)) = oUser (sI T 24 0 0) xr from rfl)).trans (by rw [if_pos hk])⟩
      · exact absurd c_29 (by decide)
    · have c_18 : (T.2 0 0) = 12 := (nI_eq (a := (T.2 0 0)) (b := 12) (by omega) (by decide)).mp c_18
      refine lv_iconst (v := 2) hx hb dX8_user_21 (by decide) ?_
      refine lv_goto (tgt := 26) hx hb dX8_user_22 (by decide) ?_
      refine k_Ri X (k_runV (As := [.int 2]) (rest := []) Z X (c_X8_fails l E G S T o ad 2) (k_cwV 1 Z.1.2.2.2.2 (inU_9 _ (List.mem_of_getElem? (i := 2) rfl)) (inU_9 _ (List.mem_of_getElem? (i := 3) rfl)) (inU_9 _ (List.mem_of_getElem? (i := 4) rfl)) (inU_1 _ (List.mem_of_getElem? (i := 5) rfl)) (inU_9 _ (List.mem_of_getElem? (i := 5) rfl)) rfl rfl (by decide +kernel) ⟨Nat.le_of_ble_eq_true rfl, Nat.le_of_ble_eq_true rfl⟩) (k_recv Z X ct_16 rfl) rfl hl.1 rfl (Nat.le_of_ble_eq_true rfl) dX8_user_26 ⟨Nat.le_of_ble_eq_true rfl, Nat.le_of_ble_eq_true rfl⟩) (fun r_26 ad1 ct1 H locs hp X => ?_)
      obtain ⟨rfl, rfl, rfl⟩ := hp
      refine lv_topi (fun x_26 e_26 => ?_)
      obtain rfl : x_26 = 1 := e_26.trans (by decide)
      refine lv_if_eq (tgt := 34) hx hb dX8_user_29 (by decide) (fun c_29 => ?_) (fun c_29 => ?_)
      · exact absurd c_29 (by decide)
      · refine lv_iconst (v := 0) hx hb dX8_user_32 (by decide) ?_
        have hk : cUser T xr = 2 := by simp [cUser, c_5, c_18, c_29]
        exact k_iret Z X hr hlocks rfl (Nat.le_of_ble_eq_true rfl) (Nat.le_of_ble_eq_true rfl) dX8_user_33 ⟨fun h => absurd (hk.symm.trans h) (by decide), rfl, by rw [hk, if_neg (by decide)]⟩
  · have c_5 : (inR xr 0 3) = false := bI_0 c_5
    refine lv_iconst (v := 1) hx hb dX8_user_8 (by decide) ?_
    refine lv_goto (tgt := 26) hx hb dX8_user_9 (by decide) ?_
    refine k_Ri X (k_runV (As := [.int 1]) (rest := []) Z X (c_X8_fails l E G S T o ad 1) (k_cwV 1 Z.1.2.2.2.2 (inU_9 _ (List.mem_of_getElem? (i := 2) rfl)) (inU_9 _ (List.mem_of_getElem? (i := 3) rfl)) (inU_9 _ (List.mem_of_getElem? (i := 4) rfl)) (inU_1 _ (List.mem_of_getElem? (i := 5) rfl)) (inU_9 _ (List.mem_of_getElem? (i := 5) rfl)) rfl rfl (by decide +kernel) ⟨Nat.le_of_ble_eq_true rfl, Nat.le_of_ble_eq_true rfl⟩) (k_recv Z X ct_16 rfl) rfl hl.1 rfl (Nat.le_of_ble_eq_true rfl) dX8_user_26 ⟨Nat.le_of_ble_eq_true rfl, Nat.le_of_ble_eq_true rfl⟩) (fun r_26 ad1 ct1 H locs hp X => ?_)
    obtain ⟨rfl, rfl, rfl⟩ := hp
    refine lv_topi (fun x_26 e_26 => ?_)
    obtain rfl : x_26 = 1 := e_26.trans (by decide)
    refine lv_if_eq (tgt := 34) hx hb dX8_user_29 (by decide) (fun c_29 => ?_) (fun c_29 => ?_)
    · exact absurd c_29 (by decide)
    · refine lv_iconst (v := 0) hx hb dX8_user_32 (by decide) ?_
      have hk : cUser T xr = 1 := by simp [cUser, c_5, c_29]
      exact k_iret Z X hr hlocks rfl (Nat.le_of_ble_eq_true rfl) (Nat.le_of_ble_eq_true rfl) dX8_user_33 ⟨fun h => absurd (hk.symm.trans h) (by decide), rfl, by rw [hk, if_neg (by decide)]⟩
theorem dX8_role_0 : decode cX8_role 0 = .ok (.aload_n 0, 1) := by decide +kernel
theorem dX8_role_1 : decode cX8_role 1 = .ok (.aload_n 0, 1) := by decide +kernel
theorem dX8_role_2 : decode cX8_role 2 = .ok (.iload_n 1, 1) := by decide +kernel
theorem dX8_role_3 : decode cX8_role 3 = .ok (.invokevirtual 114, 3) := by decide +kernel
theorem dX8_role_6 : decode cX8_role 6 = .ok (.ifCond .ne 7, 3) := by decide +kernel
theorem dX8_role_9 : decode cX8_role 9 = .ok (.iconst 1, 1) := by decide +kernel
theorem dX8_role_10 : decode cX8_role 10 = .ok (.goto 15, 3) := by decide +kernel
theorem dX8_role_13 : decode cX8_role 13 = .ok (.iload_n 2, 1) := by decide +kernel
theorem dX8_role_14 : decode cX8_role 14 = .ok (.invokestatic 108, 3) := by decide +kernel
theorem dX8_role_17 : decode cX8_role 17 = .ok (.ifCond .eq 7, 3) := by decide +kernel
theorem dX8_role_20 : decode cX8_role 20 = .ok (.iconst 0, 1) := by decide +kernel
theorem dX8_role_21 : decode cX8_role 21 = .ok (.goto 4, 3) := by decide +kernel
theorem dX8_role_24 : decode cX8_role 24 = .ok (.iconst 2, 1) := by decide +kernel
theorem dX8_role_25 : decode cX8_role 25 = .ok (.invokevirtual 111, 3) := by decide +kernel
theorem dX8_role_28 : decode cX8_role 28 = .ok (.ifCond .eq 5, 3) := by decide +kernel
theorem dX8_role_31 : decode cX8_role 31 = .ok (.iconst 0, 1) := by decide +kernel
theorem dX8_role_32 : decode cX8_role 32 = .ok (.ireturn, 1) := by decide +kernel
theorem dX8_role_33 : decode cX8_role 33 = .ok (.aload_n 0, 1) := by decide +kernel
theorem dX8_role_34 : decode cX8_role 34 = .ok (.getfield 7, 3) := by decide +kernel
theorem dX8_role_37 : decode cX8_role 37 = .ok (.iload_n 1, 1) := by decide +kernel
theorem dX8_role_38 : decode cX8_role 38 = .ok (.iaload, 1) := by decide +kernel
theorem dX8_role_39 : decode cX8_role 39 = .ok (.istore_n 3, 1) := by decide +kernel
theorem dX8_role_40 : decode cX8_role 40 = .ok (.aload_n 0, 1) := by decide +kernel
theorem dX8_role_41 : decode cX8_role 41 = .ok (.getfield 7, 3) := by decide +kernel
theorem dX8_role_44 : decode cX8_role 44 = .ok (.iload_n 1, 1) := by decide +kernel
theorem dX8_role_45 : decode cX8_role 45 = .ok (.iload_n 2, 1) := by decide +kernel
theorem dX8_role_46 : decode cX8_role 46 = .ok (.iastore, 1) := by decide +kernel
theorem dX8_role_47 : decode cX8_role 47 = .ok (.aload_n 0, 1) := by decide +kernel
theorem dX8_role_48 : decode cX8_role 48 = .ok (.invokevirtual 117, 3) := by decide +kernel
theorem dX8_role_51 : decode cX8_role 51 = .ok (.iload_n 3, 1) := by decide +kernel
theorem dX8_role_52 : decode cX8_role 52 = .ok (.ireturn, 1) := by decide +kernel
set_option maxHeartbeats 4000000 in
set_option maxRecDepth 100000 in
theorem c_X8_role (l : Launch) (E : State) (G : kG) (S T : kSt) (o : Int64) (ad : kAd) (xu xr : Int32) (hT : okN T) : Met l yX8_role (.code yX8_role cX8_role 4 (some .int) :: wsL_law) ({ frames := 6, cells := 0, slots := 0, locals := 130 } : Room) (va_Pc [.ref (ad 16 0), .int xu, .int xr] (kPre E G ad (cto G S T o ad))) (kQi E G (fun r ad1 ct1 => (cRole T xu xr = 0 → r = T.1 1 (cl xu)) ∧ ad = ad1 ∧ ct1 = cto G S (if cRole T xu xr = 0 then oRole (sI T 24 0 0) (kdT T) xu xr else sI T 24 0 (cRole T xu xr)) o ad)) 0 0 (kB E.heap.size) := by
  refine Met.ofW (cc := cX8_role) (maxL := 4) (ret := (some .int)) (by decide) rfl ?_
  intro p e s m args below meth c s₁ B hml hv
  obtain ⟨rfl, hM, hK, hW0⟩ := hv
  have hlocks := B.notSynchronized
  have hr := B.returns
  have Z : kZ p m c cX8_role 4 s _ wsL_law RX8 E G := ⟨⟨B.exec, B.bytes, hml, findClass_of_methodNamed B.named, fun w h => atoms_spec (ws := .code yX8_role cX8_role 4 (some .int) :: wsL_law) B.pre w (List.mem_cons_of_mem _ h)⟩, hM, hK⟩
  have hx := Z.1.1
  have hb := Z.1.2.1
  have X := kX.of hW0
  have hl := lv_entry ([.ref (ad 16 0), .int xu, .int xr]) (n := 4) (Nat.le_of_ble_eq_true rfl)
  rw [lg_entry_eq]
  generalize (lg_sl ([.ref (ad 16 0), .int xu, .int xr]) ++ List.replicate (4 - (lg_sl ([.ref (ad 16 0), .int xu, .int xr])).length) Slot.unset).toArray = ls at hl ⊢
  have hl : lv_has ls 4 [(0, .ref (ad 16 0)), (1, .int xu), (2, .int xr)] := hl
  have hT0 := hT
  obtain ⟨hT1, hT2, hT3, hT4, hT5, hT6, hT7⟩ := hT0
  refine lv_aload_n hx hb dX8_role_0 rfl (lv_at hl 0 rfl) ?_
  refine lv_aload_n hx hb dX8_role_1 rfl (lv_at hl 0 rfl) ?_
  refine lv_iload_n hx hb dX8_role_2 rfl (lv_at hl 1 rfl) ?_
  refine k_Ri X (k_runV (As := [.int xu]) (rest := [.ref (ad 16 0)]) Z X (c_X8_isUser l E G S T o ad xu (by omega)) (k_cwV 1 Z.1.2.2.2.2 (inU_12 _ (List.mem_of_getElem? (i := 9) rfl)) (inU_12 _ (List.mem_of_getElem? (i := 10) rfl)) (inU_12 _ (List.mem_of_getElem? (i := 11) rfl)) (inU_1 _ (List.mem_of_getElem? (i := 5) rfl)) (inU_12 _ (List.mem_of_getElem? (i := 12) rfl)) rfl rfl (by decide +kernel) ⟨Nat.le_of_ble_eq_true rfl, Nat.le_of_ble_eq_true rfl⟩) (k_recv Z X ct_16 rfl) rfl hl.1 rfl (Nat.le_of_ble_eq_true rfl) dX8_role_3 ⟨Nat.le_of_ble_eq_true rfl, Nat.le_of_ble_eq_true rfl⟩) (fun r_3 ad1 ct1 H locs hp X => ?_)
  obtain ⟨rfl, rfl, rfl⟩ := hp
  refine lv_if_ne (tgt := 13) hx hb dX8_role_6 (by decide) (fun c_6 => ?_) (fun c_6 => ?_)
  · have c_6 : inB xu (T.2 0 0) = true := bI_1 c_6
    obtain ⟨ju, hju, hxu⟩ := inB_of c_6 (by omega)
    subst hxu
    have hcu : cl (nI ju) = ju := nI_clamp (by omega)
    refine lv_iload_n hx hb dX8_role_13 rfl (lv_at hl 2 rfl) ?_
    refine k_Ri X (k_runS (As := [.int xr]) (rest := [.ref (ad 16 0)]) Z X (c_X8_isRole l E G S T o ad xr) (k_cwS 1 Z.1.2.2.2.2 (inU_8 _ (List.mem_of_getElem? (i := 20) rfl)) (inU_8 _ (List.mem_of_getElem? (i := 21) rfl)) (inU_1 _ (List.mem_of_getElem? (i := 5) rfl)) (inU_8 _ (List.mem_of_getElem? (i := 22) rfl)) rfl rfl (by decide +kernel) ⟨Nat.le_of_ble_eq_true rfl, Nat.le_of_ble_eq_true rfl⟩) rfl hl.1 rfl (Nat.le_of_ble_eq_true rfl) dX8_role_14 ⟨Nat.le_of_ble_eq_true rfl, Nat.le_of_ble_eq_true rfl⟩) (fun r_14 ad1 ct1 H locs hp X => ?_)
    obtain ⟨rfl, rfl, rfl⟩ := hp
    refine lv_if_eq (tgt := 24) hx hb dX8_role_17 (by decide) (fun c_17 => ?_) (fun c_17 => ?_)
    · have c_17 : (inR xr 0 3) = false := bI_0 c_17
      refine lv_iconst (v := 2) hx hb dX8_role_24 (by decide) ?_
      refine k_Ri X (k_runV (As := [.int 2]) (rest := []) Z X (c_X8_fails l E G S T o ad 2) (k_cwV 1 Z.1.2.2.2.2 (inU_9 _ (List.mem_of_getElem? (i := 2) rfl)) (inU_9 _ (List.mem_of_getElem? (i := 3) rfl)) (inU_9 _ (List.mem_of_getElem? (i := 4) rfl)) (inU_1 _ (List.mem_of_getElem? (i := 5) rfl)) (inU_9 _ (List.mem_of_getElem? (i := 5) rfl)) rfl rfl (by decide +kernel) ⟨Nat.le_of_ble_eq_true rfl, Nat.le_of_ble_eq_true rfl⟩) (k_recv Z X ct_16 rfl) rfl hl.1 rfl (Nat.le_of_ble_eq_true rfl) dX8_role_25 ⟨Nat.le_of_ble_eq_true rfl, Nat.le_of_ble_eq_true rfl⟩) (fun r_25 ad1 ct1 H locs hp X => ?_)
      obtain ⟨rfl, rfl, rfl⟩ := hp
      refine lv_topi (fun x_25 e_25 => ?_)
      obtain rfl : x_25 = 1 := e_25.trans (by decide)
      refine lv_if_eq (tgt := 33) hx hb dX8_role_28 (by decide) (fun c_28 => ?_) (fun c_28 => ?_)
      · exact absurd c_28 (by decide)
      · refine lv_iconst (v := 0) hx hb dX8_role_31 (by decide) ?_
        have hk : cRole T (nI ju) xr = 2 := by simp [cRole, hcu, c_6, c_17, c_28]
        exact k_iret Z X hr hlocks rfl (Nat.le_of_ble_eq_true rfl) (Nat.le_of_ble_eq_true rfl) dX8_role_32 ⟨fun h => absurd (hk.symm.trans h) (by decide), rfl, by rw [hk, if_neg (by decide)]⟩
    · have c_17 : (inR xr 0 3) = true := bI_1 c_17
      refine lv_iconst (v := 0) hx hb dX8_role_20 (by decide) ?_
      refine lv_goto (tgt := 25) hx hb dX8_role_21 (by decide) ?_
      refine k_Ri X (k_runV (As := [.int 0]) (rest := []) Z X (c_X8_fails l E G S T o ad 0) (k_cwV 1 Z.1.2.2.2.2 (inU_9 _ (List.mem_of_getElem? (i := 2) rfl)) (inU_9 _ (List.mem_of_getElem? (i := 3) rfl)) (inU_9 _ (List.mem_of_getElem? (i := 4) rfl)) (inU_1 _ (List.mem_of_getElem? (i := 5) rfl)) (inU_9 _ (List.mem_of_getElem? (i := 5) rfl)) rfl rfl (by decide +kernel) ⟨Nat.le_of_ble_eq_true rfl, Nat.le_of_ble_eq_true rfl⟩) (k_recv Z X ct_16 rfl) rfl hl.1 rfl (Nat.le_of_ble_eq_true rfl) dX8_role_25 ⟨Nat.le_of_ble_eq_true rfl, Nat.le_of_ble_eq_true rfl⟩) (fun r_25 ad1 ct1 H locs hp X => ?_)
      obtain ⟨rfl, rfl, rfl⟩ := hp
      refine lv_topi (fun x_25 e_25 => ?_)
      obtain rfl : x_25 = 0 := e_25.trans (by decide)
      refine lv_if_eq (tgt := 33) hx hb dX8_role_28 (by decide) (fun c_28 => ?_) (fun c_28 => ?_)
      · refine lv_aload_n hx hb dX8_role_33 rfl (lv_at hl 0 rfl) ?_
        refine k_get (index := 7) (j := 2) (ad := ad) (k := 16) (i := 0) Z X ct_16 inlX8 rfl (by decide) (inU_6 _ (List.mem_of_getElem? (i := 6) rfl)) (fun _ h => h) (v := .ref (ad 17 0)) rfl dX8_role_34 ?_
        refine lv_iload_n hx hb dX8_role_37 rfl (lv_at hl 1 rfl) ?_
        refine k_ild (ad := ad) (k := 17) (i := 0) Z X ct_17_0 (vp_in_nI (by first | assumption | omega) (by decide)) dX8_role_38 ?_
        refine lv_topi (fun x_38 e_38 => ?_)
        obtain rfl : x_38 = T.1 1 ju := e_38.trans (by first | (simp only [nI_clamp (show ju < 2 ^ 31 by omega)]; done) | (simp only [nI_clamp (show ju < 2 ^ 31 by omega)]; rfl) | (simp only [nI_clamp (show ju < 2 ^ 31 by omega)]; simp [sI, sN]; done))
        refine lv_istore_n (lv' := [(3, .int (T.1 1 ju)), (0, .ref (ad 16 0)), (1, .int (nI ju)), (2, .int xr)]) hx hb dX8_role_39 rfl hl (by decide) rfl (fun ls hl => ?_)
        refine lv_aload_n hx hb dX8_role_40 rfl (lv_at hl 1 rfl) ?_
        refine k_get (index := 7) (j := 2) (ad := ad) (k := 16) (i := 0) Z X ct_16 inlX8 rfl (by decide) (inU_6 _ (List.mem_of_getElem? (i := 6) rfl)) (fun _ h => h) (v := .ref (ad 17 0)) rfl dX8_role_41 ?_
        refine lv_iload_n hx hb dX8_role_44 rfl (lv_at hl 2 rfl) ?_
        refine lv_iload_n hx hb dX8_role_45 rfl (lv_at hl 3 rfl) ?_
        refine k_ist (ad := ad) (k := 17) (i := 0) Z X ct_17_0 (vp_in_nI (by first | assumption | omega) (by decide)) dX8_role_46 (fun H locs X => ?_)
        have X : kX E G s H locs ad (cto G S (sI (sI T 24 0 0) 1 ju xr) o ad) := X.eq (st_17_0 _ _ (by omega))
        refine lv_aload_n hx hb dX8_role_47 rfl (lv_at hl 1 rfl) ?_
        refine k_Rv X (k_runV (As := []) (rest := []) Z X (c_X8_settles l E G S (sI (sI T 24 0 0) 1 ju xr) o ad hT) (k_cwV 0 Z.1.2.2.2.2 (inU_12 _ (List.mem_of_getElem? (i := 13) rfl)) (inU_12 _ (List.mem_of_getElem? (i := 14) rfl)) (inU_12 _ (List.mem_of_getElem? (i := 15) rfl)) (inU_1 _ (List.mem_of_getElem? (i := 5) rfl)) (inU_12 _ (List.mem_of_getElem? (i := 16) rfl)) rfl rfl (by decide +kernel) ⟨Nat.le_of_ble_eq_true rfl, Nat.le_of_ble_eq_true rfl⟩) (k_recv Z X ct_16 rfl) rfl hl.1 rfl (Nat.le_of_ble_eq_true rfl) dX8_role_48 ⟨Nat.le_of_ble_eq_true rfl, Nat.le_of_ble_eq_true rfl⟩) (fun ad1 ct1 H locs hp X => ?_)
        obtain ⟨rfl, rfl⟩ := hp
        refine lv_iload_n hx hb dX8_role_51 rfl (lv_at hl 0 rfl) ?_
        have hk : cRole T (nI ju) xr = 0 := by simp [cRole, hcu, c_6, c_17, c_28]
        exact k_iret Z X hr hlocks rfl (Nat.le_of_ble_eq_true rfl) (Nat.le_of_ble_eq_true rfl) dX8_role_52 ⟨fun _ => by rw [hcu], rfl, (congrArg (fun z => cto G S z o ad) (show (stl (sI (sI T 24 0 0) 1 ju xr) (kdT (sI (sI T 24 0 0) 1 ju xr)) (T.2 0 2)) = oRole (sI T 24 0 0) (kdT T) (nI ju) xr from by simp only [oRole, hcu]; rfl)).trans (by rw [if_pos hk])⟩
      · exact absurd c_28 (by decide)
  · have c_6 : inB xu (T.2 0 0) = false := bI_0 c_6
    refine lv_iconst (v := 1) hx hb dX8_role_9 (by decide) ?_
    refine lv_goto (tgt := 25) hx hb dX8_role_10 (by decide) ?_
    refine k_Ri X (k_runV (As := [.int 1]) (rest := []) Z X (c_X8_fails l E G S T o ad 1) (k_cwV 1 Z.1.2.2.2.2 (inU_9 _ (List.mem_of_getElem? (i := 2) rfl)) (inU_9 _ (List.mem_of_getElem? (i := 3) rfl)) (inU_9 _ (List.mem_of_getElem? (i := 4) rfl)) (inU_1 _ (List.mem_of_getElem? (i := 5) rfl)) (inU_9 _ (List.mem_of_getElem? (i := 5) rfl)) rfl rfl (by decide +kernel) ⟨Nat.le_of_ble_eq_true rfl, Nat.le_of_ble_eq_true rfl⟩) (k_recv Z X ct_16 rfl) rfl hl.1 rfl (Nat.le_of_ble_eq_true rfl) dX8_role_25 ⟨Nat.le_of_ble_eq_true rfl, Nat.le_of_ble_eq_true rfl⟩) (fun r_25 ad1 ct1 H locs hp X => ?_)
    obtain ⟨rfl, rfl, rfl⟩ := hp
    refine lv_topi (fun x_25 e_25 => ?_)
    obtain rfl : x_25 = 1 := e_25.trans (by decide)
    refine lv_if_eq (tgt := 33) hx hb dX8_role_28 (by decide) (fun c_28 => ?_) (fun c_28 => ?_)
    · exact absurd c_28 (by decide)
    · refine lv_iconst (v := 0) hx hb dX8_role_31 (by decide) ?_
      have hk : cRole T xu xr = 1 := by simp [cRole, c_6, c_28]
      exact k_iret Z X hr hlocks rfl (Nat.le_of_ble_eq_true rfl) (Nat.le_of_ble_eq_true rfl) dX8_role_32 ⟨fun h => absurd (hk.symm.trans h) (by decide), rfl, by rw [hk, if_neg (by decide)]⟩
theorem dX8_ends_0 : decode cX8_ends 0 = .ok (.aload_n 0, 1) := by decide +kernel
theorem dX8_ends_1 : decode cX8_ends 1 = .ok (.aload_n 0, 1) := by decide +kernel
theorem dX8_ends_2 : decode cX8_ends 2 = .ok (.iload_n 1, 1) := by decide +kernel
theorem dX8_ends_3 : decode cX8_ends 3 = .ok (.invokevirtual 114, 3) := by decide +kernel
theorem dX8_ends_6 : decode cX8_ends 6 = .ok (.ifCond .ne 7, 3) := by decide +kernel
theorem dX8_ends_9 : decode cX8_ends 9 = .ok (.iconst 1, 1) := by decide +kernel
theorem dX8_ends_10 : decode cX8_ends 10 = .ok (.goto 19, 3) := by decide +kernel
theorem dX8_ends_13 : decode cX8_ends 13 = .ok (.iload_n 2, 1) := by decide +kernel
theorem dX8_ends_14 : decode cX8_ends 14 = .ok (.iconst (-1), 1) := by decide +kernel
theorem dX8_ends_15 : decode cX8_ends 15 = .ok (.sipush 10000, 3) := by decide +kernel
theorem dX8_ends_18 : decode cX8_ends 18 = .ok (.invokestatic 84, 3) := by decide +kernel
theorem dX8_ends_21 : decode cX8_ends 21 = .ok (.ifCond .eq 7, 3) := by decide +kernel
theorem dX8_ends_24 : decode cX8_ends 24 = .ok (.iconst 0, 1) := by decide +kernel
theorem dX8_ends_25 : decode cX8_ends 25 = .ok (.goto 4, 3) := by decide +kernel
theorem dX8_ends_28 : decode cX8_ends 28 = .ok (.iconst 2, 1) := by decide +kernel
theorem dX8_ends_29 : decode cX8_ends 29 = .ok (.invokevirtual 111, 3) := by decide +kernel
theorem dX8_ends_32 : decode cX8_ends 32 = .ok (.ifCond .eq 5, 3) := by decide +kernel
theorem dX8_ends_35 : decode cX8_ends 35 = .ok (.iconst 0, 1) := by decide +kernel
theorem dX8_ends_36 : decode cX8_ends 36 = .ok (.ireturn, 1) := by decide +kernel
theorem dX8_ends_37 : decode cX8_ends 37 = .ok (.aload_n 0, 1) := by decide +kernel
theorem dX8_ends_38 : decode cX8_ends 38 = .ok (.getfield 13, 3) := by decide +kernel
theorem dX8_ends_41 : decode cX8_ends 41 = .ok (.iload_n 1, 1) := by decide +kernel
theorem dX8_ends_42 : decode cX8_ends 42 = .ok (.iload_n 2, 1) := by decide +kernel
theorem dX8_ends_43 : decode cX8_ends 43 = .ok (.iconst (-1), 1) := by decide +kernel
theorem dX8_ends_44 : decode cX8_ends 44 = .ok (.if_icmp .ne 7, 3) := by decide +kernel
theorem dX8_ends_47 : decode cX8_ends 47 = .ok (.iconst (-1), 1) := by decide +kernel
theorem dX8_ends_48 : decode cX8_ends 48 = .ok (.goto 9, 3) := by decide +kernel
theorem dX8_ends_51 : decode cX8_ends 51 = .ok (.aload_n 0, 1) := by decide +kernel
theorem dX8_ends_52 : decode cX8_ends 52 = .ok (.getfield 88, 3) := by decide +kernel
theorem dX8_ends_55 : decode cX8_ends 55 = .ok (.iload_n 2, 1) := by decide +kernel
theorem dX8_ends_56 : decode cX8_ends 56 = .ok (.iadd, 1) := by decide +kernel
theorem dX8_ends_57 : decode cX8_ends 57 = .ok (.iastore, 1) := by decide +kernel
theorem dX8_ends_58 : decode cX8_ends 58 = .ok (.aload_n 0, 1) := by decide +kernel
theorem dX8_ends_59 : decode cX8_ends 59 = .ok (.invokevirtual 117, 3) := by decide +kernel
theorem dX8_ends_62 : decode cX8_ends 62 = .ok (.aload_n 0, 1) := by decide +kernel
theorem dX8_ends_63 : decode cX8_ends 63 = .ok (.getfield 13, 3) := by decide +kernel
theorem dX8_ends_66 : decode cX8_ends 66 = .ok (.iload_n 1, 1) := by decide +kernel
theorem dX8_ends_67 : decode cX8_ends 67 = .ok (.iaload, 1) := by decide +kernel
theorem dX8_ends_68 : decode cX8_ends 68 = .ok (.ireturn, 1) := by decide +kernel
set_option maxHeartbeats 4000000 in
set_option maxRecDepth 100000 in
theorem c_X8_ends (l : Launch) (E : State) (G : kG) (S T : kSt) (o : Int64) (ad : kAd) (xu xh : Int32) (hT : okN T) : Met l yX8_ends (.code yX8_ends cX8_ends 3 (some .int) :: wsL_law) ({ frames := 6, cells := 0, slots := 0, locals := 130 } : Room) (va_Pc [.ref (ad 16 0), .int xu, .int xh] (kPre E G ad (cto G S T o ad))) (kQi E G (fun r ad1 ct1 => (cEnds T xu xh = 0 → r = vEnds T xh) ∧ ad = ad1 ∧ ct1 = cto G S (if cEnds T xu xh = 0 then oEnds (sI T 24 0 0) (kdT T) xu xh else sI T 24 0 (cEnds T xu xh)) o ad)) 0 0 (kB E.heap.size) := by
  refine Met.ofW (cc := cX8_ends) (maxL := 3) (ret := (some .int)) (by decide) rfl ?_
  intro p e s m args below meth c s₁ B hml hv
  obtain ⟨rfl, hM, hK, hW0⟩ := hv
  have hlocks := B.notSynchronized
  have hr := B.returns
  have Z : kZ p m c cX8_ends 3 s _ wsL_law RX8 E G := ⟨⟨B.exec, B.bytes, hml, findClass_of_methodNamed B.named, fun w h => atoms_spec (ws := .code yX8_ends cX8_ends 3 (some .int) :: wsL_law) B.pre w (List.mem_cons_of_mem _ h)⟩, hM, hK⟩
  have hx := Z.1.1
  have hb := Z.1.2.1
  have X := kX.of hW0
  have hl := lv_entry ([.ref (ad 16 0), .int xu, .int xh]) (n := 3) (Nat.le_of_ble_eq_true rfl)
  rw [lg_entry_eq]
  generalize (lg_sl ([.ref (ad 16 0), .int xu, .int xh]) ++ List.replicate (3 - (lg_sl ([.ref (ad 16 0), .int xu, .int xh])).length) Slot.unset).toArray = ls at hl ⊢
  have hl : lv_has ls 3 [(0, .ref (ad 16 0)), (1, .int xu), (2, .int xh)] := hl
  have hT0 := hT
  obtain ⟨hT1, hT2, hT3, hT4, hT5, hT6, hT7⟩ := hT0
  refine lv_aload_n hx hb dX8_ends_0 rfl (lv_at hl 0 rfl) ?_
  refine lv_aload_n hx hb dX8_ends_1 rfl (lv_at hl 0 rfl) ?_
  refine lv_iload_n hx hb dX8_ends_2 rfl (lv_at hl 1 rfl) ?_
  refine k_Ri X (k_runV (As := [.int xu]) (rest := [.ref (ad 16 0)]) Z X (c_X8_isUser l E G S T o ad xu (by omega)) (k_cwV 1 Z.1.2.2.2.2 (inU_12 _ (List.mem_of_getElem? (i := 9) rfl)) (inU_12 _ (List.mem_of_getElem? (i := 10) rfl)) (inU_12 _ (List.mem_of_getElem? (i := 11) rfl)) (inU_1 _ (List.mem_of_getElem? (i := 5) rfl)) (inU_12 _ (List.mem_of_getElem? (i := 12) rfl)) rfl rfl (by decide +kernel) ⟨Nat.le_of_ble_eq_true rfl, Nat.le_of_ble_eq_true rfl⟩) (k_recv Z X ct_16 rfl) rfl hl.1 rfl (Nat.le_of_ble_eq_true rfl) dX8_ends_3 ⟨Nat.le_of_ble_eq_true rfl, Nat.le_of_ble_eq_true rfl⟩) (fun r_3 ad1 ct1 H locs hp X => ?_)
  obtain ⟨rfl, rfl, rfl⟩ := hp
  refine lv_if_ne (tgt := 13) hx hb dX8_ends_6 (by decide) (fun c_6 => ?_) (fun c_6 => ?_)
  · have c_6 : inB xu (T.2 0 0) = true := bI_1 c_6
    obtain ⟨ju, hju, hxu⟩ := inB_of c_6 (by omega)
    subst hxu
    have hcu : cl (nI ju) = ju := nI_clamp (by omega)
    refine lv_iload_n hx hb dX8_ends_13 rfl (lv_at hl 2 rfl) ?_
    refine lv_iconst (v := (-1)) hx hb dX8_ends_14 (by decide) ?_
    refine lv_sipush (v := 10000) hx hb dX8_ends_15 (by decide) ?_
    refine k_Ri X (k_runS (As := [.int xh, .int (-1), .int 10000]) (rest := [.ref (ad 16 0)]) Z X (c_X8_isIn l E G S T o ad xh (-1) 10000) (k_cwS 3 Z.1.2.2.2.2 (inU_8 _ (List.mem_of_getElem? (i := 23) rfl)) (inU_9 _ (List.mem_of_getElem? (i := 0) rfl)) (inU_1 _ (List.mem_of_getElem? (i := 5) rfl)) (inU_9 _ (List.mem_of_getElem? (i := 1) rfl)) rfl rfl (by decide +kernel) ⟨Nat.le_of_ble_eq_true rfl, Nat.le_of_ble_eq_true rfl⟩) rfl hl.1 rfl (Nat.le_of_ble_eq_true rfl) dX8_ends_18 ⟨Nat.le_of_ble_eq_true rfl, Nat.le_of_ble_eq_true rfl⟩) (fun r_18 ad1 ct1 H locs hp X => ?_)
    obtain ⟨rfl, rfl, rfl⟩ := hp
    refine lv_if_eq (tgt := 28) hx hb dX8_ends_21 (by decide) (fun c_21 => ?_) (fun c_21 => ?_)
    · have c_21 : (inR xh (-1) 10000) = false := bI_0 c_21
      refine lv_iconst (v := 2) hx hb dX8_ends_28 (by decide) ?_
      refine k_Ri X (k_runV (As := [.int 2]) (rest := []) Z X (c_X8_fails l E G S T o ad 2) (k_cwV 1 Z.1.2.2.2.2 (inU_9 _ (List.mem_of_getElem? (i := 2) rfl)) (inU_9 _ (List.mem_of_getElem? (i := 3) rfl)) (inU_9 _ (List.mem_of_getElem? (i := 4) rfl)) (inU_1 _ (List.mem_of_getElem? (i := 5) rfl)) (inU_9 _ (List.mem_of_getElem? (i := 5) rfl)) rfl rfl (by decide +kernel) ⟨Nat.le_of_ble_eq_true rfl, Nat.le_of_ble_eq_true rfl⟩) (k_recv Z X ct_16 rfl) rfl hl.1 rfl (Nat.le_of_ble_eq_true rfl) dX8_ends_29 ⟨Nat.le_of_ble_eq_true rfl, Nat.le_of_ble_eq_true rfl⟩) (fun r_29 ad1 ct1 H locs hp X => ?_)
      obtain ⟨rfl, rfl, rfl⟩ := hp
      refine lv_topi (fun x_29 e_29 => ?_)
      obtain rfl : x_29 = 1 := e_29.trans (by decide)
      refine lv_if_eq (tgt := 37) hx hb dX8_ends_32 (by decide) (fun c_32 => ?_) (fun c_32 => ?_)
      · exact absurd c_32 (by decide)
      · refine lv_iconst (v := 0) hx hb dX8_ends_35 (by decide) ?_
        have hk : cEnds T (nI ju) xh = 2 := by simp [cEnds, hcu, c_6, c_21, c_32]
        exact k_iret Z X hr hlocks rfl (Nat.le_of_ble_eq_true rfl) (Nat.le_of_ble_eq_true rfl) dX8_ends_36 ⟨fun h => absurd (hk.symm.trans h) (by decide), rfl, by rw [hk, if_neg (by decide)]⟩
    · have c_21 : (inR xh (-1) 10000) = true := bI_1 c_21
      refine lv_iconst (v := 0) hx hb dX8_ends_24 (by decide) ?_
      refine lv_goto (tgt := 29) hx hb dX8_ends_25 (by decide) ?_
      refine k_Ri X (k_runV (As := [.int 0]) (rest := []) Z X (c_X8_fails l E G S T o ad 0) (k_cwV 1 Z.1.2.2.2.2 (inU_9 _ (List.mem_of_getElem? (i := 2) rfl)) (inU_9 _ (List.mem_of_getElem? (i := 3) rfl)) (inU_9 _ (List.mem_of_getElem? (i := 4) rfl)) (inU_1 _ (List.mem_of_getElem? (i := 5) rfl)) (inU_9 _ (List.mem_of_getElem? (i := 5) rfl)) rfl rfl (by decide +kernel) ⟨Nat.le_of_ble_eq_true rfl, Nat.le_of_ble_eq_true rfl⟩) (k_recv Z X ct_16 rfl) rfl hl.1 rfl (Nat.le_of_ble_eq_true rfl) dX8_ends_29 ⟨Nat.le_of_ble_eq_true rfl, Nat.le_of_ble_eq_true rfl⟩) (fun r_29 ad1 ct1 H locs hp X => ?_)
      obtain ⟨rfl, rfl, rfl⟩ := hp
      refine lv_topi (fun x_29 e_29 => ?_)
      obtain rfl : x_29 = 0 := e_29.trans (by decide)
      refine lv_if_eq (tgt := 37) hx hb dX8_ends_32 (by decide) (fun c_32 => ?_) (fun c_32 => ?_)
      · refine lv_aload_n hx hb dX8_ends_37 rfl (lv_at hl 0 rfl) ?_
        refine k_get (index := 13) (j := 3) (ad := ad) (k := 16) (i := 0) Z X ct_16 inlX8 rfl (by decide) (inU_6 _ (List.mem_of_getElem? (i := 7) rfl)) (fun _ h => h) (v := .ref (ad 17 1)) rfl dX8_ends_38 ?_
        refine lv_iload_n hx hb dX8_ends_41 rfl (lv_at hl 1 rfl) ?_
        have M_57 : ∀ (H : Heap) (locs : List Loc), kX E G s H locs ad (cto G S (sI T 24 0 0) o ad) → W p l e (headSpec (Cond.code yX8_ends cX8_ends 3 (some .int) :: wsL_law) ({ frames := 6, cells := 0, slots := 0, locals := 130 } : Room)).room s m ([.ref (ad 16 0), .int (nI ju), .int xh] : List Value).toArray below meth c H locs 0 0 (MQ below (kQi E G (fun r ad1 ct1 => (cEnds T (nI ju) xh = 0 → r = vEnds T xh) ∧ ad = ad1 ∧ ct1 = cto G S (if cEnds T (nI ju) xh = 0 then oEnds (sI T 24 0 0) (kdT T) (nI ju) xh else sI T 24 0 (cEnds T (nI ju) xh)) o ad)) ([.ref (ad 16 0), .int (nI ju), .int xh] : List Value).toArray s 0 0 (kB E.heap.size)) (F0 m 57 ls [.int (vEnds T xh), .int (nI ju), .ref (ad 17 1)]) := by
          intro H locs X
          refine k_ist (ad := ad) (k := 17) (i := 1) Z X ct_17_1 (vp_in_nI (by first | assumption | omega) (by decide)) dX8_ends_57 (fun H locs X => ?_)
          have X : kX E G s H locs ad (cto G S (sI (sI T 24 0 0) 2 ju (vEnds T xh)) o ad) := X.eq (st_17_1 _ _ (by omega))
          refine lv_aload_n hx hb dX8_ends_58 rfl (lv_at hl 0 rfl) ?_
          refine k_Rv X (k_runV (As := []) (rest := []) Z X (c_X8_settles l E G S (sI (sI T 24 0 0) 2 ju (vEnds T xh)) o ad hT) (k_cwV 0 Z.1.2.2.2.2 (inU_12 _ (List.mem_of_getElem? (i := 13) rfl)) (inU_12 _ (List.mem_of_getElem? (i := 14) rfl)) (inU_12 _ (List.mem_of_getElem? (i := 15) rfl)) (inU_1 _ (List.mem_of_getElem? (i := 5) rfl)) (inU_12 _ (List.mem_of_getElem? (i := 16) rfl)) rfl rfl (by decide +kernel) ⟨Nat.le_of_ble_eq_true rfl, Nat.le_of_ble_eq_true rfl⟩) (k_recv Z X ct_16 rfl) rfl hl.1 rfl (Nat.le_of_ble_eq_true rfl) dX8_ends_59 ⟨Nat.le_of_ble_eq_true rfl, Nat.le_of_ble_eq_true rfl⟩) (fun ad1 ct1 H locs hp X => ?_)
          obtain ⟨rfl, rfl⟩ := hp
          refine lv_aload_n hx hb dX8_ends_62 rfl (lv_at hl 0 rfl) ?_
          refine k_get (index := 13) (j := 3) (ad := ad) (k := 16) (i := 0) Z X ct_16 inlX8 rfl (by decide) (inU_6 _ (List.mem_of_getElem? (i := 7) rfl)) (fun _ h => h) (v := .ref (ad 17 1)) rfl dX8_ends_63 ?_
          refine lv_iload_n hx hb dX8_ends_66 rfl (lv_at hl 1 rfl) ?_
          refine k_ild (ad := ad) (k := 17) (i := 1) Z X ct_17_1 (vp_in_nI (by first | assumption | omega) (by decide)) dX8_ends_67 ?_
          refine lv_topi (fun x_67 e_67 => ?_)
          obtain rfl : x_67 = (stl (sI (sI T 24 0 0) 2 ju (vEnds T xh)) (kdT (sI (sI T 24 0 0) 2 ju (vEnds T xh))) (T.2 0 2)).1 2 ju := e_67.trans (by first | (simp only [nI_clamp (show ju < 2 ^ 31 by omega)]; done) | (simp only [nI_clamp (show ju < 2 ^ 31 by omega)]; rfl) | (simp only [nI_clamp (show ju < 2 ^ 31 by omega)]; simp [sI, sN]; done))
          refine lv_topi (fun x_67 e_67 => ?_)
          obtain rfl : x_67 = vEnds T xh := e_67.trans (by rw [(stl_r _ _ _).2.1 2 _ (by decide) (by decide)]; exact sI_s)
          have hk : cEnds T (nI ju) xh = 0 := by simp [cEnds, hcu, c_6, c_21, c_32]
          exact k_iret Z X hr hlocks rfl (Nat.le_of_ble_eq_true rfl) (Nat.le_of_ble_eq_true rfl) dX8_ends_68 ⟨fun _ => rfl, rfl, (congrArg (fun z => cto G S z o ad) (show (stl (sI (sI T 24 0 0) 2 ju (vEnds T xh)) (kdT (sI (sI T 24 0 0) 2 ju (vEnds T xh))) (T.2 0 2)) = oEnds (sI T 24 0 0) (kdT T) (nI ju) xh from by simp only [oEnds, hcu]; rfl)).trans (by rw [if_pos hk])⟩
        refine lv_iload_n hx hb dX8_ends_42 rfl (lv_at hl 2 rfl) ?_
        refine lv_iconst (v := (-1)) hx hb dX8_ends_43 (by decide) ?_
        refine lv_icmp_ne (tgt := 51) hx hb dX8_ends_44 (by decide) (fun c_44 => ?_) (fun c_44 => ?_)
        · refine lv_aload_n hx hb dX8_ends_51 rfl (lv_at hl 0 rfl) ?_
          refine k_get (index := 88) (j := 0) (ad := ad) (k := 16) (i := 0) Z X ct_16 inlX8 rfl (by decide) (inU_13 _ (List.mem_of_getElem? (i := 6) rfl)) (fun _ h => h) (v := .int (T.1 0 0)) rfl dX8_ends_52 ?_
          refine lv_iload_n hx hb dX8_ends_55 rfl (lv_at hl 2 rfl) ?_
          refine lv_iadd hx hb dX8_ends_56 ?_
          exact W.eq (congrArg (fun z => F0 m 57 ls (.int z :: [.int (nI ju), .ref (ad 17 1)])) (by simp [vEnds, sI, c_44])) (M_57 H locs X)
        · refine lv_iconst (v := (-1)) hx hb dX8_ends_47 (by decide) ?_
          refine lv_goto (tgt := 57) hx hb dX8_ends_48 (by decide) ?_
          exact W.eq (congrArg (fun z => F0 m 57 ls (.int z :: [.int (nI ju), .ref (ad 17 1)])) (by simp [vEnds, sI, c_44])) (M_57 H locs X)
      · exact absurd c_32 (by decide)
  · have c_6 : inB xu (T.2 0 0) = false := bI_0 c_6
    refine lv_iconst (v := 1) hx hb dX8_ends_9 (by decide) ?_
    refine lv_goto (tgt := 29) hx hb dX8_ends_10 (by decide) ?_
    refine k_Ri X (k_runV (As := [.int 1]) (rest := []) Z X (c_X8_fails l E G S T o ad 1) (k_cwV 1 Z.1.2.2.2.2 (inU_9 _ (List.mem_of_getElem? (i := 2) rfl)) (inU_9 _ (List.mem_of_getElem? (i := 3) rfl)) (inU_9 _ (List.mem_of_getElem? (i := 4) rfl)) (inU_1 _ (List.mem_of_getElem? (i := 5) rfl)) (inU_9 _ (List.mem_of_getElem? (i := 5) rfl)) rfl rfl (by decide +kernel) ⟨Nat.le_of_ble_eq_true rfl, Nat.le_of_ble_eq_true rfl⟩) (k_recv Z X ct_16 rfl) rfl hl.1 rfl (Nat.le_of_ble_eq_true rfl) dX8_ends_29 ⟨Nat.le_of_ble_eq_true rfl, Nat.le_of_ble_eq_true rfl⟩) (fun r_29 ad1 ct1 H locs hp X => ?_)
    obtain ⟨rfl, rfl, rfl⟩ := hp
    refine lv_topi (fun x_29 e_29 => ?_)
    obtain rfl : x_29 = 1 := e_29.trans (by decide)
    refine lv_if_eq (tgt := 37) hx hb dX8_ends_32 (by decide) (fun c_32 => ?_) (fun c_32 => ?_)
    · exact absurd c_32 (by decide)
    · refine lv_iconst (v := 0) hx hb dX8_ends_35 (by decide) ?_
      have hk : cEnds T xu xh = 1 := by simp [cEnds, c_6, c_32]
      exact k_iret Z X hr hlocks rfl (Nat.le_of_ble_eq_true rfl) (Nat.le_of_ble_eq_true rfl) dX8_ends_36 ⟨fun h => absurd (hk.symm.trans h) (by decide), rfl, by rw [hk, if_neg (by decide)]⟩
theorem dX8_budget_0 : decode cX8_budget 0 = .ok (.iload_n 2, 1) := by decide +kernel
theorem dX8_budget_1 : decode cX8_budget 1 = .ok (.iconst 0, 1) := by decide +kernel
theorem dX8_budget_2 : decode cX8_budget 2 = .ok (.ldc 120, 2) := by decide +kernel
theorem dX8_budget_4 : decode cX8_budget 4 = .ok (.invokestatic 84, 3) := by decide +kernel
theorem dX8_budget_7 : decode cX8_budget 7 = .ok (.istore_n 3, 1) := by decide +kernel
theorem dX8_budget_8 : decode cX8_budget 8 = .ok (.aload_n 0, 1) := by decide +kernel
theorem dX8_budget_9 : decode cX8_budget 9 = .ok (.iload_n 1, 1) := by decide +kernel
theorem dX8_budget_10 : decode cX8_budget 10 = .ok (.invokestatic 121, 3) := by decide +kernel
theorem dX8_budget_13 : decode cX8_budget 13 = .ok (.ifCond .ne 7, 3) := by decide +kernel
theorem dX8_budget_16 : decode cX8_budget 16 = .ok (.iconst 1, 1) := by decide +kernel
theorem dX8_budget_17 : decode cX8_budget 17 = .ok (.goto 29, 3) := by decide +kernel
theorem dX8_budget_20 : decode cX8_budget 20 = .ok (.iload_n 3, 1) := by decide +kernel
theorem dX8_budget_21 : decode cX8_budget 21 = .ok (.ifCond .ne 7, 3) := by decide +kernel
theorem dX8_budget_24 : decode cX8_budget 24 = .ok (.iconst 2, 1) := by decide +kernel
theorem dX8_budget_25 : decode cX8_budget 25 = .ok (.goto 21, 3) := by decide +kernel
theorem dX8_budget_28 : decode cX8_budget 28 = .ok (.aload_n 0, 1) := by decide +kernel
theorem dX8_budget_29 : decode cX8_budget 29 = .ok (.getfield 16, 3) := by decide +kernel
theorem dX8_budget_32 : decode cX8_budget 32 = .ok (.iload_n 1, 1) := by decide +kernel
theorem dX8_budget_33 : decode cX8_budget 33 = .ok (.iaload, 1) := by decide +kernel
theorem dX8_budget_34 : decode cX8_budget 34 = .ok (.iload_n 2, 1) := by decide +kernel
theorem dX8_budget_35 : decode cX8_budget 35 = .ok (.iadd, 1) := by decide +kernel
theorem dX8_budget_36 : decode cX8_budget 36 = .ok (.ldc 124, 2) := by decide +kernel
theorem dX8_budget_38 : decode cX8_budget 38 = .ok (.if_icmp .le 7, 3) := by decide +kernel
theorem dX8_budget_41 : decode cX8_budget 41 = .ok (.iconst 3, 1) := by decide +kernel
theorem dX8_budget_42 : decode cX8_budget 42 = .ok (.goto 4, 3) := by decide +kernel
theorem dX8_budget_45 : decode cX8_budget 45 = .ok (.iconst 0, 1) := by decide +kernel
theorem dX8_budget_46 : decode cX8_budget 46 = .ok (.invokevirtual 111, 3) := by decide +kernel
theorem dX8_budget_49 : decode cX8_budget 49 = .ok (.ifCond .eq 5, 3) := by decide +kernel
theorem dX8_budget_52 : decode cX8_budget 52 = .ok (.iconst 0, 1) := by decide +kernel
theorem dX8_budget_53 : decode cX8_budget 53 = .ok (.ireturn, 1) := by decide +kernel
theorem dX8_budget_54 : decode cX8_budget 54 = .ok (.aload_n 0, 1) := by decide +kernel
theorem dX8_budget_55 : decode cX8_budget 55 = .ok (.getfield 16, 3) := by decide +kernel
theorem dX8_budget_58 : decode cX8_budget 58 = .ok (.iload_n 1, 1) := by decide +kernel
theorem dX8_budget_59 : decode cX8_budget 59 = .ok (.dup2, 1) := by decide +kernel
theorem dX8_budget_60 : decode cX8_budget 60 = .ok (.iaload, 1) := by decide +kernel
theorem dX8_budget_61 : decode cX8_budget 61 = .ok (.iload_n 2, 1) := by decide +kernel
theorem dX8_budget_62 : decode cX8_budget 62 = .ok (.iadd, 1) := by decide +kernel
theorem dX8_budget_63 : decode cX8_budget 63 = .ok (.iastore, 1) := by decide +kernel
theorem dX8_budget_64 : decode cX8_budget 64 = .ok (.aload_n 0, 1) := by decide +kernel
theorem dX8_budget_65 : decode cX8_budget 65 = .ok (.getfield 16, 3) := by decide +kernel
theorem dX8_budget_68 : decode cX8_budget 68 = .ok (.iload_n 1, 1) := by decide +kernel
theorem dX8_budget_69 : decode cX8_budget 69 = .ok (.iaload, 1) := by decide +kernel
theorem dX8_budget_70 : decode cX8_budget 70 = .ok (.ireturn, 1) := by decide +kernel
set_option maxHeartbeats 4000000 in
set_option maxRecDepth 100000 in
theorem c_X8_budget (l : Launch) (E : State) (G : kG) (S T : kSt) (o : Int64) (ad : kAd) (xc xb : Int32) (hT : okN T) : Met l yX8_budget (.code yX8_budget cX8_budget 4 (some .int) :: wsL_law) ({ frames := 4, cells := 0, slots := 0, locals := 90 } : Room) (va_Pc [.ref (ad 16 0), .int xc, .int xb] (kPre E G ad (cto G S T o ad))) (kQi E G (fun r ad1 ct1 => (cBudget T xc xb = 0 → r = T.1 3 (cl xc) + xb) ∧ ad = ad1 ∧ ct1 = cto G S (if cBudget T xc xb = 0 then oBudget (sI T 24 0 0) xc xb else sI T 24 0 (cBudget T xc xb)) o ad)) 0 0 (kB E.heap.size) := by
  refine Met.ofW (cc := cX8_budget) (maxL := 4) (ret := (some .int)) (by decide) rfl ?_
  intro p e s m args below meth c s₁ B hml hv
  obtain ⟨rfl, hM, hK, hW0⟩ := hv
  have hlocks := B.notSynchronized
  have hr := B.returns
  have Z : kZ p m c cX8_budget 4 s _ wsL_law RX8 E G := ⟨⟨B.exec, B.bytes, hml, findClass_of_methodNamed B.named, fun w h => atoms_spec (ws := .code yX8_budget cX8_budget 4 (some .int) :: wsL_law) B.pre w (List.mem_cons_of_mem _ h)⟩, hM, hK⟩
  have hx := Z.1.1
  have hb := Z.1.2.1
  have X := kX.of hW0
  have hl := lv_entry ([.ref (ad 16 0), .int xc, .int xb]) (n := 4) (Nat.le_of_ble_eq_true rfl)
  rw [lg_entry_eq]
  generalize (lg_sl ([.ref (ad 16 0), .int xc, .int xb]) ++ List.replicate (4 - (lg_sl ([.ref (ad 16 0), .int xc, .int xb])).length) Slot.unset).toArray = ls at hl ⊢
  have hl : lv_has ls 4 [(0, .ref (ad 16 0)), (1, .int xc), (2, .int xb)] := hl
  have hT0 := hT
  obtain ⟨hT1, hT2, hT3, hT4, hT5, hT6, hT7⟩ := hT0
  refine lv_iload_n hx hb dX8_budget_0 rfl (lv_at hl 2 rfl) ?_
  refine lv_iconst (v := 0) hx hb dX8_budget_1 (by decide) ?_
  refine lv_ldc (v := 1000000) hx hb Z.1.2.2.2.1 (Z.1.2.2.2.2 _ (inU_14 _ (List.mem_of_getElem? (i := 13) rfl))) dX8_budget_2 ?_
  refine k_Ri X (k_runS (As := [.int xb, .int 0, .int 1000000]) (rest := []) Z X (c_X8_isIn l E G S T o ad xb 0 1000000) (k_cwS 3 Z.1.2.2.2.2 (inU_8 _ (List.mem_of_getElem? (i := 23) rfl)) (inU_9 _ (List.mem_of_getElem? (i := 0) rfl)) (inU_1 _ (List.mem_of_getElem? (i := 5) rfl)) (inU_9 _ (List.mem_of_getElem? (i := 1) rfl)) rfl rfl (by decide +kernel) ⟨Nat.le_of_ble_eq_true rfl, Nat.le_of_ble_eq_true rfl⟩) rfl hl.1 rfl (Nat.le_of_ble_eq_true rfl) dX8_budget_4 ⟨Nat.le_of_ble_eq_true rfl, Nat.le_of_ble_eq_true rfl⟩) (fun r_4 ad1 ct1 H locs hp X => ?_)
  obtain ⟨rfl, rfl, rfl⟩ := hp
  refine lv_istore_n (lv' := [(3, .int (bI (inR xb 0 1000000))), (0, .ref (ad 16 0)), (1, .int xc), (2, .int xb)]) hx hb dX8_budget_7 rfl hl (by decide) rfl (fun ls hl => ?_)
  refine lv_aload_n hx hb dX8_budget_8 rfl (lv_at hl 1 rfl) ?_
  refine lv_iload_n hx hb dX8_budget_9 rfl (lv_at hl 2 rfl) ?_
  refine k_Ri X (k_runS (As := [.int xc]) (rest := [.ref (ad 16 0)]) Z X (c_X8_isChannel l E G S T o ad xc) (k_cwS 1 Z.1.2.2.2.2 (inU_14 _ (List.mem_of_getElem? (i := 15) rfl)) (inU_14 _ (List.mem_of_getElem? (i := 16) rfl)) (inU_1 _ (List.mem_of_getElem? (i := 5) rfl)) (inU_14 _ (List.mem_of_getElem? (i := 17) rfl)) rfl rfl (by decide +kernel) ⟨Nat.le_of_ble_eq_true rfl, Nat.le_of_ble_eq_true rfl⟩) rfl hl.1 rfl (Nat.le_of_ble_eq_true rfl) dX8_budget_10 ⟨Nat.le_of_ble_eq_true rfl, Nat.le_of_ble_eq_true rfl⟩) (fun r_10 ad1 ct1 H locs hp X => ?_)
  obtain ⟨rfl, rfl, rfl⟩ := hp
  refine lv_if_ne (tgt := 20) hx hb dX8_budget_13 (by decide) (fun c_13 => ?_) (fun c_13 => ?_)
  · have c_13 : inB xc 6 = true := (chan_inB xc).symm.trans (bI_1 c_13)
    obtain ⟨jc, hjc, hxc⟩ := inB_of c_13 (by decide)
    subst hxc
    have hcc : cl (nI jc) = jc := nI_clamp (by omega)
    refine lv_iload_n hx hb dX8_budget_20 rfl (lv_at hl 0 rfl) ?_
    refine lv_if_ne (tgt := 28) hx hb dX8_budget_21 (by decide) (fun c_21 => ?_) (fun c_21 => ?_)
    · have c_21 : (inR xb 0 1000000) = true := bI_1 c_21
      refine lv_aload_n hx hb dX8_budget_28 rfl (lv_at hl 1 rfl) ?_
      refine k_get (index := 16) (j := 4) (ad := ad) (k := 16) (i := 0) Z X ct_16 inlX8 rfl (by decide) (inU_6 _ (List.mem_of_getElem? (i := 8) rfl)) (fun _ h => h) (v := .ref (ad 17 2)) rfl dX8_budget_29 ?_
      refine lv_iload_n hx hb dX8_budget_32 rfl (lv_at hl 2 rfl) ?_
      refine k_ild (ad := ad) (k := 17) (i := 2) Z X ct_17_2 (vp_in_nI (by first | assumption | omega) (by decide)) dX8_budget_33 ?_
      refine lv_topi (fun x_33 e_33 => ?_)
      obtain rfl : x_33 = T.1 3 jc := e_33.trans (by first | (simp only [nI_clamp (show jc < 2 ^ 31 by omega)]; done) | (simp only [nI_clamp (show jc < 2 ^ 31 by omega)]; rfl) | (simp only [nI_clamp (show jc < 2 ^ 31 by omega)]; simp [sI, sN]; done))
      refine lv_iload_n hx hb dX8_budget_34 rfl (lv_at hl 3 rfl) ?_
      refine lv_iadd hx hb dX8_budget_35 ?_
      refine lv_ldc (v := 1000000000) hx hb Z.1.2.2.2.1 (Z.1.2.2.2.2 _ (inU_14 _ (List.mem_of_getElem? (i := 14) rfl))) dX8_budget_36 ?_
      refine lv_icmp_le (tgt := 45) hx hb dX8_budget_38 (by decide) (fun c_38 => ?_) (fun c_38 => ?_)
      · have c_38 : ¬ (1000000000 : Int32) < T.1 3 jc + xb := Int32.not_lt.mpr c_38
        refine lv_iconst (v := 0) hx hb dX8_budget_45 (by decide) ?_
        refine k_Ri X (k_runV (As := [.int 0]) (rest := []) Z X (c_X8_fails l E G S T o ad 0) (k_cwV 1 Z.1.2.2.2.2 (inU_9 _ (List.mem_of_getElem? (i := 2) rfl)) (inU_9 _ (List.mem_of_getElem? (i := 3) rfl)) (inU_9 _ (List.mem_of_getElem? (i := 4) rfl)) (inU_1 _ (List.mem_of_getElem? (i := 5) rfl)) (inU_9 _ (List.mem_of_getElem? (i := 5) rfl)) rfl rfl (by decide +kernel) ⟨Nat.le_of_ble_eq_true rfl, Nat.le_of_ble_eq_true rfl⟩) (k_recv Z X ct_16 rfl) rfl hl.1 rfl (Nat.le_of_ble_eq_true rfl) dX8_budget_46 ⟨Nat.le_of_ble_eq_true rfl, Nat.le_of_ble_eq_true rfl⟩) (fun r_46 ad1 ct1 H locs hp X => ?_)
        obtain ⟨rfl, rfl, rfl⟩ := hp
        refine lv_topi (fun x_46 e_46 => ?_)
        obtain rfl : x_46 = 0 := e_46.trans (by decide)
        refine lv_if_eq (tgt := 54) hx hb dX8_budget_49 (by decide) (fun c_49 => ?_) (fun c_49 => ?_)
        · refine lv_aload_n hx hb dX8_budget_54 rfl (lv_at hl 1 rfl) ?_
          refine k_get (index := 16) (j := 4) (ad := ad) (k := 16) (i := 0) Z X ct_16 inlX8 rfl (by decide) (inU_6 _ (List.mem_of_getElem? (i := 8) rfl)) (fun _ h => h) (v := .ref (ad 17 2)) rfl dX8_budget_55 ?_
          refine lv_iload_n hx hb dX8_budget_58 rfl (lv_at hl 2 rfl) ?_
          refine lv_dup2_11 hx hb dX8_budget_59 rfl rfl ?_
          refine k_ild (ad := ad) (k := 17) (i := 2) Z X ct_17_2 (vp_in_nI (by first | assumption | omega) (by decide)) dX8_budget_60 ?_
          refine lv_topi (fun x_60 e_60 => ?_)
          obtain rfl : x_60 = T.1 3 jc := e_60.trans (by first | (simp only [nI_clamp (show jc < 2 ^ 31 by omega)]; done) | (simp only [nI_clamp (show jc < 2 ^ 31 by omega)]; rfl) | (simp only [nI_clamp (show jc < 2 ^ 31 by omega)]; simp [sI, sN]; done))
          refine lv_iload_n hx hb dX8_budget_61 rfl (lv_at hl 3 rfl) ?_
          refine lv_iadd hx hb dX8_budget_62 ?_
          refine k_ist (ad := ad) (k := 17) (i := 2) Z X ct_17_2 (vp_in_nI (by first | assumption | omega) (by decide)) dX8_budget_63 (fun H locs X => ?_)
          have X : kX E G s H locs ad (cto G S (sI (sI T 24 0 0) 3 jc ((T.1 3 jc) + xb)) o ad) := X.eq (st_17_2 _ _ (by omega))
          refine lv_aload_n hx hb dX8_budget_64 rfl (lv_at hl 1 rfl) ?_
          refine k_get (index := 16) (j := 4) (ad := ad) (k := 16) (i := 0) Z X ct_16 inlX8 rfl (by decide) (inU_6 _ (List.mem_of_getElem? (i := 8) rfl)) (fun _ h => h) (v := .ref (ad 17 2)) rfl dX8_budget_65 ?_
          refine lv_iload_n hx hb dX8_budget_68 rfl (lv_at hl 2 rfl) ?_
          refine k_ild (ad := ad) (k := 17) (i := 2) Z X ct_17_2 (vp_in_nI (by first | assumption | omega) (by decide)) dX8_budget_69 ?_
          refine lv_topi (fun x_69 e_69 => ?_)
          obtain rfl : x_69 = (T.1 3 jc) + xb := e_69.trans (by first | (simp only [nI_clamp (show jc < 2 ^ 31 by omega)]; done) | (simp only [nI_clamp (show jc < 2 ^ 31 by omega)]; rfl) | (simp only [nI_clamp (show jc < 2 ^ 31 by omega)]; simp [sI, sN]; done))
          have hk : cBudget T (nI jc) xb = 0 := by simp [cBudget, hcc, c_13, c_21, c_38, c_49]
          exact k_iret Z X hr hlocks rfl (Nat.le_of_ble_eq_true rfl) (Nat.le_of_ble_eq_true rfl) dX8_budget_70 ⟨fun _ => by rw [hcc], rfl, (congrArg (fun z => cto G S z o ad) (show (sI (sI T 24 0 0) 3 jc ((T.1 3 jc) + xb)) = oBudget (sI T 24 0 0) (nI jc) xb from by simp only [oBudget, hcc, sI_f (show (3 : Nat) ≠ 24 by decide)])).trans (by rw [if_pos hk])⟩
        · exact absurd c_49 (by decide)
      · have c_38 : (1000000000 : Int32) < T.1 3 jc + xb := Int32.not_le.mp c_38
        refine lv_iconst (v := 3) hx hb dX8_budget_41 (by decide) ?_
        refine lv_goto (tgt := 46) hx hb dX8_budget_42 (by decide) ?_
        refine k_Ri X (k_runV (As := [.int 3]) (rest := []) Z X (c_X8_fails l E G S T o ad 3) (k_cwV 1 Z.1.2.2.2.2 (inU_9 _ (List.mem_of_getElem? (i := 2) rfl)) (inU_9 _ (List.mem_of_getElem? (i := 3) rfl)) (inU_9 _ (List.mem_of_getElem? (i := 4) rfl)) (inU_1 _ (List.mem_of_getElem? (i := 5) rfl)) (inU_9 _ (List.mem_of_getElem? (i := 5) rfl)) rfl rfl (by decide +kernel) ⟨Nat.le_of_ble_eq_true rfl, Nat.le_of_ble_eq_true rfl⟩) (k_recv Z X ct_16 rfl) rfl hl.1 rfl (Nat.le_of_ble_eq_true rfl) dX8_budget_46 ⟨Nat.le_of_ble_eq_true rfl, Nat.le_of_ble_eq_true rfl⟩) (fun r_46 ad1 ct1 H locs hp X => ?_)
        obtain ⟨rfl, rfl, rfl⟩ := hp
        refine lv_topi (fun x_46 e_46 => ?_)
        obtain rfl : x_46 = 1 := e_46.trans (by decide)
        refine lv_if_eq (tgt := 54) hx hb dX8_budget_49 (by decide) (fun c_49 => ?_) (fun c_49 => ?_)
        · exact absurd c_49 (by decide)
        · refine lv_iconst (v := 0) hx hb dX8_budget_52 (by decide) ?_
          have hk : cBudget T (nI jc) xb = 3 := by simp [cBudget, hcc, c_13, c_21, c_38, c_49]
          exact k_iret Z X hr hlocks rfl (Nat.le_of_ble_eq_true rfl) (Nat.le_of_ble_eq_true rfl) dX8_budget_53 ⟨fun h => absurd (hk.symm.trans h) (by decide), rfl, by rw [hk, if_neg (by decide)]⟩
    · have c_21 : (inR xb 0 1000000) = false := bI_0 c_21
      refine lv_iconst (v := 2) hx hb dX8_budget_24 (by decide) ?_
      refine lv_goto (tgt := 46) hx hb dX8_budget_25 (by decide) ?_
      refine k_Ri X (k_runV (As := [.int 2]) (rest := []) Z X (c_X8_fails l E G S T o ad 2) (k_cwV 1 Z.1.2.2.2.2 (inU_9 _ (List.mem_of_getElem? (i := 2) rfl)) (inU_9 _ (List.mem_of_getElem? (i := 3) rfl)) (inU_9 _ (List.mem_of_getElem? (i := 4) rfl)) (inU_1 _ (List.mem_of_getElem? (i := 5) rfl)) (inU_9 _ (List.mem_of_getElem? (i := 5) rfl)) rfl rfl (by decide +kernel) ⟨Nat.le_of_ble_eq_true rfl, Nat.le_of_ble_eq_true rfl⟩) (k_recv Z X ct_16 rfl) rfl hl.1 rfl (Nat.le_of_ble_eq_true rfl) dX8_budget_46 ⟨Nat.le_of_ble_eq_true rfl, Nat.le_of_ble_eq_true rfl⟩) (fun r_46 ad1 ct1 H locs hp X => ?_)
      obtain ⟨rfl, rfl, rfl⟩ := hp
      refine lv_topi (fun x_46 e_46 => ?_)
      obtain rfl : x_46 = 1 := e_46.trans (by decide)
      refine lv_if_eq (tgt := 54) hx hb dX8_budget_49 (by decide) (fun c_49 => ?_) (fun c_49 => ?_)
      · exact absurd c_49 (by decide)
      · refine lv_iconst (v := 0) hx hb dX8_budget_52 (by decide) ?_
        have hk : cBudget T (nI jc) xb = 2 := by simp [cBudget, hcc, c_13, c_21, c_49]
        exact k_iret Z X hr hlocks rfl (Nat.le_of_ble_eq_true rfl) (Nat.le_of_ble_eq_true rfl) dX8_budget_53 ⟨fun h => absurd (hk.symm.trans h) (by decide), rfl, by rw [hk, if_neg (by decide)]⟩
  · have c_13 : inB xc 6 = false := (chan_inB xc).symm.trans (bI_0 c_13)
    refine lv_iconst (v := 1) hx hb dX8_budget_16 (by decide) ?_
    refine lv_goto (tgt := 46) hx hb dX8_budget_17 (by decide) ?_
    refine k_Ri X (k_runV (As := [.int 1]) (rest := []) Z X (c_X8_fails l E G S T o ad 1) (k_cwV 1 Z.1.2.2.2.2 (inU_9 _ (List.mem_of_getElem? (i := 2) rfl)) (inU_9 _ (List.mem_of_getElem? (i := 3) rfl)) (inU_9 _ (List.mem_of_getElem? (i := 4) rfl)) (inU_1 _ (List.mem_of_getElem? (i := 5) rfl)) (inU_9 _ (List.mem_of_getElem? (i := 5) rfl)) rfl rfl (by decide +kernel) ⟨Nat.le_of_ble_eq_true rfl, Nat.le_of_ble_eq_true rfl⟩) (k_recv Z X ct_16 rfl) rfl hl.1 rfl (Nat.le_of_ble_eq_true rfl) dX8_budget_46 ⟨Nat.le_of_ble_eq_true rfl, Nat.le_of_ble_eq_true rfl⟩) (fun r_46 ad1 ct1 H locs hp X => ?_)
    obtain ⟨rfl, rfl, rfl⟩ := hp
    refine lv_topi (fun x_46 e_46 => ?_)
    obtain rfl : x_46 = 1 := e_46.trans (by decide)
    refine lv_if_eq (tgt := 54) hx hb dX8_budget_49 (by decide) (fun c_49 => ?_) (fun c_49 => ?_)
    · exact absurd c_49 (by decide)
    · refine lv_iconst (v := 0) hx hb dX8_budget_52 (by decide) ?_
      have hk : cBudget T xc xb = 1 := by simp [cBudget, c_13, c_49]
      exact k_iret Z X hr hlocks rfl (Nat.le_of_ble_eq_true rfl) (Nat.le_of_ble_eq_true rfl) dX8_budget_53 ⟨fun h => absurd (hk.symm.trans h) (by decide), rfl, by rw [hk, if_neg (by decide)]⟩
end
