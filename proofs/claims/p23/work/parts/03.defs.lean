def RX0 : String := "MarkChat$Channel"
def TX0 : u_T := fun k => match k with
  | 0 => ("MarkChat$Channel", "number", "I", true)
  | 1 => ("MarkChat$Channel", "cents", "I", false)
  | _ => ("MarkChat$Channel", "isOnHold", "Z", false)
def tyX0 : Nat → FieldType := fun k => match k with
  | 0 => .int
  | 1 => .int
  | _ => .boolean
abbrev wsX00 : List Cond := u_ws RX0 TX0 3
theorem nmX0 : ∀ a, a < 3 → ∀ b, b < 3 → a ≠ b → (TX0 a).2.1 ≠ (TX0 b).2.1 := by decide +kernel
theorem tyX0_ok : ∀ k, k < 3 → parseFieldDescriptor (TX0 k).2.2.1 = some (tyX0 k) := by decide +kernel
abbrev cX0_init : ByteArray := prog_2_method_1_code
def yX0_init : MethodName := ⟨RX0, "<init>", "(I)V"⟩
def RX1 : String := "MarkChat$Log"
def TX1 : u_T := fun k => match k with
  | 0 => ("MarkChat$Log", "messages", "[I", true)
  | 1 => ("MarkChat$Log", "users", "[I", true)
  | 2 => ("MarkChat$Log", "kinds", "[I", true)
  | _ => ("MarkChat$Log", "size", "I", false)
def tyX1 : Nat → FieldType := fun k => match k with
  | 0 => .array .int
  | 1 => .array .int
  | 2 => .array .int
  | _ => .int
abbrev wsX10 : List Cond := u_ws RX1 TX1 4
theorem nmX1 : ∀ a, a < 4 → ∀ b, b < 4 → a ≠ b → (TX1 a).2.1 ≠ (TX1 b).2.1 := by decide +kernel
theorem tyX1_ok : ∀ k, k < 4 → parseFieldDescriptor (TX1 k).2.2.1 = some (tyX1 k) := by decide +kernel
abbrev cX1_init : ByteArray := prog_3_method_1_code
def yX1_init : MethodName := ⟨RX1, "<init>", "()V"⟩
abbrev cX1_writeEdit : ByteArray := prog_3_method_2_code
def yX1_writeEdit : MethodName := ⟨RX1, "writeEdit", "(I)V"⟩
abbrev cX1_writeMark : ByteArray := prog_3_method_3_code
def yX1_writeMark : MethodName := ⟨RX1, "writeMark", "(III)V"⟩
abbrev cX1_write : ByteArray := prog_3_method_4_code
def yX1_write : MethodName := ⟨RX1, "write", "(III)V"⟩
abbrev cX1_readInto : ByteArray := prog_3_method_5_code
def yX1_readInto : MethodName := ⟨RX1, "readInto", "(LMarkChat$Marks;I)V"⟩
def RX2 : String := "MarkChat$Marks"
def TX2 : u_T := fun k => match k with
  | _ => ("MarkChat$Marks", "kinds", "[I", true)
def tyX2 : Nat → FieldType := fun k => match k with
  | _ => .array .int
abbrev wsX20 : List Cond := u_ws RX2 TX2 1
theorem nmX2 : ∀ a, a < 1 → ∀ b, b < 1 → a ≠ b → (TX2 a).2.1 ≠ (TX2 b).2.1 := by decide +kernel
theorem tyX2_ok : ∀ k, k < 1 → parseFieldDescriptor (TX2 k).2.2.1 = some (tyX2 k) := by decide +kernel
abbrev cX2_init : ByteArray := prog_4_method_1_code
def yX2_init : MethodName := ⟨RX2, "<init>", "()V"⟩
abbrev cX2_kindOf : ByteArray := prog_4_method_2_code
def yX2_kindOf : MethodName := ⟨RX2, "kindOf", "(I)I"⟩
abbrev cX2_put : ByteArray := prog_4_method_3_code
def yX2_put : MethodName := ⟨RX2, "put", "(II)V"⟩
abbrev cX2_clear : ByteArray := prog_4_method_4_code
def yX2_clear : MethodName := ⟨RX2, "clear", "()V"⟩
def RX3 : String := "MarkChat$Message"
def TX3 : u_T := fun k => match k with
  | 0 => ("MarkChat$Message", "number", "I", true)
  | 1 => ("MarkChat$Message", "author", "LMarkChat$User;", true)
  | 2 => ("MarkChat$Message", "channel", "LMarkChat$Channel;", true)
  | 3 => ("MarkChat$Message", "parent", "I", true)
  | 4 => ("MarkChat$Message", "postHour", "I", true)
  | 5 => ("MarkChat$Message", "marks", "LMarkChat$Marks;", true)
  | 6 => ("MarkChat$Message", "version", "I", false)
  | _ => ("MarkChat$Message", "isArchived", "Z", false)
def tyX3 : Nat → FieldType := fun k => match k with
  | 0 => .int
  | 1 => .object "MarkChat$User"
  | 2 => .object "MarkChat$Channel"
  | 3 => .int
  | 4 => .int
  | 5 => .object "MarkChat$Marks"
  | 6 => .int
  | _ => .boolean
abbrev wsX30 : List Cond := u_ws RX3 TX3 8
theorem nmX3 : ∀ a, a < 8 → ∀ b, b < 8 → a ≠ b → (TX3 a).2.1 ≠ (TX3 b).2.1 := by decide +kernel
theorem tyX3_ok : ∀ k, k < 8 → parseFieldDescriptor (TX3 k).2.2.1 = some (tyX3 k) := by decide +kernel
abbrev cX3_init : ByteArray := prog_5_method_1_code
def yX3_init : MethodName := ⟨RX3, "<init>", "(ILMarkChat$User;LMarkChat$Channel;II)V"⟩
def RX4 : String := "MarkChat$Spend"
def TX4 : u_T := fun k => match k with
  | 0 => ("MarkChat$Spend", "number", "I", true)
  | 1 => ("MarkChat$Spend", "message", "LMarkChat$Message;", true)
  | 2 => ("MarkChat$Spend", "version", "I", true)
  | 3 => ("MarkChat$Spend", "amount", "I", true)
  | _ => ("MarkChat$Spend", "state", "I", false)
def tyX4 : Nat → FieldType := fun k => match k with
  | 0 => .int
  | 1 => .object "MarkChat$Message"
  | 2 => .int
  | 3 => .int
  | _ => .int
abbrev wsX40 : List Cond := u_ws RX4 TX4 5
theorem nmX4 : ∀ a, a < 5 → ∀ b, b < 5 → a ≠ b → (TX4 a).2.1 ≠ (TX4 b).2.1 := by decide +kernel
theorem tyX4_ok : ∀ k, k < 5 → parseFieldDescriptor (TX4 k).2.2.1 = some (tyX4 k) := by decide +kernel
abbrev cX4_init : ByteArray := prog_6_method_1_code
def yX4_init : MethodName := ⟨RX4, "<init>", "(ILMarkChat$Message;I)V"⟩
def RX5 : String := "MarkChat$Task"
def TX5 : u_T := fun k => match k with
  | 0 => ("MarkChat$Task", "number", "I", true)
  | 1 => ("MarkChat$Task", "message", "I", true)
  | 2 => ("MarkChat$Task", "doer", "LMarkChat$User;", true)
  | 3 => ("MarkChat$Task", "untilHour", "I", true)
  | 4 => ("MarkChat$Task", "text", "Ljava/lang/String;", true)
  | _ => ("MarkChat$Task", "state", "I", false)
def tyX5 : Nat → FieldType := fun k => match k with
  | 0 => .int
  | 1 => .int
  | 2 => .object "MarkChat$User"
  | 3 => .int
  | 4 => .object "java/lang/String"
  | _ => .int
abbrev wsX50 : List Cond := u_ws RX5 TX5 6
theorem nmX5 : ∀ a, a < 6 → ∀ b, b < 6 → a ≠ b → (TX5 a).2.1 ≠ (TX5 b).2.1 := by decide +kernel
theorem tyX5_ok : ∀ k, k < 6 → parseFieldDescriptor (TX5 k).2.2.1 = some (tyX5 k) := by decide +kernel
abbrev cX5_init : ByteArray := prog_7_method_1_code
def yX5_init : MethodName := ⟨RX5, "<init>", "(ILMarkChat$Message;LMarkChat$User;I)V"⟩
abbrev cX5_isOpenFor : ByteArray := prog_7_method_2_code
def yX5_isOpenFor : MethodName := ⟨RX5, "isOpenFor", "(LMarkChat$User;)Z"⟩
abbrev cX5_comesBefore : ByteArray := prog_7_method_3_code
def yX5_comesBefore : MethodName := ⟨RX5, "comesBefore", "(LMarkChat$Task;)Z"⟩
def RX6 : String := "MarkChat$User"
def TX6 : u_T := fun k => match k with
  | 0 => ("MarkChat$User", "number", "I", true)
  | 1 => ("MarkChat$User", "rank", "I", false)
  | _ => ("MarkChat$User", "endHour", "I", false)
def tyX6 : Nat → FieldType := fun k => match k with
  | 0 => .int
  | 1 => .int
  | _ => .int
abbrev wsX60 : List Cond := u_ws RX6 TX6 3
theorem nmX6 : ∀ a, a < 3 → ∀ b, b < 3 → a ≠ b → (TX6 a).2.1 ≠ (TX6 b).2.1 := by decide +kernel
theorem tyX6_ok : ∀ k, k < 3 → parseFieldDescriptor (TX6 k).2.2.1 = some (tyX6 k) := by decide +kernel
abbrev cX6_init : ByteArray := prog_8_method_1_code
def yX6_init : MethodName := ⟨RX6, "<init>", "(II)V"⟩
abbrev cX6_isGoneAt : ByteArray := prog_8_method_2_code
def yX6_isGoneAt : MethodName := ⟨RX6, "isGoneAt", "(I)Z"⟩
abbrev cX6_countsAt : ByteArray := prog_8_method_3_code
def yX6_countsAt : MethodName := ⟨RX6, "countsAt", "(I)Z"⟩
def RX7 : String := "MarkChat"
def TX7 : u_T := fun k => match k with
  | 0 => ("MarkChat", "channels", "Ljava/util/ArrayList;", true)
  | 1 => ("MarkChat", "users", "Ljava/util/ArrayList;", true)
  | 2 => ("MarkChat", "messages", "Ljava/util/ArrayList;", true)
  | 3 => ("MarkChat", "spends", "Ljava/util/ArrayList;", true)
  | 4 => ("MarkChat", "tasks", "Ljava/util/ArrayList;", true)
  | 5 => ("MarkChat", "log", "LMarkChat$Log;", true)
  | 6 => ("MarkChat", "marksAnew", "LMarkChat$Marks;", true)
  | _ => ("MarkChat", "hour", "I", false)
def tyX7 : Nat → FieldType := fun k => match k with
  | 0 => .object "java/util/ArrayList"
  | 1 => .object "java/util/ArrayList"
  | 2 => .object "java/util/ArrayList"
  | 3 => .object "java/util/ArrayList"
  | 4 => .object "java/util/ArrayList"
  | 5 => .object "MarkChat$Log"
  | 6 => .object "MarkChat$Marks"
  | _ => .int
abbrev wsX70 : List Cond := u_ws RX7 TX7 8
theorem nmX7 : ∀ a, a < 8 → ∀ b, b < 8 → a ≠ b → (TX7 a).2.1 ≠ (TX7 b).2.1 := by decide +kernel
theorem tyX7_ok : ∀ k, k < 8 → parseFieldDescriptor (TX7 k).2.2.1 = some (tyX7 k) := by decide +kernel
abbrev cX7_init : ByteArray := prog_1_method_1_code
def yX7_init : MethodName := ⟨RX7, "<init>", "()V"⟩
abbrev cX7_user : ByteArray := prog_1_method_2_code
def yX7_user : MethodName := ⟨RX7, "user", "(I)I"⟩
abbrev cX7_role : ByteArray := prog_1_method_3_code
def yX7_role : MethodName := ⟨RX7, "role", "(II)I"⟩
abbrev cX7_ends : ByteArray := prog_1_method_4_code
def yX7_ends : MethodName := ⟨RX7, "ends", "(II)I"⟩
abbrev cX7_budget : ByteArray := prog_1_method_5_code
def yX7_budget : MethodName := ⟨RX7, "budget", "(II)I"⟩
abbrev cX7_post : ByteArray := prog_1_method_6_code
def yX7_post : MethodName := ⟨RX7, "post", "(III)I"⟩
abbrev cX7_edit : ByteArray := prog_1_method_7_code
def yX7_edit : MethodName := ⟨RX7, "edit", "(II)I"⟩
abbrev cX7_mark : ByteArray := prog_1_method_8_code
def yX7_mark : MethodName := ⟨RX7, "mark", "(III)I"⟩
abbrev cX7_spend : ByteArray := prog_1_method_9_code
def yX7_spend : MethodName := ⟨RX7, "spend", "(III)I"⟩
abbrev cX7_task : ByteArray := prog_1_method_10_code
def yX7_task : MethodName := ⟨RX7, "task", "(IIII)I"⟩
abbrev cX7_done : ByteArray := prog_1_method_11_code
def yX7_done : MethodName := ⟨RX7, "done", "(II)I"⟩
abbrev cX7_hold : ByteArray := prog_1_method_12_code
def yX7_hold : MethodName := ⟨RX7, "hold", "(I)Z"⟩
abbrev cX7_archive : ByteArray := prog_1_method_13_code
def yX7_archive : MethodName := ⟨RX7, "archive", "(I)I"⟩
abbrev cX7_pass : ByteArray := prog_1_method_14_code
def yX7_pass : MethodName := ⟨RX7, "pass", "(I)I"⟩
abbrev cX7_messageOf : ByteArray := prog_1_method_15_code
def yX7_messageOf : MethodName := ⟨RX7, "messageOf", "(II)I"⟩
abbrev cX7_isApproved : ByteArray := prog_1_method_16_code
def yX7_isApproved : MethodName := ⟨RX7, "isApproved", "(IIZ)Z"⟩
abbrev cX7_spendOf : ByteArray := prog_1_method_17_code
def yX7_spendOf : MethodName := ⟨RX7, "spendOf", "(II)I"⟩
abbrev cX7_left : ByteArray := prog_1_method_18_code
def yX7_left : MethodName := ⟨RX7, "left", "(I)I"⟩
abbrev cX7_next : ByteArray := prog_1_method_19_code
def yX7_next : MethodName := ⟨RX7, "next", "(II)I"⟩
abbrev cX7_taskOf : ByteArray := prog_1_method_20_code
def yX7_taskOf : MethodName := ⟨RX7, "taskOf", "(I)I"⟩
abbrev cX7_label : ByteArray := prog_1_method_21_code
def yX7_label : MethodName := ⟨RX7, "label", "(II)C"⟩
abbrev cX7_userAt : ByteArray := prog_1_method_22_code
def yX7_userAt : MethodName := ⟨RX7, "userAt", "(I)LMarkChat$User;"⟩
abbrev cX7_channelAt : ByteArray := prog_1_method_23_code
def yX7_channelAt : MethodName := ⟨RX7, "channelAt", "(I)LMarkChat$Channel;"⟩
abbrev cX7_messageAt : ByteArray := prog_1_method_24_code
def yX7_messageAt : MethodName := ⟨RX7, "messageAt", "(I)LMarkChat$Message;"⟩
abbrev cX7_spendAt : ByteArray := prog_1_method_25_code
def yX7_spendAt : MethodName := ⟨RX7, "spendAt", "(I)LMarkChat$Spend;"⟩
abbrev cX7_taskAt : ByteArray := prog_1_method_26_code
def yX7_taskAt : MethodName := ⟨RX7, "taskAt", "(I)LMarkChat$Task;"⟩
abbrev cX7_checkRange : ByteArray := prog_1_method_27_code
def yX7_checkRange : MethodName := ⟨RX7, "checkRange", "(III)V"⟩
abbrev cX7_refuseFull : ByteArray := prog_1_method_28_code
def yX7_refuseFull : MethodName := ⟨RX7, "refuseFull", "(II)V"⟩
abbrev cX7_refuseGone : ByteArray := prog_1_method_29_code
def yX7_refuseGone : MethodName := ⟨RX7, "refuseGone", "(LMarkChat$User;)V"⟩
abbrev cX7_refuseArchived : ByteArray := prog_1_method_30_code
def yX7_refuseArchived : MethodName := ⟨RX7, "refuseArchived", "(LMarkChat$Message;)V"⟩
abbrev cX7_countMarks : ByteArray := prog_1_method_31_code
def yX7_countMarks : MethodName := ⟨RX7, "countMarks", "(LMarkChat$Marks;)I"⟩
abbrev cX7_approve : ByteArray := prog_1_method_32_code
def yX7_approve : MethodName := ⟨RX7, "approve", "(LMarkChat$Marks;LMarkChat$Message;I)Z"⟩
abbrev cX7_takeSpendsBack : ByteArray := prog_1_method_33_code
def yX7_takeSpendsBack : MethodName := ⟨RX7, "takeSpendsBack", "()V"⟩
abbrev cX7_isStillDue : ByteArray := prog_1_method_34_code
def yX7_isStillDue : MethodName := ⟨RX7, "isStillDue", "(LMarkChat$Spend;)Z"⟩
abbrev cX7_dropTasksOf : ByteArray := prog_1_method_35_code
def yX7_dropTasksOf : MethodName := ⟨RX7, "dropTasksOf", "(I)V"⟩
abbrev cX7_rankOf : ByteArray := prog_1_method_36_code
def yX7_rankOf : MethodName := ⟨RX7, "rankOf", "(LMarkChat$Task;)I"⟩
abbrev cX7_mayBeArchived : ByteArray := prog_1_method_37_code
def yX7_mayBeArchived : MethodName := ⟨RX7, "mayBeArchived", "(LMarkChat$Message;)Z"⟩
abbrev cX7_hasStandingSpend : ByteArray := prog_1_method_38_code
def yX7_hasStandingSpend : MethodName := ⟨RX7, "hasStandingSpend", "(I)Z"⟩
abbrev cX7_hasOpenTask : ByteArray := prog_1_method_39_code
def yX7_hasOpenTask : MethodName := ⟨RX7, "hasOpenTask", "(I)Z"⟩
abbrev cX7_hasReplyLeft : ByteArray := prog_1_method_40_code
def yX7_hasReplyLeft : MethodName := ⟨RX7, "hasReplyLeft", "(I)Z"⟩
def RX8 : String := "MarkChatModel"
def TX8 : u_T := fun k => match k with
  | _ => ("", "", "", false)
def tyX8 : Nat → FieldType := fun k => match k with
  | _ => .int
abbrev wsX80 : List Cond := u_ws RX8 TX8 0
theorem nmX8 : ∀ a, a < 0 → ∀ b, b < 0 → a ≠ b → (TX8 a).2.1 ≠ (TX8 b).2.1 := by decide +kernel
theorem tyX8_ok : ∀ k, k < 0 → parseFieldDescriptor (TX8 k).2.2.1 = some (tyX8 k) := by decide +kernel
def RJx145de : String := "java/io/Serializable"
def TJx145de : u_T := fun k => match k with
  | _ => ("", "", "", false)
def tyJx145de : Nat → FieldType := fun k => match k with
  | _ => .int
abbrev wsJx145de0 : List Cond := u_ws RJx145de TJx145de 0
theorem nmJx145de : ∀ a, a < 0 → ∀ b, b < 0 → a ≠ b → (TJx145de a).2.1 ≠ (TJx145de b).2.1 := by decide +kernel
theorem tyJx145de_ok : ∀ k, k < 0 → parseFieldDescriptor (TJx145de k).2.2.1 = some (tyJx145de k) := by decide +kernel
def RJ5 : String := "java/lang/AbstractStringBuilder"
def TJ5 : u_T := fun k => match k with
  | _ => ("", "", "", false)
def tyJ5 : Nat → FieldType := fun k => match k with
  | _ => .int
abbrev wsJ50 : List Cond := u_ws RJ5 TJ5 0
theorem nmJ5 : ∀ a, a < 0 → ∀ b, b < 0 → a ≠ b → (TJ5 a).2.1 ≠ (TJ5 b).2.1 := by decide +kernel
theorem tyJ5_ok : ∀ k, k < 0 → parseFieldDescriptor (TJ5 k).2.2.1 = some (tyJ5 k) := by decide +kernel
abbrev cJ5_init_d00df : ByteArray := prog_12_method_2_code
def yJ5_init_d00df : MethodName := ⟨RJ5, "<init>", "(I)V"⟩
abbrev cJ5_length_8abf5 : ByteArray := prog_12_method_6_code
def yJ5_length_8abf5 : MethodName := ⟨RJ5, "length", "()I"⟩
abbrev cJ5_ensureCapacityInternal_d00df : ByteArray := prog_12_method_9_code
def yJ5_ensureCapacityInternal_d00df : MethodName := ⟨RJ5, "ensureCapacityInternal", "(I)V"⟩
abbrev cJ5_newCapacity_0f7a4 : ByteArray := prog_12_method_10_code
def yJ5_newCapacity_0f7a4 : MethodName := ⟨RJ5, "newCapacity", "(I)I"⟩
abbrev cJ5_inflate_da8c8 : ByteArray := prog_12_method_11_code
def yJ5_inflate_da8c8 : MethodName := ⟨RJ5, "inflate", "()V"⟩
abbrev cJ5_append_cf1ce : ByteArray := prog_12_method_22_code
def yJ5_append_cf1ce : MethodName := ⟨RJ5, "append", "(Ljava/lang/String;)Ljava/lang/AbstractStringBuilder;"⟩
abbrev cJ5_appendNull_278bc : ByteArray := prog_12_method_26_code
def yJ5_appendNull_278bc : MethodName := ⟨RJ5, "appendNull", "()Ljava/lang/AbstractStringBuilder;"⟩
abbrev cJ5_append_3fe6f : ByteArray := prog_12_method_31_code
def yJ5_append_3fe6f : MethodName := ⟨RJ5, "append", "(C)Ljava/lang/AbstractStringBuilder;"⟩
abbrev cJ5_append_c97b9 : ByteArray := prog_12_method_32_code
def yJ5_append_c97b9 : MethodName := ⟨RJ5, "append", "(I)Ljava/lang/AbstractStringBuilder;"⟩
abbrev cJ5_getValue_6d5f1 : ByteArray := prog_12_method_64_code
def yJ5_getValue_6d5f1 : MethodName := ⟨RJ5, "getValue", "()[B"⟩
abbrev cJ5_isLatin1_aae02 : ByteArray := prog_12_method_68_code
def yJ5_isLatin1_aae02 : MethodName := ⟨RJ5, "isLatin1", "()Z"⟩
abbrev cJ5_inflateIfNeededFor_a7421 : ByteArray := prog_12_method_71_code
def yJ5_inflateIfNeededFor_a7421 : MethodName := ⟨RJ5, "inflateIfNeededFor", "(Ljava/lang/String;)V"⟩
abbrev cJ5_putStringAt_47b60 : ByteArray := prog_12_method_73_code
def yJ5_putStringAt_47b60 : MethodName := ⟨RJ5, "putStringAt", "(ILjava/lang/String;)V"⟩
def RJx2cfe8 : String := "java/lang/Appendable"
def TJx2cfe8 : u_T := fun k => match k with
  | _ => ("", "", "", false)
def tyJx2cfe8 : Nat → FieldType := fun k => match k with
  | _ => .int
abbrev wsJx2cfe80 : List Cond := u_ws RJx2cfe8 TJx2cfe8 0
theorem nmJx2cfe8 : ∀ a, a < 0 → ∀ b, b < 0 → a ≠ b → (TJx2cfe8 a).2.1 ≠ (TJx2cfe8 b).2.1 := by decide +kernel
theorem tyJx2cfe8_ok : ∀ k, k < 0 → parseFieldDescriptor (TJx2cfe8 k).2.2.1 = some (tyJx2cfe8 k) := by decide +kernel
def RJx9f9b0 : String := "java/lang/CharSequence"
def TJx9f9b0 : u_T := fun k => match k with
  | _ => ("", "", "", false)
def tyJx9f9b0 : Nat → FieldType := fun k => match k with
  | _ => .int
abbrev wsJx9f9b00 : List Cond := u_ws RJx9f9b0 TJx9f9b0 0
theorem nmJx9f9b0 : ∀ a, a < 0 → ∀ b, b < 0 → a ≠ b → (TJx9f9b0 a).2.1 ≠ (TJx9f9b0 b).2.1 := by decide +kernel
theorem tyJx9f9b0_ok : ∀ k, k < 0 → parseFieldDescriptor (TJx9f9b0 k).2.2.1 = some (tyJx9f9b0 k) := by decide +kernel
def RJx8e188 : String := "java/lang/Cloneable"
def TJx8e188 : u_T := fun k => match k with
  | _ => ("", "", "", false)
def tyJx8e188 : Nat → FieldType := fun k => match k with
  | _ => .int
abbrev wsJx8e1880 : List Cond := u_ws RJx8e188 TJx8e188 0
theorem nmJx8e188 : ∀ a, a < 0 → ∀ b, b < 0 → a ≠ b → (TJx8e188 a).2.1 ≠ (TJx8e188 b).2.1 := by decide +kernel
theorem tyJx8e188_ok : ∀ k, k < 0 → parseFieldDescriptor (TJx8e188 k).2.2.1 = some (tyJx8e188 k) := by decide +kernel
def RJxb160c : String := "java/lang/Comparable"
def TJxb160c : u_T := fun k => match k with
  | _ => ("", "", "", false)
def tyJxb160c : Nat → FieldType := fun k => match k with
  | _ => .int
abbrev wsJxb160c0 : List Cond := u_ws RJxb160c TJxb160c 0
theorem nmJxb160c : ∀ a, a < 0 → ∀ b, b < 0 → a ≠ b → (TJxb160c a).2.1 ≠ (TJxb160c b).2.1 := by decide +kernel
theorem tyJxb160c_ok : ∀ k, k < 0 → parseFieldDescriptor (TJxb160c k).2.2.1 = some (tyJxb160c k) := by decide +kernel
def RJ6 : String := "java/lang/Integer"
def TJ6 : u_T := fun k => match k with
  | _ => ("", "", "", false)
def tyJ6 : Nat → FieldType := fun k => match k with
  | _ => .int
abbrev wsJ60 : List Cond := u_ws RJ6 TJ6 0
theorem nmJ6 : ∀ a, a < 0 → ∀ b, b < 0 → a ≠ b → (TJ6 a).2.1 ≠ (TJ6 b).2.1 := by decide +kernel
theorem tyJ6_ok : ∀ k, k < 0 → parseFieldDescriptor (TJ6 k).2.2.1 = some (tyJ6 k) := by decide +kernel
abbrev cJ6_getChars_ba4f3 : ByteArray := prog_21_method_12_code
def yJ6_getChars_ba4f3 : MethodName := ⟨RJ6, "getChars", "(II[B)I"⟩
abbrev cJ6_stringSize_0f7a4 : ByteArray := prog_21_method_13_code
def yJ6_stringSize_0f7a4 : MethodName := ⟨RJ6, "stringSize", "(I)I"⟩
def RJxab1ab : String := "java/lang/Iterable"
def TJxab1ab : u_T := fun k => match k with
  | _ => ("", "", "", false)
def tyJxab1ab : Nat → FieldType := fun k => match k with
  | _ => .int
abbrev wsJxab1ab0 : List Cond := u_ws RJxab1ab TJxab1ab 0
theorem nmJxab1ab : ∀ a, a < 0 → ∀ b, b < 0 → a ≠ b → (TJxab1ab a).2.1 ≠ (TJxab1ab b).2.1 := by decide +kernel
theorem tyJxab1ab_ok : ∀ k, k < 0 → parseFieldDescriptor (TJxab1ab k).2.2.1 = some (tyJxab1ab k) := by decide +kernel
def RJ9 : String := "java/lang/Math"
def TJ9 : u_T := fun k => match k with
  | _ => ("", "", "", false)
def tyJ9 : Nat → FieldType := fun k => match k with
  | _ => .int
abbrev wsJ90 : List Cond := u_ws RJ9 TJ9 0
theorem nmJ9 : ∀ a, a < 0 → ∀ b, b < 0 → a ≠ b → (TJ9 a).2.1 ≠ (TJ9 b).2.1 := by decide +kernel
theorem tyJ9_ok : ∀ k, k < 0 → parseFieldDescriptor (TJ9 k).2.2.1 = some (tyJ9 k) := by decide +kernel
abbrev cJ9_max_7cf53 : ByteArray := prog_23_method_65_code
def yJ9_max_7cf53 : MethodName := ⟨RJ9, "max", "(II)I"⟩
abbrev cJ9_min_7cf53 : ByteArray := prog_23_method_69_code
def yJ9_min_7cf53 : MethodName := ⟨RJ9, "min", "(II)I"⟩
def RJxd2413 : String := "java/lang/Number"
def TJxd2413 : u_T := fun k => match k with
  | _ => ("", "", "", false)
def tyJxd2413 : Nat → FieldType := fun k => match k with
  | _ => .int
abbrev wsJxd24130 : List Cond := u_ws RJxd2413 TJxd2413 0
theorem nmJxd2413 : ∀ a, a < 0 → ∀ b, b < 0 → a ≠ b → (TJxd2413 a).2.1 ≠ (TJxd2413 b).2.1 := by decide +kernel
theorem tyJxd2413_ok : ∀ k, k < 0 → parseFieldDescriptor (TJxd2413 k).2.2.1 = some (tyJxd2413 k) := by decide +kernel
def RJ0 : String := "java/lang/String"
def TJ0 : u_T := fun k => match k with
  | 0 => ("java/lang/String", "value", "[B", true)
  | 1 => ("java/lang/String", "coder", "B", true)
  | 2 => ("java/lang/String", "hash", "I", false)
  | _ => ("java/lang/String", "hashIsZero", "Z", false)
def tyJ0 : Nat → FieldType := fun k => match k with
  | 0 => .array .byte
  | 1 => .byte
  | 2 => .int
  | _ => .boolean
abbrev wsJ00 : List Cond := u_ws RJ0 TJ0 4
theorem nmJ0 : ∀ a, a < 4 → ∀ b, b < 4 → a ≠ b → (TJ0 a).2.1 ≠ (TJ0 b).2.1 := by decide +kernel
theorem tyJ0_ok : ∀ k, k < 4 → parseFieldDescriptor (TJ0 k).2.2.1 = some (tyJ0 k) := by decide +kernel
abbrev cJ0_init_81219 : ByteArray := prog_26_method_53_code
def yJ0_init_81219 : MethodName := ⟨RJ0, "<init>", "(Ljava/lang/StringBuilder;)V"⟩
abbrev cJ0_length_8abf5 : ByteArray := prog_26_method_54_code
def yJ0_length_8abf5 : MethodName := ⟨RJ0, "length", "()I"⟩
abbrev cJ0_charAt_5068e : ByteArray := prog_26_method_56_code
def yJ0_charAt_5068e : MethodName := ⟨RJ0, "charAt", "(I)C"⟩
abbrev cJ0_getBytes_840e7 : ByteArray := prog_26_method_147_code
def yJ0_getBytes_840e7 : MethodName := ⟨RJ0, "getBytes", "([BIB)V"⟩
abbrev cJ0_init_db425 : ByteArray := prog_26_method_150_code
def yJ0_init_db425 : MethodName := ⟨RJ0, "<init>", "(Ljava/lang/AbstractStringBuilder;Ljava/lang/Void;)V"⟩
abbrev cJ0_coder_7d493 : ByteArray := prog_26_method_152_code
def yJ0_coder_7d493 : MethodName := ⟨RJ0, "coder", "()B"⟩
abbrev cJ0_isLatin1_aae02 : ByteArray := prog_26_method_154_code
def yJ0_isLatin1_aae02 : MethodName := ⟨RJ0, "isLatin1", "()Z"⟩
abbrev cJ0_checkIndex_df160 : ByteArray := prog_26_method_155_code
def yJ0_checkIndex_df160 : MethodName := ⟨RJ0, "checkIndex", "(II)V"⟩
abbrev cJ0_checkBoundsOffCount_cabcc : ByteArray := prog_26_method_157_code
def yJ0_checkBoundsOffCount_cabcc : MethodName := ⟨RJ0, "checkBoundsOffCount", "(III)I"⟩
abbrev cJ0_checkBoundsBeginEnd_23922 : ByteArray := prog_26_method_158_code
def yJ0_checkBoundsBeginEnd_23922 : MethodName := ⟨RJ0, "checkBoundsBeginEnd", "(III)V"⟩
def RJ4 : String := "java/lang/StringBuilder"
def TJ4 : u_T := fun k => match k with
  | 0 => ("java/lang/AbstractStringBuilder", "value", "[B", false)
  | 1 => ("java/lang/AbstractStringBuilder", "coder", "B", false)
  | 2 => ("java/lang/AbstractStringBuilder", "maybeLatin1", "Z", false)
  | _ => ("java/lang/AbstractStringBuilder", "count", "I", false)
def tyJ4 : Nat → FieldType := fun k => match k with
  | 0 => .array .byte
  | 1 => .byte
  | 2 => .boolean
  | _ => .int
abbrev wsJ40 : List Cond := u_ws RJ4 TJ4 4
theorem nmJ4 : ∀ a, a < 4 → ∀ b, b < 4 → a ≠ b → (TJ4 a).2.1 ≠ (TJ4 b).2.1 := by decide +kernel
theorem tyJ4_ok : ∀ k, k < 4 → parseFieldDescriptor (TJ4 k).2.2.1 = some (tyJ4 k) := by decide +kernel
abbrev cJ4_init_da8c8 : ByteArray := prog_27_method_1_code
def yJ4_init_da8c8 : MethodName := ⟨RJ4, "<init>", "()V"⟩
abbrev cJ4_append_15ec4 : ByteArray := prog_27_method_7_code
def yJ4_append_15ec4 : MethodName := ⟨RJ4, "append", "(Ljava/lang/String;)Ljava/lang/StringBuilder;"⟩
abbrev cJ4_append_cf468 : ByteArray := prog_27_method_14_code
def yJ4_append_cf468 : MethodName := ⟨RJ4, "append", "(C)Ljava/lang/StringBuilder;"⟩
abbrev cJ4_append_bf812 : ByteArray := prog_27_method_15_code
def yJ4_append_bf812 : MethodName := ⟨RJ4, "append", "(I)Ljava/lang/StringBuilder;"⟩
abbrev cJ4_toString_0e30d : ByteArray := prog_27_method_42_code
def yJ4_toString_0e30d : MethodName := ⟨RJ4, "toString", "()Ljava/lang/String;"⟩
abbrev cJ4_length_8abf5 : ByteArray := prog_27_method_93_code
def yJ4_length_8abf5 : MethodName := ⟨RJ4, "length", "()I"⟩
def RJ1 : String := "java/lang/StringLatin1"
def TJ1 : u_T := fun k => match k with
  | _ => ("", "", "", false)
def tyJ1 : Nat → FieldType := fun k => match k with
  | _ => .int
abbrev wsJ10 : List Cond := u_ws RJ1 TJ1 0
theorem nmJ1 : ∀ a, a < 0 → ∀ b, b < 0 → a ≠ b → (TJ1 a).2.1 ≠ (TJ1 b).2.1 := by decide +kernel
theorem tyJ1_ok : ∀ k, k < 0 → parseFieldDescriptor (TJ1 k).2.2.1 = some (tyJ1 k) := by decide +kernel
abbrev cJ1_charAt_3b067 : ByteArray := prog_28_method_2_code
def yJ1_charAt_3b067 : MethodName := ⟨RJ1, "charAt", "([BI)C"⟩
abbrev cJ1_canEncode_fc78d : ByteArray := prog_28_method_3_code
def yJ1_canEncode_fc78d : MethodName := ⟨RJ1, "canEncode", "(C)Z"⟩
abbrev cJ1_inflate_0e8fd : ByteArray := prog_28_method_50_code
def yJ1_inflate_0e8fd : MethodName := ⟨RJ1, "inflate", "([BI[BII)V"⟩
def RJ2 : String := "java/lang/StringUTF16"
def TJ2 : u_T := fun k => match k with
  | _ => ("", "", "", false)
def tyJ2 : Nat → FieldType := fun k => match k with
  | _ => .int
abbrev wsJ20 : List Cond := u_ws RJ2 TJ2 0
theorem nmJ2 : ∀ a, a < 0 → ∀ b, b < 0 → a ≠ b → (TJ2 a).2.1 ≠ (TJ2 b).2.1 := by decide +kernel
theorem tyJ2_ok : ∀ k, k < 0 → parseFieldDescriptor (TJ2 k).2.2.1 = some (tyJ2 k) := by decide +kernel
abbrev cJ2_newBytesFor_77867 : ByteArray := prog_29_method_2_code
def yJ2_newBytesFor_77867 : MethodName := ⟨RJ2, "newBytesFor", "(I)[B"⟩
abbrev cJ2_newBytesLength_0f7a4 : ByteArray := prog_29_method_3_code
def yJ2_newBytesLength_0f7a4 : MethodName := ⟨RJ2, "newBytesLength", "(I)I"⟩
abbrev cJ2_putChar_b72d1 : ByteArray := prog_29_method_4_code
def yJ2_putChar_b72d1 : MethodName := ⟨RJ2, "putChar", "([BII)V"⟩
abbrev cJ2_getChar_3b067 : ByteArray := prog_29_method_5_code
def yJ2_getChar_3b067 : MethodName := ⟨RJ2, "getChar", "([BI)C"⟩
abbrev cJ2_length_9d52b : ByteArray := prog_29_method_6_code
def yJ2_length_9d52b : MethodName := ⟨RJ2, "length", "([B)I"⟩
abbrev cJ2_coderFromArrayLen_85cad : ByteArray := prog_29_method_15_code
def yJ2_coderFromArrayLen_85cad : MethodName := ⟨RJ2, "coderFromArrayLen", "([BI)B"⟩
abbrev cJ2_compress_39247 : ByteArray := prog_29_method_17_code
def yJ2_compress_39247 : MethodName := ⟨RJ2, "compress", "([BII)[B"⟩
abbrev cJ2_compress_5af95 : ByteArray := prog_29_method_22_code
def yJ2_compress_5af95 : MethodName := ⟨RJ2, "compress", "([BI[BII)I"⟩
abbrev cJ2_putCharSB_b72d1 : ByteArray := prog_29_method_71_code
def yJ2_putCharSB_b72d1 : MethodName := ⟨RJ2, "putCharSB", "([BII)V"⟩
abbrev cJ2_getChars_46870 : ByteArray := prog_29_method_77_code
def yJ2_getChars_46870 : MethodName := ⟨RJ2, "getChars", "(III[B)I"⟩
abbrev cJ2_putCharsAt_cd4e5 : ByteArray := prog_29_method_81_code
def yJ2_putCharsAt_cd4e5 : MethodName := ⟨RJ2, "putCharsAt", "([BICCCC)I"⟩
abbrev cJ2_charAt_3b067 : ByteArray := prog_29_method_83_code
def yJ2_charAt_3b067 : MethodName := ⟨RJ2, "charAt", "([BI)C"⟩
abbrev cJ2_inflate_0e8fd : ByteArray := prog_29_method_86_code
def yJ2_inflate_0e8fd : MethodName := ⟨RJ2, "inflate", "([BI[BII)V"⟩
abbrev cJ2_getChars_ba4f3 : ByteArray := prog_29_method_89_code
def yJ2_getChars_ba4f3 : MethodName := ⟨RJ2, "getChars", "(II[B)I"⟩
abbrev cJ2_checkIndex_2214a : ByteArray := prog_29_method_91_code
def yJ2_checkIndex_2214a : MethodName := ⟨RJ2, "checkIndex", "(I[B)V"⟩
abbrev cJ2_checkBoundsBeginEnd_d044e : ByteArray := prog_29_method_93_code
def yJ2_checkBoundsBeginEnd_d044e : MethodName := ⟨RJ2, "checkBoundsBeginEnd", "(II[B)V"⟩
abbrev cJ2_checkBoundsOffCount_d044e : ByteArray := prog_29_method_94_code
def yJ2_checkBoundsOffCount_d044e : MethodName := ⟨RJ2, "checkBoundsOffCount", "(II[B)V"⟩
def RJ10 : String := "java/lang/System"
def TJ10 : u_T := fun k => match k with
  | _ => ("", "", "", false)
def tyJ10 : Nat → FieldType := fun k => match k with
  | _ => .int
abbrev wsJ100 : List Cond := u_ws RJ10 TJ10 0
theorem nmJ10 : ∀ a, a < 0 → ∀ b, b < 0 → a ≠ b → (TJ10 a).2.1 ≠ (TJ10 b).2.1 := by decide +kernel
theorem tyJ10_ok : ∀ k, k < 0 → parseFieldDescriptor (TJ10 k).2.2.1 = some (tyJ10 k) := by decide +kernel
def RJxfd54e : String := "java/lang/constant/Constable"
def TJxfd54e : u_T := fun k => match k with
  | _ => ("", "", "", false)
def tyJxfd54e : Nat → FieldType := fun k => match k with
  | _ => .int
abbrev wsJxfd54e0 : List Cond := u_ws RJxfd54e TJxfd54e 0
theorem nmJxfd54e : ∀ a, a < 0 → ∀ b, b < 0 → a ≠ b → (TJxfd54e a).2.1 ≠ (TJxfd54e b).2.1 := by decide +kernel
theorem tyJxfd54e_ok : ∀ k, k < 0 → parseFieldDescriptor (TJxfd54e k).2.2.1 = some (tyJxfd54e k) := by decide +kernel
def RJx3cf43 : String := "java/lang/constant/ConstantDesc"
def TJx3cf43 : u_T := fun k => match k with
  | _ => ("", "", "", false)
def tyJx3cf43 : Nat → FieldType := fun k => match k with
  | _ => .int
abbrev wsJx3cf430 : List Cond := u_ws RJx3cf43 TJx3cf43 0
theorem nmJx3cf43 : ∀ a, a < 0 → ∀ b, b < 0 → a ≠ b → (TJx3cf43 a).2.1 ≠ (TJx3cf43 b).2.1 := by decide +kernel
theorem tyJx3cf43_ok : ∀ k, k < 0 → parseFieldDescriptor (TJx3cf43 k).2.2.1 = some (tyJx3cf43 k) := by decide +kernel
def RJxa1e45 : String := "java/util/AbstractCollection"
def TJxa1e45 : u_T := fun k => match k with
  | _ => ("", "", "", false)
def tyJxa1e45 : Nat → FieldType := fun k => match k with
  | _ => .int
abbrev wsJxa1e450 : List Cond := u_ws RJxa1e45 TJxa1e45 0
theorem nmJxa1e45 : ∀ a, a < 0 → ∀ b, b < 0 → a ≠ b → (TJxa1e45 a).2.1 ≠ (TJxa1e45 b).2.1 := by decide +kernel
theorem tyJxa1e45_ok : ∀ k, k < 0 → parseFieldDescriptor (TJxa1e45 k).2.2.1 = some (tyJxa1e45 k) := by decide +kernel
abbrev cJxa1e45_init_da8c8 : ByteArray := prog_34_method_1_code
def yJxa1e45_init_da8c8 : MethodName := ⟨RJxa1e45, "<init>", "()V"⟩
def RJxc12de : String := "java/util/AbstractList"
def TJxc12de : u_T := fun k => match k with
  | _ => ("", "", "", false)
def tyJxc12de : Nat → FieldType := fun k => match k with
  | _ => .int
abbrev wsJxc12de0 : List Cond := u_ws RJxc12de TJxc12de 0
theorem nmJxc12de : ∀ a, a < 0 → ∀ b, b < 0 → a ≠ b → (TJxc12de a).2.1 ≠ (TJxc12de b).2.1 := by decide +kernel
theorem tyJxc12de_ok : ∀ k, k < 0 → parseFieldDescriptor (TJxc12de k).2.2.1 = some (tyJxc12de k) := by decide +kernel
abbrev cJxc12de_init_da8c8 : ByteArray := prog_35_method_1_code
def yJxc12de_init_da8c8 : MethodName := ⟨RJxc12de, "<init>", "()V"⟩
def RJx4a65c : String := "java/util/ArrayList"
def TJx4a65c : u_T := fun k => match k with
  | 0 => ("java/util/AbstractList", "modCount", "I", false)
  | 1 => ("java/util/ArrayList", "elementData", "[Ljava/lang/Object;", false)
  | _ => ("java/util/ArrayList", "size", "I", false)
def tyJx4a65c : Nat → FieldType := fun k => match k with
  | 0 => .int
  | 1 => .array (.object "java/lang/Object")
  | _ => .int
abbrev wsJx4a65c0 : List Cond := u_ws RJx4a65c TJx4a65c 3
theorem nmJx4a65c : ∀ a, a < 3 → ∀ b, b < 3 → a ≠ b → (TJx4a65c a).2.1 ≠ (TJx4a65c b).2.1 := by decide +kernel
theorem tyJx4a65c_ok : ∀ k, k < 3 → parseFieldDescriptor (TJx4a65c k).2.2.1 = some (tyJx4a65c k) := by decide +kernel
abbrev cJx4a65c_init_da8c8 : ByteArray := prog_36_method_2_code
def yJx4a65c_init_da8c8 : MethodName := ⟨RJx4a65c, "<init>", "()V"⟩
abbrev cJx4a65c_grow_92f84 : ByteArray := prog_36_method_6_code
def yJx4a65c_grow_92f84 : MethodName := ⟨RJx4a65c, "grow", "(I)[Ljava/lang/Object;"⟩
abbrev cJx4a65c_grow_d5877 : ByteArray := prog_36_method_7_code
def yJx4a65c_grow_d5877 : MethodName := ⟨RJx4a65c, "grow", "()[Ljava/lang/Object;"⟩
abbrev cJx4a65c_size_8abf5 : ByteArray := prog_36_method_8_code
def yJx4a65c_size_8abf5 : MethodName := ⟨RJx4a65c, "size", "()I"⟩
abbrev cJx4a65c_elementData_915e3 : ByteArray := prog_36_method_18_code
def yJx4a65c_elementData_915e3 : MethodName := ⟨RJx4a65c, "elementData", "(I)Ljava/lang/Object;"⟩
abbrev cJx4a65c_get_915e3 : ByteArray := prog_36_method_20_code
def yJx4a65c_get_915e3 : MethodName := ⟨RJx4a65c, "get", "(I)Ljava/lang/Object;"⟩
abbrev cJx4a65c_add_72be8 : ByteArray := prog_36_method_24_code
def yJx4a65c_add_72be8 : MethodName := ⟨RJx4a65c, "add", "(Ljava/lang/Object;[Ljava/lang/Object;I)V"⟩
abbrev cJx4a65c_add_9ea2d : ByteArray := prog_36_method_25_code
def yJx4a65c_add_9ea2d : MethodName := ⟨RJx4a65c, "add", "(Ljava/lang/Object;)Z"⟩
def RJ7 : String := "java/util/Arrays"
def TJ7 : u_T := fun k => match k with
  | _ => ("", "", "", false)
def tyJ7 : Nat → FieldType := fun k => match k with
  | _ => .int
abbrev wsJ70 : List Cond := u_ws RJ7 TJ7 0
theorem nmJ7 : ∀ a, a < 0 → ∀ b, b < 0 → a ≠ b → (TJ7 a).2.1 ≠ (TJ7 b).2.1 := by decide +kernel
theorem tyJ7_ok : ∀ k, k < 0 → parseFieldDescriptor (TJ7 k).2.2.1 = some (tyJ7 k) := by decide +kernel
abbrev cJ7_fill_53178 : ByteArray := prog_37_method_103_code
def yJ7_fill_53178 : MethodName := ⟨RJ7, "fill", "([II)V"⟩
abbrev cJ7_copyOf_1904c : ByteArray := prog_37_method_119_code
def yJ7_copyOf_1904c : MethodName := ⟨RJ7, "copyOf", "([Ljava/lang/Object;I)[Ljava/lang/Object;"⟩
abbrev cJ7_copyOf_6403c : ByteArray := prog_37_method_120_code
def yJ7_copyOf_6403c : MethodName := ⟨RJ7, "copyOf", "([Ljava/lang/Object;ILjava/lang/Class;)[Ljava/lang/Object;"⟩
abbrev cJ7_copyOf_9075b : ByteArray := prog_37_method_121_code
def yJ7_copyOf_9075b : MethodName := ⟨RJ7, "copyOf", "([BI)[B"⟩
abbrev cJ7_checkLength_df160 : ByteArray := prog_37_method_131_code
def yJ7_checkLength_df160 : MethodName := ⟨RJ7, "checkLength", "(II)V"⟩
abbrev cJ7_copyOfRange_39247 : ByteArray := prog_37_method_132_code
def yJ7_copyOfRange_39247 : MethodName := ⟨RJ7, "copyOfRange", "([BII)[B"⟩
abbrev cJ7_copyOfRangeByte_39247 : ByteArray := prog_37_method_133_code
def yJ7_copyOfRangeByte_39247 : MethodName := ⟨RJ7, "copyOfRangeByte", "([BII)[B"⟩
def RJx5ef63 : String := "java/util/Collection"
def TJx5ef63 : u_T := fun k => match k with
  | _ => ("", "", "", false)
def tyJx5ef63 : Nat → FieldType := fun k => match k with
  | _ => .int
abbrev wsJx5ef630 : List Cond := u_ws RJx5ef63 TJx5ef63 0
theorem nmJx5ef63 : ∀ a, a < 0 → ∀ b, b < 0 → a ≠ b → (TJx5ef63 a).2.1 ≠ (TJx5ef63 b).2.1 := by decide +kernel
theorem tyJx5ef63_ok : ∀ k, k < 0 → parseFieldDescriptor (TJx5ef63 k).2.2.1 = some (tyJx5ef63 k) := by decide +kernel
def RJxbd725 : String := "java/util/List"
def TJxbd725 : u_T := fun k => match k with
  | _ => ("", "", "", false)
def tyJxbd725 : Nat → FieldType := fun k => match k with
  | _ => .int
abbrev wsJxbd7250 : List Cond := u_ws RJxbd725 TJxbd725 0
theorem nmJxbd725 : ∀ a, a < 0 → ∀ b, b < 0 → a ≠ b → (TJxbd725 a).2.1 ≠ (TJxbd725 b).2.1 := by decide +kernel
theorem tyJxbd725_ok : ∀ k, k < 0 → parseFieldDescriptor (TJxbd725 k).2.2.1 = some (tyJxbd725 k) := by decide +kernel
def RJ15 : String := "java/util/Objects"
def TJ15 : u_T := fun k => match k with
  | _ => ("", "", "", false)
def tyJ15 : Nat → FieldType := fun k => match k with
  | _ => .int
abbrev wsJ150 : List Cond := u_ws RJ15 TJ15 0
theorem nmJ15 : ∀ a, a < 0 → ∀ b, b < 0 → a ≠ b → (TJ15 a).2.1 ≠ (TJ15 b).2.1 := by decide +kernel
theorem tyJ15_ok : ∀ k, k < 0 → parseFieldDescriptor (TJ15 k).2.2.1 = some (tyJ15 k) := by decide +kernel
abbrev cJ15_checkIndex_7cf53 : ByteArray := prog_40_method_17_code
def yJ15_checkIndex_7cf53 : MethodName := ⟨RJ15, "checkIndex", "(II)I"⟩
def RJxf0a74 : String := "java/util/RandomAccess"
def TJxf0a74 : u_T := fun k => match k with
  | _ => ("", "", "", false)
def tyJxf0a74 : Nat → FieldType := fun k => match k with
  | _ => .int
abbrev wsJxf0a740 : List Cond := u_ws RJxf0a74 TJxf0a74 0
theorem nmJxf0a74 : ∀ a, a < 0 → ∀ b, b < 0 → a ≠ b → (TJxf0a74 a).2.1 ≠ (TJxf0a74 b).2.1 := by decide +kernel
theorem tyJxf0a74_ok : ∀ k, k < 0 → parseFieldDescriptor (TJxf0a74 k).2.2.1 = some (tyJxf0a74 k) := by decide +kernel
def RJxa66e6 : String := "java/util/SequencedCollection"
def TJxa66e6 : u_T := fun k => match k with
  | _ => ("", "", "", false)
def tyJxa66e6 : Nat → FieldType := fun k => match k with
  | _ => .int
abbrev wsJxa66e60 : List Cond := u_ws RJxa66e6 TJxa66e6 0
theorem nmJxa66e6 : ∀ a, a < 0 → ∀ b, b < 0 → a ≠ b → (TJxa66e6 a).2.1 ≠ (TJxa66e6 b).2.1 := by decide +kernel
theorem tyJxa66e6_ok : ∀ k, k < 0 → parseFieldDescriptor (TJxa66e6 k).2.2.1 = some (tyJxa66e6 k) := by decide +kernel
def RJ8 : String := "jdk/internal/util/ArraysSupport"
def TJ8 : u_T := fun k => match k with
  | _ => ("", "", "", false)
def tyJ8 : Nat → FieldType := fun k => match k with
  | _ => .int
abbrev wsJ80 : List Cond := u_ws RJ8 TJ8 0
theorem nmJ8 : ∀ a, a < 0 → ∀ b, b < 0 → a ≠ b → (TJ8 a).2.1 ≠ (TJ8 b).2.1 := by decide +kernel
theorem tyJ8_ok : ∀ k, k < 0 → parseFieldDescriptor (TJ8 k).2.2.1 = some (tyJ8 k) := by decide +kernel
abbrev cJ8_newLength_cabcc : ByteArray := prog_43_method_27_code
def yJ8_newLength_cabcc : MethodName := ⟨RJ8, "newLength", "(III)I"⟩
abbrev cJ8_hugeLength_7cf53 : ByteArray := prog_43_method_28_code
def yJ8_hugeLength_7cf53 : MethodName := ⟨RJ8, "hugeLength", "(II)I"⟩
def RJ3 : String := "jdk/internal/util/Preconditions"
def TJ3 : u_T := fun k => match k with
  | _ => ("", "", "", false)
def tyJ3 : Nat → FieldType := fun k => match k with
  | _ => .int
abbrev wsJ30 : List Cond := u_ws RJ3 TJ3 0
theorem nmJ3 : ∀ a, a < 0 → ∀ b, b < 0 → a ≠ b → (TJ3 a).2.1 ≠ (TJ3 b).2.1 := by decide +kernel
theorem tyJ3_ok : ∀ k, k < 0 → parseFieldDescriptor (TJ3 k).2.2.1 = some (tyJ3 k) := by decide +kernel
abbrev cJ3_checkIndex_8e157 : ByteArray := prog_44_method_11_code
def yJ3_checkIndex_8e157 : MethodName := ⟨RJ3, "checkIndex", "(IILjava/util/function/BiFunction;)I"⟩
abbrev cJ3_checkFromToIndex_8c36e : ByteArray := prog_44_method_12_code
def yJ3_checkFromToIndex_8c36e : MethodName := ⟨RJ3, "checkFromToIndex", "(IIILjava/util/function/BiFunction;)I"⟩
abbrev cJ3_checkFromIndexSize_8c36e : ByteArray := prog_44_method_13_code
def yJ3_checkFromIndexSize_8c36e : MethodName := ⟨RJ3, "checkFromIndexSize", "(IIILjava/util/function/BiFunction;)I"⟩
def RL : String := "MarkChatLaw"
abbrev cL_part : ByteArray := method_2_code
def yL_part : MethodName := ⟨RL, "part", "([III)I"⟩
abbrev cL_does : ByteArray := method_3_code
def yL_does : MethodName := ⟨RL, "does", "(LMarkChat;IIIII)I"⟩
abbrev cL_isGone : ByteArray := method_4_code
def yL_isGone : MethodName := ⟨RL, "isGone", "([I[II)Z"⟩
abbrev cL_counted : ByteArray := method_5_code
def yL_counted : MethodName := ⟨RL, "counted", "([I[I[III)I"⟩
abbrev cL_isApproved : ByteArray := method_6_code
def yL_isApproved : MethodName := ⟨RL, "isApproved", "([I[I[I[III)Z"⟩
abbrev cL_settles : ByteArray := method_7_code
def yL_settles : MethodName := ⟨RL, "settles", "([I[I[I[I[I[I[I[I)V"⟩
abbrev cL_reads : ByteArray := method_8_code
def yL_reads : MethodName := ⟨RL, "reads", "(LMarkChat;IIII)I"⟩
abbrev cL_isSo : ByteArray := method_9_code
def yL_isSo : MethodName := ⟨RL, "isSo", "(LMarkChat;[I[I[I[I[I[I[I[I[I[I[II)Z"⟩
abbrev cL_isMessage : ByteArray := method_10_code
def yL_isMessage : MethodName := ⟨RL, "isMessage", "(LMarkChat;[I[I[I[I[I[I[IIII)Z"⟩
abbrev cL_isSpend : ByteArray := method_11_code
def yL_isSpend : MethodName := ⟨RL, "isSpend", "(LMarkChat;[I[I[I[I[I[I[I[I[I[IIII)Z"⟩
abbrev cL_archived : ByteArray := method_12_code
def yL_archived : MethodName := ⟨RL, "archived", "([I[I[I[I[II)I"⟩
abbrev cL_law : ByteArray := code
def yL_law : MethodName := ⟨RL, "law", "([I)Z"⟩
def wsL_law0_r1 : List Cond := [Cond.classLink RL 9 RX7, Cond.instantiable RX7 8, Cond.initialized RX7, Cond.arrayClass .int, Cond.constant RL 75 (-2000000), Cond.constant RL 72 (-3000000), Cond.constant RL 120 (60000), Cond.constant RL 112 (1000001), Cond.constant RL 78 (-1000000), Cond.methodLink RL 115 yX7_init, Cond.instanceMethod yX7_init, Cond.code yX7_init cX7_init 2 none, Cond.methodLink RX7 1 objectInit, Cond.instanceMethod objectInit, Cond.code objectInit ⟨#[0xb1]⟩ 1 none, Cond.classLink RX7 7 RJx4a65c, Cond.instantiable RJx4a65c 3, Cond.initialized RJx4a65c, Cond.fieldLink RX7 10 "MarkChat" "channels" "Ljava/util/ArrayList;", Cond.classLink RX7 16 RX0, Cond.instantiable RX0 3, Cond.initialized RX0, Cond.fieldLink RX7 25 "MarkChat" "users" "Ljava/util/ArrayList;", Cond.fieldLink RX7 28 "MarkChat" "messages" "Ljava/util/ArrayList;"]
def wsL_law0_r2 : List Cond := [Cond.fieldLink RX7 31 "MarkChat" "spends" "Ljava/util/ArrayList;", Cond.fieldLink RX7 34 "MarkChat" "tasks" "Ljava/util/ArrayList;", Cond.classLink RX7 37 RX1, Cond.instantiable RX1 4, Cond.initialized RX1, Cond.fieldLink RX7 40 "MarkChat" "log" "LMarkChat$Log;", Cond.classLink RX7 44 RX2, Cond.instantiable RX2 1, Cond.initialized RX2, Cond.fieldLink RX7 47 "MarkChat" "marksAnew" "LMarkChat$Marks;", Cond.fieldLink RX7 51 "MarkChat" "hour" "I", Cond.methodLink RX7 9 yJx4a65c_init_da8c8, Cond.instanceMethod yJx4a65c_init_da8c8, Cond.code yJx4a65c_init_da8c8 cJx4a65c_init_da8c8 1 none, Cond.fieldLink RJx4a65c 39 "java/util/ArrayList" "DEFAULTCAPACITY_EMPTY_ELEMENTDATA" "[Ljava/lang/Object;", Cond.fieldLink RJx4a65c 9 "java/util/ArrayList" "elementData" "[Ljava/lang/Object;", Cond.methodLink RJx4a65c 1 yJxc12de_init_da8c8, Cond.instanceMethod yJxc12de_init_da8c8, Cond.initialized RJxc12de, Cond.code yJxc12de_init_da8c8 cJxc12de_init_da8c8 1 none, Cond.fieldLink RJxc12de 7 "java/util/AbstractList" "modCount" "I", Cond.methodLink RJxc12de 1 yJxa1e45_init_da8c8, Cond.instanceMethod yJxa1e45_init_da8c8, Cond.initialized RJxa1e45]
def wsL_law0_r3 : List Cond := [Cond.code yJxa1e45_init_da8c8 cJxa1e45_init_da8c8 1 none, Cond.methodLink RJxa1e45 1 objectInit, Cond.methodLink RX7 18 yX0_init, Cond.instanceMethod yX0_init, Cond.code yX0_init cX0_init 2 none, Cond.methodLink RX0 1 objectInit, Cond.fieldLink RX0 7 "MarkChat$Channel" "number" "I", Cond.methodLink RX7 21 yJx4a65c_add_9ea2d, Cond.instanceMethod yJx4a65c_add_9ea2d, Cond.selects RJx4a65c yJx4a65c_add_9ea2d yJx4a65c_add_9ea2d, Cond.code yJx4a65c_add_9ea2d cJx4a65c_add_9ea2d 2 (some .boolean), Cond.fieldLink RJx4a65c 63 "java/util/ArrayList" "modCount" "I", Cond.sameField "java/util/ArrayList" "java/util/AbstractList" "modCount" "I", Cond.fieldLink RJx4a65c 48 "java/util/ArrayList" "size" "I", Cond.methodLink RJx4a65c 131 yJx4a65c_add_72be8, Cond.instanceMethod yJx4a65c_add_72be8, Cond.selects RJx4a65c yJx4a65c_add_72be8 yJx4a65c_add_72be8, Cond.code yJx4a65c_add_72be8 cJx4a65c_add_72be8 4 none, Cond.methodLink RJx4a65c 129 yJx4a65c_grow_d5877, Cond.instanceMethod yJx4a65c_grow_d5877, Cond.selects RJx4a65c yJx4a65c_grow_d5877 yJx4a65c_grow_d5877, Cond.code yJx4a65c_grow_d5877 cJx4a65c_grow_d5877 1 (some (.array (.object "java/lang/Object"))), Cond.methodLink RJx4a65c 69 yJx4a65c_grow_92f84, Cond.instanceMethod yJx4a65c_grow_92f84]
def wsL_law0_r4 : List Cond := [Cond.selects RJx4a65c yJx4a65c_grow_92f84 yJx4a65c_grow_92f84, Cond.code yJx4a65c_grow_92f84 cJx4a65c_grow_92f84 4 (some (.array (.object "java/lang/Object"))), Cond.methodLink RJx4a65c 79 Lib.Math.max.name, Cond.static Lib.Math.max.name, Cond.initialized "java/lang/Math", Cond.code Lib.Math.max.name Lib.Math.max.code 2 (some .int), Cond.classLink RJx4a65c 7 "java/lang/Object", Cond.methodLink RJx4a65c 73 yJ8_newLength_cabcc, Cond.static yJ8_newLength_cabcc, Cond.initialized RJ8, Cond.code yJ8_newLength_cabcc cJ8_newLength_cabcc 4 (some .int), Cond.methodLink RJ8 194 Lib.Math.max.name, Cond.constant RJ8 200 (2147483639), Cond.methodLink RJ8 201 yJ8_hugeLength_7cf53, Cond.static yJ8_hugeLength_7cf53, Cond.code yJ8_hugeLength_7cf53 cJ8_hugeLength_7cf53 3 (some .int), Cond.methodLink RJx4a65c 66 yJ7_copyOf_1904c, Cond.static yJ7_copyOf_1904c, Cond.initialized RJ7, Cond.code yJ7_copyOf_1904c cJ7_copyOf_1904c 2 (some (.array (.object "java/lang/Object"))), Cond.methodLink RJ7 86 ⟨"java/lang/Object", "getClass", "()Ljava/lang/Class;"⟩, Cond.selects "[Ljava/lang/Object;" ⟨"java/lang/Object", "getClass", "()Ljava/lang/Class;"⟩ ⟨"java/lang/Object", "getClass", "()Ljava/lang/Class;"⟩, Cond.instanceMethod ⟨"java/lang/Object", "getClass", "()Ljava/lang/Class;"⟩, Cond.native ⟨"java/lang/Object", "getClass", "()Ljava/lang/Class;"⟩]
def wsL_law0_r5 : List Cond := [Cond.methodLink RJ7 300 yJ7_copyOf_6403c, Cond.static yJ7_copyOf_6403c, Cond.code yJ7_copyOf_6403c cJ7_copyOf_6403c 4 (some (.array (.object "java/lang/Object"))), Cond.classLink RJ7 110 "[Ljava/lang/Object;", Cond.classLink RJ7 2 "java/lang/Object", Cond.methodLink RJ7 304 Lib.Math.min.name, Cond.static Lib.Math.min.name, Cond.code Lib.Math.min.name Lib.Math.min.code 2 (some .int), Cond.methodLink RJ7 150 arraycopyName, Cond.native arraycopyName, Cond.static arraycopyName, Cond.initialized "java/lang/System", Cond.methodLink RX7 39 yX1_init, Cond.instanceMethod yX1_init, Cond.code yX1_init cX1_init 1 none, Cond.methodLink RX1 3 objectInit, Cond.fieldLink RX1 9 "MarkChat$Log" "messages" "[I", Cond.fieldLink RX1 15 "MarkChat$Log" "users" "[I", Cond.fieldLink RX1 18 "MarkChat$Log" "kinds" "[I", Cond.methodLink RX7 46 yX2_init, Cond.instanceMethod yX2_init, Cond.code yX2_init cX2_init 1 none, Cond.methodLink RX2 3 objectInit, Cond.fieldLink RX2 9 "MarkChat$Marks" "kinds" "[I"]
def wsL_law0_r6 : List Cond := [Cond.methodLink RX2 15 yJ7_fill_53178, Cond.static yJ7_fill_53178, Cond.code yJ7_fill_53178 cJ7_fill_53178 4 none, Cond.methodLink RL 106 yL_does, Cond.static yL_does, Cond.initialized RL, Cond.codeWith yL_does cL_does 7 (some .int) [(0, 286, 287, 70), (0, 286, 292, 73), (0, 286, 297, 76)], Cond.classLink RL 70 "java/lang/IndexOutOfBoundsException", Cond.methodLink RL 8 yX7_user, Cond.instanceMethod yX7_user, Cond.selects RX7 yX7_user yX7_user, Cond.code yX7_user cX7_user 3 (some .int), Cond.classLink RX7 67 RX6, Cond.instantiable RX6 3, Cond.initialized RX6, Cond.fieldLink RX7 71 "MarkChat$User" "number" "I", Cond.methodLink RX7 55 yX7_checkRange, Cond.static yX7_checkRange, Cond.code yX7_checkRange cX7_checkRange 3 none, Cond.classLink RX7 227 "java/lang/IllegalArgumentException", Cond.initialized "java/lang/IllegalArgumentException", Cond.methodLink RX7 59 yJx4a65c_size_8abf5, Cond.instanceMethod yJx4a65c_size_8abf5, Cond.selects RJx4a65c yJx4a65c_size_8abf5 yJx4a65c_size_8abf5]
def wsL_law0_r7 : List Cond := [Cond.code yJx4a65c_size_8abf5 cJx4a65c_size_8abf5 1 (some .int), Cond.methodLink RX7 63 yX7_refuseFull, Cond.static yX7_refuseFull, Cond.code yX7_refuseFull cX7_refuseFull 2 none, Cond.classLink RX7 96 "java/lang/IllegalStateException", Cond.initialized "java/lang/IllegalStateException", Cond.methodLink RX7 69 yX6_init, Cond.instanceMethod yX6_init, Cond.code yX6_init cX6_init 3 none, Cond.methodLink RX6 3 objectInit, Cond.fieldLink RX6 9 "MarkChat$User" "number" "I", Cond.fieldLink RX6 15 "MarkChat$User" "rank" "I", Cond.fieldLink RX6 18 "MarkChat$User" "endHour" "I", Cond.methodLink RL 14 yX7_role, Cond.instanceMethod yX7_role, Cond.selects RX7 yX7_role yX7_role, Cond.code yX7_role cX7_role 5 (some .int), Cond.fieldLink RX7 78 "MarkChat$User" "rank" "I", Cond.methodLink RX7 74 yX7_userAt, Cond.instanceMethod yX7_userAt, Cond.selects RX7 yX7_userAt yX7_userAt, Cond.code yX7_userAt cX7_userAt 2 (some (.object "MarkChat$User")), Cond.classLink RX7 251 "java/lang/IndexOutOfBoundsException", Cond.initialized "java/lang/IndexOutOfBoundsException"]
def wsL_law0_r8 : List Cond := [Cond.classLink RX7 67 "MarkChat$User", Cond.methodLink RX7 210 yJx4a65c_get_915e3, Cond.instanceMethod yJx4a65c_get_915e3, Cond.selects RJx4a65c yJx4a65c_get_915e3 yJx4a65c_get_915e3, Cond.code yJx4a65c_get_915e3 cJx4a65c_get_915e3 2 (some (.object "java/lang/Object")), Cond.methodLink RJx4a65c 118 yJ15_checkIndex_7cf53, Cond.static yJ15_checkIndex_7cf53, Cond.initialized RJ15, Cond.code yJ15_checkIndex_7cf53 cJ15_checkIndex_7cf53 2 (some .int), Cond.methodLink RJ15 105 yJ3_checkIndex_8e157, Cond.static yJ3_checkIndex_8e157, Cond.initialized RJ3, Cond.code yJ3_checkIndex_8e157 cJ3_checkIndex_8e157 3 (some .int), Cond.methodLink RJx4a65c 123 yJx4a65c_elementData_915e3, Cond.instanceMethod yJx4a65c_elementData_915e3, Cond.selects RJx4a65c yJx4a65c_elementData_915e3 yJx4a65c_elementData_915e3, Cond.code yJx4a65c_elementData_915e3 cJx4a65c_elementData_915e3 2 (some (.object "java/lang/Object")), Cond.methodLink RX7 81 yX7_takeSpendsBack, Cond.instanceMethod yX7_takeSpendsBack, Cond.selects RX7 yX7_takeSpendsBack yX7_takeSpendsBack, Cond.code yX7_takeSpendsBack cX7_takeSpendsBack 3 none, Cond.classLink RX7 175 "MarkChat$Spend", Cond.fieldLink RX7 240 "MarkChat$Spend" "state" "I", Cond.fieldLink RX7 241 "MarkChat$Spend" "message" "LMarkChat$Message;"]
def wsL_law0_r9 : List Cond := [Cond.fieldLink RX7 111 "MarkChat$Message" "channel" "LMarkChat$Channel;", Cond.fieldLink RX7 92 "MarkChat$Channel" "cents" "I", Cond.fieldLink RX7 246 "MarkChat$Spend" "amount" "I", Cond.methodLink RX7 304 yX7_isStillDue, Cond.instanceMethod yX7_isStillDue, Cond.selects RX7 yX7_isStillDue yX7_isStillDue, Cond.code yX7_isStillDue cX7_isStillDue 3 (some .boolean), Cond.fieldLink RX7 136 "MarkChat$Message" "version" "I", Cond.fieldLink RX7 245 "MarkChat$Spend" "version" "I", Cond.fieldLink RX7 139 "MarkChat$Message" "marks" "LMarkChat$Marks;", Cond.methodLink RX7 167 yX7_approve, Cond.instanceMethod yX7_approve, Cond.selects RX7 yX7_approve yX7_approve, Cond.code yX7_approve cX7_approve 9 (some .boolean), Cond.fieldLink RX7 130 "MarkChat$Message" "author" "LMarkChat$User;", Cond.methodLink RX7 151 yX2_kindOf, Cond.instanceMethod yX2_kindOf, Cond.selects RX2 yX2_kindOf yX2_kindOf, Cond.code yX2_kindOf cX2_kindOf 2 (some .int), Cond.methodLink RX7 301 yX6_countsAt, Cond.instanceMethod yX6_countsAt, Cond.selects RX6 yX6_countsAt yX6_countsAt, Cond.code yX6_countsAt cX6_countsAt 2 (some .boolean), Cond.methodLink RX6 21 yX6_isGoneAt]
def wsL_law0_r10 : List Cond := [Cond.instanceMethod yX6_isGoneAt, Cond.selects RX6 yX6_isGoneAt yX6_isGoneAt, Cond.code yX6_isGoneAt cX6_isGoneAt 2 (some .boolean), Cond.methodLink RL 18 yX7_ends, Cond.instanceMethod yX7_ends, Cond.selects RX7 yX7_ends yX7_ends, Cond.code yX7_ends cX7_ends 4 (some .int), Cond.fieldLink RX7 84 "MarkChat$User" "endHour" "I", Cond.methodLink RL 21 yX7_budget, Cond.instanceMethod yX7_budget, Cond.selects RX7 yX7_budget yX7_budget, Cond.code yX7_budget cX7_budget 4 (some .int), Cond.constant RX7 91 (1000000), Cond.constant RX7 95 (1000000000), Cond.methodLink RX7 87 yX7_channelAt, Cond.instanceMethod yX7_channelAt, Cond.selects RX7 yX7_channelAt yX7_channelAt, Cond.code yX7_channelAt cX7_channelAt 2 (some (.object "MarkChat$Channel")), Cond.classLink RX7 16 "MarkChat$Channel", Cond.methodLink RL 24 yX7_post, Cond.instanceMethod yX7_post, Cond.selects RX7 yX7_post yX7_post, Cond.code yX7_post cX7_post 7 (some .int), Cond.fieldLink RX7 117 "MarkChat$Channel" "number" "I"]
def wsL_law0_r11 : List Cond := [Cond.classLink RX7 112 RX3, Cond.instantiable RX3 8, Cond.initialized RX3, Cond.fieldLink RX7 127 "MarkChat$Message" "number" "I", Cond.methodLink RX7 103 yX7_messageAt, Cond.instanceMethod yX7_messageAt, Cond.selects RX7 yX7_messageAt yX7_messageAt, Cond.code yX7_messageAt cX7_messageAt 2 (some (.object "MarkChat$Message")), Cond.classLink RX7 112 "MarkChat$Message", Cond.methodLink RX7 107 yX7_refuseArchived, Cond.static yX7_refuseArchived, Cond.code yX7_refuseArchived cX7_refuseArchived 1 none, Cond.fieldLink RX7 218 "MarkChat$Message" "isArchived" "Z", Cond.methodLink RX7 120 yX7_refuseGone, Cond.instanceMethod yX7_refuseGone, Cond.selects RX7 yX7_refuseGone yX7_refuseGone, Cond.code yX7_refuseGone cX7_refuseGone 2 none, Cond.methodLink RX7 293 yX6_isGoneAt, Cond.methodLink RX7 124 yX3_init, Cond.instanceMethod yX3_init, Cond.code yX3_init cX3_init 6 none, Cond.methodLink RX3 1 objectInit, Cond.fieldLink RX3 7 "MarkChat$Message" "number" "I", Cond.fieldLink RX3 13 "MarkChat$Message" "author" "LMarkChat$User;"]
def wsL_law0_r12 : List Cond := [Cond.fieldLink RX3 17 "MarkChat$Message" "channel" "LMarkChat$Channel;", Cond.fieldLink RX3 21 "MarkChat$Message" "parent" "I", Cond.fieldLink RX3 24 "MarkChat$Message" "postHour" "I", Cond.classLink RX3 27 RX2, Cond.fieldLink RX3 30 "MarkChat$Message" "marks" "LMarkChat$Marks;", Cond.methodLink RX3 29 yX2_init, Cond.methodLink RL 28 yX7_edit, Cond.instanceMethod yX7_edit, Cond.selects RX7 yX7_edit yX7_edit, Cond.code yX7_edit cX7_edit 5 (some .int), Cond.fieldLink RX7 128 "MarkChat$Log" "size" "I", Cond.methodLink RX7 142 yX2_clear, Cond.instanceMethod yX2_clear, Cond.selects RX2 yX2_clear yX2_clear, Cond.code yX2_clear cX2_clear 1 none, Cond.methodLink RX7 145 yX1_writeEdit, Cond.instanceMethod yX1_writeEdit, Cond.selects RX1 yX1_writeEdit yX1_writeEdit, Cond.code yX1_writeEdit cX1_writeEdit 2 none, Cond.methodLink RX1 21 yX1_write, Cond.instanceMethod yX1_write, Cond.selects RX1 yX1_write yX1_write, Cond.code yX1_write cX1_write 4 none, Cond.fieldLink RX1 25 "MarkChat$Log" "size" "I"]
def wsL_law0_r13 : List Cond := [Cond.methodLink RX7 148 yX7_dropTasksOf, Cond.instanceMethod yX7_dropTasksOf, Cond.selects RX7 yX7_dropTasksOf yX7_dropTasksOf, Cond.code yX7_dropTasksOf cX7_dropTasksOf 4 none, Cond.classLink RX7 181 "MarkChat$Task", Cond.fieldLink RX7 308 "MarkChat$Task" "message" "I", Cond.fieldLink RX7 196 "MarkChat$Task" "state" "I", Cond.methodLink RL 31 yX7_mark, Cond.instanceMethod yX7_mark, Cond.selects RX7 yX7_mark yX7_mark, Cond.code yX7_mark cX7_mark 6 (some .int), Cond.methodLink RX7 157 yX2_put, Cond.instanceMethod yX2_put, Cond.selects RX2 yX2_put yX2_put, Cond.code yX2_put cX2_put 3 none, Cond.methodLink RX7 160 yX1_writeMark, Cond.instanceMethod yX1_writeMark, Cond.selects RX1 yX1_writeMark yX1_writeMark, Cond.code yX1_writeMark cX1_writeMark 4 none, Cond.methodLink RX7 163 yX7_countMarks, Cond.instanceMethod yX7_countMarks, Cond.selects RX7 yX7_countMarks yX7_countMarks, Cond.code yX7_countMarks cX7_countMarks 4 (some .int), Cond.methodLink RL 34 yX7_spend]
def wsL_law0_r14 : List Cond := [Cond.instanceMethod yX7_spend, Cond.selects RX7 yX7_spend yX7_spend, Cond.code yX7_spend cX7_spend 7 (some .int), Cond.classLink RX7 175 RX4, Cond.instantiable RX4 5, Cond.initialized RX4, Cond.fieldLink RX7 180 "MarkChat$Spend" "number" "I", Cond.methodLink RX7 177 yX4_init, Cond.instanceMethod yX4_init, Cond.code yX4_init cX4_init 4 none, Cond.methodLink RX4 3 objectInit, Cond.fieldLink RX4 9 "MarkChat$Spend" "number" "I", Cond.fieldLink RX4 15 "MarkChat$Spend" "message" "LMarkChat$Message;", Cond.fieldLink RX4 19 "MarkChat$Message" "version" "I", Cond.fieldLink RX4 24 "MarkChat$Spend" "version" "I", Cond.fieldLink RX4 25 "MarkChat$Spend" "amount" "I", Cond.fieldLink RX4 28 "MarkChat$Spend" "state" "I", Cond.methodLink RL 37 yX7_task, Cond.instanceMethod yX7_task, Cond.selects RX7 yX7_task yX7_task, Cond.code yX7_task cX7_task 9 (some .int), Cond.classLink RX7 181 RX5, Cond.instantiable RX5 6, Cond.initialized RX5]
def wsL_law0_r15 : List Cond := [Cond.fieldLink RX7 186 "MarkChat$Task" "number" "I", Cond.methodLink RX7 183 yX5_init, Cond.instanceMethod yX5_init, Cond.code yX5_init cX5_init 5 none, Cond.methodLink RX5 3 objectInit, Cond.fieldLink RX5 9 "MarkChat$Task" "number" "I", Cond.fieldLink RX5 15 "MarkChat$Message" "number" "I", Cond.fieldLink RX5 18 "MarkChat$Task" "message" "I", Cond.fieldLink RX5 21 "MarkChat$Task" "doer" "LMarkChat$User;", Cond.fieldLink RX5 25 "MarkChat$Task" "untilHour" "I", Cond.classLink RX5 28 RJ4, Cond.instantiable RJ4 4, Cond.initialized RJ4, Cond.fieldLink RX5 38 "MarkChat$Message" "version" "I", Cond.fieldLink RX5 41 "MarkChat$User" "number" "I", Cond.fieldLink RX5 48 "MarkChat$Task" "text" "Ljava/lang/String;", Cond.fieldLink RX5 52 "MarkChat$Task" "state" "I", Cond.methodLink RX5 30 yJ4_init_da8c8, Cond.instanceMethod yJ4_init_da8c8, Cond.code yJ4_init_da8c8 cJ4_init_da8c8 1 none, Cond.methodLink RJ4 1 yJ5_init_d00df, Cond.instanceMethod yJ5_init_d00df, Cond.initialized RJ5, Cond.code yJ5_init_d00df cJ5_init_d00df 2 none]
def wsL_law0_r16 : List Cond := [Cond.methodLink RJ5 3 objectInit, Cond.fieldLink RJ5 18 "java/lang/String" "COMPACT_STRINGS" "Z", Cond.arrayClass .byte, Cond.fieldLink RJ5 15 "java/lang/AbstractStringBuilder" "value" "[B", Cond.fieldLink RJ5 22 "java/lang/AbstractStringBuilder" "coder" "B", Cond.methodLink RJ5 26 yJ2_newBytesFor_77867, Cond.static yJ2_newBytesFor_77867, Cond.initialized RJ2, Cond.code yJ2_newBytesFor_77867 cJ2_newBytesFor_77867 1 (some (.array .byte)), Cond.methodLink RJ2 11 yJ2_newBytesLength_0f7a4, Cond.static yJ2_newBytesLength_0f7a4, Cond.code yJ2_newBytesLength_0f7a4 cJ2_newBytesLength_0f7a4 1 (some .int), Cond.constant RJ2 20 (1073741823), Cond.methodLink RX5 31 yJ4_append_bf812, Cond.instanceMethod yJ4_append_bf812, Cond.selects RJ4 yJ4_append_bf812 yJ4_append_bf812, Cond.code yJ4_append_bf812 cJ4_append_bf812 2 (some (.object "java/lang/StringBuilder")), Cond.methodLink RJ4 53 yJ5_append_c97b9, Cond.sameMethod "java/lang/AbstractStringBuilder" "java/lang/AbstractStringBuilder" "append" "(I)Ljava/lang/AbstractStringBuilder;", Cond.superclass RJ4 RJ5, Cond.instanceMethod yJ5_append_c97b9, Cond.code yJ5_append_c97b9 cJ5_append_c97b9 4 (some (.object "java/lang/AbstractStringBuilder")), Cond.fieldLink RJ5 79 "java/lang/AbstractStringBuilder" "count" "I", Cond.methodLink RJ5 245 yJ6_stringSize_0f7a4]
def wsL_law0_r17 : List Cond := [Cond.static yJ6_stringSize_0f7a4, Cond.initialized RJ6, Cond.code yJ6_stringSize_0f7a4 cJ6_stringSize_0f7a4 4 (some .int), Cond.methodLink RJ5 100 ⟨"java/lang/AbstractStringBuilder", "ensureCapacityInternal", "(I)V"⟩, Cond.sameMethod "java/lang/AbstractStringBuilder" "java/lang/AbstractStringBuilder" "ensureCapacityInternal" "(I)V", Cond.selects RJ4 ⟨"java/lang/AbstractStringBuilder", "ensureCapacityInternal", "(I)V"⟩ yJ5_ensureCapacityInternal_d00df, Cond.instanceMethod yJ5_ensureCapacityInternal_d00df, Cond.code yJ5_ensureCapacityInternal_d00df cJ5_ensureCapacityInternal_d00df 3 none, Cond.methodLink RJ5 104 ⟨"java/lang/AbstractStringBuilder", "newCapacity", "(I)I"⟩, Cond.sameMethod "java/lang/AbstractStringBuilder" "java/lang/AbstractStringBuilder" "newCapacity" "(I)I", Cond.selects RJ4 ⟨"java/lang/AbstractStringBuilder", "newCapacity", "(I)I"⟩ yJ5_newCapacity_0f7a4, Cond.instanceMethod yJ5_newCapacity_0f7a4, Cond.code yJ5_newCapacity_0f7a4 cJ5_newCapacity_0f7a4 6 (some .int), Cond.constant RJ5 39 (2147483647), Cond.methodLink RJ5 114 yJ8_newLength_cabcc, Cond.methodLink RJ5 108 yJ7_copyOf_9075b, Cond.static yJ7_copyOf_9075b, Cond.code yJ7_copyOf_9075b cJ7_copyOf_9075b 3 (some (.array .byte)), Cond.methodLink RJ7 310 ⟨"[B", "clone", "()Ljava/lang/Object;"⟩, Cond.sameMethod "[B" "java/lang/Object" "clone" "()Ljava/lang/Object;", Cond.native ⟨"java/lang/Object", "clone", "()Ljava/lang/Object;"⟩, Cond.instanceMethod ⟨"java/lang/Object", "clone", "()Ljava/lang/Object;"⟩, Cond.selects "[B" ⟨"[B", "clone", "()Ljava/lang/Object;"⟩ ⟨"java/lang/Object", "clone", "()Ljava/lang/Object;"⟩, Cond.classLink RJ7 311 "[B"]
def wsL_law0_r18 : List Cond := [Cond.methodLink RJ5 83 ⟨"java/lang/AbstractStringBuilder", "isLatin1", "()Z"⟩, Cond.sameMethod "java/lang/AbstractStringBuilder" "java/lang/AbstractStringBuilder" "isLatin1" "()Z", Cond.selects RJ4 ⟨"java/lang/AbstractStringBuilder", "isLatin1", "()Z"⟩ yJ5_isLatin1_aae02, Cond.instanceMethod yJ5_isLatin1_aae02, Cond.code yJ5_isLatin1_aae02 cJ5_isLatin1_aae02 1 (some .boolean), Cond.methodLink RJ5 248 yJ6_getChars_ba4f3, Cond.static yJ6_getChars_ba4f3, Cond.code yJ6_getChars_ba4f3 cJ6_getChars_ba4f3 7 (some .int), Cond.fieldLink RJ6 83 "java/lang/Integer" "DigitOnes" "[B", Cond.fieldLink RJ6 87 "java/lang/Integer" "DigitTens" "[B", Cond.methodLink RJ5 251 yJ2_getChars_46870, Cond.static yJ2_getChars_46870, Cond.code yJ2_getChars_46870 cJ2_getChars_46870 5 (some .int), Cond.fieldLink RJ2 44 "java/lang/StringUTF16" "$assertionsDisabled" "Z", Cond.methodLink RJ2 96 yJ2_checkBoundsBeginEnd_d044e, Cond.static yJ2_checkBoundsBeginEnd_d044e, Cond.code yJ2_checkBoundsBeginEnd_d044e cJ2_checkBoundsBeginEnd_d044e 3 none, Cond.methodLink RJ2 48 yJ2_length_9d52b, Cond.static yJ2_length_9d52b, Cond.code yJ2_length_9d52b cJ2_length_9d52b 1 (some .int), Cond.methodLink RJ2 241 yJ0_checkBoundsBeginEnd_23922, Cond.static yJ0_checkBoundsBeginEnd_23922, Cond.initialized RJ0, Cond.code yJ0_checkBoundsBeginEnd_23922 cJ0_checkBoundsBeginEnd_23922 3 none]
def wsL_law0_r19 : List Cond := [Cond.fieldLink RJ0 1053 "jdk/internal/util/Preconditions" "SIOOBE_FORMATTER" "Ljava/util/function/BiFunction;", Cond.methodLink RJ0 1062 yJ3_checkFromToIndex_8c36e, Cond.static yJ3_checkFromToIndex_8c36e, Cond.code yJ3_checkFromToIndex_8c36e cJ3_checkFromToIndex_8c36e 4 (some .int), Cond.methodLink RJ2 393 yJ2_getChars_ba4f3, Cond.static yJ2_getChars_ba4f3, Cond.code yJ2_getChars_ba4f3 cJ2_getChars_ba4f3 7 (some .int), Cond.fieldLink RJ2 403 "java/lang/Integer" "DigitOnes" "[B", Cond.fieldLink RJ2 407 "java/lang/Integer" "DigitTens" "[B", Cond.methodLink RJ2 111 yJ2_putChar_b72d1, Cond.static yJ2_putChar_b72d1, Cond.code yJ2_putChar_b72d1 cJ2_putChar_b72d1 3 none, Cond.fieldLink RJ2 59 "java/lang/StringUTF16" "HI_BYTE_SHIFT" "I", Cond.fieldLink RJ2 63 "java/lang/StringUTF16" "LO_BYTE_SHIFT" "I", Cond.methodLink RX5 35 yJ4_append_cf468, Cond.instanceMethod yJ4_append_cf468, Cond.selects RJ4 yJ4_append_cf468 yJ4_append_cf468, Cond.code yJ4_append_cf468 cJ4_append_cf468 2 (some (.object "java/lang/StringBuilder")), Cond.methodLink RJ4 50 yJ5_append_3fe6f, Cond.sameMethod "java/lang/AbstractStringBuilder" "java/lang/AbstractStringBuilder" "append" "(C)Ljava/lang/AbstractStringBuilder;", Cond.instanceMethod yJ5_append_3fe6f, Cond.code yJ5_append_3fe6f cJ5_append_3fe6f 2 (some (.object "java/lang/AbstractStringBuilder")), Cond.methodLink RJ5 191 yJ1_canEncode_fc78d, Cond.static yJ1_canEncode_fc78d]
def wsL_law0_r20 : List Cond := [Cond.initialized RJ1, Cond.code yJ1_canEncode_fc78d cJ1_canEncode_fc78d 1 (some .boolean), Cond.methodLink RJ5 195 ⟨"java/lang/AbstractStringBuilder", "inflate", "()V"⟩, Cond.sameMethod "java/lang/AbstractStringBuilder" "java/lang/AbstractStringBuilder" "inflate" "()V", Cond.selects RJ4 ⟨"java/lang/AbstractStringBuilder", "inflate", "()V"⟩ yJ5_inflate_da8c8, Cond.instanceMethod yJ5_inflate_da8c8, Cond.code yJ5_inflate_da8c8 cJ5_inflate_da8c8 2 none, Cond.methodLink RJ5 125 yJ1_inflate_0e8fd, Cond.static yJ1_inflate_0e8fd, Cond.code yJ1_inflate_0e8fd cJ1_inflate_0e8fd 5 none, Cond.methodLink RJ1 240 yJ2_inflate_0e8fd, Cond.static yJ2_inflate_0e8fd, Cond.code yJ2_inflate_0e8fd cJ2_inflate_0e8fd 6 none, Cond.methodLink RJ2 173 yJ2_checkBoundsOffCount_d044e, Cond.static yJ2_checkBoundsOffCount_d044e, Cond.code yJ2_checkBoundsOffCount_d044e cJ2_checkBoundsOffCount_d044e 3 none, Cond.methodLink RJ2 419 yJ0_checkBoundsOffCount_cabcc, Cond.static yJ0_checkBoundsOffCount_cabcc, Cond.code yJ0_checkBoundsOffCount_cabcc cJ0_checkBoundsOffCount_cabcc 3 (some .int), Cond.methodLink RJ0 1065 yJ3_checkFromIndexSize_8c36e, Cond.static yJ3_checkFromIndexSize_8c36e, Cond.code yJ3_checkFromIndexSize_8c36e cJ3_checkFromIndexSize_8c36e 4 (some .int), Cond.methodLink RJ5 197 yJ2_putCharSB_b72d1, Cond.static yJ2_putCharSB_b72d1]
def wsL_law0_r21 : List Cond := [Cond.code yJ2_putCharSB_b72d1 cJ2_putCharSB_b72d1 3 none, Cond.methodLink RJ2 67 yJ2_checkIndex_2214a, Cond.static yJ2_checkIndex_2214a, Cond.code yJ2_checkIndex_2214a cJ2_checkIndex_2214a 2 none, Cond.methodLink RJ2 414 yJ0_checkIndex_df160, Cond.static yJ0_checkIndex_df160, Cond.code yJ0_checkIndex_df160 cJ0_checkIndex_df160 2 none, Cond.methodLink RJ0 1059 yJ3_checkIndex_8e157, Cond.methodLink RX5 44 yJ4_toString_0e30d, Cond.instanceMethod yJ4_toString_0e30d, Cond.selects RJ4 yJ4_toString_0e30d yJ4_toString_0e30d, Cond.code yJ4_toString_0e30d cJ4_toString_0e30d 1 (some (.object "java/lang/String")), Cond.classLink RJ4 18 RJ0, Cond.instantiable RJ0 4, Cond.methodLink RJ4 137 yJ0_init_81219, Cond.instanceMethod yJ0_init_81219, Cond.code yJ0_init_81219 cJ0_init_81219 2 none, Cond.methodLink RJ0 489 yJ0_init_db425, Cond.instanceMethod yJ0_init_db425, Cond.code yJ0_init_db425 cJ0_init_db425 5 none, Cond.methodLink RJ0 1 objectInit, Cond.fieldLink RJ0 15 "java/lang/String" "coder" "B", Cond.fieldLink RJ0 9 "java/lang/String" "value" "[B", Cond.fieldLink RJ0 38 "java/lang/String" "COMPACT_STRINGS" "Z"]
def wsL_law0_r22 : List Cond := [Cond.fieldLink RJ0 1048 "java/lang/AbstractStringBuilder" "maybeLatin1" "Z", Cond.methodLink RJ0 552 ⟨"java/lang/AbstractStringBuilder", "getValue", "()[B"⟩, Cond.sameMethod "java/lang/AbstractStringBuilder" "java/lang/AbstractStringBuilder" "getValue" "()[B", Cond.selects RJ4 ⟨"java/lang/AbstractStringBuilder", "getValue", "()[B"⟩ yJ5_getValue_6d5f1, Cond.instanceMethod yJ5_getValue_6d5f1, Cond.code yJ5_getValue_6d5f1 cJ5_getValue_6d5f1 1 (some (.array .byte)), Cond.methodLink RJ0 549 ⟨"java/lang/AbstractStringBuilder", "length", "()I"⟩, Cond.sameMethod "java/lang/AbstractStringBuilder" "java/lang/AbstractStringBuilder" "length" "()I", Cond.instanceMethod ⟨"java/lang/AbstractStringBuilder", "length", "()I"⟩, Cond.selects RJ4 ⟨"java/lang/AbstractStringBuilder", "length", "()I"⟩ yJ4_length_8abf5, Cond.instanceMethod yJ4_length_8abf5, Cond.code yJ4_length_8abf5 cJ4_length_8abf5 1 (some .int), Cond.methodLink RJ4 343 yJ5_length_8abf5, Cond.instanceMethod yJ5_length_8abf5, Cond.code yJ5_length_8abf5 cJ5_length_8abf5 1 (some .int), Cond.methodLink RJ0 1047 ⟨"java/lang/AbstractStringBuilder", "isLatin1", "()Z"⟩, Cond.methodLink RJ0 54 yJ7_copyOfRange_39247, Cond.static yJ7_copyOfRange_39247, Cond.code yJ7_copyOfRange_39247 cJ7_copyOfRange_39247 3 (some (.array .byte)), Cond.methodLink RJ7 339 yJ7_copyOfRangeByte_39247, Cond.static yJ7_copyOfRangeByte_39247, Cond.code yJ7_copyOfRangeByte_39247 cJ7_copyOfRangeByte_39247 5 (some (.array .byte)), Cond.methodLink RJ7 343 yJ7_checkLength_df160, Cond.static yJ7_checkLength_df160]
def wsL_law0_r23 : List Cond := [Cond.code yJ7_checkLength_df160 cJ7_checkLength_df160 2 none, Cond.classLink RJ7 45 RJ4, Cond.methodLink RJ0 1051 yJ2_compress_39247, Cond.static yJ2_compress_39247, Cond.code yJ2_compress_39247 cJ2_compress_39247 6 (some (.array .byte)), Cond.methodLink RJ2 123 yJ2_compress_5af95, Cond.static yJ2_compress_5af95, Cond.code yJ2_compress_5af95 cJ2_compress_5af95 7 (some .int), Cond.methodLink RJ2 71 yJ2_getChar_3b067, Cond.static yJ2_getChar_3b067, Cond.code yJ2_getChar_3b067 cJ2_getChar_3b067 2 (some .char), Cond.methodLink RJ2 126 yJ7_copyOfRange_39247, Cond.methodLink RJ0 47 yJ2_coderFromArrayLen_85cad, Cond.static yJ2_coderFromArrayLen_85cad, Cond.code yJ2_coderFromArrayLen_85cad cJ2_coderFromArrayLen_85cad 2 (some .byte), Cond.methodLink RL 41 yX7_done, Cond.instanceMethod yX7_done, Cond.selects RX7 yX7_done yX7_done, Cond.code yX7_done cX7_done 5 (some .int), Cond.fieldLink RX7 191 "MarkChat$Task" "doer" "LMarkChat$User;", Cond.fieldLink RX7 201 "MarkChat$Task" "untilHour" "I", Cond.methodLink RX7 187 yX7_taskAt, Cond.instanceMethod yX7_taskAt, Cond.selects RX7 yX7_taskAt yX7_taskAt]
def wsL_law0_r24 : List Cond := [Cond.code yX7_taskAt cX7_taskAt 2 (some (.object "MarkChat$Task")), Cond.methodLink RL 44 yX7_hold, Cond.instanceMethod yX7_hold, Cond.selects RX7 yX7_hold yX7_hold, Cond.code yX7_hold cX7_hold 3 (some .boolean), Cond.fieldLink RX7 204 "MarkChat$Channel" "isOnHold" "Z", Cond.methodLink RL 48 yX7_archive, Cond.instanceMethod yX7_archive, Cond.selects RX7 yX7_archive yX7_archive, Cond.code yX7_archive cX7_archive 6 (some .int), Cond.methodLink RX7 214 yX7_mayBeArchived, Cond.instanceMethod yX7_mayBeArchived, Cond.selects RX7 yX7_mayBeArchived yX7_mayBeArchived, Cond.code yX7_mayBeArchived cX7_mayBeArchived 2 (some .boolean), Cond.fieldLink RX7 224 "MarkChat$Message" "postHour" "I", Cond.methodLink RX7 314 yX7_hasStandingSpend, Cond.instanceMethod yX7_hasStandingSpend, Cond.selects RX7 yX7_hasStandingSpend yX7_hasStandingSpend, Cond.code yX7_hasStandingSpend cX7_hasStandingSpend 4 (some .boolean), Cond.methodLink RX7 317 yX7_hasOpenTask, Cond.instanceMethod yX7_hasOpenTask, Cond.selects RX7 yX7_hasOpenTask yX7_hasOpenTask, Cond.code yX7_hasOpenTask cX7_hasOpenTask 4 (some .boolean), Cond.methodLink RX7 320 yX7_hasReplyLeft]
def wsL_law0_r25 : List Cond := [Cond.instanceMethod yX7_hasReplyLeft, Cond.selects RX7 yX7_hasReplyLeft yX7_hasReplyLeft, Cond.code yX7_hasReplyLeft cX7_hasReplyLeft 4 (some .boolean), Cond.fieldLink RX7 221 "MarkChat$Message" "parent" "I", Cond.methodLink RL 51 yX7_pass, Cond.instanceMethod yX7_pass, Cond.selects RX7 yX7_pass yX7_pass, Cond.code yX7_pass cX7_pass 2 (some .int), Cond.methodLink RL 54 yX7_messageOf, Cond.instanceMethod yX7_messageOf, Cond.selects RX7 yX7_messageOf yX7_messageOf, Cond.code yX7_messageOf cX7_messageOf 4 (some .int), Cond.methodLink RL 57 yX7_isApproved, Cond.instanceMethod yX7_isApproved, Cond.selects RX7 yX7_isApproved yX7_isApproved, Cond.code yX7_isApproved cX7_isApproved 5 (some .boolean), Cond.methodLink RX7 232 yX1_readInto, Cond.instanceMethod yX1_readInto, Cond.selects RX1 yX1_readInto yX1_readInto, Cond.code yX1_readInto cX1_readInto 4 none, Cond.methodLink RX1 29 yX2_clear, Cond.methodLink RX1 34 yX2_put, Cond.methodLink RL 61 yX7_spendOf, Cond.instanceMethod yX7_spendOf]
def wsL_law0_r26 : List Cond := [Cond.selects RX7 yX7_spendOf yX7_spendOf, Cond.code yX7_spendOf cX7_spendOf 4 (some .int), Cond.methodLink RX7 236 yX7_spendAt, Cond.instanceMethod yX7_spendAt, Cond.selects RX7 yX7_spendAt yX7_spendAt, Cond.code yX7_spendAt cX7_spendAt 2 (some (.object "MarkChat$Spend")), Cond.methodLink RL 64 yX7_next, Cond.instanceMethod yX7_next, Cond.selects RX7 yX7_next yX7_next, Cond.code yX7_next cX7_next 6 (some .int), Cond.methodLink RX7 256 yX5_isOpenFor, Cond.instanceMethod yX5_isOpenFor, Cond.selects RX5 yX5_isOpenFor yX5_isOpenFor, Cond.code yX5_isOpenFor cX5_isOpenFor 2 (some .boolean), Cond.methodLink RX7 260 yX7_rankOf, Cond.instanceMethod yX7_rankOf, Cond.selects RX7 yX7_rankOf yX7_rankOf, Cond.code yX7_rankOf cX7_rankOf 5 (some .int), Cond.methodLink RX7 310 yX5_comesBefore, Cond.instanceMethod yX5_comesBefore, Cond.selects RX5 yX5_comesBefore yX5_comesBefore, Cond.code yX5_comesBefore cX5_comesBefore 2 (some .boolean), Cond.methodLink RL 67 yX7_taskOf, Cond.instanceMethod yX7_taskOf]
def wsL_law0_r27 : List Cond := [Cond.selects RX7 yX7_taskOf yX7_taskOf, Cond.code yX7_taskOf cX7_taskOf 2 (some .int), Cond.methodLink RL 116 yL_part, Cond.static yL_part, Cond.code yL_part cL_part 4 (some .int), Cond.constant RL 7 (2147483647), Cond.methodLink RL 121 yL_isMessage, Cond.static yL_isMessage, Cond.code yL_isMessage cL_isMessage 19 (some .boolean), Cond.constant RL 101 (131072), Cond.constant RL 110 (262144), Cond.methodLink RL 79 yL_isGone, Cond.static yL_isGone, Cond.code yL_isGone cL_isGone 3 (some .boolean), Cond.methodLink RL 85 yL_counted, Cond.static yL_counted, Cond.code yL_counted cL_counted 8 (some .int), Cond.methodLink RL 125 yL_isSpend, Cond.static yL_isSpend, Cond.code yL_isSpend cL_isSpend 22 (some .boolean), Cond.constant RL 111 (1000003), Cond.methodLink RL 90 yL_isApproved, Cond.static yL_isApproved, Cond.code yL_isApproved cL_isApproved 10 (some .boolean)]
def wsL_law0_r28 : List Cond := [Cond.methodLink RL 129 yL_archived, Cond.static yL_archived, Cond.code yL_archived cL_archived 10 (some .int), Cond.constant RL 113 (65535), Cond.constant RL 114 (131071), Cond.methodLink RL 133 yL_settles, Cond.static yL_settles, Cond.code yL_settles cL_settles 10 none, Cond.constant RL 89 (65536), Cond.methodLink RL 137 yL_isSo, Cond.static yL_isSo, Cond.code yL_isSo cL_isSo 20 (some .boolean), Cond.constant RL 97 (1000000), Cond.methodLink RL 98 yX7_left, Cond.instanceMethod yX7_left, Cond.selects RX7 yX7_left yX7_left, Cond.code yX7_left cX7_left 2 (some .int), Cond.methodLink RL 102 yL_reads, Cond.static yL_reads, Cond.code yL_reads cL_reads 8 (some .int), Cond.methodLink RL 93 yX7_label, Cond.instanceMethod yX7_label, Cond.selects RX7 yX7_label yX7_label, Cond.code yX7_label cX7_label 4 (some .char)]
def wsL_law0_r29 : List Cond := [Cond.fieldLink RX7 264 "MarkChat$Task" "text" "Ljava/lang/String;", Cond.methodLink RX7 270 yJ0_length_8abf5, Cond.instanceMethod yJ0_length_8abf5, Cond.selects RJ0 yJ0_length_8abf5 yJ0_length_8abf5, Cond.code yJ0_length_8abf5 cJ0_length_8abf5 1 (some .int), Cond.methodLink RJ0 335 yJ0_coder_7d493, Cond.instanceMethod yJ0_coder_7d493, Cond.selects RJ0 yJ0_coder_7d493 yJ0_coder_7d493, Cond.code yJ0_coder_7d493 cJ0_coder_7d493 1 (some .byte), Cond.methodLink RX7 275 yJ0_charAt_5068e, Cond.instanceMethod yJ0_charAt_5068e, Cond.selects RJ0 yJ0_charAt_5068e yJ0_charAt_5068e, Cond.code yJ0_charAt_5068e cJ0_charAt_5068e 2 (some .char), Cond.methodLink RJ0 492 yJ0_isLatin1_aae02, Cond.instanceMethod yJ0_isLatin1_aae02, Cond.selects RJ0 yJ0_isLatin1_aae02 yJ0_isLatin1_aae02, Cond.code yJ0_isLatin1_aae02 cJ0_isLatin1_aae02 1 (some .boolean), Cond.methodLink RJ0 495 yJ1_charAt_3b067, Cond.static yJ1_charAt_3b067, Cond.code yJ1_charAt_3b067 cJ1_charAt_3b067 2 (some .char), Cond.methodLink RJ1 9 yJ0_checkIndex_df160, Cond.methodLink RJ0 498 yJ2_charAt_3b067, Cond.static yJ2_charAt_3b067, Cond.code yJ2_charAt_3b067 cJ2_charAt_3b067 2 (some .char)]
def wsL_law0 : List Cond := (wsL_law0_r1 ++ (wsL_law0_r2 ++ (wsL_law0_r3 ++ (wsL_law0_r4 ++ (wsL_law0_r5 ++ (wsL_law0_r6 ++ (wsL_law0_r7 ++ (wsL_law0_r8 ++ (wsL_law0_r9 ++ (wsL_law0_r10 ++ (wsL_law0_r11 ++ (wsL_law0_r12 ++ (wsL_law0_r13 ++ (wsL_law0_r14 ++ (wsL_law0_r15 ++ (wsL_law0_r16 ++ (wsL_law0_r17 ++ (wsL_law0_r18 ++ (wsL_law0_r19 ++ (wsL_law0_r20 ++ (wsL_law0_r21 ++ (wsL_law0_r22 ++ (wsL_law0_r23 ++ (wsL_law0_r24 ++ (wsL_law0_r25 ++ (wsL_law0_r26 ++ (wsL_law0_r27 ++ (wsL_law0_r28 ++ wsL_law0_r29)))))))))))))))))))))))))))) ++ wsX70 ++ wsJx4a65c0 ++ wsX00 ++ wsX10 ++ wsX20 ++ wsX60 ++ wsX40 ++ wsX30 ++ wsX50 ++ wsJ40 ++ wsJ00 ++ ([] : List Cond)
def wsL_law : List Cond := wsL_law0 ++ (vx_atS RX7 231 "java/lang/IllegalArgumentException" ["java/lang/RuntimeException", "java/lang/Exception"]).filter goodWord ++ (vx_atS RX7 100 "java/lang/IllegalStateException" ["java/lang/RuntimeException", "java/lang/Exception"]).filter goodWord ++ (vx_atS RX7 255 "java/lang/IndexOutOfBoundsException" ["java/lang/RuntimeException", "java/lang/Exception"]).filter goodWord
abbrev vwCl : List vw_C := [(RJ0, TJ0, 4), (RJ4, TJ4, 4), (RJx4a65c, TJx4a65c, 3), (RX0, TX0, 3), (RX1, TX1, 4), (RX2, TX2, 1), (RX3, TX3, 8), (RX4, TX4, 5), (RX5, TX5, 6), (RX6, TX6, 3), (RX7, TX7, 8)]
