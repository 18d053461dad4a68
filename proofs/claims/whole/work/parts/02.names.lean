def R_PC : String := "PaxosCommit"
def T_PC : u_T := fun k => match k with
  | 0 => ("PaxosCommit", "stores", "[LPaxosCommit$Store;", true)
  | 1 => ("PaxosCommit", "acceptors", "[LPaxosCommit$Acceptor;", true)
  | 2 => ("PaxosCommit", "ledgers", "[LPaxosCommit$Ledger;", true)
  | 3 => ("PaxosCommit", "majority", "I", true)
  | 4 => ("PaxosCommit", "upSets", "[I", true)
  | 5 => ("PaxosCommit", "net", "LPaxosCommit$Net;", true)
  | 6 => ("PaxosCommit", "members", "[I", true)
  | 7 => ("PaxosCommit", "closed", "[Z", true)
  | _ => ("PaxosCommit", "begun", "I", false)
def t_PC : Nat → FieldType := fun k => match k with
  | 0 => (.array (.object "PaxosCommit$Store"))
  | 1 => (.array (.object "PaxosCommit$Acceptor"))
  | 2 => (.array (.object "PaxosCommit$Ledger"))
  | 3 => .int
  | 4 => (.array .int)
  | 5 => (.object "PaxosCommit$Net")
  | 6 => (.array .int)
  | 7 => (.array .boolean)
  | _ => .int
theorem n_PC : ∀ a, a < 9 → ∀ b, b < 9 → a ≠ b → (T_PC a).2.1 ≠ (T_PC b).2.1 := by decide +kernel
theorem t_PC_ok : ∀ k, k < 9 → parseFieldDescriptor (T_PC k).2.2.1 = some (t_PC k) := by decide +kernel
def R_Store : String := "PaxosCommit$Store"
def T_Store : u_T := fun k => match k with
  | 0 => ("PaxosCommit$Store", "values", "[I", true)
  | 1 => ("PaxosCommit$Store", "locks", "[I", true)
  | 2 => ("PaxosCommit$Store", "states", "[I", true)
  | 3 => ("PaxosCommit$Store", "written", "[I", true)
  | _ => ("PaxosCommit$Store", "writes", "[[I", true)
def t_Store : Nat → FieldType := fun k => match k with
  | 0 => (.array .int)
  | 1 => (.array .int)
  | 2 => (.array .int)
  | 3 => (.array .int)
  | _ => (.array (.array .int))
theorem n_Store : ∀ a, a < 5 → ∀ b, b < 5 → a ≠ b → (T_Store a).2.1 ≠ (T_Store b).2.1 := by decide +kernel
theorem t_Store_ok : ∀ k, k < 5 → parseFieldDescriptor (T_Store k).2.2.1 = some (t_Store k) := by decide +kernel
def R_Acc : String := "PaxosCommit$Acceptor"
def T_Acc : u_T := fun k => match k with
  | 0 => ("PaxosCommit$Acceptor", "promises", "[[I", true)
  | _ => ("PaxosCommit$Acceptor", "accepted", "[[I", true)
def t_Acc : Nat → FieldType := fun k => match k with
  | 0 => (.array (.array .int))
  | _ => (.array (.array .int))
theorem n_Acc : ∀ a, a < 2 → ∀ b, b < 2 → a ≠ b → (T_Acc a).2.1 ≠ (T_Acc b).2.1 := by decide +kernel
theorem t_Acc_ok : ∀ k, k < 2 → parseFieldDescriptor (T_Acc k).2.2.1 = some (t_Acc k) := by decide +kernel
def R_Led : String := "PaxosCommit$Ledger"
def T_Led : u_T := fun k => match k with
  | 0 => ("PaxosCommit$Ledger", "ballot", "I", false)
  | 1 => ("PaxosCommit$Ledger", "proposed", "Z", false)
  | 2 => ("PaxosCommit$Ledger", "known", "I", false)
  | 3 => ("PaxosCommit$Ledger", "hasReply", "[Z", true)
  | 4 => ("PaxosCommit$Ledger", "replies", "[[I", true)
  | _ => ("PaxosCommit$Ledger", "latest", "[[I", true)
def t_Led : Nat → FieldType := fun k => match k with
  | 0 => .int
  | 1 => .boolean
  | 2 => .int
  | 3 => (.array .boolean)
  | 4 => (.array (.array .int))
  | _ => (.array (.array .int))
theorem n_Led : ∀ a, a < 6 → ∀ b, b < 6 → a ≠ b → (T_Led a).2.1 ≠ (T_Led b).2.1 := by decide +kernel
theorem t_Led_ok : ∀ k, k < 6 → parseFieldDescriptor (T_Led k).2.2.1 = some (t_Led k) := by decide +kernel
def R_Msg : String := "PaxosCommit$Message"
def T_Msg : u_T := fun k => match k with
  | 0 => ("PaxosCommit$Message", "kind", "I", false)
  | 1 => ("PaxosCommit$Message", "transaction", "I", false)
  | 2 => ("PaxosCommit$Message", "store", "I", false)
  | 3 => ("PaxosCommit$Message", "acceptor", "I", false)
  | 4 => ("PaxosCommit$Message", "leader", "I", false)
  | 5 => ("PaxosCommit$Message", "ballot", "I", false)
  | 6 => ("PaxosCommit$Message", "vote", "I", false)
  | _ => ("PaxosCommit$Message", "replied", "[I", true)
def t_Msg : Nat → FieldType := fun k => match k with
  | 0 => .int
  | 1 => .int
  | 2 => .int
  | 3 => .int
  | 4 => .int
  | 5 => .int
  | 6 => .int
  | _ => (.array .int)
theorem n_Msg : ∀ a, a < 8 → ∀ b, b < 8 → a ≠ b → (T_Msg a).2.1 ≠ (T_Msg b).2.1 := by decide +kernel
theorem t_Msg_ok : ∀ k, k < 8 → parseFieldDescriptor (T_Msg k).2.2.1 = some (t_Msg k) := by decide +kernel
def R_Net : String := "PaxosCommit$Net"
def T_Net : u_T := fun k => match k with
  | 0 => ("PaxosCommit$Net", "row", "[LPaxosCommit$Message;", true)
  | 1 => ("PaxosCommit$Net", "size", "I", false)
  | 2 => ("PaxosCommit$Net", "overflowed", "I", false)
  | 3 => ("PaxosCommit$Net", "draft", "LPaxosCommit$Message;", true)
  | _ => ("PaxosCommit$Net", "hand", "LPaxosCommit$Message;", true)
def t_Net : Nat → FieldType := fun k => match k with
  | 0 => (.array (.object "PaxosCommit$Message"))
  | 1 => .int
  | 2 => .int
  | 3 => (.object "PaxosCommit$Message")
  | _ => (.object "PaxosCommit$Message")
theorem n_Net : ∀ a, a < 5 → ∀ b, b < 5 → a ≠ b → (T_Net a).2.1 ≠ (T_Net b).2.1 := by decide +kernel
theorem t_Net_ok : ∀ k, k < 5 → parseFieldDescriptor (T_Net k).2.2.1 = some (t_Net k) := by decide +kernel
def R_Mo : String := "PaxosCommitModel"
def T_Mo : u_T := fun k => match k with
  | 0 => ("PaxosCommitModel", "failed", "I", false)
  | 1 => ("PaxosCommitModel", "n", "I", true)
  | 2 => ("PaxosCommitModel", "storeDown", "[Z", true)
  | 3 => ("PaxosCommitModel", "acceptorDown", "[Z", true)
  | 4 => ("PaxosCommitModel", "leaderDown", "[Z", true)
  | 5 => ("PaxosCommitModel", "value", "[I", true)
  | 6 => ("PaxosCommitModel", "lock", "[I", true)
  | 7 => ("PaxosCommitModel", "transactions", "I", false)
  | 8 => ("PaxosCommitModel", "members", "[I", true)
  | 9 => ("PaxosCommitModel", "closed", "[Z", true)
  | 10 => ("PaxosCommitModel", "state", "[I", true)
  | 11 => ("PaxosCommitModel", "writes", "[I", true)
  | 12 => ("PaxosCommitModel", "written", "[I", true)
  | 13 => ("PaxosCommitModel", "promised", "[I", true)
  | 14 => ("PaxosCommitModel", "takenBallot", "[I", true)
  | 15 => ("PaxosCommitModel", "takenVote", "[I", true)
  | 16 => ("PaxosCommitModel", "ballot", "[I", true)
  | 17 => ("PaxosCommitModel", "proposed", "[Z", true)
  | 18 => ("PaxosCommitModel", "known", "[I", true)
  | 19 => ("PaxosCommitModel", "replied", "[Z", true)
  | 20 => ("PaxosCommitModel", "replyBallot", "[I", true)
  | 21 => ("PaxosCommitModel", "replyVote", "[I", true)
  | 22 => ("PaxosCommitModel", "latestBallot", "[I", true)
  | 23 => ("PaxosCommitModel", "latestVote", "[I", true)
  | 24 => ("PaxosCommitModel", "net", "[I", true)
  | 25 => ("PaxosCommitModel", "size", "I", false)
  | _ => ("PaxosCommitModel", "lost", "I", false)
def t_Mo : Nat → FieldType := fun k => match k with
  | 0 => .int
  | 1 => .int
  | 2 => (.array .boolean)
  | 3 => (.array .boolean)
  | 4 => (.array .boolean)
  | 5 => (.array .int)
  | 6 => (.array .int)
  | 7 => .int
  | 8 => (.array .int)
  | 9 => (.array .boolean)
  | 10 => (.array .int)
  | 11 => (.array .int)
  | 12 => (.array .int)
  | 13 => (.array .int)
  | 14 => (.array .int)
  | 15 => (.array .int)
  | 16 => (.array .int)
  | 17 => (.array .boolean)
  | 18 => (.array .int)
  | 19 => (.array .boolean)
  | 20 => (.array .int)
  | 21 => (.array .int)
  | 22 => (.array .int)
  | 23 => (.array .int)
  | 24 => (.array .int)
  | 25 => .int
  | _ => .int
theorem n_Mo : ∀ a, a < 27 → ∀ b, b < 27 → a ≠ b → (T_Mo a).2.1 ≠ (T_Mo b).2.1 := by decide +kernel
theorem t_Mo_ok : ∀ k, k < 27 → parseFieldDescriptor (T_Mo k).2.2.1 = some (t_Mo k) := by decide +kernel
def R_SB : String := "java/lang/StringBuilder"
def T_SB : u_T := fun k => match k with
  | 0 => ("java/lang/AbstractStringBuilder", "value", "[B", false)
  | 1 => ("java/lang/AbstractStringBuilder", "coder", "B", false)
  | 2 => ("java/lang/AbstractStringBuilder", "maybeLatin1", "Z", false)
  | _ => ("java/lang/AbstractStringBuilder", "count", "I", false)
def t_SB : Nat → FieldType := fun k => match k with
  | 0 => (.array .byte)
  | 1 => .byte
  | 2 => .boolean
  | _ => .int
theorem n_SB : ∀ a, a < 4 → ∀ b, b < 4 → a ≠ b → (T_SB a).2.1 ≠ (T_SB b).2.1 := by decide +kernel
theorem t_SB_ok : ∀ k, k < 4 → parseFieldDescriptor (T_SB k).2.2.1 = some (t_SB k) := by decide +kernel
def R_Law : String := "PaxosCommitLaw"
abbrev gcl : List vw_C := [(R_PC, T_PC, 9), (R_Store, T_Store, 5), (R_Acc, T_Acc, 2), (R_Led, T_Led, 6), (R_Msg, T_Msg, 8), (R_Net, T_Net, 5), (R_Mo, T_Mo, 27), (R_SB, T_SB, 4)]
abbrev iPC : Nat := 0
abbrev iStore : Nat := 1
abbrev iAcc : Nat := 2
abbrev iLed : Nat := 3
abbrev iMsg : Nat := 4
abbrev iNet : Nat := 5
abbrev iMo : Nat := 6
abbrev iSB : Nat := 7
abbrev gclMsg : vw_C := (R_Msg, T_Msg, 8)
def R_AbstractStringBuilder : String := "java/lang/AbstractStringBuilder"
def R_Integer : String := "java/lang/Integer"
def R_Math : String := "java/lang/Math"
def R_Object : String := "java/lang/Object"
def R_String : String := "java/lang/String"
def R_StringLatin1 : String := "java/lang/StringLatin1"
def R_Arrays : String := "java/util/Arrays"
def R_ArraysSupport : String := "jdk/internal/util/ArraysSupport"
def R_Preconditions : String := "jdk/internal/util/Preconditions"
abbrev b_AbstractStringBuilder_append_C : ByteArray := prog_9_method_31_code
def y_AbstractStringBuilder_append_C : MethodName := ⟨R_AbstractStringBuilder, "append", "(C)Ljava/lang/AbstractStringBuilder;"⟩
abbrev b_AbstractStringBuilder_append_I : ByteArray := prog_9_method_32_code
def y_AbstractStringBuilder_append_I : MethodName := ⟨R_AbstractStringBuilder, "append", "(I)Ljava/lang/AbstractStringBuilder;"⟩
abbrev b_AbstractStringBuilder_charAt : ByteArray := prog_9_method_14_code
def y_AbstractStringBuilder_charAt : MethodName := ⟨R_AbstractStringBuilder, "charAt", "(I)C"⟩
abbrev b_AbstractStringBuilder_ensureCapacityInternal : ByteArray := prog_9_method_9_code
def y_AbstractStringBuilder_ensureCapacityInternal : MethodName := ⟨R_AbstractStringBuilder, "ensureCapacityInternal", "(I)V"⟩
abbrev b_AbstractStringBuilder_init : ByteArray := prog_9_method_2_code
def y_AbstractStringBuilder_init : MethodName := ⟨R_AbstractStringBuilder, "<init>", "(I)V"⟩
abbrev b_AbstractStringBuilder_isLatin1 : ByteArray := prog_9_method_68_code
def y_AbstractStringBuilder_isLatin1 : MethodName := ⟨R_AbstractStringBuilder, "isLatin1", "()Z"⟩
abbrev b_AbstractStringBuilder_length : ByteArray := prog_9_method_6_code
def y_AbstractStringBuilder_length : MethodName := ⟨R_AbstractStringBuilder, "length", "()I"⟩
abbrev b_AbstractStringBuilder_newCapacity : ByteArray := prog_9_method_10_code
def y_AbstractStringBuilder_newCapacity : MethodName := ⟨R_AbstractStringBuilder, "newCapacity", "(I)I"⟩
abbrev b_Acc_accept : ByteArray := prog_2_method_4_code
def y_Acc_accept : MethodName := ⟨R_Acc, "accept", "(IIII)V"⟩
abbrev b_Acc_hasPromisedAbove : ByteArray := prog_2_method_2_code
def y_Acc_hasPromisedAbove : MethodName := ⟨R_Acc, "hasPromisedAbove", "(III)Z"⟩
abbrev b_Acc_init : ByteArray := prog_2_method_1_code
def y_Acc_init : MethodName := ⟨R_Acc, "<init>", "()V"⟩
abbrev b_Acc_promise : ByteArray := prog_2_method_3_code
def y_Acc_promise : MethodName := ⟨R_Acc, "promise", "(III)V"⟩
abbrev b_ArraysSupport_newLength : ByteArray := prog_27_method_27_code
def y_ArraysSupport_newLength : MethodName := ⟨R_ArraysSupport, "newLength", "(III)I"⟩
abbrev b_Arrays_copyOf : ByteArray := prog_25_method_121_code
def y_Arrays_copyOf : MethodName := ⟨R_Arrays, "copyOf", "([BI)[B"⟩
abbrev b_Arrays_fill : ByteArray := prog_25_method_103_code
def y_Arrays_fill : MethodName := ⟨R_Arrays, "fill", "([II)V"⟩
abbrev b_Integer_bitCount : ByteArray := prog_15_method_49_code
def y_Integer_bitCount : MethodName := ⟨R_Integer, "bitCount", "(I)I"⟩
abbrev b_Integer_getChars : ByteArray := prog_15_method_12_code
def y_Integer_getChars : MethodName := ⟨R_Integer, "getChars", "(II[B)I"⟩
abbrev b_Integer_stringSize : ByteArray := prog_15_method_13_code
def y_Integer_stringSize : MethodName := ⟨R_Integer, "stringSize", "(I)I"⟩
abbrev b_Law_begin : ByteArray := method_3_code
def y_Law_begin : MethodName := ⟨R_Law, "begin", "(LPaxosCommit;[J)I"⟩
abbrev b_Law_cell : ByteArray := method_2_code
def y_Law_cell : MethodName := ⟨R_Law, "cell", "([II)I"⟩
abbrev b_Law_count : ByteArray := method_17_code
def y_Law_count : MethodName := ⟨R_Law, "count", "(LPaxosCommit;I[J)I"⟩
abbrev b_Law_deliver : ByteArray := method_8_code
def y_Law_deliver : MethodName := ⟨R_Law, "deliver", "(LPaxosCommit;IZ[J)I"⟩
abbrev b_Law_law : ByteArray := code
def y_Law_law : MethodName := ⟨R_Law, "law", "([I)Z"⟩
abbrev b_Law_lock : ByteArray := method_13_code
def y_Law_lock : MethodName := ⟨R_Law, "lock", "(LPaxosCommit;II[J)I"⟩
abbrev b_Law_lose : ByteArray := method_9_code
def y_Law_lose : MethodName := ⟨R_Law, "lose", "(LPaxosCommit;I[J)I"⟩
abbrev b_Law_outcome : ByteArray := method_15_code
def y_Law_outcome : MethodName := ⟨R_Law, "outcome", "(LPaxosCommit;II[J)I"⟩
abbrev b_Law_refuse : ByteArray := method_6_code
def y_Law_refuse : MethodName := ⟨R_Law, "refuse", "(LPaxosCommit;II[J)I"⟩
abbrev b_Law_request : ByteArray := method_5_code
def y_Law_request : MethodName := ⟨R_Law, "request", "(LPaxosCommit;I[J)I"⟩
abbrev b_Law_state : ByteArray := method_14_code
def y_Law_state : MethodName := ⟨R_Law, "state", "(LPaxosCommit;II[J)I"⟩
abbrev b_Law_take : ByteArray := method_7_code
def y_Law_take : MethodName := ⟨R_Law, "take", "(LPaxosCommit;II[J)I"⟩
abbrev b_Law_taken : ByteArray := method_16_code
def y_Law_taken : MethodName := ⟨R_Law, "taken", "(LPaxosCommit;IIIZ[J)I"⟩
abbrev b_Law_text : ByteArray := method_11_code
def y_Law_text : MethodName := ⟨R_Law, "text", "(LPaxosCommit;II[J)I"⟩
abbrev b_Law_up : ByteArray := method_10_code
def y_Law_up : MethodName := ⟨R_Law, "up", "(LPaxosCommit;IIZ[J)I"⟩
abbrev b_Law_value : ByteArray := method_12_code
def y_Law_value : MethodName := ⟨R_Law, "value", "(LPaxosCommit;II[J)I"⟩
abbrev b_Law_write : ByteArray := method_4_code
def y_Law_write : MethodName := ⟨R_Law, "write", "(LPaxosCommit;IIII[J)I"⟩
abbrev b_Led_countReplies : ByteArray := prog_3_method_6_code
def y_Led_countReplies : MethodName := ⟨R_Led, "countReplies", "()I"⟩
abbrev b_Led_decidedVote : ByteArray := prog_3_method_10_code
def y_Led_decidedVote : MethodName := ⟨R_Led, "decidedVote", "(II)I"⟩
abbrev b_Led_dropReplies : ByteArray := prog_3_method_4_code
def y_Led_dropReplies : MethodName := ⟨R_Led, "dropReplies", "()V"⟩
abbrev b_Led_forget : ByteArray := prog_3_method_3_code
def y_Led_forget : MethodName := ⟨R_Led, "forget", "()V"⟩
abbrev b_Led_hear : ByteArray := prog_3_method_8_code
def y_Led_hear : MethodName := ⟨R_Led, "hear", "(IIII)V"⟩
abbrev b_Led_init : ByteArray := prog_3_method_1_code
def y_Led_init : MethodName := ⟨R_Led, "<init>", "(I)V"⟩
abbrev b_Led_judge : ByteArray := prog_3_method_9_code
def y_Led_judge : MethodName := ⟨R_Led, "judge", "(II)I"⟩
abbrev b_Led_keepReply : ByteArray := prog_3_method_5_code
def y_Led_keepReply : MethodName := ⟨R_Led, "keepReply", "(I[I)V"⟩
abbrev b_Led_raiseBallot : ByteArray := prog_3_method_2_code
def y_Led_raiseBallot : MethodName := ⟨R_Led, "raiseBallot", "(I)I"⟩
abbrev b_Led_voteToPropose : ByteArray := prog_3_method_7_code
def y_Led_voteToPropose : MethodName := ⟨R_Led, "voteToPropose", "(I)I"⟩
abbrev b_Math_floorMod : ByteArray := prog_16_method_50_code
def y_Math_floorMod : MethodName := ⟨R_Math, "floorMod", "(II)I"⟩
abbrev b_Math_max : ByteArray := prog_16_method_65_code
def y_Math_max : MethodName := ⟨R_Math, "max", "(II)I"⟩
abbrev b_Math_min : ByteArray := prog_16_method_69_code
def y_Math_min : MethodName := ⟨R_Math, "min", "(II)I"⟩
abbrev b_Mo_abort : ByteArray := prog_8_method_10_code
def y_Mo_abort : MethodName := ⟨R_Mo, "abort", "(II)V"⟩
abbrev b_Mo_accept : ByteArray := prog_8_method_21_code
def y_Mo_accept : MethodName := ⟨R_Mo, "accept", "(IIIII)V"⟩
abbrev b_Mo_arrive : ByteArray := prog_8_method_25_code
def y_Mo_arrive : MethodName := ⟨R_Mo, "arrive", "(I)V"⟩
abbrev b_Mo_ask : ByteArray := prog_8_method_18_code
def y_Mo_ask : MethodName := ⟨R_Mo, "ask", "(III)V"⟩
abbrev b_Mo_begin : ByteArray := prog_8_method_11_code
def y_Mo_begin : MethodName := ⟨R_Mo, "begin", "()I"⟩
abbrev b_Mo_count : ByteArray := prog_8_method_42_code
def y_Mo_count : MethodName := ⟨R_Mo, "count", "(I)I"⟩
abbrev b_Mo_decided : ByteArray := prog_8_method_22_code
def y_Mo_decided : MethodName := ⟨R_Mo, "decided", "(II)I"⟩
abbrev b_Mo_deliver : ByteArray := prog_8_method_27_code
def y_Mo_deliver : MethodName := ⟨R_Mo, "deliver", "(IZ)I"⟩
abbrev b_Mo_fail : ByteArray := prog_8_method_3_code
def y_Mo_fail : MethodName := ⟨R_Mo, "fail", "(I)I"⟩
abbrev b_Mo_finish : ByteArray := prog_8_method_24_code
def y_Mo_finish : MethodName := ⟨R_Mo, "finish", "(III)V"⟩
abbrev b_Mo_forget : ByteArray := prog_8_method_29_code
def y_Mo_forget : MethodName := ⟨R_Mo, "forget", "(I)V"⟩
abbrev b_Mo_init : ByteArray := prog_8_method_1_code
def y_Mo_init : MethodName := ⟨R_Mo, "<init>", "(I)V"⟩
abbrev b_Mo_lock : ByteArray := prog_8_method_37_code
def y_Mo_lock : MethodName := ⟨R_Mo, "lock", "(II)I"⟩
abbrev b_Mo_lose : ByteArray := prog_8_method_28_code
def y_Mo_lose : MethodName := ⟨R_Mo, "lose", "(I)I"⟩
abbrev b_Mo_member : ByteArray := prog_8_method_6_code
def y_Mo_member : MethodName := ⟨R_Mo, "member", "(II)Z"⟩
abbrev b_Mo_most : ByteArray := prog_8_method_5_code
def y_Mo_most : MethodName := ⟨R_Mo, "most", "()I"⟩
abbrev b_Mo_ones : ByteArray := prog_8_method_12_code
def y_Mo_ones : MethodName := ⟨R_Mo, "ones", "(I)I"⟩
abbrev b_Mo_out : ByteArray := prog_8_method_4_code
def y_Mo_out : MethodName := ⟨R_Mo, "out", "(II)Z"⟩
abbrev b_Mo_outcome : ByteArray := prog_8_method_39_code
def y_Mo_outcome : MethodName := ⟨R_Mo, "outcome", "(II)I"⟩
abbrev b_Mo_pass : ByteArray := prog_8_method_31_code
def y_Mo_pass : MethodName := ⟨R_Mo, "pass", "(II)I"⟩
abbrev b_Mo_passNumber : ByteArray := prog_8_method_32_code
def y_Mo_passNumber : MethodName := ⟨R_Mo, "passNumber", "(II)I"⟩
abbrev b_Mo_passPart : ByteArray := prog_8_method_33_code
def y_Mo_passPart : MethodName := ⟨R_Mo, "passPart", "(III)I"⟩
abbrev b_Mo_passVote : ByteArray := prog_8_method_34_code
def y_Mo_passVote : MethodName := ⟨R_Mo, "passVote", "(II)I"⟩
abbrev b_Mo_prepare : ByteArray := prog_8_method_17_code
def y_Mo_prepare : MethodName := ⟨R_Mo, "prepare", "(II)V"⟩
abbrev b_Mo_proposal : ByteArray := prog_8_method_19_code
def y_Mo_proposal : MethodName := ⟨R_Mo, "proposal", "(II)I"⟩
abbrev b_Mo_refuse : ByteArray := prog_8_method_15_code
def y_Mo_refuse : MethodName := ⟨R_Mo, "refuse", "(II)I"⟩
abbrev b_Mo_reply : ByteArray := prog_8_method_20_code
def y_Mo_reply : MethodName := ⟨R_Mo, "reply", "(IIIII)V"⟩
abbrev b_Mo_request : ByteArray := prog_8_method_14_code
def y_Mo_request : MethodName := ⟨R_Mo, "request", "(I)I"⟩
abbrev b_Mo_send : ByteArray := prog_8_method_7_code
def y_Mo_send : MethodName := ⟨R_Mo, "send", "(IIIIIII)Z"⟩
abbrev b_Mo_state : ByteArray := prog_8_method_38_code
def y_Mo_state : MethodName := ⟨R_Mo, "state", "(II)I"⟩
abbrev b_Mo_take : ByteArray := prog_8_method_16_code
def y_Mo_take : MethodName := ⟨R_Mo, "take", "(II)I"⟩
abbrev b_Mo_takeOut : ByteArray := prog_8_method_26_code
def y_Mo_takeOut : MethodName := ⟨R_Mo, "takeOut", "(IZ)V"⟩
abbrev b_Mo_taken : ByteArray := prog_8_method_40_code
def y_Mo_taken : MethodName := ⟨R_Mo, "taken", "(IIIZ)I"⟩
abbrev b_Mo_text : ByteArray := prog_8_method_35_code
def y_Mo_text : MethodName := ⟨R_Mo, "text", "(II)I"⟩
abbrev b_Mo_thrown : ByteArray := prog_8_method_2_code
def y_Mo_thrown : MethodName := ⟨R_Mo, "thrown", "()I"⟩
abbrev b_Mo_told : ByteArray := prog_8_method_23_code
def y_Mo_told : MethodName := ⟨R_Mo, "told", "(IIIIII)V"⟩
abbrev b_Mo_unlock : ByteArray := prog_8_method_9_code
def y_Mo_unlock : MethodName := ⟨R_Mo, "unlock", "(II)V"⟩
abbrev b_Mo_up : ByteArray := prog_8_method_30_code
def y_Mo_up : MethodName := ⟨R_Mo, "up", "(IIZ)Z"⟩
abbrev b_Mo_upSet : ByteArray := prog_8_method_41_code
def y_Mo_upSet : MethodName := ⟨R_Mo, "upSet", "([ZI)I"⟩
abbrev b_Mo_value : ByteArray := prog_8_method_36_code
def y_Mo_value : MethodName := ⟨R_Mo, "value", "(II)I"⟩
abbrev b_Mo_vote : ByteArray := prog_8_method_8_code
def y_Mo_vote : MethodName := ⟨R_Mo, "vote", "(IIII)V"⟩
abbrev b_Mo_write : ByteArray := prog_8_method_13_code
def y_Mo_write : MethodName := ⟨R_Mo, "write", "(IIII)I"⟩
abbrev b_Msg_clear : ByteArray := prog_4_method_2_code
def y_Msg_clear : MethodName := ⟨R_Msg, "clear", "(II)V"⟩
abbrev b_Msg_copyFrom : ByteArray := prog_4_method_3_code
def y_Msg_copyFrom : MethodName := ⟨R_Msg, "copyFrom", "(LPaxosCommit$Message;)V"⟩
abbrev b_Msg_init : ByteArray := prog_4_method_1_code
def y_Msg_init : MethodName := ⟨R_Msg, "<init>", "()V"⟩
abbrev b_Msg_receiver : ByteArray := prog_4_method_5_code
def y_Msg_receiver : MethodName := ⟨R_Msg, "receiver", "()I"⟩
abbrev b_Msg_receiverKind : ByteArray := prog_4_method_4_code
def y_Msg_receiverKind : MethodName := ⟨R_Msg, "receiverKind", "()I"⟩
abbrev b_Msg_spell : ByteArray := prog_4_method_6_code
def y_Msg_spell : MethodName := ⟨R_Msg, "spell", "(Ljava/lang/StringBuilder;)V"⟩
abbrev b_Msg_spellPart : ByteArray := prog_4_method_7_code
def y_Msg_spellPart : MethodName := ⟨R_Msg, "spellPart", "(Ljava/lang/StringBuilder;CI)V"⟩
abbrev b_Msg_spellReplied : ByteArray := prog_4_method_8_code
def y_Msg_spellReplied : MethodName := ⟨R_Msg, "spellReplied", "(Ljava/lang/StringBuilder;I)V"⟩
abbrev b_Net_compose : ByteArray := prog_5_method_2_code
def y_Net_compose : MethodName := ⟨R_Net, "compose", "(II)LPaxosCommit$Message;"⟩
abbrev b_Net_init : ByteArray := prog_5_method_1_code
def y_Net_init : MethodName := ⟨R_Net, "<init>", "()V"⟩
abbrev b_Net_pick : ByteArray := prog_5_method_4_code
def y_Net_pick : MethodName := ⟨R_Net, "pick", "(I)LPaxosCommit$Message;"⟩
abbrev b_Net_remove : ByteArray := prog_5_method_5_code
def y_Net_remove : MethodName := ⟨R_Net, "remove", "(I)V"⟩
abbrev b_Net_send : ByteArray := prog_5_method_3_code
def y_Net_send : MethodName := ⟨R_Net, "send", "(LPaxosCommit$Message;)V"⟩
abbrev b_Object_init : ByteArray := object_method_1_code
def y_Object_init : MethodName := ⟨R_Object, "<init>", "()V"⟩
abbrev b_PC_arrive : ByteArray := prog_1_method_27_code
def y_PC_arrive : MethodName := ⟨R_PC, "arrive", "(LPaxosCommit$Message;)V"⟩
abbrev b_PC_arriveAsk : ByteArray := prog_1_method_29_code
def y_PC_arriveAsk : MethodName := ⟨R_PC, "arriveAsk", "(LPaxosCommit$Message;)V"⟩
abbrev b_PC_arriveOutcome : ByteArray := prog_1_method_33_code
def y_PC_arriveOutcome : MethodName := ⟨R_PC, "arriveOutcome", "(LPaxosCommit$Message;)V"⟩
abbrev b_PC_arrivePrepare : ByteArray := prog_1_method_28_code
def y_PC_arrivePrepare : MethodName := ⟨R_PC, "arrivePrepare", "(LPaxosCommit$Message;)V"⟩
abbrev b_PC_arriveReply : ByteArray := prog_1_method_30_code
def y_PC_arriveReply : MethodName := ⟨R_PC, "arriveReply", "(LPaxosCommit$Message;)V"⟩
abbrev b_PC_arriveTold : ByteArray := prog_1_method_32_code
def y_PC_arriveTold : MethodName := ⟨R_PC, "arriveTold", "(LPaxosCommit$Message;)V"⟩
abbrev b_PC_arriveVote : ByteArray := prog_1_method_31_code
def y_PC_arriveVote : MethodName := ⟨R_PC, "arriveVote", "(LPaxosCommit$Message;)V"⟩
abbrev b_PC_ballotOf : ByteArray := prog_1_method_41_code
def y_PC_ballotOf : MethodName := ⟨R_PC, "ballotOf", "(I)I"⟩
abbrev b_PC_begin : ByteArray := prog_1_method_2_code
def y_PC_begin : MethodName := ⟨R_PC, "begin", "()I"⟩
abbrev b_PC_checkBegun : ByteArray := prog_1_method_18_code
def y_PC_checkBegun : MethodName := ⟨R_PC, "checkBegun", "(I)V"⟩
abbrev b_PC_checkMessage : ByteArray := prog_1_method_20_code
def y_PC_checkMessage : MethodName := ⟨R_PC, "checkMessage", "(I)V"⟩
abbrev b_PC_checkRange : ByteArray := prog_1_method_17_code
def y_PC_checkRange : MethodName := ⟨R_PC, "checkRange", "(II)V"⟩
abbrev b_PC_checkUp : ByteArray := prog_1_method_19_code
def y_PC_checkUp : MethodName := ⟨R_PC, "checkUp", "(II)V"⟩
abbrev b_PC_count : ByteArray := prog_1_method_16_code
def y_PC_count : MethodName := ⟨R_PC, "count", "(I)I"⟩
abbrev b_PC_deliver : ByteArray := prog_1_method_7_code
def y_PC_deliver : MethodName := ⟨R_PC, "deliver", "(IZ)I"⟩
abbrev b_PC_has : ByteArray := prog_1_method_21_code
def y_PC_has : MethodName := ⟨R_PC, "has", "(II)Z"⟩
abbrev b_PC_howMany : ByteArray := prog_1_method_24_code
def y_PC_howMany : MethodName := ⟨R_PC, "howMany", "(I)I"⟩
abbrev b_PC_init : ByteArray := prog_1_method_1_code
def y_PC_init : MethodName := ⟨R_PC, "<init>", "(I)V"⟩
abbrev b_PC_ledger : ByteArray := prog_1_method_25_code
def y_PC_ledger : MethodName := ⟨R_PC, "ledger", "(II)LPaxosCommit$Ledger;"⟩
abbrev b_PC_lock : ByteArray := prog_1_method_12_code
def y_PC_lock : MethodName := ⟨R_PC, "lock", "(II)I"⟩
abbrev b_PC_lose : ByteArray := prog_1_method_8_code
def y_PC_lose : MethodName := ⟨R_PC, "lose", "(I)I"⟩
abbrev b_PC_outcome : ByteArray := prog_1_method_14_code
def y_PC_outcome : MethodName := ⟨R_PC, "outcome", "(II)I"⟩
abbrev b_PC_pack : ByteArray := prog_1_method_40_code
def y_PC_pack : MethodName := ⟨R_PC, "pack", "(II)I"⟩
abbrev b_PC_refuse : ByteArray := prog_1_method_5_code
def y_PC_refuse : MethodName := ⟨R_PC, "refuse", "(II)I"⟩
abbrev b_PC_request : ByteArray := prog_1_method_4_code
def y_PC_request : MethodName := ⟨R_PC, "request", "(I)I"⟩
abbrev b_PC_sendAsks : ByteArray := prog_1_method_37_code
def y_PC_sendAsks : MethodName := ⟨R_PC, "sendAsks", "(II)V"⟩
abbrev b_PC_sendOutcomes : ByteArray := prog_1_method_34_code
def y_PC_sendOutcomes : MethodName := ⟨R_PC, "sendOutcomes", "(II)V"⟩
abbrev b_PC_sendReply : ByteArray := prog_1_method_38_code
def y_PC_sendReply : MethodName := ⟨R_PC, "sendReply", "(III)V"⟩
abbrev b_PC_sendToStore : ByteArray := prog_1_method_35_code
def y_PC_sendToStore : MethodName := ⟨R_PC, "sendToStore", "(IIII)V"⟩
abbrev b_PC_sendTold : ByteArray := prog_1_method_39_code
def y_PC_sendTold : MethodName := ⟨R_PC, "sendTold", "(LPaxosCommit$Message;I)V"⟩
abbrev b_PC_sendVotes : ByteArray := prog_1_method_36_code
def y_PC_sendVotes : MethodName := ⟨R_PC, "sendVotes", "(IIII)V"⟩
abbrev b_PC_state : ByteArray := prog_1_method_13_code
def y_PC_state : MethodName := ⟨R_PC, "state", "(II)I"⟩
abbrev b_PC_stop : ByteArray := prog_1_method_26_code
def y_PC_stop : MethodName := ⟨R_PC, "stop", "(II)V"⟩
abbrev b_PC_take : ByteArray := prog_1_method_6_code
def y_PC_take : MethodName := ⟨R_PC, "take", "(II)I"⟩
abbrev b_PC_taken : ByteArray := prog_1_method_15_code
def y_PC_taken : MethodName := ⟨R_PC, "taken", "(IIIZ)I"⟩
abbrev b_PC_text : ByteArray := prog_1_method_10_code
def y_PC_text : MethodName := ⟨R_PC, "text", "(II)I"⟩
abbrev b_PC_up : ByteArray := prog_1_method_9_code
def y_PC_up : MethodName := ⟨R_PC, "up", "(IIZ)Z"⟩
abbrev b_PC_value : ByteArray := prog_1_method_11_code
def y_PC_value : MethodName := ⟨R_PC, "value", "(II)I"⟩
abbrev b_PC_voteOf : ByteArray := prog_1_method_42_code
def y_PC_voteOf : MethodName := ⟨R_PC, "voteOf", "(I)I"⟩
abbrev b_PC_with : ByteArray := prog_1_method_22_code
def y_PC_with : MethodName := ⟨R_PC, "with", "(II)I"⟩
abbrev b_PC_without : ByteArray := prog_1_method_23_code
def y_PC_without : MethodName := ⟨R_PC, "without", "(II)I"⟩
abbrev b_PC_write : ByteArray := prog_1_method_3_code
def y_PC_write : MethodName := ⟨R_PC, "write", "(IIII)I"⟩
abbrev b_Preconditions_checkIndex : ByteArray := prog_28_method_11_code
def y_Preconditions_checkIndex : MethodName := ⟨R_Preconditions, "checkIndex", "(IILjava/util/function/BiFunction;)I"⟩
abbrev b_SB_append_C : ByteArray := prog_19_method_14_code
def y_SB_append_C : MethodName := ⟨R_SB, "append", "(C)Ljava/lang/StringBuilder;"⟩
abbrev b_SB_append_I : ByteArray := prog_19_method_15_code
def y_SB_append_I : MethodName := ⟨R_SB, "append", "(I)Ljava/lang/StringBuilder;"⟩
abbrev b_SB_charAt : ByteArray := prog_19_method_88_code
def y_SB_charAt : MethodName := ⟨R_SB, "charAt", "(I)C"⟩
abbrev b_SB_init : ByteArray := prog_19_method_1_code
def y_SB_init : MethodName := ⟨R_SB, "<init>", "()V"⟩
abbrev b_SB_length : ByteArray := prog_19_method_93_code
def y_SB_length : MethodName := ⟨R_SB, "length", "()I"⟩
abbrev b_Store_abort : ByteArray := prog_6_method_7_code
def y_Store_abort : MethodName := ⟨R_Store, "abort", "(I)V"⟩
abbrev b_Store_abortWork : ByteArray := prog_6_method_8_code
def y_Store_abortWork : MethodName := ⟨R_Store, "abortWork", "()V"⟩
abbrev b_Store_commit : ByteArray := prog_6_method_6_code
def y_Store_commit : MethodName := ⟨R_Store, "commit", "(I)V"⟩
abbrev b_Store_init : ByteArray := prog_6_method_1_code
def y_Store_init : MethodName := ⟨R_Store, "<init>", "()V"⟩
abbrev b_Store_isLockedByAnother : ByteArray := prog_6_method_2_code
def y_Store_isLockedByAnother : MethodName := ⟨R_Store, "isLockedByAnother", "(II)Z"⟩
abbrev b_Store_isOpenFor : ByteArray := prog_6_method_3_code
def y_Store_isOpenFor : MethodName := ⟨R_Store, "isOpenFor", "(I)Z"⟩
abbrev b_Store_keep : ByteArray := prog_6_method_4_code
def y_Store_keep : MethodName := ⟨R_Store, "keep", "(III)V"⟩
abbrev b_Store_keysWritten : ByteArray := prog_6_method_5_code
def y_Store_keysWritten : MethodName := ⟨R_Store, "keysWritten", "(I)I"⟩
abbrev b_Store_unlock : ByteArray := prog_6_method_9_code
def y_Store_unlock : MethodName := ⟨R_Store, "unlock", "(I)V"⟩
abbrev b_StringLatin1_canEncode : ByteArray := prog_20_method_3_code
def y_StringLatin1_canEncode : MethodName := ⟨R_StringLatin1, "canEncode", "(C)Z"⟩
abbrev b_StringLatin1_charAt : ByteArray := prog_20_method_2_code
def y_StringLatin1_charAt : MethodName := ⟨R_StringLatin1, "charAt", "([BI)C"⟩
abbrev b_String_charAt : ByteArray := prog_18_method_56_code
def y_String_charAt : MethodName := ⟨R_String, "charAt", "(I)C"⟩
abbrev b_String_checkIndex : ByteArray := prog_18_method_155_code
def y_String_checkIndex : MethodName := ⟨R_String, "checkIndex", "(II)V"⟩
abbrev b_String_isLatin1 : ByteArray := prog_18_method_154_code
def y_String_isLatin1 : MethodName := ⟨R_String, "isLatin1", "()Z"⟩
def WS : List Cond := lw_tbl.filter goodWord
theorem WS_good : WS.all goodWord = true := List.all_eq_true.mpr fun _ h => (List.mem_filter.mp h).2
abbrev NWf : List (String × Nat × String × String × String × String) := [(R_PC, 239, "PaxosCommit$Message", "kind", "I", "PaxosCommit"), (R_PC, 263, "PaxosCommit$Message", "transaction", "I", "PaxosCommit"), (R_PC, 260, "PaxosCommit$Message", "store", "I", "PaxosCommit"), (R_PC, 266, "PaxosCommit$Message", "acceptor", "I", "PaxosCommit"), (R_PC, 282, "PaxosCommit$Message", "leader", "I", "PaxosCommit"), (R_PC, 269, "PaxosCommit$Message", "ballot", "I", "PaxosCommit"), (R_PC, 303, "PaxosCommit$Message", "vote", "I", "PaxosCommit"), (R_PC, 290, "PaxosCommit$Message", "replied", "[I", "PaxosCommit"), (R_PC, 174, "PaxosCommit$Net", "row", "[LPaxosCommit$Message;", "PaxosCommit"), (R_PC, 154, "PaxosCommit$Net", "size", "I", "PaxosCommit"), (R_PC, 210, "PaxosCommit$Net", "overflowed", "I", "PaxosCommit"), (R_PC, 192, "PaxosCommit$Store", "values", "[I", "PaxosCommit"), (R_PC, 195, "PaxosCommit$Store", "locks", "[I", "PaxosCommit"), (R_PC, 117, "PaxosCommit$Store", "states", "[I", "PaxosCommit"), (R_PC, 203, "PaxosCommit$Acceptor", "promises", "[[I", "PaxosCommit"), (R_PC, 207, "PaxosCommit$Acceptor", "accepted", "[[I", "PaxosCommit"), (R_PC, 285, "PaxosCommit$Ledger", "ballot", "I", "PaxosCommit"), (R_PC, 286, "PaxosCommit$Ledger", "proposed", "Z", "PaxosCommit"), (R_PC, 198, "PaxosCommit$Ledger", "known", "I", "PaxosCommit")]
abbrev NWm : List (String × Nat × MethodName × String) := [(R_Net, 24, y_Msg_init, "PaxosCommit"), (R_Store, 35, y_PC_with, "PaxosCommit"), (R_Acc, 25, y_PC_has, "PaxosCommit"), (R_Led, 49, y_PC_ballotOf, "PaxosCommit"), (R_Led, 53, y_PC_voteOf, "PaxosCommit"), (R_Acc, 29, y_PC_pack, "PaxosCommit"), (R_Led, 56, y_PC_pack, "PaxosCommit"), (R_Led, 59, y_PC_has, "PaxosCommit"), (R_Store, 45, y_PC_has, "PaxosCommit"), (R_Msg, 78, y_PC_ballotOf, "PaxosCommit"), (R_Msg, 82, y_PC_voteOf, "PaxosCommit")]
theorem kf_0 : (R_PC, 239, "PaxosCommit$Message", "kind", "I", "PaxosCommit") ∈ NWf := List.mem_of_getElem? (i := 0) rfl
theorem kf_1 : (R_PC, 263, "PaxosCommit$Message", "transaction", "I", "PaxosCommit") ∈ NWf := List.mem_of_getElem? (i := 1) rfl
theorem kf_2 : (R_PC, 260, "PaxosCommit$Message", "store", "I", "PaxosCommit") ∈ NWf := List.mem_of_getElem? (i := 2) rfl
theorem kf_3 : (R_PC, 266, "PaxosCommit$Message", "acceptor", "I", "PaxosCommit") ∈ NWf := List.mem_of_getElem? (i := 3) rfl
theorem kf_4 : (R_PC, 282, "PaxosCommit$Message", "leader", "I", "PaxosCommit") ∈ NWf := List.mem_of_getElem? (i := 4) rfl
theorem kf_5 : (R_PC, 269, "PaxosCommit$Message", "ballot", "I", "PaxosCommit") ∈ NWf := List.mem_of_getElem? (i := 5) rfl
theorem kf_6 : (R_PC, 303, "PaxosCommit$Message", "vote", "I", "PaxosCommit") ∈ NWf := List.mem_of_getElem? (i := 6) rfl
theorem kf_7 : (R_PC, 290, "PaxosCommit$Message", "replied", "[I", "PaxosCommit") ∈ NWf := List.mem_of_getElem? (i := 7) rfl
theorem kf_8 : (R_PC, 174, "PaxosCommit$Net", "row", "[LPaxosCommit$Message;", "PaxosCommit") ∈ NWf := List.mem_of_getElem? (i := 8) rfl
theorem kf_9 : (R_PC, 154, "PaxosCommit$Net", "size", "I", "PaxosCommit") ∈ NWf := List.mem_of_getElem? (i := 9) rfl
theorem kf_10 : (R_PC, 210, "PaxosCommit$Net", "overflowed", "I", "PaxosCommit") ∈ NWf := List.mem_of_getElem? (i := 10) rfl
theorem kf_11 : (R_PC, 192, "PaxosCommit$Store", "values", "[I", "PaxosCommit") ∈ NWf := List.mem_of_getElem? (i := 11) rfl
theorem kf_12 : (R_PC, 195, "PaxosCommit$Store", "locks", "[I", "PaxosCommit") ∈ NWf := List.mem_of_getElem? (i := 12) rfl
theorem kf_13 : (R_PC, 117, "PaxosCommit$Store", "states", "[I", "PaxosCommit") ∈ NWf := List.mem_of_getElem? (i := 13) rfl
theorem kf_14 : (R_PC, 203, "PaxosCommit$Acceptor", "promises", "[[I", "PaxosCommit") ∈ NWf := List.mem_of_getElem? (i := 14) rfl
theorem kf_15 : (R_PC, 207, "PaxosCommit$Acceptor", "accepted", "[[I", "PaxosCommit") ∈ NWf := List.mem_of_getElem? (i := 15) rfl
theorem kf_16 : (R_PC, 285, "PaxosCommit$Ledger", "ballot", "I", "PaxosCommit") ∈ NWf := List.mem_of_getElem? (i := 16) rfl
theorem kf_17 : (R_PC, 286, "PaxosCommit$Ledger", "proposed", "Z", "PaxosCommit") ∈ NWf := List.mem_of_getElem? (i := 17) rfl
theorem kf_18 : (R_PC, 198, "PaxosCommit$Ledger", "known", "I", "PaxosCommit") ∈ NWf := List.mem_of_getElem? (i := 18) rfl
theorem km_0 : (R_Net, 24, y_Msg_init, "PaxosCommit") ∈ NWm := List.mem_of_getElem? (i := 0) rfl
theorem km_1 : (R_Store, 35, y_PC_with, "PaxosCommit") ∈ NWm := List.mem_of_getElem? (i := 1) rfl
theorem km_2 : (R_Acc, 25, y_PC_has, "PaxosCommit") ∈ NWm := List.mem_of_getElem? (i := 2) rfl
theorem km_3 : (R_Led, 49, y_PC_ballotOf, "PaxosCommit") ∈ NWm := List.mem_of_getElem? (i := 3) rfl
theorem km_4 : (R_Led, 53, y_PC_voteOf, "PaxosCommit") ∈ NWm := List.mem_of_getElem? (i := 4) rfl
theorem km_5 : (R_Acc, 29, y_PC_pack, "PaxosCommit") ∈ NWm := List.mem_of_getElem? (i := 5) rfl
theorem km_6 : (R_Led, 56, y_PC_pack, "PaxosCommit") ∈ NWm := List.mem_of_getElem? (i := 6) rfl
theorem km_7 : (R_Led, 59, y_PC_has, "PaxosCommit") ∈ NWm := List.mem_of_getElem? (i := 7) rfl
theorem km_8 : (R_Store, 45, y_PC_has, "PaxosCommit") ∈ NWm := List.mem_of_getElem? (i := 8) rfl
theorem km_9 : (R_Msg, 78, y_PC_ballotOf, "PaxosCommit") ∈ NWm := List.mem_of_getElem? (i := 9) rfl
theorem km_10 : (R_Msg, 82, y_PC_voteOf, "PaxosCommit") ∈ NWm := List.mem_of_getElem? (i := 10) rfl
theorem i_PC : ∀ w ∈ u_ws R_PC T_PC 9, w ∈ WS := by
  have e : u_ws R_PC T_PC 9 = [.laysFinal R_PC "PaxosCommit" "stores" "[LPaxosCommit$Store;", .laysFinal R_PC "PaxosCommit" "acceptors" "[LPaxosCommit$Acceptor;", .laysFinal R_PC "PaxosCommit" "ledgers" "[LPaxosCommit$Ledger;", .laysFinal R_PC "PaxosCommit" "majority" "I", .laysFinal R_PC "PaxosCommit" "upSets" "[I", .laysFinal R_PC "PaxosCommit" "net" "LPaxosCommit$Net;", .laysFinal R_PC "PaxosCommit" "members" "[I", .laysFinal R_PC "PaxosCommit" "closed" "[Z", .lays R_PC "PaxosCommit" "begun" "I"] := by decide +kernel
  rw [e]
  intro w h
  simp only [List.mem_cons, List.not_mem_nil, or_false] at h
  rcases h with rfl | rfl | rfl | rfl | rfl | rfl | rfl | rfl | rfl
  · exact List.mem_filter.mpr ⟨List.mem_append_right _ (List.mem_of_getElem? (i := 191) (by decide +kernel)), by decide +kernel⟩
  · exact List.mem_filter.mpr ⟨List.mem_append_right _ (List.mem_of_getElem? (i := 193) (by decide +kernel)), by decide +kernel⟩
  · exact List.mem_filter.mpr ⟨List.mem_append_right _ (List.mem_of_getElem? (i := 195) (by decide +kernel)), by decide +kernel⟩
  · exact List.mem_filter.mpr ⟨List.mem_append_right _ (List.mem_of_getElem? (i := 197) (by decide +kernel)), by decide +kernel⟩
  · exact List.mem_filter.mpr ⟨List.mem_append_right _ (List.mem_of_getElem? (i := 199) (by decide +kernel)), by decide +kernel⟩
  · exact List.mem_filter.mpr ⟨List.mem_append_right _ (List.mem_of_getElem? (i := 201) (by decide +kernel)), by decide +kernel⟩
  · exact List.mem_filter.mpr ⟨List.mem_append_right _ (List.mem_of_getElem? (i := 203) (by decide +kernel)), by decide +kernel⟩
  · exact List.mem_filter.mpr ⟨List.mem_append_right _ (List.mem_of_getElem? (i := 205) (by decide +kernel)), by decide +kernel⟩
  · exact List.mem_filter.mpr ⟨List.mem_append_right _ (List.mem_of_getElem? (i := 207) (by decide +kernel)), by decide +kernel⟩
theorem i_Store : ∀ w ∈ u_ws R_Store T_Store 5, w ∈ WS := by
  have e : u_ws R_Store T_Store 5 = [.laysFinal R_Store "PaxosCommit$Store" "values" "[I", .laysFinal R_Store "PaxosCommit$Store" "locks" "[I", .laysFinal R_Store "PaxosCommit$Store" "states" "[I", .laysFinal R_Store "PaxosCommit$Store" "written" "[I", .laysFinal R_Store "PaxosCommit$Store" "writes" "[[I"] := by decide +kernel
  rw [e]
  intro w h
  simp only [List.mem_cons, List.not_mem_nil, or_false] at h
  rcases h with rfl | rfl | rfl | rfl | rfl
  · exact List.mem_filter.mpr ⟨List.mem_append_right _ (List.mem_of_getElem? (i := 125) (by decide +kernel)), by decide +kernel⟩
  · exact List.mem_filter.mpr ⟨List.mem_append_right _ (List.mem_of_getElem? (i := 127) (by decide +kernel)), by decide +kernel⟩
  · exact List.mem_filter.mpr ⟨List.mem_append_right _ (List.mem_of_getElem? (i := 129) (by decide +kernel)), by decide +kernel⟩
  · exact List.mem_filter.mpr ⟨List.mem_append_right _ (List.mem_of_getElem? (i := 131) (by decide +kernel)), by decide +kernel⟩
  · exact List.mem_filter.mpr ⟨List.mem_append_right _ (List.mem_of_getElem? (i := 133) (by decide +kernel)), by decide +kernel⟩
theorem i_Acc : ∀ w ∈ u_ws R_Acc T_Acc 2, w ∈ WS := by
  have e : u_ws R_Acc T_Acc 2 = [.laysFinal R_Acc "PaxosCommit$Acceptor" "promises" "[[I", .laysFinal R_Acc "PaxosCommit$Acceptor" "accepted" "[[I"] := by decide +kernel
  rw [e]
  intro w h
  simp only [List.mem_cons, List.not_mem_nil, or_false] at h
  rcases h with rfl | rfl
  · exact List.mem_filter.mpr ⟨List.mem_append_right _ (List.mem_of_getElem? (i := 148) (by decide +kernel)), by decide +kernel⟩
  · exact List.mem_filter.mpr ⟨List.mem_append_right _ (List.mem_of_getElem? (i := 150) (by decide +kernel)), by decide +kernel⟩
theorem i_Led : ∀ w ∈ u_ws R_Led T_Led 6, w ∈ WS := by
  have e : u_ws R_Led T_Led 6 = [.lays R_Led "PaxosCommit$Ledger" "ballot" "I", .lays R_Led "PaxosCommit$Ledger" "proposed" "Z", .lays R_Led "PaxosCommit$Ledger" "known" "I", .laysFinal R_Led "PaxosCommit$Ledger" "hasReply" "[Z", .laysFinal R_Led "PaxosCommit$Ledger" "replies" "[[I", .laysFinal R_Led "PaxosCommit$Ledger" "latest" "[[I"] := by decide +kernel
  rw [e]
  intro w h
  simp only [List.mem_cons, List.not_mem_nil, or_false] at h
  rcases h with rfl | rfl | rfl | rfl | rfl | rfl
  · exact List.mem_filter.mpr ⟨List.mem_append_right _ (List.mem_of_getElem? (i := 169) (by decide +kernel)), by decide +kernel⟩
  · exact List.mem_filter.mpr ⟨List.mem_append_right _ (List.mem_of_getElem? (i := 171) (by decide +kernel)), by decide +kernel⟩
  · exact List.mem_filter.mpr ⟨List.mem_append_right _ (List.mem_of_getElem? (i := 173) (by decide +kernel)), by decide +kernel⟩
  · exact List.mem_filter.mpr ⟨List.mem_append_right _ (List.mem_of_getElem? (i := 175) (by decide +kernel)), by decide +kernel⟩
  · exact List.mem_filter.mpr ⟨List.mem_append_right _ (List.mem_of_getElem? (i := 177) (by decide +kernel)), by decide +kernel⟩
  · exact List.mem_filter.mpr ⟨List.mem_append_right _ (List.mem_of_getElem? (i := 179) (by decide +kernel)), by decide +kernel⟩
theorem i_Msg : ∀ w ∈ u_ws R_Msg T_Msg 8, w ∈ WS := by
  have e : u_ws R_Msg T_Msg 8 = [.lays R_Msg "PaxosCommit$Message" "kind" "I", .lays R_Msg "PaxosCommit$Message" "transaction" "I", .lays R_Msg "PaxosCommit$Message" "store" "I", .lays R_Msg "PaxosCommit$Message" "acceptor" "I", .lays R_Msg "PaxosCommit$Message" "leader" "I", .lays R_Msg "PaxosCommit$Message" "ballot" "I", .lays R_Msg "PaxosCommit$Message" "vote" "I", .laysFinal R_Msg "PaxosCommit$Message" "replied" "[I"] := by decide +kernel
  rw [e]
  intro w h
  simp only [List.mem_cons, List.not_mem_nil, or_false] at h
  rcases h with rfl | rfl | rfl | rfl | rfl | rfl | rfl | rfl
  · exact List.mem_filter.mpr ⟨List.mem_append_right _ (List.mem_of_getElem? (i := 68) (by decide +kernel)), by decide +kernel⟩
  · exact List.mem_filter.mpr ⟨List.mem_append_right _ (List.mem_of_getElem? (i := 70) (by decide +kernel)), by decide +kernel⟩
  · exact List.mem_filter.mpr ⟨List.mem_append_right _ (List.mem_of_getElem? (i := 72) (by decide +kernel)), by decide +kernel⟩
  · exact List.mem_filter.mpr ⟨List.mem_append_right _ (List.mem_of_getElem? (i := 74) (by decide +kernel)), by decide +kernel⟩
  · exact List.mem_filter.mpr ⟨List.mem_append_right _ (List.mem_of_getElem? (i := 76) (by decide +kernel)), by decide +kernel⟩
  · exact List.mem_filter.mpr ⟨List.mem_append_right _ (List.mem_of_getElem? (i := 78) (by decide +kernel)), by decide +kernel⟩
  · exact List.mem_filter.mpr ⟨List.mem_append_right _ (List.mem_of_getElem? (i := 80) (by decide +kernel)), by decide +kernel⟩
  · exact List.mem_filter.mpr ⟨List.mem_append_right _ (List.mem_of_getElem? (i := 82) (by decide +kernel)), by decide +kernel⟩
theorem i_Net : ∀ w ∈ u_ws R_Net T_Net 5, w ∈ WS := by
  have e : u_ws R_Net T_Net 5 = [.laysFinal R_Net "PaxosCommit$Net" "row" "[LPaxosCommit$Message;", .lays R_Net "PaxosCommit$Net" "size" "I", .lays R_Net "PaxosCommit$Net" "overflowed" "I", .laysFinal R_Net "PaxosCommit$Net" "draft" "LPaxosCommit$Message;", .laysFinal R_Net "PaxosCommit$Net" "hand" "LPaxosCommit$Message;"] := by decide +kernel
  rw [e]
  intro w h
  simp only [List.mem_cons, List.not_mem_nil, or_false] at h
  rcases h with rfl | rfl | rfl | rfl | rfl
  · exact List.mem_filter.mpr ⟨List.mem_append_right _ (List.mem_of_getElem? (i := 94) (by decide +kernel)), by decide +kernel⟩
  · exact List.mem_filter.mpr ⟨List.mem_append_right _ (List.mem_of_getElem? (i := 96) (by decide +kernel)), by decide +kernel⟩
  · exact List.mem_filter.mpr ⟨List.mem_append_right _ (List.mem_of_getElem? (i := 98) (by decide +kernel)), by decide +kernel⟩
  · exact List.mem_filter.mpr ⟨List.mem_append_right _ (List.mem_of_getElem? (i := 100) (by decide +kernel)), by decide +kernel⟩
  · exact List.mem_filter.mpr ⟨List.mem_append_right _ (List.mem_of_getElem? (i := 102) (by decide +kernel)), by decide +kernel⟩
theorem i_Mo : ∀ w ∈ u_ws R_Mo T_Mo 27, w ∈ WS := by
  have e : u_ws R_Mo T_Mo 27 = [.lays R_Mo "PaxosCommitModel" "failed" "I", .laysFinal R_Mo "PaxosCommitModel" "n" "I", .laysFinal R_Mo "PaxosCommitModel" "storeDown" "[Z", .laysFinal R_Mo "PaxosCommitModel" "acceptorDown" "[Z", .laysFinal R_Mo "PaxosCommitModel" "leaderDown" "[Z", .laysFinal R_Mo "PaxosCommitModel" "value" "[I", .laysFinal R_Mo "PaxosCommitModel" "lock" "[I", .lays R_Mo "PaxosCommitModel" "transactions" "I", .laysFinal R_Mo "PaxosCommitModel" "members" "[I", .laysFinal R_Mo "PaxosCommitModel" "closed" "[Z", .laysFinal R_Mo "PaxosCommitModel" "state" "[I", .laysFinal R_Mo "PaxosCommitModel" "writes" "[I", .laysFinal R_Mo "PaxosCommitModel" "written" "[I", .laysFinal R_Mo "PaxosCommitModel" "promised" "[I", .laysFinal R_Mo "PaxosCommitModel" "takenBallot" "[I", .laysFinal R_Mo "PaxosCommitModel" "takenVote" "[I", .laysFinal R_Mo "PaxosCommitModel" "ballot" "[I", .laysFinal R_Mo "PaxosCommitModel" "proposed" "[Z", .laysFinal R_Mo "PaxosCommitModel" "known" "[I", .laysFinal R_Mo "PaxosCommitModel" "replied" "[Z", .laysFinal R_Mo "PaxosCommitModel" "replyBallot" "[I", .laysFinal R_Mo "PaxosCommitModel" "replyVote" "[I", .laysFinal R_Mo "PaxosCommitModel" "latestBallot" "[I", .laysFinal R_Mo "PaxosCommitModel" "latestVote" "[I", .laysFinal R_Mo "PaxosCommitModel" "net" "[I", .lays R_Mo "PaxosCommitModel" "size" "I", .lays R_Mo "PaxosCommitModel" "lost" "I"] := by decide +kernel
  rw [e]
  intro w h
  simp only [List.mem_cons, List.not_mem_nil, or_false] at h
  rcases h with rfl | rfl | rfl | rfl | rfl | rfl | rfl | rfl | rfl | rfl | rfl | rfl | rfl | rfl | rfl | rfl | rfl | rfl | rfl | rfl | rfl | rfl | rfl | rfl | rfl | rfl | rfl
  · exact List.mem_filter.mpr ⟨List.mem_append_right _ (List.mem_of_getElem? (i := 939) (by decide +kernel)), by decide +kernel⟩
  · exact List.mem_filter.mpr ⟨List.mem_append_right _ (List.mem_of_getElem? (i := 941) (by decide +kernel)), by decide +kernel⟩
  · exact List.mem_filter.mpr ⟨List.mem_append_right _ (List.mem_of_getElem? (i := 943) (by decide +kernel)), by decide +kernel⟩
  · exact List.mem_filter.mpr ⟨List.mem_append_right _ (List.mem_of_getElem? (i := 945) (by decide +kernel)), by decide +kernel⟩
  · exact List.mem_filter.mpr ⟨List.mem_append_right _ (List.mem_of_getElem? (i := 947) (by decide +kernel)), by decide +kernel⟩
  · exact List.mem_filter.mpr ⟨List.mem_append_right _ (List.mem_of_getElem? (i := 949) (by decide +kernel)), by decide +kernel⟩
  · exact List.mem_filter.mpr ⟨List.mem_append_right _ (List.mem_of_getElem? (i := 951) (by decide +kernel)), by decide +kernel⟩
  · exact List.mem_filter.mpr ⟨List.mem_append_right _ (List.mem_of_getElem? (i := 953) (by decide +kernel)), by decide +kernel⟩
  · exact List.mem_filter.mpr ⟨List.mem_append_right _ (List.mem_of_getElem? (i := 955) (by decide +kernel)), by decide +kernel⟩
  · exact List.mem_filter.mpr ⟨List.mem_append_right _ (List.mem_of_getElem? (i := 957) (by decide +kernel)), by decide +kernel⟩
  · exact List.mem_filter.mpr ⟨List.mem_append_right _ (List.mem_of_getElem? (i := 959) (by decide +kernel)), by decide +kernel⟩
  · exact List.mem_filter.mpr ⟨List.mem_append_right _ (List.mem_of_getElem? (i := 961) (by decide +kernel)), by decide +kernel⟩
  · exact List.mem_filter.mpr ⟨List.mem_append_right _ (List.mem_of_getElem? (i := 963) (by decide +kernel)), by decide +kernel⟩
  · exact List.mem_filter.mpr ⟨List.mem_append_right _ (List.mem_of_getElem? (i := 965) (by decide +kernel)), by decide +kernel⟩
  · exact List.mem_filter.mpr ⟨List.mem_append_right _ (List.mem_of_getElem? (i := 967) (by decide +kernel)), by decide +kernel⟩
  · exact List.mem_filter.mpr ⟨List.mem_append_right _ (List.mem_of_getElem? (i := 969) (by decide +kernel)), by decide +kernel⟩
  · exact List.mem_filter.mpr ⟨List.mem_append_right _ (List.mem_of_getElem? (i := 971) (by decide +kernel)), by decide +kernel⟩
  · exact List.mem_filter.mpr ⟨List.mem_append_right _ (List.mem_of_getElem? (i := 973) (by decide +kernel)), by decide +kernel⟩
  · exact List.mem_filter.mpr ⟨List.mem_append_right _ (List.mem_of_getElem? (i := 975) (by decide +kernel)), by decide +kernel⟩
  · exact List.mem_filter.mpr ⟨List.mem_append_right _ (List.mem_of_getElem? (i := 977) (by decide +kernel)), by decide +kernel⟩
  · exact List.mem_filter.mpr ⟨List.mem_append_right _ (List.mem_of_getElem? (i := 979) (by decide +kernel)), by decide +kernel⟩
  · exact List.mem_filter.mpr ⟨List.mem_append_right _ (List.mem_of_getElem? (i := 981) (by decide +kernel)), by decide +kernel⟩
  · exact List.mem_filter.mpr ⟨List.mem_append_right _ (List.mem_of_getElem? (i := 983) (by decide +kernel)), by decide +kernel⟩
  · exact List.mem_filter.mpr ⟨List.mem_append_right _ (List.mem_of_getElem? (i := 985) (by decide +kernel)), by decide +kernel⟩
  · exact List.mem_filter.mpr ⟨List.mem_append_right _ (List.mem_of_getElem? (i := 987) (by decide +kernel)), by decide +kernel⟩
  · exact List.mem_filter.mpr ⟨List.mem_append_right _ (List.mem_of_getElem? (i := 989) (by decide +kernel)), by decide +kernel⟩
  · exact List.mem_filter.mpr ⟨List.mem_append_right _ (List.mem_of_getElem? (i := 991) (by decide +kernel)), by decide +kernel⟩
theorem i_SB : ∀ w ∈ u_ws R_SB T_SB 4, w ∈ WS := by
  have e : u_ws R_SB T_SB 4 = [.lays R_SB "java/lang/AbstractStringBuilder" "value" "[B", .lays R_SB "java/lang/AbstractStringBuilder" "coder" "B", .lays R_SB "java/lang/AbstractStringBuilder" "maybeLatin1" "Z", .lays R_SB "java/lang/AbstractStringBuilder" "count" "I"] := by decide +kernel
  rw [e]
  intro w h
  simp only [List.mem_cons, List.not_mem_nil, or_false] at h
  rcases h with rfl | rfl | rfl | rfl
  · exact List.mem_filter.mpr ⟨List.mem_append_right _ (List.mem_of_getElem? (i := 674) (by decide +kernel)), by decide +kernel⟩
  · exact List.mem_filter.mpr ⟨List.mem_append_right _ (List.mem_of_getElem? (i := 676) (by decide +kernel)), by decide +kernel⟩
  · exact List.mem_filter.mpr ⟨List.mem_append_right _ (List.mem_of_getElem? (i := 678) (by decide +kernel)), by decide +kernel⟩
  · exact List.mem_filter.mpr ⟨List.mem_append_right _ (List.mem_of_getElem? (i := 680) (by decide +kernel)), by decide +kernel⟩
