section
-- ===== PART A: goes FIRST, ahead of the names: the tables' words, and 'selects' of the private methods out of them =====
/-- a private method of a class that the tables say can be made, by its rows of tables_1 -/
def lw_okq (q : MethodName × Nat) : Prop := (q.1.cls ≠ "java/lang/invoke/MethodHandle" ∧ q.1.cls ≠ "java/lang/invoke/VarHandle") ∧ Cond.instantiable q.1.cls q.2 ∈ tables_1 ∧ Cond.privateMethod q.1 ∈ tables_1 ∧ Cond.instanceMethod q.1 ∈ tables_1
theorem lw_p0 : lw_okq (⟨"java/lang/Throwable", "fillInStackTrace", "(I)Ljava/lang/Throwable;"⟩, 6) := ⟨⟨by decide +kernel, by decide +kernel⟩, List.mem_of_getElem? (i := 262) (by decide +kernel), List.mem_of_getElem? (i := 260) (by decide +kernel), List.mem_of_getElem? (i := 261) (by decide +kernel)⟩
theorem lw_p1 : lw_okq (⟨"PaxosCommit", "checkBegun", "(I)V"⟩, 9) := ⟨⟨by decide +kernel, by decide +kernel⟩, List.mem_of_getElem? (i := 28) (by decide +kernel), List.mem_of_getElem? (i := 321) (by decide +kernel), List.mem_of_getElem? (i := 322) (by decide +kernel)⟩
theorem lw_p2 : lw_okq (⟨"PaxosCommit", "checkUp", "(II)V"⟩, 9) := ⟨⟨by decide +kernel, by decide +kernel⟩, List.mem_of_getElem? (i := 28) (by decide +kernel), List.mem_of_getElem? (i := 341) (by decide +kernel), List.mem_of_getElem? (i := 342) (by decide +kernel)⟩
theorem lw_p3 : lw_okq (⟨"PaxosCommit", "sendToStore", "(IIII)V"⟩, 9) := ⟨⟨by decide +kernel, by decide +kernel⟩, List.mem_of_getElem? (i := 28) (by decide +kernel), List.mem_of_getElem? (i := 401) (by decide +kernel), List.mem_of_getElem? (i := 402) (by decide +kernel)⟩
theorem lw_p4 : lw_okq (⟨"PaxosCommit", "sendVotes", "(IIII)V"⟩, 9) := ⟨⟨by decide +kernel, by decide +kernel⟩, List.mem_of_getElem? (i := 28) (by decide +kernel), List.mem_of_getElem? (i := 442) (by decide +kernel), List.mem_of_getElem? (i := 443) (by decide +kernel)⟩
theorem lw_p5 : lw_okq (⟨"PaxosCommit", "ledger", "(II)LPaxosCommit$Ledger;"⟩, 9) := ⟨⟨by decide +kernel, by decide +kernel⟩, List.mem_of_getElem? (i := 28) (by decide +kernel), List.mem_of_getElem? (i := 454) (by decide +kernel), List.mem_of_getElem? (i := 455) (by decide +kernel)⟩
theorem lw_p6 : lw_okq (⟨"PaxosCommit", "sendAsks", "(II)V"⟩, 9) := ⟨⟨by decide +kernel, by decide +kernel⟩, List.mem_of_getElem? (i := 28) (by decide +kernel), List.mem_of_getElem? (i := 469) (by decide +kernel), List.mem_of_getElem? (i := 470) (by decide +kernel)⟩
theorem lw_p7 : lw_okq (⟨"PaxosCommit", "checkMessage", "(I)V"⟩, 9) := ⟨⟨by decide +kernel, by decide +kernel⟩, List.mem_of_getElem? (i := 28) (by decide +kernel), List.mem_of_getElem? (i := 481) (by decide +kernel), List.mem_of_getElem? (i := 482) (by decide +kernel)⟩
theorem lw_p8 : lw_okq (⟨"PaxosCommit", "arrive", "(LPaxosCommit$Message;)V"⟩, 9) := ⟨⟨by decide +kernel, by decide +kernel⟩, List.mem_of_getElem? (i := 28) (by decide +kernel), List.mem_of_getElem? (i := 509) (by decide +kernel), List.mem_of_getElem? (i := 510) (by decide +kernel)⟩
theorem lw_p9 : lw_okq (⟨"PaxosCommit", "arrivePrepare", "(LPaxosCommit$Message;)V"⟩, 9) := ⟨⟨by decide +kernel, by decide +kernel⟩, List.mem_of_getElem? (i := 28) (by decide +kernel), List.mem_of_getElem? (i := 522) (by decide +kernel), List.mem_of_getElem? (i := 523) (by decide +kernel)⟩
theorem lw_p10 : lw_okq (⟨"PaxosCommit", "arriveAsk", "(LPaxosCommit$Message;)V"⟩, 9) := ⟨⟨by decide +kernel, by decide +kernel⟩, List.mem_of_getElem? (i := 28) (by decide +kernel), List.mem_of_getElem? (i := 526) (by decide +kernel), List.mem_of_getElem? (i := 527) (by decide +kernel)⟩
theorem lw_p11 : lw_okq (⟨"PaxosCommit", "sendReply", "(III)V"⟩, 9) := ⟨⟨by decide +kernel, by decide +kernel⟩, List.mem_of_getElem? (i := 28) (by decide +kernel), List.mem_of_getElem? (i := 539) (by decide +kernel), List.mem_of_getElem? (i := 540) (by decide +kernel)⟩
theorem lw_p12 : lw_okq (⟨"PaxosCommit", "arriveReply", "(LPaxosCommit$Message;)V"⟩, 9) := ⟨⟨by decide +kernel, by decide +kernel⟩, List.mem_of_getElem? (i := 28) (by decide +kernel), List.mem_of_getElem? (i := 544) (by decide +kernel), List.mem_of_getElem? (i := 545) (by decide +kernel)⟩
theorem lw_p13 : lw_okq (⟨"PaxosCommit", "arriveVote", "(LPaxosCommit$Message;)V"⟩, 9) := ⟨⟨by decide +kernel, by decide +kernel⟩, List.mem_of_getElem? (i := 28) (by decide +kernel), List.mem_of_getElem? (i := 566) (by decide +kernel), List.mem_of_getElem? (i := 567) (by decide +kernel)⟩
theorem lw_p14 : lw_okq (⟨"PaxosCommit", "sendTold", "(LPaxosCommit$Message;I)V"⟩, 9) := ⟨⟨by decide +kernel, by decide +kernel⟩, List.mem_of_getElem? (i := 28) (by decide +kernel), List.mem_of_getElem? (i := 577) (by decide +kernel), List.mem_of_getElem? (i := 578) (by decide +kernel)⟩
theorem lw_p15 : lw_okq (⟨"PaxosCommit", "arriveTold", "(LPaxosCommit$Message;)V"⟩, 9) := ⟨⟨by decide +kernel, by decide +kernel⟩, List.mem_of_getElem? (i := 28) (by decide +kernel), List.mem_of_getElem? (i := 581) (by decide +kernel), List.mem_of_getElem? (i := 582) (by decide +kernel)⟩
def lw_privs_1 : List (MethodName × Nat) := [(⟨"java/lang/Throwable", "fillInStackTrace", "(I)Ljava/lang/Throwable;"⟩, 6), (⟨"PaxosCommit", "checkBegun", "(I)V"⟩, 9), (⟨"PaxosCommit", "checkUp", "(II)V"⟩, 9), (⟨"PaxosCommit", "sendToStore", "(IIII)V"⟩, 9), (⟨"PaxosCommit", "sendVotes", "(IIII)V"⟩, 9), (⟨"PaxosCommit", "ledger", "(II)LPaxosCommit$Ledger;"⟩, 9), (⟨"PaxosCommit", "sendAsks", "(II)V"⟩, 9), (⟨"PaxosCommit", "checkMessage", "(I)V"⟩, 9), (⟨"PaxosCommit", "arrive", "(LPaxosCommit$Message;)V"⟩, 9), (⟨"PaxosCommit", "arrivePrepare", "(LPaxosCommit$Message;)V"⟩, 9), (⟨"PaxosCommit", "arriveAsk", "(LPaxosCommit$Message;)V"⟩, 9), (⟨"PaxosCommit", "sendReply", "(III)V"⟩, 9), (⟨"PaxosCommit", "arriveReply", "(LPaxosCommit$Message;)V"⟩, 9), (⟨"PaxosCommit", "arriveVote", "(LPaxosCommit$Message;)V"⟩, 9), (⟨"PaxosCommit", "sendTold", "(LPaxosCommit$Message;I)V"⟩, 9), (⟨"PaxosCommit", "arriveTold", "(LPaxosCommit$Message;)V"⟩, 9)]
theorem lw_r1 : ∀ q ∈ lw_privs_1, lw_okq q := List.forall_mem_cons.mpr ⟨lw_p0, List.forall_mem_cons.mpr ⟨lw_p1, List.forall_mem_cons.mpr ⟨lw_p2, List.forall_mem_cons.mpr ⟨lw_p3, List.forall_mem_cons.mpr ⟨lw_p4, List.forall_mem_cons.mpr ⟨lw_p5, List.forall_mem_cons.mpr ⟨lw_p6, List.forall_mem_cons.mpr ⟨lw_p7, List.forall_mem_cons.mpr ⟨lw_p8, List.forall_mem_cons.mpr ⟨lw_p9, List.forall_mem_cons.mpr ⟨lw_p10, List.forall_mem_cons.mpr ⟨lw_p11, List.forall_mem_cons.mpr ⟨lw_p12, List.forall_mem_cons.mpr ⟨lw_p13, List.forall_mem_cons.mpr ⟨lw_p14, List.forall_mem_cons.mpr ⟨lw_p15, fun _ h => absurd h List.not_mem_nil⟩⟩⟩⟩⟩⟩⟩⟩⟩⟩⟩⟩⟩⟩⟩⟩
theorem lw_p16 : lw_okq (⟨"PaxosCommit", "sendOutcomes", "(II)V"⟩, 9) := ⟨⟨by decide +kernel, by decide +kernel⟩, List.mem_of_getElem? (i := 28) (by decide +kernel), List.mem_of_getElem? (i := 599) (by decide +kernel), List.mem_of_getElem? (i := 600) (by decide +kernel)⟩
theorem lw_p17 : lw_okq (⟨"PaxosCommit", "arriveOutcome", "(LPaxosCommit$Message;)V"⟩, 9) := ⟨⟨by decide +kernel, by decide +kernel⟩, List.mem_of_getElem? (i := 28) (by decide +kernel), List.mem_of_getElem? (i := 603) (by decide +kernel), List.mem_of_getElem? (i := 604) (by decide +kernel)⟩
theorem lw_p18 : lw_okq (⟨"PaxosCommit", "howMany", "(I)I"⟩, 9) := ⟨⟨by decide +kernel, by decide +kernel⟩, List.mem_of_getElem? (i := 28) (by decide +kernel), List.mem_of_getElem? (i := 626) (by decide +kernel), List.mem_of_getElem? (i := 627) (by decide +kernel)⟩
theorem lw_p19 : lw_okq (⟨"PaxosCommit", "stop", "(II)V"⟩, 9) := ⟨⟨by decide +kernel, by decide +kernel⟩, List.mem_of_getElem? (i := 28) (by decide +kernel), List.mem_of_getElem? (i := 633) (by decide +kernel), List.mem_of_getElem? (i := 634) (by decide +kernel)⟩
theorem lw_p20 : lw_okq (⟨"PaxosCommitModel", "forget", "(I)V"⟩, 27) := ⟨⟨by decide +kernel, by decide +kernel⟩, List.mem_of_getElem? (i := 903) (by decide +kernel), List.mem_of_getElem? (i := 909) (by decide +kernel), List.mem_of_getElem? (i := 910) (by decide +kernel)⟩
theorem lw_p21 : lw_okq (⟨"PaxosCommitModel", "fail", "(I)I"⟩, 27) := ⟨⟨by decide +kernel, by decide +kernel⟩, List.mem_of_getElem? (i := 903) (by decide +kernel), List.mem_of_getElem? (i := 1003) (by decide +kernel), List.mem_of_getElem? (i := 1004) (by decide +kernel)⟩
theorem lw_p22 : lw_okq (⟨"PaxosCommitModel", "out", "(II)Z"⟩, 27) := ⟨⟨by decide +kernel, by decide +kernel⟩, List.mem_of_getElem? (i := 903) (by decide +kernel), List.mem_of_getElem? (i := 1011) (by decide +kernel), List.mem_of_getElem? (i := 1012) (by decide +kernel)⟩
theorem lw_p23 : lw_okq (⟨"PaxosCommitModel", "ones", "(I)I"⟩, 27) := ⟨⟨by decide +kernel, by decide +kernel⟩, List.mem_of_getElem? (i := 903) (by decide +kernel), List.mem_of_getElem? (i := 1015) (by decide +kernel), List.mem_of_getElem? (i := 1016) (by decide +kernel)⟩
theorem lw_p24 : lw_okq (⟨"PaxosCommitModel", "member", "(II)Z"⟩, 27) := ⟨⟨by decide +kernel, by decide +kernel⟩, List.mem_of_getElem? (i := 903) (by decide +kernel), List.mem_of_getElem? (i := 1023) (by decide +kernel), List.mem_of_getElem? (i := 1024) (by decide +kernel)⟩
theorem lw_p25 : lw_okq (⟨"PaxosCommitModel", "send", "(IIIIIII)Z"⟩, 27) := ⟨⟨by decide +kernel, by decide +kernel⟩, List.mem_of_getElem? (i := 903) (by decide +kernel), List.mem_of_getElem? (i := 1027) (by decide +kernel), List.mem_of_getElem? (i := 1028) (by decide +kernel)⟩
theorem lw_p26 : lw_okq (⟨"PaxosCommitModel", "abort", "(II)V"⟩, 27) := ⟨⟨by decide +kernel, by decide +kernel⟩, List.mem_of_getElem? (i := 903) (by decide +kernel), List.mem_of_getElem? (i := 1035) (by decide +kernel), List.mem_of_getElem? (i := 1036) (by decide +kernel)⟩
theorem lw_p27 : lw_okq (⟨"PaxosCommitModel", "unlock", "(II)V"⟩, 27) := ⟨⟨by decide +kernel, by decide +kernel⟩, List.mem_of_getElem? (i := 903) (by decide +kernel), List.mem_of_getElem? (i := 1039) (by decide +kernel), List.mem_of_getElem? (i := 1040) (by decide +kernel)⟩
theorem lw_p28 : lw_okq (⟨"PaxosCommitModel", "vote", "(IIII)V"⟩, 27) := ⟨⟨by decide +kernel, by decide +kernel⟩, List.mem_of_getElem? (i := 903) (by decide +kernel), List.mem_of_getElem? (i := 1043) (by decide +kernel), List.mem_of_getElem? (i := 1044) (by decide +kernel)⟩
theorem lw_p29 : lw_okq (⟨"PaxosCommitModel", "takeOut", "(IZ)V"⟩, 27) := ⟨⟨by decide +kernel, by decide +kernel⟩, List.mem_of_getElem? (i := 903) (by decide +kernel), List.mem_of_getElem? (i := 1055) (by decide +kernel), List.mem_of_getElem? (i := 1056) (by decide +kernel)⟩
theorem lw_p30 : lw_okq (⟨"PaxosCommitModel", "arrive", "(I)V"⟩, 27) := ⟨⟨by decide +kernel, by decide +kernel⟩, List.mem_of_getElem? (i := 903) (by decide +kernel), List.mem_of_getElem? (i := 1059) (by decide +kernel), List.mem_of_getElem? (i := 1060) (by decide +kernel)⟩
theorem lw_p31 : lw_okq (⟨"PaxosCommitModel", "prepare", "(II)V"⟩, 27) := ⟨⟨by decide +kernel, by decide +kernel⟩, List.mem_of_getElem? (i := 903) (by decide +kernel), List.mem_of_getElem? (i := 1063) (by decide +kernel), List.mem_of_getElem? (i := 1064) (by decide +kernel)⟩
def lw_privs_2 : List (MethodName × Nat) := [(⟨"PaxosCommit", "sendOutcomes", "(II)V"⟩, 9), (⟨"PaxosCommit", "arriveOutcome", "(LPaxosCommit$Message;)V"⟩, 9), (⟨"PaxosCommit", "howMany", "(I)I"⟩, 9), (⟨"PaxosCommit", "stop", "(II)V"⟩, 9), (⟨"PaxosCommitModel", "forget", "(I)V"⟩, 27), (⟨"PaxosCommitModel", "fail", "(I)I"⟩, 27), (⟨"PaxosCommitModel", "out", "(II)Z"⟩, 27), (⟨"PaxosCommitModel", "ones", "(I)I"⟩, 27), (⟨"PaxosCommitModel", "member", "(II)Z"⟩, 27), (⟨"PaxosCommitModel", "send", "(IIIIIII)Z"⟩, 27), (⟨"PaxosCommitModel", "abort", "(II)V"⟩, 27), (⟨"PaxosCommitModel", "unlock", "(II)V"⟩, 27), (⟨"PaxosCommitModel", "vote", "(IIII)V"⟩, 27), (⟨"PaxosCommitModel", "takeOut", "(IZ)V"⟩, 27), (⟨"PaxosCommitModel", "arrive", "(I)V"⟩, 27), (⟨"PaxosCommitModel", "prepare", "(II)V"⟩, 27)]
theorem lw_r2 : ∀ q ∈ lw_privs_2, lw_okq q := List.forall_mem_cons.mpr ⟨lw_p16, List.forall_mem_cons.mpr ⟨lw_p17, List.forall_mem_cons.mpr ⟨lw_p18, List.forall_mem_cons.mpr ⟨lw_p19, List.forall_mem_cons.mpr ⟨lw_p20, List.forall_mem_cons.mpr ⟨lw_p21, List.forall_mem_cons.mpr ⟨lw_p22, List.forall_mem_cons.mpr ⟨lw_p23, List.forall_mem_cons.mpr ⟨lw_p24, List.forall_mem_cons.mpr ⟨lw_p25, List.forall_mem_cons.mpr ⟨lw_p26, List.forall_mem_cons.mpr ⟨lw_p27, List.forall_mem_cons.mpr ⟨lw_p28, List.forall_mem_cons.mpr ⟨lw_p29, List.forall_mem_cons.mpr ⟨lw_p30, List.forall_mem_cons.mpr ⟨lw_p31, fun _ h => absurd h List.not_mem_nil⟩⟩⟩⟩⟩⟩⟩⟩⟩⟩⟩⟩⟩⟩⟩⟩
theorem lw_p32 : lw_okq (⟨"PaxosCommitModel", "ask", "(III)V"⟩, 27) := ⟨⟨by decide +kernel, by decide +kernel⟩, List.mem_of_getElem? (i := 903) (by decide +kernel), List.mem_of_getElem? (i := 1067) (by decide +kernel), List.mem_of_getElem? (i := 1068) (by decide +kernel)⟩
theorem lw_p33 : lw_okq (⟨"PaxosCommitModel", "reply", "(IIIII)V"⟩, 27) := ⟨⟨by decide +kernel, by decide +kernel⟩, List.mem_of_getElem? (i := 903) (by decide +kernel), List.mem_of_getElem? (i := 1071) (by decide +kernel), List.mem_of_getElem? (i := 1072) (by decide +kernel)⟩
theorem lw_p34 : lw_okq (⟨"PaxosCommitModel", "most", "()I"⟩, 27) := ⟨⟨by decide +kernel, by decide +kernel⟩, List.mem_of_getElem? (i := 903) (by decide +kernel), List.mem_of_getElem? (i := 1075) (by decide +kernel), List.mem_of_getElem? (i := 1076) (by decide +kernel)⟩
theorem lw_p35 : lw_okq (⟨"PaxosCommitModel", "proposal", "(II)I"⟩, 27) := ⟨⟨by decide +kernel, by decide +kernel⟩, List.mem_of_getElem? (i := 903) (by decide +kernel), List.mem_of_getElem? (i := 1079) (by decide +kernel), List.mem_of_getElem? (i := 1080) (by decide +kernel)⟩
theorem lw_p36 : lw_okq (⟨"PaxosCommitModel", "accept", "(IIIII)V"⟩, 27) := ⟨⟨by decide +kernel, by decide +kernel⟩, List.mem_of_getElem? (i := 903) (by decide +kernel), List.mem_of_getElem? (i := 1083) (by decide +kernel), List.mem_of_getElem? (i := 1084) (by decide +kernel)⟩
theorem lw_p37 : lw_okq (⟨"PaxosCommitModel", "told", "(IIIIII)V"⟩, 27) := ⟨⟨by decide +kernel, by decide +kernel⟩, List.mem_of_getElem? (i := 903) (by decide +kernel), List.mem_of_getElem? (i := 1087) (by decide +kernel), List.mem_of_getElem? (i := 1088) (by decide +kernel)⟩
theorem lw_p38 : lw_okq (⟨"PaxosCommitModel", "decided", "(II)I"⟩, 27) := ⟨⟨by decide +kernel, by decide +kernel⟩, List.mem_of_getElem? (i := 903) (by decide +kernel), List.mem_of_getElem? (i := 1091) (by decide +kernel), List.mem_of_getElem? (i := 1092) (by decide +kernel)⟩
theorem lw_p39 : lw_okq (⟨"PaxosCommitModel", "finish", "(III)V"⟩, 27) := ⟨⟨by decide +kernel, by decide +kernel⟩, List.mem_of_getElem? (i := 903) (by decide +kernel), List.mem_of_getElem? (i := 1095) (by decide +kernel), List.mem_of_getElem? (i := 1096) (by decide +kernel)⟩
theorem lw_p40 : lw_okq (⟨"PaxosCommitModel", "pass", "(II)I"⟩, 27) := ⟨⟨by decide +kernel, by decide +kernel⟩, List.mem_of_getElem? (i := 903) (by decide +kernel), List.mem_of_getElem? (i := 1111) (by decide +kernel), List.mem_of_getElem? (i := 1112) (by decide +kernel)⟩
theorem lw_p41 : lw_okq (⟨"PaxosCommitModel", "passPart", "(III)I"⟩, 27) := ⟨⟨by decide +kernel, by decide +kernel⟩, List.mem_of_getElem? (i := 903) (by decide +kernel), List.mem_of_getElem? (i := 1115) (by decide +kernel), List.mem_of_getElem? (i := 1116) (by decide +kernel)⟩
theorem lw_p42 : lw_okq (⟨"PaxosCommitModel", "passNumber", "(II)I"⟩, 27) := ⟨⟨by decide +kernel, by decide +kernel⟩, List.mem_of_getElem? (i := 903) (by decide +kernel), List.mem_of_getElem? (i := 1119) (by decide +kernel), List.mem_of_getElem? (i := 1120) (by decide +kernel)⟩
theorem lw_p43 : lw_okq (⟨"PaxosCommitModel", "passVote", "(II)I"⟩, 27) := ⟨⟨by decide +kernel, by decide +kernel⟩, List.mem_of_getElem? (i := 903) (by decide +kernel), List.mem_of_getElem? (i := 1123) (by decide +kernel), List.mem_of_getElem? (i := 1124) (by decide +kernel)⟩
theorem lw_p44 : lw_okq (⟨"PaxosCommitModel", "upSet", "([ZI)I"⟩, 27) := ⟨⟨by decide +kernel, by decide +kernel⟩, List.mem_of_getElem? (i := 903) (by decide +kernel), List.mem_of_getElem? (i := 1151) (by decide +kernel), List.mem_of_getElem? (i := 1152) (by decide +kernel)⟩
def lw_privs_3 : List (MethodName × Nat) := [(⟨"PaxosCommitModel", "ask", "(III)V"⟩, 27), (⟨"PaxosCommitModel", "reply", "(IIIII)V"⟩, 27), (⟨"PaxosCommitModel", "most", "()I"⟩, 27), (⟨"PaxosCommitModel", "proposal", "(II)I"⟩, 27), (⟨"PaxosCommitModel", "accept", "(IIIII)V"⟩, 27), (⟨"PaxosCommitModel", "told", "(IIIIII)V"⟩, 27), (⟨"PaxosCommitModel", "decided", "(II)I"⟩, 27), (⟨"PaxosCommitModel", "finish", "(III)V"⟩, 27), (⟨"PaxosCommitModel", "pass", "(II)I"⟩, 27), (⟨"PaxosCommitModel", "passPart", "(III)I"⟩, 27), (⟨"PaxosCommitModel", "passNumber", "(II)I"⟩, 27), (⟨"PaxosCommitModel", "passVote", "(II)I"⟩, 27), (⟨"PaxosCommitModel", "upSet", "([ZI)I"⟩, 27)]
theorem lw_r3 : ∀ q ∈ lw_privs_3, lw_okq q := List.forall_mem_cons.mpr ⟨lw_p32, List.forall_mem_cons.mpr ⟨lw_p33, List.forall_mem_cons.mpr ⟨lw_p34, List.forall_mem_cons.mpr ⟨lw_p35, List.forall_mem_cons.mpr ⟨lw_p36, List.forall_mem_cons.mpr ⟨lw_p37, List.forall_mem_cons.mpr ⟨lw_p38, List.forall_mem_cons.mpr ⟨lw_p39, List.forall_mem_cons.mpr ⟨lw_p40, List.forall_mem_cons.mpr ⟨lw_p41, List.forall_mem_cons.mpr ⟨lw_p42, List.forall_mem_cons.mpr ⟨lw_p43, List.forall_mem_cons.mpr ⟨lw_p44, fun _ h => absurd h List.not_mem_nil⟩⟩⟩⟩⟩⟩⟩⟩⟩⟩⟩⟩⟩
def lw_privs : List (MethodName × Nat) := lw_privs_1 ++ (lw_privs_2 ++ (lw_privs_3))
def lw_tbl : List Cond := k2_sels lw_privs ++ tables_1
theorem lw_privs_ok : ∀ q ∈ lw_privs, lw_okq q := by
  show ∀ q ∈ lw_privs_1 ++ (lw_privs_2 ++ (lw_privs_3)), lw_okq q
  exact List.forall_mem_append.mpr ⟨lw_r1, List.forall_mem_append.mpr ⟨lw_r2, lw_r3⟩⟩

/-- the word of arrays of arrays (the printed rows below name it, and nothing before them has it) -/
def va_AOA (t : FieldType) (U : State) : Prop := (Cond.arrayOver (.array t)).before #[] U = true
theorem va_AOA.use {t : FieldType} {A : Array Value} {U : State} (h : va_AOA t U) : (Cond.arrayOver (.array t)).before A U = true := h
/-! ===== BEGIN words of one list among another's, by their places ===== -/
theorem goodIn_r {big : List Cond} (ws : List Cond) (ps : List Nat) (hp : ws = ps.filterMap (fun i => big[i]?)) (h : ws.all goodWord = true) : GoodIn big ws := by
  intro w hw
  have h1 := List.all_eq_true.mp h w hw
  rw [hp] at hw
  obtain ⟨i, -, hi⟩ := List.mem_filterMap.mp hw
  have hm : w ∈ big := by first | exact List.mem_of_getElem? hi | exact List.getElem?_mem hi
  exact ⟨hm, good_of_word h1⟩
theorem goodIn_app {big a b : List Cond} (ha : GoodIn big a) (hb : GoodIn big b) : GoodIn big (a ++ b) := fun w h => (List.mem_append.mp h).elim (ha w) (hb w)
theorem goodIn_ca {big a b : List Cond} {c : Cond} (ha : GoodIn big (c :: a)) (hb : GoodIn big b) : GoodIn big (c :: (a ++ b)) := fun w h => (List.mem_cons.mp h).elim (fun e => ha w (List.mem_cons.mpr (Or.inl e))) (fun h => (List.mem_append.mp h).elim (fun h => ha w (List.mem_cons.mpr (Or.inr h))) (hb w))
theorem goodIn_sub {big ws : List Cond} (hm : ∀ w ∈ ws, w ∈ big) (h : ws.all goodWord = true) : GoodIn big ws := fun w hw => ⟨hm w hw, good_of_word (List.all_eq_true.mp h w hw)⟩
/-! ===== END ===== -/

/-! ===== BEGIN new T[n][m]: the outer array a place, the inner ones among the pooled ===== -/
/-- f, but v at every address of l -/
def vr_up {α : Type} (f : Nat → α) (l : List Nat) (v : α) : Nat → α := fun a => if a ∈ l then v else f a
theorem vr_up_in {α : Type} {f : Nat → α} {l : List Nat} {v : α} {a : Nat} (h : a ∈ l) : vr_up f l v a = v := if_pos h
theorem vr_up_ne {α : Type} {f : Nat → α} {l : List Nat} {v : α} {a : Nat} (h : a ∉ l) : vr_up f l v a = f a := if_neg h
theorem vr_rows {L l : List Nat} {f : Nat → va_E} {e : va_E} (h : ∀ a, a ∈ l → a ∉ L) : va_pl L f ++ l.map (fun a => (a, e)) = va_pl (L ++ l) (vr_up f l e) := by
  unfold va_pl
  rw [List.map_append]
  congr 1
  · apply List.map_congr_left
    intro a ha
    rw [vr_up_ne (fun q => h a q ha)]
  · apply List.map_congr_left
    intro a ha
    rw [vr_up_in ha]
theorem vr_lay {X rows : va_W} {x : Nat × va_E} {pl : va_W} {D : va_G} {cl : List vw_C} {H : Heap} (hP : va_P D cl (((X ++ pl) ++ [x]) ++ rows) H) : va_P D cl ((X ++ [x]) ++ (pl ++ rows)) H := by
  rw [List.append_assoc (X ++ pl)] at hP
  have h := va_P.swap hP
  rw [← List.append_assoc X] at h
  have h2 := va_P.swap h
  rw [List.append_assoc (X ++ [x])] at h2
  exact h2
theorem vr_layD {X rows : va_W} {x : Nat × va_E} {pl : va_W} {A : Nat → Prop} (hD : va_D A (((X ++ pl) ++ [x]) ++ rows)) : va_D A ((X ++ [x]) ++ (pl ++ rows)) := by
  rw [List.append_assoc (X ++ pl)] at hD
  have h := va_D.swap hD
  rw [← List.append_assoc X] at h
  have h2 := va_D.swap h
  rw [List.append_assoc (X ++ [x])] at h2
  exact h2
theorem vr_outer (c : ClassId) (N h0 : Nat) : ∀ i : Nat, Jvm.Free.Multi.outerC c N h0 i = arrV c N (fun j => va_rf (if j < i then some (h0 + 1 + j) else none))
  | 0 => by
    show ({ cls := c, slots := Array.replicate N .null, vm := .none } : Cell) = _
    rw [arrV_new]
    refine congrArg (arrV c N) (funext fun j => ?_)
    simp [va_rf]
  | i + 1 => by
    show (Jvm.Free.Multi.outerC c N h0 i).setSlot i (.ref (h0 + 1 + i)) = _
    rw [vr_outer c N h0 i, arrV_store]
    refine congrArg (arrV c N) (funext fun j => ?_)
    by_cases e : j = i
    · subst e
      simp [updV, va_rf]
    · by_cases h : j < i
      · simp [updV, e, h, Nat.lt_succ_of_lt h]
      · simp [updV, e, h, show ¬ j < i + 1 by omega]
section VGM
variable {p : Program} {l : Launch} {e : Env} {R : Room} {s : State} {m : MethodId} {args : Array Value} {below : List Frame} {meth : Method} {c : Code} {H : Heap} {locs : List Loc} {cells slots : Nat} {Q : State → Prop}
variable {cc : ByteArray} {pc : Nat} {ls : Array Slot} {rest : List Value} {D : va_G} {cl : List vw_C} {A : Nat → Prop} {a : Nat} {tys : List (ClassId × FieldType)} {ws : va_W} {H0 : Heap}
theorem va_mna {X : va_W} {L : List Nat} {f : Nat → va_E} {cc : ByteArray} (hexec : p.tables.exec = Jvm.exec) (hb : c.code = cc) {own : String} {index : Nat} {ty : FieldType} {cy : ClassId} (hown : s.vm.findClass own = some m.cls) (hclink : (Cond.classLink own index ("[" ++ (FieldType.array ty).toString)).before args s = true) (hover : va_AOA ty s) (harr : (Cond.arrayClass ty).before args s = true) (hcy : s.vm.findClass (FieldType.array ty).toString = some cy)
    (hK : va_K D cl tys s) (hP : va_P D cl (X ++ va_pl L f) H) (hD : va_D A (X ++ va_pl L f)) (hS : va_S A H0 H locs) (hA : ∀ q, H0.size ≤ q → A q) {n k : Int32} {N' K' : Nat} {z : vp_A} (hn : ¬ n < 0) (hk : ¬ k < 0) (hN : n.toNatClampNeg = N') (hM : k.toNatClampNeg = K')
    (hb1 : N' * 4 ≤ 536870912) (hb2 : K' * componentBytes ty ≤ 536870912) (hb3 : K' ≤ 536870912) (hdf : fits ty (defaultValue ty) = true) (hdd : (defaultValue ty).isDefault = true) (hcells : cells + (1 + N') ≤ R.cells) (hslots : slots + (N' + N' * K') ≤ R.slots) (hz : ∀ c : ClassId, Jvm.Free.Multi.innerC c K' (defaultValue ty) = vp_cell c z) (hdg : decode cc pc = .ok (.multianewarray index 2, 4))
    (kk : ∀ (q : Nat) (r : Nat → Nat) (cA : ClassId) (H1 : Heap), (∀ i j : Nat, i < N' → j < N' → r i = r j → i = j) → (∀ i : Nat, i < N' → r i ∉ L) → va_K D cl (tys ++ [(cA, .array ty)]) s →
      va_P D cl ((X ++ [(q, .inl (cA, N', .inr (.inr (.inr (.inr (fun i => if i < N' then some (r i) else none))))))]) ++ va_pl (L ++ (List.range N').map r) (vr_up f ((List.range N').map r) (.inl (cy, z)))) H1 → va_D A ((X ++ [(q, .inl (cA, N', .inr (.inr (.inr (.inr (fun i => if i < N' then some (r i) else none))))))]) ++ va_pl (L ++ (List.range N').map r) (vr_up f ((List.range N').map r) (.inl (cy, z)))) → va_S A H0 H1 locs →
      W p l e R s m args below meth c H1 locs (cells + 1 + N') (slots + N' + N' * K') Q (F0 m (pc + 4) ls (.ref q :: rest))) : W p l e R s m args below meth c H locs cells slots Q (F0 m pc ls (.int k :: .int n :: rest)) := by
  subst hN
  subst hM
  intro T hT Xs
  obtain ⟨vm₁, cA, comp, -, fA, fC, hO, -, X', step⟩ := Xs.multianewarray2F hexec hown hclink (va_AOA.use hover) harr (g := F0 m pc ls (.int k :: .int n :: rest)) rfl (by rw [hb]; exact hdg) rfl hn hk hb1 hb2 hb3 hdf hdd hcells hslots
  have ec : some cy = some comp := hcy.symm.trans fC
  cases ec
  generalize hF : Jvm.Free.Multi.fill (T.setVm vm₁) cA cy n.toNatClampNeg k.toNatClampNeg (defaultValue ty) n.toNatClampNeg = F at X' step
  have hTh : (T.setVm vm₁).heap = H := hT
  obtain ⟨f1, f2, -, -⟩ := Jvm.Free.Multi.fill_facts (T.setVm vm₁) cA cy n.toNatClampNeg k.toNatClampNeg (defaultValue ty) n.toNatClampNeg
  rw [hF, hTh] at f1 f2
  have hold : ∀ x : Nat, x < H.size → F.heap[x]? = H[x]? := fun x hx => by
    have := Jvm.Free.Multi.fill_old (T.setVm vm₁) cA cy n.toNatClampNeg k.toNatClampNeg (defaultValue ty) (a := x) (by rw [hTh]; exact hx) n.toNatClampNeg
    rw [hF, hTh] at this
    exact this
  have hrow : ∀ j : Nat, j < n.toNatClampNeg → F.heap[H.size + 1 + j]? = some (vp_cell cy z) := fun j hj => by
    have := Jvm.Free.Multi.fill_inner (T.setVm vm₁) cA cy n.toNatClampNeg k.toNatClampNeg (defaultValue ty) n.toNatClampNeg j hj
    rw [hF, hTh, hz] at this
    exact this
  have hout : Jvm.Free.Multi.outerC cA n.toNatClampNeg H.size n.toNatClampNeg = vp_cell cA (n.toNatClampNeg, .inr (.inr (.inr (.inr (fun i => if i < n.toNatClampNeg then some (H.size + 1 + i) else none))))) := by
    rw [vp_cell_q]
    exact vr_outer cA n.toNatClampNeg H.size n.toNatClampNeg
  rw [hout] at f2
  have hlt : ∀ a, a ∈ L → a < H.size := fun a ha => by
    obtain ⟨k9, hk9⟩ := va_pl_get (X := X) (f := f) ha
    exact (hP k9 _ hk9).lt
  have hnl : ∀ i : Nat, i < n.toNatClampNeg → H.size + 1 + i ∉ L := fun i _ h => by
    have := hlt _ h
    omega
  have hnm : ∀ a, a ∈ (List.range n.toNatClampNeg).map (fun i => H.size + 1 + i) → a ∉ L := fun a ha h => by
    obtain ⟨i, -, rfl⟩ := List.mem_map.mp ha
    have := hlt _ h
    omega
  have hP0 : va_P D cl (X ++ va_pl L f) F.heap := hP.kept (fun k9 x hx => hold x.1 ((hP k9 x hx).lt))
  have hP1 : va_P D cl ((X ++ va_pl L f) ++ [(H.size, .inl (cA, n.toNatClampNeg, .inr (.inr (.inr (.inr (fun i => if i < n.toNatClampNeg then some (H.size + 1 + i) else none))))))]) F.heap := hP0.app (fun k9 x hx => by
    have h0 : k9 < 1 := (List.getElem?_eq_some_iff.mp hx).1
    rw [show k9 = 0 by omega] at hx
    cases hx
    exact f2)
  have hP2 : va_P D cl (((X ++ va_pl L f) ++ [(H.size, .inl (cA, n.toNatClampNeg, .inr (.inr (.inr (.inr (fun i => if i < n.toNatClampNeg then some (H.size + 1 + i) else none))))))]) ++ ((List.range n.toNatClampNeg).map (fun i => H.size + 1 + i)).map (fun a => (a, .inl (cy, z)))) F.heap := hP1.app (fun k9 x hx => by
    obtain ⟨a, ha, rfl⟩ := List.mem_map.mp (List.mem_of_getElem? hx)
    obtain ⟨i, hi, rfl⟩ := List.mem_map.mp ha
    exact hrow i (List.mem_range.mp hi))
  have hD2 : va_D A (((X ++ va_pl L f) ++ [(H.size, .inl (cA, n.toNatClampNeg, .inr (.inr (.inr (.inr (fun i => if i < n.toNatClampNeg then some (H.size + 1 + i) else none))))))]) ++ ((List.range n.toNatClampNeg).map (fun i => H.size + 1 + i)).map (fun a => (a, .inl (cy, z)))) := by
    have hD1 := hD.push (e := .inl (cA, n.toNatClampNeg, .inr (.inr (.inr (.inr (fun i => if i < n.toNatClampNeg then some (H.size + 1 + i) else none)))))) hP rfl (hA _ hS.1)
    generalize hW1 : (X ++ va_pl L f) ++ [(H.size, .inl (cA, n.toNatClampNeg, .inr (.inr (.inr (.inr (fun i => if i < n.toNatClampNeg then some (H.size + 1 + i) else none))))))] = W1 at hD1 hP1 ⊢
    have hle : ∀ (k9 : Nat) (x : Nat × va_E), W1[k9]? = some x → x.1 ≤ H.size := fun k9 x hx => by
      rw [← hW1] at hx
      by_cases hl : k9 < (X ++ va_pl L f).length
      · rw [List.getElem?_append_left hl] at hx
        exact Nat.le_of_lt ((hP k9 x hx).lt)
      · rw [List.getElem?_append_right (by omega)] at hx
        have h0 : k9 - (X ++ va_pl L f).length < 1 := (List.getElem?_eq_some_iff.mp hx).1
        rw [show k9 - (X ++ va_pl L f).length = 0 by omega] at hx
        cases hx
        exact Nat.le_refl _
    have hr : ∀ (k9 : Nat) (x : Nat × va_E), (((List.range n.toNatClampNeg).map (fun i => H.size + 1 + i)).map (fun a => ((a, .inl (cy, z)) : Nat × va_E)))[k9]? = some x → x.1 = H.size + 1 + k9 := fun k9 x hx => by
      rw [List.getElem?_map, List.getElem?_map] at hx
      by_cases h9 : k9 < n.toNatClampNeg
      · rw [List.getElem?_range h9] at hx
        cases hx
        rfl
      · have hn0 : (List.range n.toNatClampNeg)[k9]? = none := List.getElem?_eq_none (by rw [List.length_range]; omega)
        rw [hn0] at hx
        cases hx
    refine ⟨fun i j x y hi hj hxy => ?_, fun k9 x hx => ?_⟩
    · by_cases h1 : i < W1.length <;> by_cases h2 : j < W1.length
      · rw [List.getElem?_append_left h1] at hi
        rw [List.getElem?_append_left h2] at hj
        exact hD1.1 i j x y hi hj hxy
      · rw [List.getElem?_append_left h1] at hi
        rw [List.getElem?_append_right (by omega)] at hj
        have := hle _ _ hi
        have := hr _ _ hj
        omega
      · rw [List.getElem?_append_right (by omega)] at hi
        rw [List.getElem?_append_left h2] at hj
        have := hle _ _ hj
        have := hr _ _ hi
        omega
      · rw [List.getElem?_append_right (by omega)] at hi hj
        have := hr _ _ hi
        have := hr _ _ hj
        omega
    · by_cases h1 : k9 < W1.length
      · rw [List.getElem?_append_left h1] at hx
        exact hD1.2 k9 x hx
      · rw [List.getElem?_append_right (by omega)] at hx
        have := hr _ _ hx
        exact hA _ (by have := hS.1; omega)
  have hAr : ArrOfT s cA (.array ty) := fun N9 z9 => by
    obtain ⟨-, k9, hk9, cm9, hkk9⟩ := (hO 0 0 0).1
    exact ⟨(fun q hq => by cases hq), k9, hk9, cm9, hkk9⟩
  have hK2 : va_K D cl (tys ++ [(cA, .array ty)]) s := ⟨hK.1, fun k9 x hx => by
    by_cases hl : k9 < tys.length
    · rw [List.getElem?_append_left hl] at hx
      exact hK.2 k9 x hx
    · rw [List.getElem?_append_right (by omega)] at hx
      have h0 : k9 - tys.length < 1 := (List.getElem?_eq_some_iff.mp hx).1
      rw [show k9 - tys.length = 0 by omega] at hx
      cases hx
      exact ⟨hAr, fA⟩⟩
  obtain ⟨t, a1, b1⟩ := kk H.size (fun i => H.size + 1 + i) cA F.heap (fun i j _ _ h => by have h9 : H.size + 1 + i = H.size + 1 + j := h; omega) hnl hK2 (by rw [← vr_rows hnm]; exact vr_lay hP2) (by rw [← vr_rows hnm]; exact vr_layD hD2) ⟨by rw [f1]; have := hS.1; omega, fun x h1 h2 => (hold x (Nat.lt_of_lt_of_le h1 hS.1)).trans (hS.2.1 x h1 h2), hS.2.2⟩ F rfl X'
  refine ⟨t, step t ?_, b1⟩
  have e : T.heap.size = H.size := by rw [hT]
  rw [e]
  exact a1
end VGM
/-! ===== END ===== -/

/-! ===== BEGIN exceptions that leave a method, and their catching by the caller (launches without stack traces) ===== -/
section VXA
/-! The laws vx_back, vx_callV, vx_callS, vx_callSW, vx_throw0, vx_throwS follow proofs of the library, with one case more: JvmDerived/Free/Laws.lean (Back.of_free), Shelf42/LK1.lean (callV, callS), Shelf/KitTraced.lean (throwNew0V, throwNewS). -/
/-- where a method has thrown q: the class by its name, the cell, what was written, the world -/
def vx_T (XC : String → State → State → Prop) (st : State) (q : Addr) (t : State) (mc ms : Nat) (free : Addr → Prop) : Prop :=
  ∃ (E : String) (ce : Cell) (L : List Loc), XC E st t ∧ t.heap[q]? = some ce ∧ ce.vm = .none ∧ st.vm.findClass E = some ce.cls ∧ st.WarmedH t.vm ∧ st.sameButNew ({ t with vm := st.vm } : State) L mc ms ∧ ∀ z ∈ L, free z.base
def vx_Q (Qc : Array Value → State → Outcome → State → Prop) (XC : String → State → State → Prop) (mc ms : Nat) (free : Addr → Prop) : Array Value → State → Outcome → State → Prop := fun a st o t =>
  (Qc a st o t ∧ ∃ L, FrameEnd st o t L mc ms ∧ ∀ q ∈ L, free q.base) ∨ ∃ q, o = .threw q ∧ vx_T XC st q t mc ms free
/-- a callee that returns or throws -/
def vx_Met (l : Launch) (y : MethodName) (ws : List Cond) (rm : Room) (Pc : Array Value → State → Prop) (Qc : Array Value → State → Outcome → State → Prop) (XC : String → State → State → Prop) (mc ms : Nat) (free : Addr → Prop) : Prop :=
  MetFree l y (headSpec ws rm) Pc (fun _ _ _ _ _ => True) (vx_Q Qc XC mc ms free)
def vx_Post (XC : String → State → State → Prop) (mc ms : Nat) (free : Addr → Prop) : Pt → Array Value → Addr → Pt → Prop := fun A a q B =>
  ∃ (g : JFrame) (mk : MethodId) (t : State) (L : List Loc) (E : String) (ce : Cell), B.U.heap = t.heap ∧ B.U.vm = t.vm ∧ XC E (A.U.calling g mk a) t ∧ t.heap[q]? = some ce ∧ ce.vm = .none ∧ A.U.vm.findClass E = some ce.cls ∧ B.locs = A.locs ++ L ∧ (∀ z ∈ L, free z.base) ∧ B.cells = A.cells + mc ∧ B.slots = A.slots + ms
def vx_Back (l : Launch) (R : Room) (p : Program) (e : Env) (below : List Frame) (s : State) (sargs : Array Value) (y : MethodName) (len W9 : Nat)
    (Pre : Pt → Array Value → Prop) (Post : Pt → Array Value → Option Value → Pt → Prop) (PostX : Pt → Array Value → Addr → Pt → Prop) : Prop :=
  ∀ (m : MethodId) (meth : Method) (c : Code) (A : Pt) (g : JFrame) (ig : Instr) (mk : MethodId) (a : Array Value),
    Stand p l e R s m sargs below meth c A.U A.locs A.cells A.slots → g.method = m → g.locals.size = c.maxLocals → decode c.code g.pc = .ok (ig, len) →
    2 * g.monitorRoom + (g.stack.map fun v => v.category).sum ≤ W9 → A.U.methodNamed? y = some mk → Pre A a →
    (∃ (v : Option Value) (B : Pt), Stand p l e R s m sargs below meth c B.U B.locs B.cells B.slots ∧ Post A a v B ∧
      Steps p.tables e below (doInvoke e (A.U.setTop g) [] mk a).1 (B.U.setTop { g with pc := g.pc + len, stack := v.toList ++ g.stack })) ∨
    (∃ (q : Addr) (B : Pt), Stand p l e R s m sargs below meth c B.U B.locs B.cells B.slots ∧ PostX A a q B ∧
      Steps p.tables e below (doInvoke e (A.U.setTop g) [] mk a).1 ((B.U.setTop g).pushFrame (.throwing q)))
section Payer
variable {l : Launch} {R : Room} {p : Program} {e : Env} {below : List Frame} {s : State} {sargs : Array Value} {y : MethodName} {len W9 : Nat}
theorem vx_back {ws : List Cond} {rm : Room} {Pc : Array Value → State → Prop} {Qc : Array Value → State → Outcome → State → Prop} {XC : String → State → State → Prop} {mc ms : Nat} {free : Addr → Prop} {bytes : ByteArray} {maxL : Nat} {ret : Option FieldType}
    (hM : vx_Met l y ws rm Pc Qc XC mc ms free) (hblind : FrameBlind Pc) (hrc : rm.cells = mc) (hrs : rm.slots = ms)
    (hframes : rm.frames + 1 ≤ R.frames) (hlocals : W9 + (maxL + 11) + rm.locals ≤ R.locals)
    (hws : ∀ w ∈ ws, ∀ a' U, s.WarmedH U.vm → w.before a' U = true) (hcode : Cond.code y bytes maxL ret ∈ ws) (hinit : ∀ a' U, s.WarmedH U.vm → (Cond.initialized y.cls).before a' U = true) :
    vx_Back l R p e below s sargs y len W9 (PreOf R mc ms Pc) (PostOf Qc mc ms free) (vx_Post XC mc ms free) := by
  intro m meth c A g ig mk a X hg hsize hdg hW hn hp
  have h1 : (headSpec ws rm).pre.before a A.U = true := atoms_intro fun w hw => hws w hw _ _ X.warmed
  have h2 : (Cond.code y bytes maxL ret).before a A.U = true := hws _ hcode _ _ X.warmed
  have h3 : (Cond.initialized y.cls).before a A.U = true := hinit _ _ X.warmed
  have h4 : A.cells + (headSpec ws rm).room.cells ≤ R.cells := by rw [show (headSpec ws rm).room.cells = mc from hrc]; exact hp.1
  have h5 : A.slots + (headSpec ws rm).room.slots ≤ R.slots := by rw [show (headSpec ws rm).room.slots = ms from hrs]; exact hp.2.1
  have hPc : Pc a (A.U.calling g mk a) := hblind _ _ _ _ hp.2.2
  obtain ⟨U, Ls, c0, s0⟩ := A
  dsimp only [Pt.U, Pt.locs, Pt.cells, Pt.slots] at h1 h2 h3 h4 h5 X hn hPc ⊢
  obtain ⟨methY, cY, hmY, hcY, -, hlY, -, -, -, -⟩ := Cond.code_spec hn h2
  obtain ⟨kY, hkY, -⟩ := className_of_methodNamed hn
  have hinitY : kY.init = .initialized := Cond.initialized_spec (findClass_of_methodNamed hn) hkY h3
  have h : At U g.method c below := by rw [hg]; exact X.here
  have hlocals9 : W9 + (maxL + 11) + (headSpec ws rm).room.locals ≤ R.locals := hlocals
  have happ : (headSpec ws rm).appliesLoose y e.platform (U.calling g mk a) = true :=
    Spec.appliesLoose_calling (g := g) h hdg hn hkY hinitY
      (X.room_calling (g := g) (R' := (headSpec ws rm).room) hsize hmY hcY hframes (by rw [hlY]; omega) h4 h5) h1
  obtain ⟨mid, hmid⟩ := h.above
  have hfr : (U.setTop g).frames = (.java g :: mid) ++ below := by rw [State.frames_setTop' g h.top, hmid]; rfl
  obtain ⟨o, s₂, hsteps, -, hend, hq⟩ := Steps.callFree hM p X.admits X.cas X.clock (acts := []) hfr happ hPc trivial
  have hq' : vx_Q Qc XC mc ms free a (U.calling g mk a) o s₂ := hq
  rw [State.frames_setTop' g h.top] at hend
  obtain ⟨g₀, hg0⟩ := Option.isSome_iff_exists.mp h.top
  obtain ⟨r, hr⟩ := State.topJava?_eq_some.mp hg0
  have hr' : (({ U with heap := s₂.heap, slotsUsed := s₂.slotsUsed } : State).setVm s₂.vm).frames = .java g₀ :: r := hr
  rcases hq' with ⟨hqc, L, hfe, hL⟩ | ⟨q, rfl, E, ce, L, hx, hce, hcv, hcl, hW₂, hsm, hL⟩
  · obtain ⟨⟨v, rfl⟩, hW₂, e2, q2, q3, q4, q5, q6⟩ := id hfe
    have e3 : s₂ = ({ (U.calling g mk a).setFrames s₂.frames with heap := s₂.heap, slotsUsed := s₂.slotsUsed } : State).setVm s₂.vm := by
      have : s₂ = ({ s₂ with vm := (U.calling g mk a).vm } : State).setVm s₂.vm := rfl
      rw [e2] at this
      exact this
    obtain ⟨c₂, i₂, len₂, hc₂, hd₂, hf₂⟩ := hend
    have hW' : U.WarmedH s₂.vm := hW₂
    have hcc : c₂ = c := by
      have h1 : s₂.code? g.method = U.code? g.method := by
        rw [State.code?_eq, State.code?_eq, hW'.alike.method?]
      exact Option.some.inj (hc₂.symm.trans (h1.trans h.code))
    subst hcc
    have hlen : len₂ = len := by rw [hdg] at hd₂; cases hd₂; rfl
    subst hlen
    have hs₂ : s₂ = (({ U with heap := s₂.heap, slotsUsed := s₂.slotsUsed } : State).setVm s₂.vm).setTop { g with pc := g.pc + len₂, stack := v.toList ++ g.stack } := by
      refine e3.trans ?_
      rw [hf₂, State.calling_eq h.top, State.setFrames_setFrames, State.setTop_of_frames _ hr', hr]
      rfl
    have hsame : U.sameButNew ({ U with heap := s₂.heap, slotsUsed := s₂.slotsUsed } : State) L mc ms := by
      refine ⟨?_, q2, q3, q4, q5, q6⟩
      obtain ⟨t, ht, -⟩ := State.frames_cons hr
      show ({ U with heap := s₂.heap, slotsUsed := s₂.slotsUsed } : State) = { U.setFrames U.frames with heap := s₂.heap, slotsUsed := s₂.slotsUsed }
      rw [State.setFrames_self ht]
    subst hg
    refine Or.inl ⟨v, ⟨(({ U with heap := s₂.heap, slotsUsed := s₂.slotsUsed } : State).setVm s₂.vm), Ls ++ L, c0 + mc, s0 + ms⟩,
      ⟨X.admits, X.cas, X.clock, X.frames, X.room, X.hears, X.method, X.code, (X.here.setHeapUsed s₂.heap s₂.slotsUsed).setVm hW'.alike, X.tail, State.WarmedH.trans X.warmed hW', X.limits, X.bytes, X.same.trans (hsame.setVm s.vm)⟩,
      ⟨g, mk, s₂, L, rfl, rfl, hqc, rfl, hL, rfl, rfl⟩, ?_⟩
    show Steps p.tables e below _ ((({ U with heap := s₂.heap, slotsUsed := s₂.slotsUsed } : State).setVm s₂.vm).setTop { g with pc := g.pc + len₂, stack := v.toList ++ g.stack })
    rw [← hs₂]
    exact hsteps
  · obtain ⟨e2, q2, q3, q4, q5, q6⟩ := id hsm
    have e3 : s₂ = ({ (U.calling g mk a).setFrames s₂.frames with heap := s₂.heap, slotsUsed := s₂.slotsUsed } : State).setVm s₂.vm := by
      have : s₂ = ({ s₂ with vm := (U.calling g mk a).vm } : State).setVm s₂.vm := rfl
      rw [e2] at this
      exact this
    have hf₂ : s₂.frames = .throwing q :: .java g :: U.frames.tail := hend
    have hW' : U.WarmedH s₂.vm := hW₂
    have hs₂ : s₂ = ((({ U with heap := s₂.heap, slotsUsed := s₂.slotsUsed } : State).setVm s₂.vm).setTop g).pushFrame (.throwing q) := by
      refine e3.trans ?_
      rw [hf₂, State.calling_eq h.top, State.setFrames_setFrames, State.pushFrame, State.frames_setTop _ hr', State.setTop_of_frames _ hr', State.setFrames_setFrames, hr]
      rfl
    have hsame : U.sameButNew ({ U with heap := s₂.heap, slotsUsed := s₂.slotsUsed } : State) L mc ms := by
      refine ⟨?_, q2, q3, q4, q5, q6⟩
      obtain ⟨t, ht, -⟩ := State.frames_cons hr
      show ({ U with heap := s₂.heap, slotsUsed := s₂.slotsUsed } : State) = { U.setFrames U.frames with heap := s₂.heap, slotsUsed := s₂.slotsUsed }
      rw [State.setFrames_self ht]
    subst hg
    refine Or.inr ⟨q, ⟨(({ U with heap := s₂.heap, slotsUsed := s₂.slotsUsed } : State).setVm s₂.vm), Ls ++ L, c0 + mc, s0 + ms⟩,
      ⟨X.admits, X.cas, X.clock, X.frames, X.room, X.hears, X.method, X.code, (X.here.setHeapUsed s₂.heap s₂.slotsUsed).setVm hW'.alike, X.tail, State.WarmedH.trans X.warmed hW', X.limits, X.bytes, X.same.trans (hsame.setVm s.vm)⟩,
      ⟨g, mk, s₂, L, E, ce, rfl, rfl, hx, hce, hcv, hcl, rfl, hL, rfl, rfl⟩, ?_⟩
    show Steps p.tables e below _ (((({ U with heap := s₂.heap, slotsUsed := s₂.slotsUsed } : State).setVm s₂.vm).setTop g).pushFrame (.throwing q))
    rw [← hs₂]
    exact hsteps
end Payer
section Calls
variable {p : Program} {l : Launch} {e : Env} {R : Room} {s : State} {m : MethodId} {args : Array Value} {below : List Frame} {meth : Method} {c : Code} {T : State} {locs : List Loc} {cells slots : Nat}
theorem vx_callV (X : Stand p l e R s m args below meth c T locs cells slots) (hexec : p.tables.exec = Jvm.exec) {own C : String} {index : Nat} {y : MethodName} {bytes : ByteArray} {maxL : Nat} {ret : Option FieldType}
    (hown : s.vm.findClass own = some m.cls) (hlink : (Cond.methodLink own index y).before args s = true) (hinst : (Cond.instanceMethod y).before args s = true) (hsel : (Cond.selects C y y).before args s = true)
    (hcode : (Cond.code y bytes maxL ret).before args s = true) (hy : y.cls ≠ "java/lang/invoke/MethodHandle" ∧ y.cls ≠ "java/lang/invoke/VarHandle")
    {W9 : Nat} {Pre : Pt → Array Value → Prop} {Post : Pt → Array Value → Option Value → Pt → Prop} {PostX : Pt → Array Value → Addr → Pt → Prop} (hK : vx_Back l R p e below s args y 3 W9 Pre Post PostX)
    {b : Addr} {cellB : Cell} (hcell : T.heap[b]? = some cellB) (hobj : cellB.vm.isStatics = false) (hcls : s.vm.findClass C = some cellB.cls)
    {g : JFrame} (hg : g.method = m) (hsize : g.locals.size = c.maxLocals) {argsL rest : List Value} (hlen : ∀ sig, parseMethodDescriptor y.desc = some sig → argsL.length = sig.parameters.length)
    (hstack : g.stack = argsL.reverse ++ .ref b :: rest) (hW : 2 * g.monitorRoom + (rest.map fun v => v.category).sum ≤ W9) (hdg : decode c.code g.pc = .ok (.invokevirtual index, 3))
    (hpre : ∀ vm₁, s.WarmedH vm₁ → Pre ⟨T.setVm vm₁, locs, cells, slots⟩ (Value.ref b :: argsL).toArray) :
    (∃ (v : Option Value) (vm₁ : Vm) (B : Pt), s.WarmedH vm₁ ∧ Stand p l e R s m args below meth c B.U B.locs B.cells B.slots ∧ Post ⟨T.setVm vm₁, locs, cells, slots⟩ (Value.ref b :: argsL).toArray v B ∧
      ∀ target, Steps p.tables e below (B.U.setTop { g with pc := g.pc + 3, stack := v.toList ++ rest }) target → Steps p.tables e below (T.setTop g) target) ∨
    (∃ (q : Addr) (vm₁ : Vm) (B : Pt), s.WarmedH vm₁ ∧ Stand p l e R s m args below meth c B.U B.locs B.cells B.slots ∧ PostX ⟨T.setVm vm₁, locs, cells, slots⟩ (Value.ref b :: argsL).toArray q B ∧
      Steps p.tables e below (T.setTop g) ((B.U.setTop { g with stack := rest }).pushFrame (.throwing q))) := by
  obtain ⟨mk, methM, hnamed, hmethM, hstM, habM⟩ := Cond.instanceMethod_spec hinst
  obtain ⟨methM', cM, hmethM', -, -, -, -, -, -, hsigM⟩ := Cond.code_spec hnamed hcode
  cases hmethM.symm.trans hmethM'
  obtain ⟨c2, r2, m2, q1, q2, q3, q4, kP, hkP, hkPi⟩ := Cond.selects_spec hsel
  cases hcls.symm.trans q1
  cases (State.methodFound?_of_named hnamed hy).symm.trans q2
  cases hnamed.symm.trans q3
  have hselP : selectMethod e.platform s.vm cellB.cls mk = .method mk := by rw [Launch.admits_selectMethod X.admits]; exact q4
  obtain ⟨vm₁, X₁, hstep₁⟩ := X.invokevirtual hexec hown hlink hnamed hmethM hstM hkP hkPi hy (a := b) (cell := cellB) hcell
    (fun z h => by rw [h] at hobj; cases hobj) hselP hmethM habM hkP hkPi (g := g) hg (argsL := argsL) (rest := rest) (hlen _ hsigM) hstack hdg
  rcases hK m meth c ⟨T.setVm vm₁, locs, cells, slots⟩ { g with stack := rest } (.invokevirtual index) mk (Value.ref b :: argsL).toArray X₁ hg hsize hdg hW (X₁.named hnamed) (hpre vm₁ X₁.warmed) with ⟨v, B, X', hpost, hsteps⟩ | ⟨q, B, X', hpost, hsteps⟩
  · exact Or.inl ⟨v, vm₁, B, X₁.warmed, X', hpost, fun target h => hstep₁ _ fun acts => by rw [doInvoke_state]; exact hsteps.trans h⟩
  · exact Or.inr ⟨q, vm₁, B, X₁.warmed, X', hpost, hstep₁ _ fun acts => by rw [doInvoke_state]; exact hsteps⟩
theorem vx_callS (X : Stand p l e R s m args below meth c T locs cells slots) (hexec : p.tables.exec = Jvm.exec) {own : String} {index : Nat} {y : MethodName} {bytes : ByteArray} {maxL : Nat} {ret : Option FieldType}
    (hown : s.vm.findClass own = some m.cls) (hlink : (Cond.methodLink own index y).before args s = true) (hstat : (Cond.static y).before args s = true) (hinit : (Cond.initialized y.cls).before args s = true)
    (hcode : (Cond.code y bytes maxL ret).before args s = true) (hy : y.cls ≠ "java/lang/invoke/MethodHandle" ∧ y.cls ≠ "java/lang/invoke/VarHandle")
    {W9 : Nat} {Pre : Pt → Array Value → Prop} {Post : Pt → Array Value → Option Value → Pt → Prop} {PostX : Pt → Array Value → Addr → Pt → Prop} (hK : vx_Back l R p e below s args y 3 W9 Pre Post PostX)
    {g : JFrame} (hg : g.method = m) (hsize : g.locals.size = c.maxLocals) {argsL rest : List Value} (hlen : ∀ sig, parseMethodDescriptor y.desc = some sig → argsL.length = sig.parameters.length)
    (hstack : g.stack = argsL.reverse ++ rest) (hW : 2 * g.monitorRoom + (rest.map fun v => v.category).sum ≤ W9) (hdg : decode c.code g.pc = .ok (.invokestatic index, 3))
    (hpre : ∀ vm₁, s.WarmedH vm₁ → Pre ⟨T.setVm vm₁, locs, cells, slots⟩ argsL.toArray) :
    (∃ (v : Option Value) (vm₁ : Vm) (B : Pt), s.WarmedH vm₁ ∧ Stand p l e R s m args below meth c B.U B.locs B.cells B.slots ∧ Post ⟨T.setVm vm₁, locs, cells, slots⟩ argsL.toArray v B ∧
      ∀ target, Steps p.tables e below (B.U.setTop { g with pc := g.pc + 3, stack := v.toList ++ rest }) target → Steps p.tables e below (T.setTop g) target) ∨
    (∃ (q : Addr) (vm₁ : Vm) (B : Pt), s.WarmedH vm₁ ∧ Stand p l e R s m args below meth c B.U B.locs B.cells B.slots ∧ PostX ⟨T.setVm vm₁, locs, cells, slots⟩ argsL.toArray q B ∧
      Steps p.tables e below (T.setTop g) ((B.U.setTop { g with stack := rest }).pushFrame (.throwing q))) := by
  obtain ⟨mk, hnamed⟩ := Cond.code_named hcode
  obtain ⟨methM, cM, hmethM, -, -, -, -, -, -, hsigM⟩ := Cond.code_spec hnamed hcode
  have hstatic : methM.isStatic = true := Cond.static_spec hnamed hmethM hstat
  obtain ⟨kP, hkP, -⟩ := className_of_methodNamed hnamed
  have hinitP : kP.init = .initialized := Cond.initialized_spec (findClass_of_methodNamed hnamed) hkP hinit
  obtain ⟨vm₁, X₁, hstep₁⟩ := X.invokestatic hexec hown hlink hnamed hmethM hstatic hkP hinitP hy (g := g) hg (argsL := argsL) (rest := rest) (hlen _ hsigM) hstack hdg
  rcases hK m meth c ⟨T.setVm vm₁, locs, cells, slots⟩ { g with stack := rest } (.invokestatic index) mk argsL.toArray X₁ hg hsize hdg hW (X₁.named hnamed) (hpre vm₁ X₁.warmed) with ⟨v, B, X', hpost, hsteps⟩ | ⟨q, B, X', hpost, hsteps⟩
  · exact Or.inl ⟨v, vm₁, B, X₁.warmed, X', hpost, fun target h => hstep₁ _ fun acts => by rw [doInvoke_state]; exact hsteps.trans h⟩
  · exact Or.inr ⟨q, vm₁, B, X₁.warmed, X', hpost, hstep₁ _ fun acts => by rw [doInvoke_state]; exact hsteps⟩
end Calls
theorem vx_cls {s : State} {T : State} {vm₁ : Vm} {E : String} {k : ClassId} (hW : s.WarmedH vm₁) (h : (T.setVm vm₁).vm.findClass E = some k) : s.vm.findClass E = some k := by
  have h1 : vm₁.findClass E = some k := h
  rw [hW.alike.findClass] at h1
  exact h1
/-- the method's frame g, with q thrown over it -/
def vx_W (p : Program) (l : Launch) (e : Env) (R : Room) (s : State) (m : MethodId) (args : Array Value) (below : List Frame) (meth : Method) (c : Code) (H : Heap) (locs : List Loc) (cells slots : Nat) (Q : State → Prop) (g : JFrame) (q : Addr) : Prop :=
  ∀ T : State, T.heap = H → Stand p l e R s m args below meth c T locs cells slots → ∃ t, Steps p.tables e below ((T.setTop g).pushFrame (.throwing q)) t ∧ Q t
def vx_Run (p : Program) (l : Launch) (e : Env) (R : Room) (s : State) (m : MethodId) (args : Array Value) (below : List Frame) (meth : Method) (c : Code) (H : Heap) (locs : List Loc) (cells slots mc ms : Nat) (g : JFrame) (rest : List Value) (Qa : State → Outcome → State → Prop) (XC : String → State → State → Prop) (free : Addr → Prop) : Prop :=
  ∀ T : State, T.heap = H → Stand p l e R s m args below meth c T locs cells slots →
    (∃ (v : Option Value) (st₀ t T' : State) (L : List Loc), st₀.heap = H ∧ Stand p l e R s m args below meth c T' (locs ++ L) (cells + mc) (slots + ms) ∧ (∀ q ∈ L, free q.base) ∧ T'.heap = t.heap ∧ T'.vm = t.vm ∧ Qa st₀ (.returned v) t ∧
      Goes p e below T g T' { g with pc := g.pc + 3, stack := v.toList ++ rest }) ∨
    (∃ (q : Addr) (st₀ t T' : State) (L : List Loc) (E : String) (ce : Cell), st₀.heap = H ∧ Stand p l e R s m args below meth c T' (locs ++ L) (cells + mc) (slots + ms) ∧ (∀ z ∈ L, free z.base) ∧ T'.heap = t.heap ∧ T'.vm = t.vm ∧ XC E st₀ t ∧ t.heap[q]? = some ce ∧ ce.vm = .none ∧ s.vm.findClass E = some ce.cls ∧
      Steps p.tables e below (T.setTop g) ((T'.setTop { g with stack := rest }).pushFrame (.throwing q)))
def vx_X {S : Type} (px : S → Prop) (B : String → S → State → Prop) (A : Nat → Prop) : String → State → State → Prop := fun E st t => ∃ u : S, px u ∧ B E u t ∧ va_F A st t
section Runs
variable {p : Program} {l : Launch} {e : Env} {R : Room} {s : State} {m : MethodId} {args : Array Value} {below : List Frame} {meth : Method} {c : Code} {H : Heap} {locs : List Loc} {cells slots : Nat}
variable {y : MethodName} {bytes cc : ByteArray} {maxL nL mc ms n index : Nat} {ret : Option FieldType} {ws : List Cond} {rm : Room} {Pc : Array Value → State → Prop} {Qc : Array Value → State → Outcome → State → Prop} {XC : String → State → State → Prop} {free : Addr → Prop} {Ts : List Cond} {own C : String} {b : Addr} {As rest : List Value} {g : JFrame}
theorem vx_callBack (cb : CallB R s args own index y bytes maxL ret ws rm mc ms n) (hM : vx_Met l y ws rm Pc Qc XC mc ms free) (hbl : FrameBlind Pc) : vx_Back l R p e below s args y 3 8 (PreOf R mc ms Pc) (PostOf Qc mc ms free) (vx_Post XC mc ms free) := by
  obtain ⟨hrc, hrs, hfr, hlo, hws, hcw, -, hini, -⟩ := cb
  exact vx_back (bytes := bytes) (maxL := maxL) (ret := ret) hM hbl hrc hrs hfr hlo hws hcw (fun a' U hW => word_at hW (Or.inl (by first | rfl | simp [Cond.onTables, Cond.keeps, Cond.steady])) hini)
theorem vx_runV (S : CallFix p m c cc nL s args Ts own) (hM : vx_Met l y ws rm Pc Qc XC mc ms free) (cw : CallW R s args own C index y bytes maxL ret ws rm mc ms n) (hp : PreV s H C b Pc As)
    (hg : g.method = m) (hn : As.length = n) (hsize : g.locals.size = nL) (hstack : g.stack = As.reverse ++ .ref b :: rest) (hW : 2 * g.monitorRoom + (rest.map fun v => v.category).sum ≤ 8) (hdg : decode cc g.pc = .ok (.invokevirtual index, 3)) (hf : cells + mc ≤ R.cells ∧ slots + ms ≤ R.slots) :
    vx_Run p l e R s m args below meth c H locs cells slots mc ms g rest (Qc (Value.ref b :: As).toArray) XC free := by
  have hK : vx_Back l R p e below s args y 3 8 (PreOf R mc ms Pc) (PostOf Qc mc ms free) (vx_Post XC mc ms free) := vx_callBack cw.1 hM hp.1
  obtain ⟨⟨-, -, -, -, -, -, hcode, -, hy, hlen, hl⟩, hin, hse⟩ := cw
  obtain ⟨hx, hb, hml, ho, -⟩ := S
  obtain ⟨-, ⟨cellB, hcB, hoB, hclB⟩, hPc⟩ := hp
  intro T hT X
  rcases vx_callV X hx (C := C) (bytes := bytes) (maxL := maxL) (ret := ret) ho hl hin hse hcode hy hK (by rw [hT]; exact hcB) hoB hclB hg (hsize.trans hml.symm) (argsL := As) (rest := rest) (fun sig h => hn.trans (hlen sig h)) hstack hW (by rw [hb]; exact hdg)
    (fun vm₁ hW₁ => ⟨hf.1, hf.2, hPc (T.setVm vm₁) hT hW₁⟩) with ⟨v, vm₁, ⟨U', l2, c2, s2⟩, hW₁, X', ⟨g', mk, t, L, e1, e2, hq, h1, hL, h2, h3⟩, st⟩ | ⟨q, vm₁, ⟨U', l2, c2, s2⟩, hW₁, X', ⟨g', mk, t, L, E, ce, e1, e2, hq, hce, hcv, hcl, h1, hL, h2, h3⟩, st⟩
  · dsimp only [Pt.U, Pt.locs, Pt.cells, Pt.slots] at X' e1 e2 h1 h2 h3 st
    subst h1; subst h2; subst h3
    exact Or.inl ⟨v, (T.setVm vm₁).calling g' mk (Value.ref b :: As).toArray, t, U', L, hT, X', hL, e1, e2, hq, st⟩
  · dsimp only [Pt.U, Pt.locs, Pt.cells, Pt.slots] at X' e1 e2 h1 h2 h3 st hcl
    subst h1; subst h2; subst h3
    exact Or.inr ⟨q, (T.setVm vm₁).calling g' mk (Value.ref b :: As).toArray, t, U', L, E, ce, hT, X', hL, e1, e2, hq, hce, hcv, vx_cls hW₁ hcl, st⟩
theorem vx_runS (S : CallFix p m c cc nL s args Ts own) (hM : vx_Met l y ws rm Pc Qc XC mc ms free) (cw : CallB R s args own index y bytes maxL ret ws rm mc ms n ∧ (Cond.static y).before args s = true) (hp : PreS s H Pc As)
    (hg : g.method = m) (hn : As.length = n) (hsize : g.locals.size = nL) (hstack : g.stack = As.reverse ++ rest) (hW : 2 * g.monitorRoom + (rest.map fun v => v.category).sum ≤ 8) (hdg : decode cc g.pc = .ok (.invokestatic index, 3)) (hf : cells + mc ≤ R.cells ∧ slots + ms ≤ R.slots) :
    vx_Run p l e R s m args below meth c H locs cells slots mc ms g rest (Qc As.toArray) XC free := by
  have hK : vx_Back l R p e below s args y 3 8 (PreOf R mc ms Pc) (PostOf Qc mc ms free) (vx_Post XC mc ms free) := vx_callBack cw.1 hM hp.1
  obtain ⟨⟨-, -, -, -, -, -, hcode, hini, hy, hlen, hl⟩, hstt⟩ := cw
  obtain ⟨hx, hb, hml, ho, -⟩ := S
  intro T hT X
  rcases vx_callS X hx (bytes := bytes) (maxL := maxL) (ret := ret) ho hl hstt hini hcode hy hK hg (hsize.trans hml.symm) (argsL := As) (rest := rest) (fun sig h => hn.trans (hlen sig h)) hstack hW (by rw [hb]; exact hdg)
    (fun vm₁ hW₁ => ⟨hf.1, hf.2, hp.2 (T.setVm vm₁) hT hW₁⟩) with ⟨v, vm₁, ⟨U', l2, c2, s2⟩, hW₁, X', ⟨g', mk, t, L, e1, e2, hq, h1, hL, h2, h3⟩, st⟩ | ⟨q, vm₁, ⟨U', l2, c2, s2⟩, hW₁, X', ⟨g', mk, t, L, E, ce, e1, e2, hq, hce, hcv, hcl, h1, hL, h2, h3⟩, st⟩
  · dsimp only [Pt.U, Pt.locs, Pt.cells, Pt.slots] at X' e1 e2 h1 h2 h3 st
    subst h1; subst h2; subst h3
    exact Or.inl ⟨v, (T.setVm vm₁).calling g' mk As.toArray, t, U', L, hT, X', hL, e1, e2, hq, st⟩
  · dsimp only [Pt.U, Pt.locs, Pt.cells, Pt.slots] at X' e1 e2 h1 h2 h3 st hcl
    subst h1; subst h2; subst h3
    exact Or.inr ⟨q, (T.setVm vm₁).calling g' mk As.toArray, t, U', L, E, ce, hT, X', hL, e1, e2, hq, hce, hcv, vx_cls hW₁ hcl, st⟩
end Runs
section Rows
variable {p : Program} {l : Launch} {e : Env} {R : Room} {s : State} {m : MethodId} {args : Array Value} {below : List Frame} {meth : Method} {c : Code} {H : Heap} {locs : List Loc} {cells slots : Nat} {Q : State → Prop}
variable {mc ms : Nat} {free : Addr → Prop} {A0 A1 : Nat → Prop} {H0 : Heap} {a : Array Value} {pc : Nat} {ls : Array Slot} {st0 rest : List Value}
theorem vx_keep {st₀ t T' : State} {L : List Loc} (h0 : st₀.heap = H) (e1 : T'.heap = t.heap) (hS : va_S A0 H0 H locs) (hA : ∀ q, q < H.size → A1 q → A0 q) (hf : ∀ q, free q → A0 q) (hL : ∀ q ∈ L, free q.base) (hF : va_F A1 st₀ t) :
    H.size ≤ T'.heap.size ∧ (∀ q : Nat, q < H.size → ¬ A1 q → T'.heap[q]? = H[q]?) ∧ va_S A0 H0 T'.heap (locs ++ L) := by
  obtain ⟨hz, hk⟩ := hF
  rw [h0] at hz hk
  exact ⟨by rw [e1]; exact hz, fun q h1 h2 => by rw [e1]; exact hk q h1 h2,
    ⟨Nat.le_trans hS.1 (by rw [e1]; exact hz), fun q h1 h2 => by rw [e1, hk q (Nat.lt_of_lt_of_le h1 hS.1) (fun z => h2 (hA q (Nat.lt_of_lt_of_le h1 hS.1) z))]; exact hS.2.1 q h1 h2, fun q hq => by
      rcases List.mem_append.mp hq with h | h
      · exact hS.2.2 q h
      · exact hf _ (hL q h)⟩⟩
theorem vx_calli {S SX : Type} {post : Int32 → S → Prop} {px : SX → Prop} {B : S → State → Prop} {BX : String → SX → State → Prop} {AX : Nat → Prop} (hr : vx_Run p l e R s m args below meth c H locs cells slots mc ms (F0 m pc ls st0) rest (va_Qi post B A1 a) (vx_X px BX AX) free) (hS : va_S A0 H0 H locs) (hA : ∀ q, q < H.size → A1 q → A0 q) (hf : ∀ q, free q → A0 q) (hAX : ∀ q, q < H.size → AX q → A0 q)
    (kx : ∀ (E : String) (ce : Cell) (q9 : Addr) (u : SX) (t : State) (H1 : Heap) (locs1 : List Loc), t.heap = H1 → s.vm.Alike t.vm → px u → BX E u t → H.size ≤ H1.size → (∀ q : Nat, q < H.size → ¬ AX q → H1[q]? = H[q]?) → va_S A0 H0 H1 locs1 → H1[q9]? = some ce → ce.vm = .none → s.vm.findClass E = some ce.cls → vx_W p l e R s m args below meth c H1 locs1 (cells + mc) (slots + ms) Q (F0 m pc ls rest) q9)
    (kk : ∀ (r : Int32) (u : S) (t : State) (H1 : Heap) (locs1 : List Loc), t.heap = H1 → s.vm.Alike t.vm → post r u → B u t → H.size ≤ H1.size → (∀ q : Nat, q < H.size → ¬ A1 q → H1[q]? = H[q]?) → va_S A0 H0 H1 locs1 → W p l e R s m args below meth c H1 locs1 (cells + mc) (slots + ms) Q (F0 m (pc + 3) ls (.int r :: rest))) : W p l e R s m args below meth c H locs cells slots Q (F0 m pc ls st0) := by
  intro T hT X
  rcases hr T hT X with ⟨v, st₀, t, T', L, h0, X', hL, e1, e2, ⟨⟨r, u, hv, hp, hb⟩, hF⟩, st⟩ | ⟨q, st₀, t, T', L, E, ce, h0, X', hL, e1, e2, ⟨u, hp, hb, hF⟩, hce, hcv, hcl, st⟩
  · cases hv
    obtain ⟨k1, k2, k3⟩ := vx_keep h0 e1 hS hA hf hL hF
    obtain ⟨t2, a1, b1⟩ := kk r u t T'.heap (locs ++ L) e1.symm (by rw [← e2]; exact X'.warmed.alike) hp hb k1 k2 k3 T' rfl X'
    exact ⟨t2, st t2 a1, b1⟩
  · obtain ⟨k1, k2, k3⟩ := vx_keep h0 e1 hS hAX hf hL hF
    obtain ⟨t2, a1, b1⟩ := kx E ce q u t T'.heap (locs ++ L) e1.symm (by rw [← e2]; exact X'.warmed.alike) hp hb k1 k2 k3 (by rw [e1]; exact hce) hcv hcl T' rfl X'
    exact ⟨t2, st.trans a1, b1⟩
theorem vx_calll {S SX : Type} {post : Int64 → S → Prop} {px : SX → Prop} {B : S → State → Prop} {BX : String → SX → State → Prop} {AX : Nat → Prop} (hr : vx_Run p l e R s m args below meth c H locs cells slots mc ms (F0 m pc ls st0) rest (va_Ql post B A1 a) (vx_X px BX AX) free) (hS : va_S A0 H0 H locs) (hA : ∀ q, q < H.size → A1 q → A0 q) (hf : ∀ q, free q → A0 q) (hAX : ∀ q, q < H.size → AX q → A0 q)
    (kx : ∀ (E : String) (ce : Cell) (q9 : Addr) (u : SX) (t : State) (H1 : Heap) (locs1 : List Loc), t.heap = H1 → s.vm.Alike t.vm → px u → BX E u t → H.size ≤ H1.size → (∀ q : Nat, q < H.size → ¬ AX q → H1[q]? = H[q]?) → va_S A0 H0 H1 locs1 → H1[q9]? = some ce → ce.vm = .none → s.vm.findClass E = some ce.cls → vx_W p l e R s m args below meth c H1 locs1 (cells + mc) (slots + ms) Q (F0 m pc ls rest) q9)
    (kk : ∀ (r : Int64) (u : S) (t : State) (H1 : Heap) (locs1 : List Loc), t.heap = H1 → s.vm.Alike t.vm → post r u → B u t → H.size ≤ H1.size → (∀ q : Nat, q < H.size → ¬ A1 q → H1[q]? = H[q]?) → va_S A0 H0 H1 locs1 → W p l e R s m args below meth c H1 locs1 (cells + mc) (slots + ms) Q (F0 m (pc + 3) ls (.long r :: rest))) : W p l e R s m args below meth c H locs cells slots Q (F0 m pc ls st0) := by
  intro T hT X
  rcases hr T hT X with ⟨v, st₀, t, T', L, h0, X', hL, e1, e2, ⟨⟨r, u, hv, hp, hb⟩, hF⟩, st⟩ | ⟨q, st₀, t, T', L, E, ce, h0, X', hL, e1, e2, ⟨u, hp, hb, hF⟩, hce, hcv, hcl, st⟩
  · cases hv
    obtain ⟨k1, k2, k3⟩ := vx_keep h0 e1 hS hA hf hL hF
    obtain ⟨t2, a1, b1⟩ := kk r u t T'.heap (locs ++ L) e1.symm (by rw [← e2]; exact X'.warmed.alike) hp hb k1 k2 k3 T' rfl X'
    exact ⟨t2, st t2 a1, b1⟩
  · obtain ⟨k1, k2, k3⟩ := vx_keep h0 e1 hS hAX hf hL hF
    obtain ⟨t2, a1, b1⟩ := kx E ce q u t T'.heap (locs ++ L) e1.symm (by rw [← e2]; exact X'.warmed.alike) hp hb k1 k2 k3 (by rw [e1]; exact hce) hcv hcl T' rfl X'
    exact ⟨t2, st.trans a1, b1⟩
theorem vx_callf {S SX : Type} {post : UInt32 → S → Prop} {px : SX → Prop} {B : S → State → Prop} {BX : String → SX → State → Prop} {AX : Nat → Prop} (hr : vx_Run p l e R s m args below meth c H locs cells slots mc ms (F0 m pc ls st0) rest (va_Qf post B A1 a) (vx_X px BX AX) free) (hS : va_S A0 H0 H locs) (hA : ∀ q, q < H.size → A1 q → A0 q) (hf : ∀ q, free q → A0 q) (hAX : ∀ q, q < H.size → AX q → A0 q)
    (kx : ∀ (E : String) (ce : Cell) (q9 : Addr) (u : SX) (t : State) (H1 : Heap) (locs1 : List Loc), t.heap = H1 → s.vm.Alike t.vm → px u → BX E u t → H.size ≤ H1.size → (∀ q : Nat, q < H.size → ¬ AX q → H1[q]? = H[q]?) → va_S A0 H0 H1 locs1 → H1[q9]? = some ce → ce.vm = .none → s.vm.findClass E = some ce.cls → vx_W p l e R s m args below meth c H1 locs1 (cells + mc) (slots + ms) Q (F0 m pc ls rest) q9)
    (kk : ∀ (r : UInt32) (u : S) (t : State) (H1 : Heap) (locs1 : List Loc), t.heap = H1 → s.vm.Alike t.vm → post r u → B u t → H.size ≤ H1.size → (∀ q : Nat, q < H.size → ¬ A1 q → H1[q]? = H[q]?) → va_S A0 H0 H1 locs1 → W p l e R s m args below meth c H1 locs1 (cells + mc) (slots + ms) Q (F0 m (pc + 3) ls (.float r :: rest))) : W p l e R s m args below meth c H locs cells slots Q (F0 m pc ls st0) := by
  intro T hT X
  rcases hr T hT X with ⟨v, st₀, t, T', L, h0, X', hL, e1, e2, ⟨⟨r, u, hv, hp, hb⟩, hF⟩, st⟩ | ⟨q, st₀, t, T', L, E, ce, h0, X', hL, e1, e2, ⟨u, hp, hb, hF⟩, hce, hcv, hcl, st⟩
  · cases hv
    obtain ⟨k1, k2, k3⟩ := vx_keep h0 e1 hS hA hf hL hF
    obtain ⟨t2, a1, b1⟩ := kk r u t T'.heap (locs ++ L) e1.symm (by rw [← e2]; exact X'.warmed.alike) hp hb k1 k2 k3 T' rfl X'
    exact ⟨t2, st t2 a1, b1⟩
  · obtain ⟨k1, k2, k3⟩ := vx_keep h0 e1 hS hAX hf hL hF
    obtain ⟨t2, a1, b1⟩ := kx E ce q u t T'.heap (locs ++ L) e1.symm (by rw [← e2]; exact X'.warmed.alike) hp hb k1 k2 k3 (by rw [e1]; exact hce) hcv hcl T' rfl X'
    exact ⟨t2, st.trans a1, b1⟩
theorem vx_calld {S SX : Type} {post : UInt64 → S → Prop} {px : SX → Prop} {B : S → State → Prop} {BX : String → SX → State → Prop} {AX : Nat → Prop} (hr : vx_Run p l e R s m args below meth c H locs cells slots mc ms (F0 m pc ls st0) rest (va_Qd post B A1 a) (vx_X px BX AX) free) (hS : va_S A0 H0 H locs) (hA : ∀ q, q < H.size → A1 q → A0 q) (hf : ∀ q, free q → A0 q) (hAX : ∀ q, q < H.size → AX q → A0 q)
    (kx : ∀ (E : String) (ce : Cell) (q9 : Addr) (u : SX) (t : State) (H1 : Heap) (locs1 : List Loc), t.heap = H1 → s.vm.Alike t.vm → px u → BX E u t → H.size ≤ H1.size → (∀ q : Nat, q < H.size → ¬ AX q → H1[q]? = H[q]?) → va_S A0 H0 H1 locs1 → H1[q9]? = some ce → ce.vm = .none → s.vm.findClass E = some ce.cls → vx_W p l e R s m args below meth c H1 locs1 (cells + mc) (slots + ms) Q (F0 m pc ls rest) q9)
    (kk : ∀ (r : UInt64) (u : S) (t : State) (H1 : Heap) (locs1 : List Loc), t.heap = H1 → s.vm.Alike t.vm → post r u → B u t → H.size ≤ H1.size → (∀ q : Nat, q < H.size → ¬ A1 q → H1[q]? = H[q]?) → va_S A0 H0 H1 locs1 → W p l e R s m args below meth c H1 locs1 (cells + mc) (slots + ms) Q (F0 m (pc + 3) ls (.double r :: rest))) : W p l e R s m args below meth c H locs cells slots Q (F0 m pc ls st0) := by
  intro T hT X
  rcases hr T hT X with ⟨v, st₀, t, T', L, h0, X', hL, e1, e2, ⟨⟨r, u, hv, hp, hb⟩, hF⟩, st⟩ | ⟨q, st₀, t, T', L, E, ce, h0, X', hL, e1, e2, ⟨u, hp, hb, hF⟩, hce, hcv, hcl, st⟩
  · cases hv
    obtain ⟨k1, k2, k3⟩ := vx_keep h0 e1 hS hA hf hL hF
    obtain ⟨t2, a1, b1⟩ := kk r u t T'.heap (locs ++ L) e1.symm (by rw [← e2]; exact X'.warmed.alike) hp hb k1 k2 k3 T' rfl X'
    exact ⟨t2, st t2 a1, b1⟩
  · obtain ⟨k1, k2, k3⟩ := vx_keep h0 e1 hS hAX hf hL hF
    obtain ⟨t2, a1, b1⟩ := kx E ce q u t T'.heap (locs ++ L) e1.symm (by rw [← e2]; exact X'.warmed.alike) hp hb k1 k2 k3 (by rw [e1]; exact hce) hcv hcl T' rfl X'
    exact ⟨t2, st.trans a1, b1⟩
theorem vx_callv {S SX : Type} {post : S → Prop} {px : SX → Prop} {B : S → State → Prop} {BX : String → SX → State → Prop} {AX : Nat → Prop} (hr : vx_Run p l e R s m args below meth c H locs cells slots mc ms (F0 m pc ls st0) rest (va_Qv post B A1 a) (vx_X px BX AX) free) (hS : va_S A0 H0 H locs) (hA : ∀ q, q < H.size → A1 q → A0 q) (hf : ∀ q, free q → A0 q) (hAX : ∀ q, q < H.size → AX q → A0 q)
    (kx : ∀ (E : String) (ce : Cell) (q9 : Addr) (u : SX) (t : State) (H1 : Heap) (locs1 : List Loc), t.heap = H1 → s.vm.Alike t.vm → px u → BX E u t → H.size ≤ H1.size → (∀ q : Nat, q < H.size → ¬ AX q → H1[q]? = H[q]?) → va_S A0 H0 H1 locs1 → H1[q9]? = some ce → ce.vm = .none → s.vm.findClass E = some ce.cls → vx_W p l e R s m args below meth c H1 locs1 (cells + mc) (slots + ms) Q (F0 m pc ls rest) q9)
    (kk : ∀ (u : S) (t : State) (H1 : Heap) (locs1 : List Loc), t.heap = H1 → s.vm.Alike t.vm → post u → B u t → H.size ≤ H1.size → (∀ q : Nat, q < H.size → ¬ A1 q → H1[q]? = H[q]?) → va_S A0 H0 H1 locs1 → W p l e R s m args below meth c H1 locs1 (cells + mc) (slots + ms) Q (F0 m (pc + 3) ls (rest))) : W p l e R s m args below meth c H locs cells slots Q (F0 m pc ls st0) := by
  intro T hT X
  rcases hr T hT X with ⟨v, st₀, t, T', L, h0, X', hL, e1, e2, ⟨⟨u, hv, hp, hb⟩, hF⟩, st⟩ | ⟨q, st₀, t, T', L, E, ce, h0, X', hL, e1, e2, ⟨u, hp, hb, hF⟩, hce, hcv, hcl, st⟩
  · cases hv
    obtain ⟨k1, k2, k3⟩ := vx_keep h0 e1 hS hA hf hL hF
    obtain ⟨t2, a1, b1⟩ := kk u t T'.heap (locs ++ L) e1.symm (by rw [← e2]; exact X'.warmed.alike) hp hb k1 k2 k3 T' rfl X'
    exact ⟨t2, st t2 a1, b1⟩
  · obtain ⟨k1, k2, k3⟩ := vx_keep h0 e1 hS hAX hf hL hF
    obtain ⟨t2, a1, b1⟩ := kx E ce q u t T'.heap (locs ++ L) e1.symm (by rw [← e2]; exact X'.warmed.alike) hp hb k1 k2 k3 (by rw [e1]; exact hce) hcv hcl T' rfl X'
    exact ⟨t2, st.trans a1, b1⟩
/-- caught by the row x of this method's table; the rows ahead don't take it -/
theorem vx_catch {own name : String} {E : String} {ce : Cell} {q : Addr} (hown : s.vm.findClass own = some m.cls) (pre : List ExceptionTableEntry) (x : ExceptionTableEntry) (suf : List ExceptionTableEntry) (hsplit : c.exceptionTable.toList = pre ++ x :: suf)
    (hpass : ∀ z ∈ pre, covers z pc = false ∨ (z.catchType ≠ 0 ∧ ∃ nm : String, (Cond.classLink own z.catchType nm).before args s = true ∧ va_Nc E nm s)) (hx : covers x pc = true) (h0 : x.catchType ≠ 0)
    (hlink : (Cond.classLink own x.catchType name).before args s = true) (hcast : (Cond.castable E name).before args s = true) (hcell : H[q]? = some ce) (hv : ce.vm = .none) (hcl : s.vm.findClass E = some ce.cls)
    (kk : W p l e R s m args below meth c H locs cells slots Q (F0 m x.handlerPc ls [.ref q])) : vx_W p l e R s m args below meth c H locs cells slots Q (F0 m pc ls rest) q := by
  intro T hT X
  have hpl : e.platform.magicAccessors = ({} : Platform).magicAccessors := by rw [X.admits.platform]
  obtain ⟨c3, c4, hc3, hc4, hasg⟩ := Cond.castable_spec hcast
  cases Option.some.inj (hc3.symm.trans hcl)
  obtain ⟨c5, hc5, hcl5⟩ := Cond.classLink_spec hown hlink e.platform hpl
  cases Option.some.inj (hc4.symm.trans hc5)
  obtain ⟨vm', X', st⟩ := X.thenCaughtThrough q (g := F0 m pc ls rest) rfl (Steps.refl _) (by rw [hT]; exact hcell) (by rw [hv]; rfl) (by obtain ⟨k9, h9, -⟩ := Vm.findClass_spec hcl; exact ⟨k9, h9⟩) pre x suf hsplit
    (fun z hz => by
      rcases hpass z hz with h | ⟨hz0, nm, hl1, hn1⟩
      · exact Or.inl h
      · obtain ⟨c6, hc6, hcl6⟩ := Cond.classLink_spec hown hl1 e.platform hpl
        obtain ⟨a8, b8, h1, h2, h3⟩ := hn1
        cases Option.some.inj (h1.symm.trans hcl)
        cases Option.some.inj (h2.symm.trans hc6)
        exact Or.inr ⟨hz0, _, hcl6, h3⟩) hx (Or.inr ⟨h0, c4, hcl5, hasg⟩)
  obtain ⟨t, a1, b1⟩ := kk (T.setVm vm') hT X'
  exact ⟨t, st.trans a1, b1⟩
end Rows
section Ends
variable {p : Program} {l : Launch} {e : Env} {R : Room} {s : State} {m : MethodId} {args : Array Value} {below : List Frame} {meth : Method} {c : Code} {H : Heap} {locs : List Loc} {cells slots : Nat} {Q : State → Prop}
variable {mc ms : Nat} {free : Addr → Prop} {A0 A1 : Nat → Prop} {H0 : Heap} {a : Array Value} {ls : Array Slot} {st0 rest : List Value}
variable {Qc : Array Value → State → Outcome → State → Prop} {XC : String → State → State → Prop}
/-- what a body that may throw owes at its end -/
def vx_MQ (below : List Frame) (Qc : Array Value → State → Outcome → State → Prop) (XC : String → State → State → Prop) (a : Array Value) (s : State) (mc ms : Nat) (free : Addr → Prop) : State → Prop := fun t =>
  ∃ o, t.status = .running ∧ Ended t below o ∧ vx_Q Qc XC mc ms free a s o t
theorem vx_ret {g : JFrame} {mc ms : Nat} (k : W p l e R s m args below meth c H locs cells slots (MQ below Qc args s mc ms free) g) : W p l e R s m args below meth c H locs cells slots (vx_MQ below Qc XC args s mc ms free) g := by
  intro T hT X
  obtain ⟨t, a1, o, b1, b2, b3, b4⟩ := k T hT X
  exact ⟨t, a1, o, b1, b2, Or.inl ⟨b3, b4⟩⟩
/-- not caught here: it goes on to the caller -/
theorem vx_widen {g : JFrame} {q : Addr} {k n : Nat} (h1 : cells ≤ k) (h2 : slots ≤ n) (kk : vx_W p l e R s m args below meth c H locs k n Q g q) : vx_W p l e R s m args below meth c H locs cells slots Q g q := fun T hT X => kk T hT (stand_widen X h1 h2)
theorem vx_out {pc : Nat} {E : String} {ce : Cell} {q : Addr} {mc ms : Nat} (hout : ∀ x ∈ c.exceptionTable.toList, covers x pc = false) (hlocks : meth.locks = false) (hcell : H[q]? = some ce) (hv : ce.vm = .none) (hcl : s.vm.findClass E = some ce.cls)
    (hx : ∀ t : State, t.heap = H → s.vm.Alike t.vm → XC E s t) (hf : ∀ z ∈ locs, free z.base) (hc : cells ≤ mc) (hs : slots ≤ ms) :
    vx_W p l e R s m args below meth c H locs cells slots (vx_MQ below Qc XC args s mc ms free) (F0 m pc ls rest) q := by
  intro T hT X
  obtain ⟨st1, hrun, hend, hW, hsm⟩ := X.leaveThrown q (g := F0 m pc ls rest) rfl rfl rfl hout hlocks
  have hcell9 : (T.setFrames (.throwing q :: below)).heap[q]? = some ce := by
    show T.heap[q]? = some ce
    rw [hT]; exact hcell
  exact ⟨_, st1, .threw q, hrun, hend, Or.inr ⟨q, rfl, E, ce, locs, hx _ hT hW.alike, hcell9, hv, hcl, hW, hsm.mono hc hs, hf⟩⟩
theorem vx_frame {U : State} {k n : Nat} (h : s.sameButNew ({ U with vm := s.vm } : State) locs k n) : s.heap.size ≤ U.heap.size ∧ ∀ q : Nat, q < s.heap.size → (∀ z ∈ locs, z.base ≠ q) → U.heap[q]? = s.heap[q]? := by
  obtain ⟨-, h2, -, -, -, h6⟩ := h
  refine ⟨h2, fun q hq hz => ?_⟩
  obtain ⟨c9, e1, e2, e3, e4⟩ := h6 q _ (Array.getElem?_eq_getElem hq)
  have hs : c9.slots = (s.heap[q]).slots := Array.ext_getElem? fun i => e4 i fun hm => hz _ hm rfl
  have h9 : c9 = s.heap[q] := by
    rw [hs] at e2
    exact e2
  have e5 : U.heap[q]? = some c9 := e1
  rw [e5, h9, Array.getElem?_eq_getElem hq]
/-- the words of a throw but the four that speak of the heap -/
def vx_no (w : Cond) : Bool := decide (w ≠ .isRef (.static Bundle.tN "UNASSIGNED_STACK" Bundle.steD)) && decide (w ≠ .isRef (.static Bundle.tN "SUPPRESSED_SENTINEL" Bundle.listD)) && decide (w ≠ .laysStatic Bundle.tN "UNASSIGNED_STACK" Bundle.steD) && decide (w ≠ .laysStatic Bundle.tN "SUPPRESSED_SENTINEL" Bundle.listD)
def vx_at0 (own : String) (ic : Nat) (X : String) (names : List String) : List Cond := (Bundle.ownAtoms0 own ic X names).filter vx_no
def vx_atS (own : String) (ic : Nat) (X : String) (names : List String) : List Cond := (Bundle.ownAtoms own ic X names).filter vx_no
/-- a word that the tables alone decide, or a good one -/
def vx_ot (w : Cond) : Bool := w.onTables || goodWord w
theorem vx_ot_at {args a' : Array Value} {s U : State} {w : Cond} (hW : s.WarmedH U.vm) (hvm : s.vm = U.vm) (hg : vx_ot w = true) (h : w.before args s = true) : w.before a' U = true := by
  simp only [vx_ot, Bool.or_eq_true] at hg
  rcases hg with hg | hg
  · exact va_tabs hg hvm h
  · exact word_at hW (good_of_word hg) h
/-- a list's words: the good ones out of the method's own list, the others by premises of their own -/
theorem vx_hat {args : Array Value} {s : State} {L B : List Cond} (h1 : ∀ w ∈ L.filter goodWord, w.before args s = true) (h2 : ∀ w ∈ L.filter (fun w => !goodWord w), w ∈ B) (h3 : ∀ w ∈ B, w.before args s = true) : ∀ w ∈ L, w.before args s = true := by
  intro w hw
  by_cases g : goodWord w = true
  · exact h1 w (List.mem_filter.mpr ⟨hw, g⟩)
  · refine h3 w (h2 w (List.mem_filter.mpr ⟨hw, ?_⟩))
    show (!goodWord w) = true
    cases hgw : goodWord w
    · rfl
    · exact absurd hgw g
theorem vx_c {args : Array Value} {s : State} {w : Cond} {B : List Cond} (h : w.before args s = true) (t : ∀ w ∈ B, w.before args s = true) : ∀ w' ∈ w :: B, w'.before args s = true := fun w' h' => (List.mem_cons.mp h').elim (fun e => by rw [e]; exact h) (t w')
theorem vx_n {args : Array Value} {s : State} : ∀ w ∈ ([] : List Cond), w.before args s = true := fun _ h => nomatch h
theorem vx_own {args : Array Value} {s : State} {L : List Cond} (h1 : ∀ w ∈ L.filter vx_no, w.before args s = true)
    (hU : (Cond.isRef (.static Bundle.tN "UNASSIGNED_STACK" Bundle.steD)).before args s = true) (hN : (Cond.isRef (.static Bundle.tN "SUPPRESSED_SENTINEL" Bundle.listD)).before args s = true)
    (lU : (Cond.laysStatic Bundle.tN "UNASSIGNED_STACK" Bundle.steD).before args s = true) (lN : (Cond.laysStatic Bundle.tN "SUPPRESSED_SENTINEL" Bundle.listD).before args s = true) : ∀ w ∈ L, w.before args s = true := by
  intro w hw
  by_cases e1 : w = .isRef (.static Bundle.tN "UNASSIGNED_STACK" Bundle.steD)
  · rw [e1]; exact hU
  · by_cases e2 : w = .isRef (.static Bundle.tN "SUPPRESSED_SENTINEL" Bundle.listD)
    · rw [e2]; exact hN
    · by_cases e3 : w = .laysStatic Bundle.tN "UNASSIGNED_STACK" Bundle.steD
      · rw [e3]; exact lU
      · by_cases e4 : w = .laysStatic Bundle.tN "SUPPRESSED_SENTINEL" Bundle.listD
        · rw [e4]; exact lN
        · exact h1 w (List.mem_filter.mpr ⟨hw, by unfold vx_no; rw [decide_eq_true e1, decide_eq_true e2, decide_eq_true e3, decide_eq_true e4]; rfl⟩)
/-- where a static field lies, its class's statics cell in H -/
def vx_L (C n d : String) (A : Nat → Prop) (U : State) (H : Heap) : Prop := ∃ (c : ClassId) (k : Class) (i : Nat) (f : Field) (a : Nat) (cell : Cell), U.vm.findClass C = some c ∧ U.fieldFound? C n d = some (c, k, i, f) ∧ f.isStatic = true ∧ k.statics = some a ∧ H[a]? = some cell ∧ cell.vm.isStatics = true ∧ cell.cls = c ∧ f.slot < cell.slots.size ∧ k.staticTypes[f.slot]? = some f.type ∧ ¬ A a
theorem vx_L.moved {C n d : String} {A : Nat → Prop} {u U : State} {H : Heap} (hvm : u.vm.Alike U.vm) (h : vx_L C n d A u H) : vx_L C n d A U H := by
  obtain ⟨c, k, i, f, a, cell, h1, h2, h3, h4, h5, h6, h7, h8, h9, h10⟩ := h
  obtain ⟨k', hi', he⟩ := State.fieldFound?_setVm hvm h2
  exact ⟨c, k', i, f, a, cell, by rw [hvm.findClass]; exact h1, hi', h3, by rw [he]; exact h4, h5, h6, h7, h8, by rw [he]; exact h9, h10⟩
theorem vx_L.kept {C n d : String} {A : Nat → Prop} {U : State} {H H1 : Heap} (h : vx_L C n d A U H) (hq : ∀ a : Nat, a < H.size → ¬ A a → H1[a]? = H[a]?) : vx_L C n d A U H1 := by
  obtain ⟨c, k, i, f, a, cell, h1, h2, h3, h4, h5, h6, h7, h8, h9, h10⟩ := h
  exact ⟨c, k, i, f, a, cell, h1, h2, h3, h4, by rw [hq a (Array.getElem?_eq_some_iff.mp h5).1 h10]; exact h5, h6, h7, h8, h9, h10⟩
theorem vx_L.narrow {C n d : String} {A B : Nat → Prop} {U : State} {H : Heap} (h : vx_L C n d A U H) (hAB : ∀ q, B q → A q) : vx_L C n d B U H := by
  obtain ⟨c, k, i, f, a, cell, h1, h2, h3, h4, h5, h6, h7, h8, h9, h10⟩ := h
  exact ⟨c, k, i, f, a, cell, h1, h2, h3, h4, h5, h6, h7, h8, h9, fun z => h10 (hAB _ z)⟩
theorem vx_L.word {C n d : String} {A : Nat → Prop} {s : State} {args : Array Value} (h : vx_L C n d A s s.heap) : (Cond.laysStatic C n d).before args s = true := by
  obtain ⟨c, k, i, f, a, cell, h1, h2, h3, h4, h5, h6, h7, h8, h9, -⟩ := h
  show (Cond.laysStatic C n d).holds args s none s [] = true
  exact Cond.laysStatic_of h1 h2 h3 h4 h5 h6 h7 h8 h9
/-- .. and what it holds: null or some reference -/
def vx_Zq (C n d : String) (A : Nat → Prop) (U : State) (H : Heap) : Prop := va_Zq C n d A U H ∧ vx_L C n d A U H
theorem vx_Zq.moved {C n d : String} {A : Nat → Prop} {u U : State} {H : Heap} (hvm : u.vm.Alike U.vm) (h : vx_Zq C n d A u H) : vx_Zq C n d A U H := ⟨va_Zq.moved hvm h.1, vx_L.moved hvm h.2⟩
theorem vx_Zq.kept {C n d : String} {A : Nat → Prop} {U : State} {H H1 : Heap} (h : vx_Zq C n d A U H) (hq : ∀ a : Nat, a < H.size → ¬ A a → H1[a]? = H[a]?) : vx_Zq C n d A U H1 := ⟨va_Zq.kept h.1 hq, vx_L.kept h.2 hq⟩
theorem vx_Zq.narrow {C n d : String} {A B : Nat → Prop} {U : State} {H : Heap} (h : vx_Zq C n d A U H) (hAB : ∀ q, B q → A q) : vx_Zq C n d B U H := ⟨va_Zq.narrow h.1 hAB, vx_L.narrow h.2 hAB⟩
theorem vx_Zqof {args : Array Value} {s : State} {C n d : String} {A : Nat → Prop} (hl : (Cond.laysStatic C n d).before args s = true) (hini : (Cond.initialized C).before args s = true) (h : (Cond.isRef (.static C n d)).before args s = true) (hA : ∀ a : Nat, a < s.heap.size → ¬ A a) : vx_Zq C n d A s s.heap := by
  refine ⟨va_Zqof hl hini h hA, ?_⟩
  obtain ⟨c, k, i, f, a, cell, h1, h2, h3, h4, h5, h6, h7, h8, h9⟩ := Cond.laysStatic_spec hl
  exact ⟨c, k, i, f, a, cell, h1, h2, h3, h4, h5, h6, h7, h8, h9, hA a (Array.getElem?_eq_some_iff.mp h5).1⟩
theorem vx_isRef {C n d : String} {v : Value} {A : Nat → Prop} {s : State} {args : Array Value} (h : va_Z C n d v A s s.heap) (hv : v.isRef = true) : (Cond.isRef (.static C n d)).before args s = true := by
  obtain ⟨cf, kf, fi, f, a, cell, h1, h2, h3, h4, h5, h6, h7, -⟩ := h
  have he : (Term.static C n d).eval args s none [] s = some v := by
    simp [Term.eval, State.fieldNamed?, h1, h2, h4, h5, h6, h7]
  simp only [Cond.before, Cond.holds, Cond.value, he]
  cases v <;> simp_all [Value.isRef]
theorem vx_isRefq {C n d : String} {A : Nat → Prop} {s : State} {args : Array Value} (h : va_Zq C n d A s s.heap) : (Cond.isRef (.static C n d)).before args s = true := by
  rcases h with h | ⟨t, h⟩
  · exact vx_isRef h rfl
  · exact vx_isRef h rfl
/-- the same frame, seen from here: as if the method were called anew in this heap -/
theorem vx_rebase {T : State} (X : Stand p l e R s m args below meth c T locs cells slots) {R' : Room} (hf : R'.frames ≤ R.frames) (hl : R'.locals ≤ R.locals) (hc : cells + R'.cells ≤ R.cells) (hs : slots + R'.slots ≤ R.slots) :
    Stand p l e R' ((T.setVm s.vm).setFrames (.invoking m args :: below)) m args below meth c T [] 0 0 := by
  have htop : (T.setVm s.vm).topJava?.isSome := X.here.top
  have hF : ((T.setVm s.vm).setFrames (.invoking m args :: below)).frames = .invoking m args :: below := State.frames_setFrames _ (State.cur_lt_of_top htop)
  obtain ⟨g₀, hg0⟩ := Option.isSome_iff_exists.mp htop
  obtain ⟨r, hr⟩ := State.topJava?_eq_some.mp hg0
  have hl9 : e.platform.stackLimits (T.setVm s.vm).me = e.platform.stackLimits s.me := X.limits
  have hb9 : (T.setVm s.vm).me.stackBytes = s.me.stackBytes := X.bytes
  refine ⟨X.admits, X.cas, X.clock, hF, ?_, X.hears, X.method, X.code, X.here, X.tail, X.warmed, ?_, ?_, ?_⟩
  · have h := X.room
    have hU : ((T.setVm s.vm).setFrames (.invoking m args :: below)).localsInUse = s.localsInUse := by
      rw [State.localsInUse_invoking hF (meth := meth) (c := c) X.method X.code, State.localsInUse_invoking X.frames X.method X.code]
    simp only [State.hasRoom, Bool.and_eq_true, decide_eq_true_eq] at h ⊢
    obtain ⟨⟨⟨⟨h1, h2, h3, h4, h5, h6⟩, h7⟩, h8⟩, h9⟩ := h
    rw [X.frames, List.length_cons] at h2 h3
    have q1 := X.heapSize
    have q2 := X.used
    simp only [hF, hU, List.length_cons, State.stackLimits_setFrames, State.stackBytes_setFrames, hl9, hb9]
    refine ⟨⟨⟨⟨by omega, by omega, by omega, by omega, by omega, h6⟩, ?_⟩, ?_⟩, X.book⟩
    · show T.heap.size + R'.cells ≤ e.platform.maxCells
      omega
    · show T.slotsUsed + R'.slots ≤ e.platform.maxSlots
      omega
  · rw [State.stackLimits_setFrames]; rfl
  · rw [State.stackBytes_setFrames]; rfl
  · refine ⟨?_, Nat.le_refl _, Nat.le_refl _, ?_, ?_, fun a c9 h9 => ⟨c9, h9, rfl, rfl, fun _ _ => rfl⟩⟩
    · obtain ⟨t, ht, -⟩ := State.frames_cons hr
      show T.setVm s.vm = { ((T.setVm s.vm).setFrames (.invoking m args :: below)).setFrames (T.setVm s.vm).frames with heap := T.heap, slotsUsed := T.slotsUsed }
      rw [State.setFrames_setFrames, State.setFrames_self ht]
      rfl
    · show T.slotsUsed = T.slotsUsed + ((T.heap.toList.drop T.heap.size).map (·.slots.size)).sum
      rw [List.drop_eq_nil_of_le (Nat.le_of_eq Array.length_toList)]
      rfl
    · show ((T.heap.toList.drop T.heap.size).map (·.slots.size)).sum ≤ 0
      rw [List.drop_eq_nil_of_le (Nat.le_of_eq Array.length_toList)]
      exact Nat.le_refl _
/-- 'throw new E()': new; dup; invokespecial; athrow -/
theorem vx_throw0 {cc : ByteArray} {pc : Nat} (hexec : p.tables.exec = Jvm.exec) (hb : c.code = cc) (hl : l.stackTraces = false) {own cls : String} {names : List String} {ik ic mc ms : Nat} {A : Nat → Prop}
    (hown : s.vm.findClass own = some m.cls) (hcls : Bundle.fit cls = true) (hnames : ∀ n ∈ names, Bundle.fit n = true)
    (hk : (Cond.classLink own ik cls).before args s = true) (hini : (Cond.initialized cls).before args s = true) (hat : ∀ w ∈ vx_at0 own ic cls names, w.before args s = true)
    (hgood : ∀ w ∈ Cond.classLink own ik cls :: Cond.initialized cls :: vx_at0 own ic cls names, vx_ot w = true)
    (hU : vx_Zq Bundle.tN "UNASSIGNED_STACK" Bundle.steD A s s.heap) (hN : vx_Zq Bundle.tN "SUPPRESSED_SENTINEL" Bundle.listD A s s.heap) (hS : va_S A s.heap H locs) (hsize : ls.size = c.maxLocals)
    (d0 : decode cc pc = .ok (.new ik, 3)) (d3 : decode cc (pc + 3) = .ok (.dup, 1)) (d4 : decode cc (pc + 4) = .ok (.invokespecial ic, 3)) (d7 : decode cc (pc + 7) = .ok (.athrow, 1))
    (hout : ∀ x ∈ c.exceptionTable.toList, covers x (pc + 7) = false)
    (hRframes : names.length + 3 < R.frames) (hRlocals : (rest.map fun v => v.category).sum + (13 * (names.length + 1) + 42) ≤ R.locals) (hRcells : cells + 1 ≤ R.cells) (hRslots : slots + 6 ≤ R.slots) (hlocks : meth.locks = false)
    (hx : ∀ t : State, s.vm.Alike t.vm → H.size ≤ t.heap.size → (∀ q : Nat, q < H.size → t.heap[q]? = H[q]?) → XC cls s t)
    (hf : ∀ z ∈ locs, free z.base) (hc : cells + 1 ≤ mc) (hs : slots + 6 ≤ ms) :
    W p l e R s m args below meth c H locs cells slots (vx_MQ below Qc XC args s mc ms free) (F0 m pc ls rest) := by
  intro T hT X
  have htr : e.platform.stackTraces = false := (show e.platform.stackTraces = l.stackTraces by rw [X.admits.platform]).trans hl
  have Y := vx_rebase X (R' := { frames := R.frames, locals := R.locals, cells := 1, slots := 6 }) (Nat.le_refl _) (Nat.le_refl _) hRcells hRslots
  obtain ⟨s', hA⟩ : ∃ z, z = (T.setVm s.vm).setFrames (.invoking m args :: below) := ⟨_, rfl⟩
  rw [← hA] at Y
  have hvm : s'.vm = s.vm := by rw [hA]; rfl
  have hhp : s'.heap = H := by rw [hA]; exact hT
  have hW0 : s.WarmedH s'.vm := by rw [hvm]; exact State.WarmedH.refl s
  have hat' : ∀ w ∈ vx_at0 own ic cls names, w.before args s' = true := fun w hw => vx_ot_at hW0 hvm.symm (hgood w (List.mem_cons_of_mem _ (List.mem_cons_of_mem _ hw))) (hat w hw)
  have hk' : (Cond.classLink own ik cls).before args s' = true := vx_ot_at hW0 hvm.symm (hgood _ List.mem_cons_self) hk
  have hini' : (Cond.initialized cls).before args s' = true := vx_ot_at hW0 hvm.symm (hgood _ (List.mem_cons_of_mem _ List.mem_cons_self)) hini
  have hU' : vx_Zq Bundle.tN "UNASSIGNED_STACK" Bundle.steD A s' s'.heap := by rw [hhp]; exact vx_Zq.moved hW0.alike (hU.kept hS.2.1)
  have hN' : vx_Zq Bundle.tN "SUPPRESSED_SENTINEL" Bundle.listD A s' s'.heap := by rw [hhp]; exact vx_Zq.moved hW0.alike (hN.kept hS.2.1)
  have h : ∀ w ∈ Bundle.ownAtoms0 own ic cls names, w.before args s' = true := vx_own hat' (vx_isRefq hU'.1) (vx_isRefq hN'.1) hU'.2.word hN'.2.word
  have hown' : s'.vm.findClass own = some m.cls := by rw [hvm]; exact hown
  have hins : (Cond.instantiable cls 6).before args s' = true := h _ (by simp [Bundle.ownAtoms0])
  obtain ⟨vm₁, cX, kX, hfX, hkX, -, -, X₁, st1⟩ := Y.newCold hexec (own := own) (C := cls) (index := ik) (n := 6) hown' hk' hins hini'
    (g := F0 m pc ls rest) rfl (by rw [hb]; exact d0) (Nat.le_refl _) (Nat.le_refl _)
  generalize hT1 : (T.setVm vm₁).pushCell { cls := cX, slots := kX.instanceTypes.map defaultValue, vm := .none } = T1 at X₁ st1
  have hcat : (Value.ref T.heap.size).category = 1 := rfl
  have hcellA : T1.heap[T.heap.size]? = some (freshCell cX kX) := by rw [← hT1]; exact State.heap_pushCell_size _ _
  have d3' : decode c.code (pc + 3) = .ok (.dup, 1) := by rw [hb]; exact d3
  obtain ⟨U, hsteps, hrun, hend, hW, hsame, ce, hce, hO⟩ := X₁.ctorThrow0 hexec htr (own := own) (cls := cls) (names := names) (ic := ic) hown' hcls hnames h (fun x hx => nomatch hx) hfX hkX hcellA (by rw [hhp, hT]; exact Nat.le_refl _)
    (g := { method := m, pc := pc + 4, locals := ls, stack := .ref T.heap.size :: .ref T.heap.size :: rest, locked := none }) rfl hsize rfl rfl (rest := rest) rfl
    (by rw [hb]; exact d4) (by rw [hb]; exact d7) hout hRframes (by simp only [List.map_cons, List.sum_cons, hcat]; omega) hlocks
  obtain ⟨f1, f2⟩ := vx_frame hsame
  rw [hhp] at f1 f2
  have hWs : s.WarmedH U.vm := State.WarmedH.trans hW0 hW
  have hcl : s.vm.findClass cls = some ce.cls := by
    have h9 := hO.cls
    rw [hvm] at h9
    exact h9
  have hall : s.sameButNew ({ U with vm := s.vm } : State) locs mc ms := by
    subst hA
    obtain ⟨e1, e2⟩ := hsame
    rw [State.setFrames_setFrames] at e1
    have h2 : (T.setVm s.vm).sameButNew ({ U with vm := s.vm } : State) [] (0 + 1) (0 + 6) := ⟨e1, e2⟩
    have h3 := X.same.trans h2
    rw [List.append_nil] at h3
    exact h3.mono hc hs
  refine ⟨U, ?_, .threw T.heap.size, hrun, hend, Or.inr ⟨T.heap.size, rfl, cls, ce, locs, hx U hWs.alike f1 (fun q hq => f2 q hq (fun z hz => nomatch hz)), hce, hO.vm, hcl, hWs, hall, hf⟩⟩
  refine st1 _ ?_
  show Steps p.tables e below (T1.setTop { method := m, pc := pc + 3, locals := ls, stack := .ref T.heap.size :: rest, locked := none }) _
  jvm_step X₁.here [X₁.here.top, hexec, d3', Value.category]
  exact hsteps
/-- 'throw new E("text")': new; dup; ldc; invokespecial; athrow -/
theorem vx_throwS {cc : ByteArray} {pc : Nat} (hexec : p.tables.exec = Jvm.exec) (hb : c.code = cc) (hl : l.stackTraces = false) {own cls text : String} {names : List String} {ik is ic mc ms sa : Nat} {A : Nat → Prop}
    (hown : s.vm.findClass own = some m.cls) (hcls : Bundle.fit cls = true) (hnames : ∀ n ∈ names, Bundle.fit n = true)
    (hk : (Cond.classLink own ik cls).before args s = true) (hini : (Cond.initialized cls).before args s = true) (hstr : vk_R own is text sa s) (hat : ∀ w ∈ vx_atS own ic cls names, w.before args s = true)
    (hgood : ∀ w ∈ Cond.classLink own ik cls :: Cond.initialized cls :: vx_atS own ic cls names, vx_ot w = true)
    (hU : vx_Zq Bundle.tN "UNASSIGNED_STACK" Bundle.steD A s s.heap) (hN : vx_Zq Bundle.tN "SUPPRESSED_SENTINEL" Bundle.listD A s s.heap) (hS : va_S A s.heap H locs) (hsize : ls.size = c.maxLocals)
    (d0 : decode cc pc = .ok (.new ik, 3)) (d3 : decode cc (pc + 3) = .ok (.dup, 1)) (d4 : decode cc (pc + 4) = .ok (.ldc is, 2)) (d6 : decode cc (pc + 6) = .ok (.invokespecial ic, 3)) (d9 : decode cc (pc + 9) = .ok (.athrow, 1))
    (hout : ∀ x ∈ c.exceptionTable.toList, covers x (pc + 9) = false)
    (hRframes : names.length + 3 < R.frames) (hRlocals : (rest.map fun v => v.category).sum + (13 * (names.length + 1) + 43) ≤ R.locals) (hRcells : cells + 1 ≤ R.cells) (hRslots : slots + 6 ≤ R.slots) (hlocks : meth.locks = false)
    (hx : ∀ t : State, s.vm.Alike t.vm → H.size ≤ t.heap.size → (∀ q : Nat, q < H.size → t.heap[q]? = H[q]?) → XC cls s t)
    (hf : ∀ z ∈ locs, free z.base) (hc : cells + 1 ≤ mc) (hs : slots + 6 ≤ ms) :
    W p l e R s m args below meth c H locs cells slots (vx_MQ below Qc XC args s mc ms free) (F0 m pc ls rest) := by
  intro T hT X
  have htr : e.platform.stackTraces = false := (show e.platform.stackTraces = l.stackTraces by rw [X.admits.platform]).trans hl
  have Y := vx_rebase X (R' := { frames := R.frames, locals := R.locals, cells := 1, slots := 6 }) (Nat.le_refl _) (Nat.le_refl _) hRcells hRslots
  obtain ⟨s', hA⟩ : ∃ z, z = (T.setVm s.vm).setFrames (.invoking m args :: below) := ⟨_, rfl⟩
  rw [← hA] at Y
  have hvm : s'.vm = s.vm := by rw [hA]; rfl
  have hhp : s'.heap = H := by rw [hA]; exact hT
  have hW0 : s.WarmedH s'.vm := by rw [hvm]; exact State.WarmedH.refl s
  have hat' : ∀ w ∈ vx_atS own ic cls names, w.before args s' = true := fun w hw => vx_ot_at hW0 hvm.symm (hgood w (List.mem_cons_of_mem _ (List.mem_cons_of_mem _ hw))) (hat w hw)
  have hk' : (Cond.classLink own ik cls).before args s' = true := vx_ot_at hW0 hvm.symm (hgood _ List.mem_cons_self) hk
  have hini' : (Cond.initialized cls).before args s' = true := vx_ot_at hW0 hvm.symm (hgood _ (List.mem_cons_of_mem _ List.mem_cons_self)) hini
  have hU' : vx_Zq Bundle.tN "UNASSIGNED_STACK" Bundle.steD A s' s'.heap := by rw [hhp]; exact vx_Zq.moved hW0.alike (hU.kept hS.2.1)
  have hN' : vx_Zq Bundle.tN "SUPPRESSED_SENTINEL" Bundle.listD A s' s'.heap := by rw [hhp]; exact vx_Zq.moved hW0.alike (hN.kept hS.2.1)
  have h : ∀ w ∈ Bundle.ownAtoms own ic cls names, w.before args s' = true := vx_own hat' (vx_isRefq hU'.1) (vx_isRefq hN'.1) hU'.2.word hN'.2.word
  have hown' : s'.vm.findClass own = some m.cls := by rw [hvm]; exact hown
  have hins : (Cond.instantiable cls 6).before args s' = true := h _ (by simp [Bundle.ownAtoms])
  obtain ⟨vm₁, cX, kX, hfX, hkX, -, -, X₁, st1⟩ := Y.newCold hexec (own := own) (C := cls) (index := ik) (n := 6) hown' hk' hins hini'
    (g := F0 m pc ls rest) rfl (by rw [hb]; exact d0) (Nat.le_refl _) (Nat.le_refl _)
  generalize hT1 : (T.setVm vm₁).pushCell { cls := cX, slots := kX.instanceTypes.map defaultValue, vm := .none } = T1 at X₁ st1
  have hcat : (Value.ref T.heap.size).category = 1 := rfl
  have hcellA : T1.heap[T.heap.size]? = some (freshCell cX kX) := by rw [← hT1]; exact State.heap_pushCell_size _ _
  have d3' : decode c.code (pc + 3) = .ok (.dup, 1) := by rw [hb]; exact d3
  have d4' : decode c.code (pc + 4) = .ok (.ldc is, 2) := by rw [hb]; exact d4
  have hstr' : vk_R own is text sa s' := vk_R.warm hW0 hstr
  obtain ⟨U, hsteps, hrun, hend, hW, hsame, ce, hce, hO⟩ := X₁.ctorThrowS hexec htr (own := own) (cls := cls) (names := names) (ic := ic) hown' hcls hnames h (fun x hx => nomatch hx) hfX hkX hcellA (by rw [hhp, hT]; exact Nat.le_refl _) (msg := .ref sa) rfl
    (g := { method := m, pc := pc + 6, locals := ls, stack := .ref sa :: .ref T.heap.size :: .ref T.heap.size :: rest, locked := none }) rfl hsize rfl rfl (rest := rest) rfl
    (by rw [hb]; exact d6) (by rw [hb]; exact d9) hout hRframes (by simp only [List.map_cons, List.sum_cons, hcat]; omega) hlocks
  obtain ⟨f1, f2⟩ := vx_frame hsame
  rw [hhp] at f1 f2
  have hWs : s.WarmedH U.vm := State.WarmedH.trans hW0 hW
  have hcl : s.vm.findClass cls = some ce.cls := by
    have h9 := hO.cls
    rw [hvm] at h9
    exact h9
  have hall : s.sameButNew ({ U with vm := s.vm } : State) locs mc ms := by
    subst hA
    obtain ⟨e1, e2⟩ := hsame
    rw [State.setFrames_setFrames] at e1
    have h2 : (T.setVm s.vm).sameButNew ({ U with vm := s.vm } : State) [] (0 + 1) (0 + 6) := ⟨e1, e2⟩
    have h3 := X.same.trans h2
    rw [List.append_nil] at h3
    exact h3.mono hc hs
  refine ⟨U, ?_, .threw T.heap.size, hrun, hend, Or.inr ⟨T.heap.size, rfl, cls, ce, locs, hx U hWs.alike f1 (fun q hq => f2 q hq (fun z hz => nomatch hz)), hce, hO.vm, hcl, hWs, hall, hf⟩⟩
  refine st1 _ ?_
  show Steps p.tables e below (T1.setTop { method := m, pc := pc + 3, locals := ls, stack := .ref T.heap.size :: rest, locked := none }) _
  jvm_step X₁.here [X₁.here.top, hexec, d3', Value.category]
  exact X₁.ldcString hexec (own := own) (text := text) (index := is) (a := sa) hown' hstr'.1 hstr'.2
    (g := { method := m, pc := pc + 4, locals := ls, stack := .ref T.heap.size :: .ref T.heap.size :: rest, locked := none }) rfl d4' _ hsteps
/-- 'throw new E("text")', the text by a wide index -/
theorem vx_throwSW {cc : ByteArray} {pc : Nat} (hexec : p.tables.exec = Jvm.exec) (hb : c.code = cc) (hl : l.stackTraces = false) {own cls text : String} {names : List String} {ik is ic mc ms sa : Nat} {A : Nat → Prop}
    (hown : s.vm.findClass own = some m.cls) (hcls : Bundle.fit cls = true) (hnames : ∀ n ∈ names, Bundle.fit n = true)
    (hk : (Cond.classLink own ik cls).before args s = true) (hini : (Cond.initialized cls).before args s = true) (hstr : vk_R own is text sa s) (hat : ∀ w ∈ vx_atS own ic cls names, w.before args s = true)
    (hgood : ∀ w ∈ Cond.classLink own ik cls :: Cond.initialized cls :: vx_atS own ic cls names, vx_ot w = true)
    (hU : vx_Zq Bundle.tN "UNASSIGNED_STACK" Bundle.steD A s s.heap) (hN : vx_Zq Bundle.tN "SUPPRESSED_SENTINEL" Bundle.listD A s s.heap) (hS : va_S A s.heap H locs) (hsize : ls.size = c.maxLocals)
    (d0 : decode cc pc = .ok (.new ik, 3)) (d3 : decode cc (pc + 3) = .ok (.dup, 1)) (d4 : decode cc (pc + 4) = .ok (.ldc_w is, 3)) (d7 : decode cc (pc + 7) = .ok (.invokespecial ic, 3)) (d10 : decode cc (pc + 10) = .ok (.athrow, 1))
    (hout : ∀ x ∈ c.exceptionTable.toList, covers x (pc + 10) = false)
    (hRframes : names.length + 3 < R.frames) (hRlocals : (rest.map fun v => v.category).sum + (13 * (names.length + 1) + 43) ≤ R.locals) (hRcells : cells + 1 ≤ R.cells) (hRslots : slots + 6 ≤ R.slots) (hlocks : meth.locks = false)
    (hx : ∀ t : State, s.vm.Alike t.vm → H.size ≤ t.heap.size → (∀ q : Nat, q < H.size → t.heap[q]? = H[q]?) → XC cls s t)
    (hf : ∀ z ∈ locs, free z.base) (hc : cells + 1 ≤ mc) (hs : slots + 6 ≤ ms) :
    W p l e R s m args below meth c H locs cells slots (vx_MQ below Qc XC args s mc ms free) (F0 m pc ls rest) := by
  intro T hT X
  have htr : e.platform.stackTraces = false := (show e.platform.stackTraces = l.stackTraces by rw [X.admits.platform]).trans hl
  have Y := vx_rebase X (R' := { frames := R.frames, locals := R.locals, cells := 1, slots := 6 }) (Nat.le_refl _) (Nat.le_refl _) hRcells hRslots
  obtain ⟨s', hA⟩ : ∃ z, z = (T.setVm s.vm).setFrames (.invoking m args :: below) := ⟨_, rfl⟩
  rw [← hA] at Y
  have hvm : s'.vm = s.vm := by rw [hA]; rfl
  have hhp : s'.heap = H := by rw [hA]; exact hT
  have hW0 : s.WarmedH s'.vm := by rw [hvm]; exact State.WarmedH.refl s
  have hat' : ∀ w ∈ vx_atS own ic cls names, w.before args s' = true := fun w hw => vx_ot_at hW0 hvm.symm (hgood w (List.mem_cons_of_mem _ (List.mem_cons_of_mem _ hw))) (hat w hw)
  have hk' : (Cond.classLink own ik cls).before args s' = true := vx_ot_at hW0 hvm.symm (hgood _ List.mem_cons_self) hk
  have hini' : (Cond.initialized cls).before args s' = true := vx_ot_at hW0 hvm.symm (hgood _ (List.mem_cons_of_mem _ List.mem_cons_self)) hini
  have hU' : vx_Zq Bundle.tN "UNASSIGNED_STACK" Bundle.steD A s' s'.heap := by rw [hhp]; exact vx_Zq.moved hW0.alike (hU.kept hS.2.1)
  have hN' : vx_Zq Bundle.tN "SUPPRESSED_SENTINEL" Bundle.listD A s' s'.heap := by rw [hhp]; exact vx_Zq.moved hW0.alike (hN.kept hS.2.1)
  have h : ∀ w ∈ Bundle.ownAtoms own ic cls names, w.before args s' = true := vx_own hat' (vx_isRefq hU'.1) (vx_isRefq hN'.1) hU'.2.word hN'.2.word
  have hown' : s'.vm.findClass own = some m.cls := by rw [hvm]; exact hown
  have hins : (Cond.instantiable cls 6).before args s' = true := h _ (by simp [Bundle.ownAtoms])
  obtain ⟨vm₁, cX, kX, hfX, hkX, -, -, X₁, st1⟩ := Y.newCold hexec (own := own) (C := cls) (index := ik) (n := 6) hown' hk' hins hini'
    (g := F0 m pc ls rest) rfl (by rw [hb]; exact d0) (Nat.le_refl _) (Nat.le_refl _)
  generalize hT1 : (T.setVm vm₁).pushCell { cls := cX, slots := kX.instanceTypes.map defaultValue, vm := .none } = T1 at X₁ st1
  have hcat : (Value.ref T.heap.size).category = 1 := rfl
  have hcellA : T1.heap[T.heap.size]? = some (freshCell cX kX) := by rw [← hT1]; exact State.heap_pushCell_size _ _
  have d3' : decode c.code (pc + 3) = .ok (.dup, 1) := by rw [hb]; exact d3
  have d4' : decode c.code (pc + 4) = .ok (.ldc_w is, 3) := by rw [hb]; exact d4
  have hstr' : vk_R own is text sa s' := vk_R.warm hW0 hstr
  obtain ⟨U, hsteps, hrun, hend, hW, hsame, ce, hce, hO⟩ := X₁.ctorThrowS hexec htr (own := own) (cls := cls) (names := names) (ic := ic) hown' hcls hnames h (fun x hx => nomatch hx) hfX hkX hcellA (by rw [hhp, hT]; exact Nat.le_refl _) (msg := .ref sa) rfl
    (g := { method := m, pc := pc + 7, locals := ls, stack := .ref sa :: .ref T.heap.size :: .ref T.heap.size :: rest, locked := none }) rfl hsize rfl rfl (rest := rest) rfl
    (by rw [hb]; exact d7) (by rw [hb]; exact d10) hout hRframes (by simp only [List.map_cons, List.sum_cons, hcat]; omega) hlocks
  obtain ⟨f1, f2⟩ := vx_frame hsame
  rw [hhp] at f1 f2
  have hWs : s.WarmedH U.vm := State.WarmedH.trans hW0 hW
  have hcl : s.vm.findClass cls = some ce.cls := by
    have h9 := hO.cls
    rw [hvm] at h9
    exact h9
  have hall : s.sameButNew ({ U with vm := s.vm } : State) locs mc ms := by
    subst hA
    obtain ⟨e1, e2⟩ := hsame
    rw [State.setFrames_setFrames] at e1
    have h2 : (T.setVm s.vm).sameButNew ({ U with vm := s.vm } : State) [] (0 + 1) (0 + 6) := ⟨e1, e2⟩
    have h3 := X.same.trans h2
    rw [List.append_nil] at h3
    exact h3.mono hc hs
  refine ⟨U, ?_, .threw T.heap.size, hrun, hend, Or.inr ⟨T.heap.size, rfl, cls, ce, locs, hx U hWs.alike f1 (fun q hq => f2 q hq (fun z hz => nomatch hz)), hce, hO.vm, hcl, hWs, hall, hf⟩⟩
  refine st1 _ ?_
  show Steps p.tables e below (T1.setTop { method := m, pc := pc + 3, locals := ls, stack := .ref T.heap.size :: rest, locked := none }) _
  jvm_step X₁.here [X₁.here.top, hexec, d3', Value.category]
  exact X₁.ldcStringW hexec (own := own) (text := text) (index := is) (a := sa) hown' hstr'.1 hstr'.2
    (g := { method := m, pc := pc + 4, locals := ls, stack := .ref T.heap.size :: .ref T.heap.size :: rest, locked := none }) rfl d4' _ hsteps
end Ends
section Bodies
variable {l : Launch}
theorem vx_ofW {y : MethodName} {ws ws' : List Cond} {rm : Room} {Pc : Array Value → State → Prop} {Qc : Array Value → State → Outcome → State → Prop} {XC : String → State → State → Prop} {mc ms : Nat} {free : Addr → Prop} {cc : ByteArray} {maxL : Nat} {ret : Option FieldType}
    (hy : plainName y.cls = true) (hw : ws = Cond.code y cc maxL ret :: ws')
    (body : ∀ p e s m args below meth c s₁, BodyLoose p l y (headSpec ws rm) cc maxL ret e s m args below meth c s₁ → c.maxLocals = maxL → (∀ x ∈ c.exceptionTable.toList, False) → Pc args s →
      W p l e (headSpec ws rm).room s m args below meth c s.heap [] 0 0 (vx_MQ below Qc XC args s mc ms free) (entryFrame m args maxL)) : vx_Met l y ws rm Pc Qc XC mc ms free := by
  refine MetFree.of_bodyS (code := cc) (maxLocals := maxL) (ret := ret) hy ?_ ?_
  · intro args s m h hn
    obtain ⟨meth, c, h1, h2, h3, h4, h5, h6, -, -⟩ := Cond.code_spec hn (atoms_spec (ws := ws) h _ (by rw [hw]; exact List.mem_cons_self))
    exact ⟨meth, c, h1, h2, h3, h4, h5, h6⟩
  · intro p e s m args below meth c s₁ B hml hP _
    have hh0 : s₁.heap = s.heap := by rw [B.state]; rfl
    have ht : ∀ x ∈ c.exceptionTable.toList, False := by
      obtain ⟨meth9, c9, h1, h2, -, -, -, -, h7, -⟩ := Cond.code_spec B.named (atoms_spec (ws := ws) B.pre _ (by rw [hw]; exact List.mem_cons_self))
      cases Option.some.inj (h1.symm.trans B.method)
      cases Option.some.inj (h2.symm.trans (Stand.of_body B).code)
      intro x hx
      rw [Array.isEmpty_iff.mp h7] at hx
      cases hx
    obtain ⟨t, a1, o, b1, b2, b3⟩ := body p e s m args below meth c s₁ B hml ht hP s₁ hh0 (Stand.of_body B)
    exact ⟨t, o, a1, b1, b2, b3⟩
/-- the table of a body with handlers -/
theorem vx_table {p : Program} {x y : MethodName} {S : Spec} {cc bytes : ByteArray} {maxL maxL' : Nat} {ret ret' : Option FieldType} {e : Env} {s s₁ : State} {m : MethodId} {args : Array Value} {below : List Frame} {meth : Method} {c : Code} {hh : List (Nat × Nat × Nat × Nat)}
    (B : BodyLoose p l y S cc maxL ret e s m args below meth c s₁) (h : (Cond.codeWith y bytes maxL' ret' hh).before args s = true) : c.exceptionTable.toList = tableOf hh := by
  obtain ⟨m9, meth9, c9, hn9, h1, h2, -, -, h6, -⟩ := Cond.codeWith_spec h
  cases Option.some.inj (hn9.symm.trans B.named)
  cases Option.some.inj (h1.symm.trans B.method)
  cases Option.some.inj (h2.symm.trans (Stand.of_body B).code)
  rw [← h6, table_eq]
end Bodies
end VXA
/-! ===== END ===== -/
/-! ===== BEGIN a static call of a method with an exception table ===== -/
section VXS
variable {p : Program} {l : Launch} {e : Env} {R : Room} {s : State} {m : MethodId} {args : Array Value} {below : List Frame} {meth : Method} {c : Code} {T : State} {H : Heap} {locs : List Loc} {cells slots : Nat}
abbrev vx_CSW (R : Room) (s : State) (args : Array Value) (own : String) (index : Nat) (y : MethodName) (bytes : ByteArray) (maxL : Nat) (ret : Option FieldType) (hh : List (Nat × Nat × Nat × Nat)) (ws : List Cond) (rm : Room) (mc ms n : Nat) : Prop :=
  (rm.cells = mc ∧ rm.slots = ms ∧ rm.frames + 1 ≤ R.frames ∧ 8 + (maxL + 11) + rm.locals ≤ R.locals ∧ (∀ w ∈ ws, ∀ (a' : Array Value) (U : State), s.WarmedH U.vm → w.before a' U = true) ∧ Cond.codeWith y bytes maxL ret hh ∈ ws) ∧
  (Cond.codeWith y bytes maxL ret hh).before args s = true ∧ (Cond.initialized y.cls).before args s = true ∧ (y.cls ≠ "java/lang/invoke/MethodHandle" ∧ y.cls ≠ "java/lang/invoke/VarHandle") ∧
  (∀ sig, parseMethodDescriptor y.desc = some sig → n = sig.parameters.length) ∧ (Cond.methodLink own index y).before args s = true ∧ (Cond.static y).before args s = true
theorem vx_cwSW {own : String} {index maxL mc ms : Nat} {y : MethodName} {bytes : ByteArray} {ret : Option FieldType} {hh : List (Nat × Nat × Nat × Nat)} {Ts ws ws' : List Cond} {rm : Room} (n : Nat) (ht : ∀ w ∈ Ts, w.before args s = true) (hT : GoodIn Ts (va_wsS own index y ws)) (hw : ws = Cond.codeWith y bytes maxL ret hh :: ws') (hrc : rm.cells = mc) (hrs : rm.slots = ms)
    (hd : y.cls ≠ "java/lang/invoke/MethodHandle" ∧ y.cls ≠ "java/lang/invoke/VarHandle" ∧ (parseMethodDescriptor y.desc).map (fun d => d.parameters.length) = some n) (hR : rm.frames + 1 ≤ R.frames ∧ 8 + (maxL + 11) + rm.locals ≤ R.locals) :
    vx_CSW R s args own index y bytes maxL ret hh ws rm mc ms n := by
  have ok : ∀ w ∈ va_wsS own index y ws, w.before args s = true := fun w h => ht w (hT w h).1
  have hG : GoodIn Ts ws := fun w h => hT w (by unfold va_wsS; exact List.mem_append_right _ h)
  have hc : Cond.codeWith y bytes maxL ret hh ∈ ws := by rw [hw]; exact List.mem_cons_self
  refine ⟨⟨hrc, hrs, hR.1, hR.2, pay_in ht hG, hc⟩, ht _ (hG _ hc).1, ok _ (by simp [va_wsS]), ⟨hd.1, hd.2.1⟩, fun sig h => ?_, ok _ (by simp [va_wsS]), ok _ (by simp [va_wsS])⟩
  have h2 := hd.2.2
  rw [h] at h2
  exact (Option.some.inj h2).symm
theorem vx_callSW (X : Stand p l e R s m args below meth c T locs cells slots) (hexec : p.tables.exec = Jvm.exec) {own : String} {index : Nat} {y : MethodName} {bytes : ByteArray} {maxL : Nat} {ret : Option FieldType} {hh : List (Nat × Nat × Nat × Nat)}
    (hown : s.vm.findClass own = some m.cls) (hlink : (Cond.methodLink own index y).before args s = true) (hstat : (Cond.static y).before args s = true) (hinit : (Cond.initialized y.cls).before args s = true)
    (hcode : (Cond.codeWith y bytes maxL ret hh).before args s = true) (hy : y.cls ≠ "java/lang/invoke/MethodHandle" ∧ y.cls ≠ "java/lang/invoke/VarHandle")
    {W9 : Nat} {Pre : Pt → Array Value → Prop} {Post : Pt → Array Value → Option Value → Pt → Prop} (hK : Back l R p e below s args y 3 W9 Pre Post)
    {g : JFrame} (hg : g.method = m) (hsize : g.locals.size = c.maxLocals) {argsL rest : List Value} (hlen : ∀ sig, parseMethodDescriptor y.desc = some sig → argsL.length = sig.parameters.length)
    (hstack : g.stack = argsL.reverse ++ rest) (hW : 2 * g.monitorRoom + (rest.map fun v => v.category).sum ≤ W9) (hdg : decode c.code g.pc = .ok (.invokestatic index, 3))
    (hpre : ∀ vm₁, s.WarmedH vm₁ → Pre ⟨T.setVm vm₁, locs, cells, slots⟩ argsL.toArray) :
    ∃ (v : Option Value) (vm₁ : Vm) (B : Pt), s.WarmedH vm₁ ∧ Stand p l e R s m args below meth c B.U B.locs B.cells B.slots ∧ Post ⟨T.setVm vm₁, locs, cells, slots⟩ argsL.toArray v B ∧
      ∀ target, Steps p.tables e below (B.U.setTop { g with pc := g.pc + 3, stack := v.toList ++ rest }) target → Steps p.tables e below (T.setTop g) target := by
  obtain ⟨mk, methM, cM, hnamed, hmethM, -, -, -, -, -, -, hsigM⟩ := Cond.codeWith_spec hcode
  have hstatic : methM.isStatic = true := Cond.static_spec hnamed hmethM hstat
  obtain ⟨kP, hkP, -⟩ := className_of_methodNamed hnamed
  have hinitP : kP.init = .initialized := Cond.initialized_spec (findClass_of_methodNamed hnamed) hkP hinit
  obtain ⟨vm₁, X₁, hstep₁⟩ := X.invokestatic hexec hown hlink hnamed hmethM hstatic hkP hinitP hy (g := g) hg (argsL := argsL) (rest := rest) (hlen _ hsigM) hstack hdg
  obtain ⟨v, B, X', hpost, hsteps⟩ := hK m meth c ⟨T.setVm vm₁, locs, cells, slots⟩ { g with stack := rest } (.invokestatic index) mk argsL.toArray X₁ hg hsize hdg hW (X₁.named hnamed) (hpre vm₁ X₁.warmed)
  exact ⟨v, vm₁, B, X₁.warmed, X', hpost, fun target h => hstep₁ _ fun acts => by rw [doInvoke_state]; exact hsteps.trans h⟩
theorem vx_runSW {y : MethodName} {bytes cc : ByteArray} {maxL nL mc ms n index : Nat} {ret : Option FieldType} {hh : List (Nat × Nat × Nat × Nat)} {ws : List Cond} {rm : Room} {Pc : Array Value → State → Prop} {Qc : Array Value → State → Outcome → State → Prop} {free : Addr → Prop} {Ts : List Cond} {own : String} {As rest : List Value} {g : JFrame}
    (S : CallFix p m c cc nL s args Ts own) (hM : Met l y ws rm Pc Qc mc ms free) (cw : vx_CSW R s args own index y bytes maxL ret hh ws rm mc ms n) (hp : PreS s H Pc As)
    (hg : g.method = m) (hn : As.length = n) (hsize : g.locals.size = nL) (hstack : g.stack = As.reverse ++ rest) (hW : 2 * g.monitorRoom + (rest.map fun v => v.category).sum ≤ 8) (hdg : decode cc g.pc = .ok (.invokestatic index, 3)) (hf : cells + mc ≤ R.cells ∧ slots + ms ≤ R.slots) :
    va_Run p l e R s m args below meth c H locs cells slots mc ms g rest (Qc As.toArray) (free) := by
  obtain ⟨⟨hrc, hrs, hfr, hlo, hws, hcw⟩, hcode, hini, hy, hlen, hl, hstt⟩ := cw
  have hK : Back l R p e below s args y 3 8 (PreOf R mc ms Pc) (PostOf Qc mc ms free) := va_backW (hh := hh) (bytes := bytes) (maxL := maxL) (ret := ret) hM hp.1 hrc hrs hfr hlo hws hcw (fun a' U hW => word_at hW (Or.inl (by first | rfl | simp [Cond.onTables, Cond.keeps, Cond.steady])) hini)
  obtain ⟨hx, hb, hml, ho, -⟩ := S
  intro T hT X
  obtain ⟨v, vm₁, ⟨U', l2, c2, s2⟩, hW₁, X', ⟨g', mk, t, L, e1, e2, hq, h1, hL, h2, h3⟩, st⟩ := vx_callSW X hx (hh := hh) (bytes := bytes) (maxL := maxL) (ret := ret) ho hl hstt hini hcode hy hK hg (hsize.trans hml.symm) (argsL := As) (rest := rest) (fun sig h => hn.trans (hlen sig h)) hstack hW (by rw [hb]; exact hdg)
    (fun vm₁ hW₁ => ⟨hf.1, hf.2, hp.2 (T.setVm vm₁) hT hW₁⟩)
  dsimp only [Pt.U, Pt.locs, Pt.cells, Pt.slots] at X' e1 e2 h1 h2 h3 st
  subst h1; subst h2; subst h3
  exact ⟨v, (T.setVm vm₁).calling g' mk As.toArray, t, U', L, hT, X', hL, e1, e2, hq, st⟩
/-- not caught here, past rows that name other classes: it goes on to the caller -/
theorem vx_outP {p : Program} {l : Launch} {e : Env} {R : Room} {s : State} {m : MethodId} {args : Array Value} {below : List Frame} {meth : Method} {c : Code} {H : Heap} {locs : List Loc} {cells slots : Nat} {free : Addr → Prop} {ls : Array Slot} {rest : List Value} {Qc : Array Value → State → Outcome → State → Prop} {XC : String → State → State → Prop}
    {pc : Nat} {own E : String} {ce : Cell} {q : Addr} {mc ms : Nat} (hown : s.vm.findClass own = some m.cls) (hlocks : meth.locks = false)
    (hpass : ∀ z ∈ c.exceptionTable.toList, covers z pc = false ∨ (z.catchType ≠ 0 ∧ ∃ nm : String, (Cond.classLink own z.catchType nm).before args s = true ∧ va_Nc E nm s)) (hcell : H[q]? = some ce) (hv : ce.vm = .none) (hcl : s.vm.findClass E = some ce.cls)
    (hx : ∀ t : State, t.heap = H → s.vm.Alike t.vm → XC E s t) (hf : ∀ z ∈ locs, free z.base) (hc : cells ≤ mc) (hs : slots ≤ ms) :
    vx_W p l e R s m args below meth c H locs cells slots (vx_MQ below Qc XC args s mc ms free) (F0 m pc ls rest) q := by
  intro T hT X
  have hpl : e.platform.magicAccessors = ({} : Platform).magicAccessors := by rw [X.admits.platform]
  obtain ⟨vm', hW', X', st⟩ := X.outThrough hlocks q (g := F0 m pc ls rest) rfl rfl rfl (cell := ce) (by rw [hT]; exact hcell) (by rw [hv]; rfl)
    (by obtain ⟨k9, h9, -⟩ := Vm.findClass_spec hcl; exact ⟨k9, h9⟩) (fun z hz => by
      rcases hpass z hz with h | ⟨hz0, nm, hl1, hn1⟩
      · exact Or.inl h
      · obtain ⟨c6, hc6, hcl6⟩ := Cond.classLink_spec hown hl1 e.platform hpl
        obtain ⟨a8, b8, h1, h2, h3⟩ := hn1
        cases Option.some.inj (h1.symm.trans hcl)
        cases Option.some.inj (h2.symm.trans hc6)
        exact Or.inr ⟨hz0, _, hcl6, h3⟩)
  obtain ⟨g₀, hfr⟩ := X'.frames_eq
  have hcell9 : ((T.setVm vm').setFrames (.throwing q :: below)).heap[q]? = some ce := by
    show T.heap[q]? = some ce
    rw [hT]; exact hcell
  have hend : Ended ((T.setVm vm').setFrames (.throwing q :: below)) below (.threw q) := State.frames_setFrames _ (State.cur_lt_of_frames hfr)
  refine ⟨(T.setVm vm').setFrames (.throwing q :: below), ?_, .threw q, X'.here.running, hend, Or.inr ⟨q, rfl, E, ce, locs, hx _ hT (X'.ends _).1.alike, hcell9, hv, hcl, (X'.ends _).1, (X'.ends _).2.mono hc hs, hf⟩⟩
  rw [X.pushThrowing_eq]
  exact st
/-- a thing of a world lies in the heap -/
theorem vx_lt {D : va_G} {cl : List vw_C} {ws : va_W} {H1 : Heap} (h : va_P D cl ws H1) {k : Nat} {q : Nat × va_E} (hk : ws[k]? = some q) : q.1 < H1.size := (h k q hk).lt
end VXS
/-! ===== END ===== -/
/-! ===== BEGIN methods with a table of their own: called by a name, returning or throwing ===== -/
section VXH
/-! vx_backW, vx_callVX, vx_callSX, vx_callVW, vx_runVW, vx_runVX, vx_runSX, vx_ofWH follow the same proofs as their sisters above (Free/Laws.lean, Shelf42/LK1.lean); vx_outP calls Shelf42/NT130.lean (outThrough). -/
section
variable {l : Launch} {R : Room} {p : Program} {e : Env} {below : List Frame} {s : State} {sargs : Array Value} {y : MethodName} {len W9 : Nat}
theorem vx_backW {ws : List Cond} {rm : Room} {Pc : Array Value → State → Prop} {Qc : Array Value → State → Outcome → State → Prop} {XC : String → State → State → Prop} {mc ms : Nat} {free : Addr → Prop} {bytes : ByteArray} {maxL : Nat} {ret : Option FieldType} {hh : List (Nat × Nat × Nat × Nat)}
    (hM : vx_Met l y ws rm Pc Qc XC mc ms free) (hblind : FrameBlind Pc) (hrc : rm.cells = mc) (hrs : rm.slots = ms)
    (hframes : rm.frames + 1 ≤ R.frames) (hlocals : W9 + (maxL + 11) + rm.locals ≤ R.locals)
    (hws : ∀ w ∈ ws, ∀ a' U, s.WarmedH U.vm → w.before a' U = true) (hcode : Cond.codeWith y bytes maxL ret hh ∈ ws) (hinit : ∀ a' U, s.WarmedH U.vm → (Cond.initialized y.cls).before a' U = true) :
    vx_Back l R p e below s sargs y len W9 (PreOf R mc ms Pc) (PostOf Qc mc ms free) (vx_Post XC mc ms free) := by
  intro m meth c A g ig mk a X hg hsize hdg hW hn hp
  have h1 : (headSpec ws rm).pre.before a A.U = true := atoms_intro fun w hw => hws w hw _ _ X.warmed
  have h2 : (Cond.codeWith y bytes maxL ret hh).before a A.U = true := hws _ hcode _ _ X.warmed
  have h3 : (Cond.initialized y.cls).before a A.U = true := hinit _ _ X.warmed
  have h4 : A.cells + (headSpec ws rm).room.cells ≤ R.cells := by rw [show (headSpec ws rm).room.cells = mc from hrc]; exact hp.1
  have h5 : A.slots + (headSpec ws rm).room.slots ≤ R.slots := by rw [show (headSpec ws rm).room.slots = ms from hrs]; exact hp.2.1
  have hPc : Pc a (A.U.calling g mk a) := hblind _ _ _ _ hp.2.2
  obtain ⟨U, Ls, c0, s0⟩ := A
  dsimp only [Pt.U, Pt.locs, Pt.cells, Pt.slots] at h1 h2 h3 h4 h5 X hn hPc ⊢
  obtain ⟨m9, methY, cY, hn9, hmY, hcY, -, hlY, -⟩ := Cond.codeWith_spec h2
  cases Option.some.inj (hn9.symm.trans hn)
  obtain ⟨kY, hkY, -⟩ := className_of_methodNamed hn
  have hinitY : kY.init = .initialized := Cond.initialized_spec (findClass_of_methodNamed hn) hkY h3
  have h : At U g.method c below := by rw [hg]; exact X.here
  have hlocals9 : W9 + (maxL + 11) + (headSpec ws rm).room.locals ≤ R.locals := hlocals
  have happ : (headSpec ws rm).appliesLoose y e.platform (U.calling g mk a) = true :=
    Spec.appliesLoose_calling (g := g) h hdg hn hkY hinitY
      (X.room_calling (g := g) (R' := (headSpec ws rm).room) hsize hmY hcY hframes (by rw [hlY]; omega) h4 h5) h1
  obtain ⟨mid, hmid⟩ := h.above
  have hfr : (U.setTop g).frames = (.java g :: mid) ++ below := by rw [State.frames_setTop' g h.top, hmid]; rfl
  obtain ⟨o, s₂, hsteps, -, hend, hq⟩ := Steps.callFree hM p X.admits X.cas X.clock (acts := []) hfr happ hPc trivial
  have hq' : vx_Q Qc XC mc ms free a (U.calling g mk a) o s₂ := hq
  rw [State.frames_setTop' g h.top] at hend
  obtain ⟨g₀, hg0⟩ := Option.isSome_iff_exists.mp h.top
  obtain ⟨r, hr⟩ := State.topJava?_eq_some.mp hg0
  have hr' : (({ U with heap := s₂.heap, slotsUsed := s₂.slotsUsed } : State).setVm s₂.vm).frames = .java g₀ :: r := hr
  rcases hq' with ⟨hqc, L, hfe, hL⟩ | ⟨q, rfl, E, ce, L, hx, hce, hcv, hcl, hW₂, hsm, hL⟩
  · obtain ⟨⟨v, rfl⟩, hW₂, e2, q2, q3, q4, q5, q6⟩ := id hfe
    have e3 : s₂ = ({ (U.calling g mk a).setFrames s₂.frames with heap := s₂.heap, slotsUsed := s₂.slotsUsed } : State).setVm s₂.vm := by
      have : s₂ = ({ s₂ with vm := (U.calling g mk a).vm } : State).setVm s₂.vm := rfl
      rw [e2] at this
      exact this
    obtain ⟨c₂, i₂, len₂, hc₂, hd₂, hf₂⟩ := hend
    have hW' : U.WarmedH s₂.vm := hW₂
    have hcc : c₂ = c := by
      have h1 : s₂.code? g.method = U.code? g.method := by
        rw [State.code?_eq, State.code?_eq, hW'.alike.method?]
      exact Option.some.inj (hc₂.symm.trans (h1.trans h.code))
    subst hcc
    have hlen : len₂ = len := by rw [hdg] at hd₂; cases hd₂; rfl
    subst hlen
    have hs₂ : s₂ = (({ U with heap := s₂.heap, slotsUsed := s₂.slotsUsed } : State).setVm s₂.vm).setTop { g with pc := g.pc + len₂, stack := v.toList ++ g.stack } := by
      refine e3.trans ?_
      rw [hf₂, State.calling_eq h.top, State.setFrames_setFrames, State.setTop_of_frames _ hr', hr]
      rfl
    have hsame : U.sameButNew ({ U with heap := s₂.heap, slotsUsed := s₂.slotsUsed } : State) L mc ms := by
      refine ⟨?_, q2, q3, q4, q5, q6⟩
      obtain ⟨t, ht, -⟩ := State.frames_cons hr
      show ({ U with heap := s₂.heap, slotsUsed := s₂.slotsUsed } : State) = { U.setFrames U.frames with heap := s₂.heap, slotsUsed := s₂.slotsUsed }
      rw [State.setFrames_self ht]
    subst hg
    refine Or.inl ⟨v, ⟨(({ U with heap := s₂.heap, slotsUsed := s₂.slotsUsed } : State).setVm s₂.vm), Ls ++ L, c0 + mc, s0 + ms⟩,
      ⟨X.admits, X.cas, X.clock, X.frames, X.room, X.hears, X.method, X.code, (X.here.setHeapUsed s₂.heap s₂.slotsUsed).setVm hW'.alike, X.tail, State.WarmedH.trans X.warmed hW', X.limits, X.bytes, X.same.trans (hsame.setVm s.vm)⟩,
      ⟨g, mk, s₂, L, rfl, rfl, hqc, rfl, hL, rfl, rfl⟩, ?_⟩
    show Steps p.tables e below _ ((({ U with heap := s₂.heap, slotsUsed := s₂.slotsUsed } : State).setVm s₂.vm).setTop { g with pc := g.pc + len₂, stack := v.toList ++ g.stack })
    rw [← hs₂]
    exact hsteps
  · obtain ⟨e2, q2, q3, q4, q5, q6⟩ := id hsm
    have e3 : s₂ = ({ (U.calling g mk a).setFrames s₂.frames with heap := s₂.heap, slotsUsed := s₂.slotsUsed } : State).setVm s₂.vm := by
      have : s₂ = ({ s₂ with vm := (U.calling g mk a).vm } : State).setVm s₂.vm := rfl
      rw [e2] at this
      exact this
    have hf₂ : s₂.frames = .throwing q :: .java g :: U.frames.tail := hend
    have hW' : U.WarmedH s₂.vm := hW₂
    have hs₂ : s₂ = ((({ U with heap := s₂.heap, slotsUsed := s₂.slotsUsed } : State).setVm s₂.vm).setTop g).pushFrame (.throwing q) := by
      refine e3.trans ?_
      rw [hf₂, State.calling_eq h.top, State.setFrames_setFrames, State.pushFrame, State.frames_setTop _ hr', State.setTop_of_frames _ hr', State.setFrames_setFrames, hr]
      rfl
    have hsame : U.sameButNew ({ U with heap := s₂.heap, slotsUsed := s₂.slotsUsed } : State) L mc ms := by
      refine ⟨?_, q2, q3, q4, q5, q6⟩
      obtain ⟨t, ht, -⟩ := State.frames_cons hr
      show ({ U with heap := s₂.heap, slotsUsed := s₂.slotsUsed } : State) = { U.setFrames U.frames with heap := s₂.heap, slotsUsed := s₂.slotsUsed }
      rw [State.setFrames_self ht]
    subst hg
    refine Or.inr ⟨q, ⟨(({ U with heap := s₂.heap, slotsUsed := s₂.slotsUsed } : State).setVm s₂.vm), Ls ++ L, c0 + mc, s0 + ms⟩,
      ⟨X.admits, X.cas, X.clock, X.frames, X.room, X.hears, X.method, X.code, (X.here.setHeapUsed s₂.heap s₂.slotsUsed).setVm hW'.alike, X.tail, State.WarmedH.trans X.warmed hW', X.limits, X.bytes, X.same.trans (hsame.setVm s.vm)⟩,
      ⟨g, mk, s₂, L, E, ce, rfl, rfl, hx, hce, hcv, hcl, rfl, hL, rfl, rfl⟩, ?_⟩
    show Steps p.tables e below _ (((({ U with heap := s₂.heap, slotsUsed := s₂.slotsUsed } : State).setVm s₂.vm).setTop g).pushFrame (.throwing q))
    rw [← hs₂]
    exact hsteps
end
variable {p : Program} {l : Launch} {e : Env} {R : Room} {s : State} {m : MethodId} {args : Array Value} {below : List Frame} {meth : Method} {c : Code} {T : State} {H : Heap} {locs : List Loc} {cells slots : Nat}
theorem vx_callVX (X : Stand p l e R s m args below meth c T locs cells slots) (hexec : p.tables.exec = Jvm.exec) {own C : String} {index : Nat} {y : MethodName} {bytes : ByteArray} {maxL : Nat} {ret : Option FieldType} {hh : List (Nat × Nat × Nat × Nat)}
    (hown : s.vm.findClass own = some m.cls) (hlink : (Cond.methodLink own index y).before args s = true) (hinst : (Cond.instanceMethod y).before args s = true) (hsel : (Cond.selects C y y).before args s = true)
    (hcode : (Cond.codeWith y bytes maxL ret hh).before args s = true) (hy : y.cls ≠ "java/lang/invoke/MethodHandle" ∧ y.cls ≠ "java/lang/invoke/VarHandle")
    {W9 : Nat} {Pre : Pt → Array Value → Prop} {Post : Pt → Array Value → Option Value → Pt → Prop} {PostX : Pt → Array Value → Addr → Pt → Prop} (hK : vx_Back l R p e below s args y 3 W9 Pre Post PostX)
    {b : Addr} {cellB : Cell} (hcell : T.heap[b]? = some cellB) (hobj : cellB.vm.isStatics = false) (hcls : s.vm.findClass C = some cellB.cls)
    {g : JFrame} (hg : g.method = m) (hsize : g.locals.size = c.maxLocals) {argsL rest : List Value} (hlen : ∀ sig, parseMethodDescriptor y.desc = some sig → argsL.length = sig.parameters.length)
    (hstack : g.stack = argsL.reverse ++ .ref b :: rest) (hW : 2 * g.monitorRoom + (rest.map fun v => v.category).sum ≤ W9) (hdg : decode c.code g.pc = .ok (.invokevirtual index, 3))
    (hpre : ∀ vm₁, s.WarmedH vm₁ → Pre ⟨T.setVm vm₁, locs, cells, slots⟩ (Value.ref b :: argsL).toArray) :
    (∃ (v : Option Value) (vm₁ : Vm) (B : Pt), s.WarmedH vm₁ ∧ Stand p l e R s m args below meth c B.U B.locs B.cells B.slots ∧ Post ⟨T.setVm vm₁, locs, cells, slots⟩ (Value.ref b :: argsL).toArray v B ∧
      ∀ target, Steps p.tables e below (B.U.setTop { g with pc := g.pc + 3, stack := v.toList ++ rest }) target → Steps p.tables e below (T.setTop g) target) ∨
    (∃ (q : Addr) (vm₁ : Vm) (B : Pt), s.WarmedH vm₁ ∧ Stand p l e R s m args below meth c B.U B.locs B.cells B.slots ∧ PostX ⟨T.setVm vm₁, locs, cells, slots⟩ (Value.ref b :: argsL).toArray q B ∧
      Steps p.tables e below (T.setTop g) ((B.U.setTop { g with stack := rest }).pushFrame (.throwing q))) := by
  obtain ⟨mk, methM, hnamed, hmethM, hstM, habM⟩ := Cond.instanceMethod_spec hinst
  obtain ⟨m8, methM', cM, hn8, hmethM', -, -, -, -, -, -, hsigM⟩ := Cond.codeWith_spec hcode
  cases Option.some.inj (hn8.symm.trans hnamed)
  cases hmethM.symm.trans hmethM'
  obtain ⟨c2, r2, m2, q1, q2, q3, q4, kP, hkP, hkPi⟩ := Cond.selects_spec hsel
  cases hcls.symm.trans q1
  cases (State.methodFound?_of_named hnamed hy).symm.trans q2
  cases hnamed.symm.trans q3
  have hselP : selectMethod e.platform s.vm cellB.cls mk = .method mk := by rw [Launch.admits_selectMethod X.admits]; exact q4
  obtain ⟨vm₁, X₁, hstep₁⟩ := X.invokevirtual hexec hown hlink hnamed hmethM hstM hkP hkPi hy (a := b) (cell := cellB) hcell
    (fun z h => by rw [h] at hobj; cases hobj) hselP hmethM habM hkP hkPi (g := g) hg (argsL := argsL) (rest := rest) (hlen _ hsigM) hstack hdg
  rcases hK m meth c ⟨T.setVm vm₁, locs, cells, slots⟩ { g with stack := rest } (.invokevirtual index) mk (Value.ref b :: argsL).toArray X₁ hg hsize hdg hW (X₁.named hnamed) (hpre vm₁ X₁.warmed) with ⟨v, B, X', hpost, hsteps⟩ | ⟨q, B, X', hpost, hsteps⟩
  · exact Or.inl ⟨v, vm₁, B, X₁.warmed, X', hpost, fun target h => hstep₁ _ fun acts => by rw [doInvoke_state]; exact hsteps.trans h⟩
  · exact Or.inr ⟨q, vm₁, B, X₁.warmed, X', hpost, hstep₁ _ fun acts => by rw [doInvoke_state]; exact hsteps⟩
theorem vx_callSX (X : Stand p l e R s m args below meth c T locs cells slots) (hexec : p.tables.exec = Jvm.exec) {own : String} {index : Nat} {y : MethodName} {bytes : ByteArray} {maxL : Nat} {ret : Option FieldType} {hh : List (Nat × Nat × Nat × Nat)}
    (hown : s.vm.findClass own = some m.cls) (hlink : (Cond.methodLink own index y).before args s = true) (hstat : (Cond.static y).before args s = true) (hinit : (Cond.initialized y.cls).before args s = true)
    (hcode : (Cond.codeWith y bytes maxL ret hh).before args s = true) (hy : y.cls ≠ "java/lang/invoke/MethodHandle" ∧ y.cls ≠ "java/lang/invoke/VarHandle")
    {W9 : Nat} {Pre : Pt → Array Value → Prop} {Post : Pt → Array Value → Option Value → Pt → Prop} {PostX : Pt → Array Value → Addr → Pt → Prop} (hK : vx_Back l R p e below s args y 3 W9 Pre Post PostX)
    {g : JFrame} (hg : g.method = m) (hsize : g.locals.size = c.maxLocals) {argsL rest : List Value} (hlen : ∀ sig, parseMethodDescriptor y.desc = some sig → argsL.length = sig.parameters.length)
    (hstack : g.stack = argsL.reverse ++ rest) (hW : 2 * g.monitorRoom + (rest.map fun v => v.category).sum ≤ W9) (hdg : decode c.code g.pc = .ok (.invokestatic index, 3))
    (hpre : ∀ vm₁, s.WarmedH vm₁ → Pre ⟨T.setVm vm₁, locs, cells, slots⟩ argsL.toArray) :
    (∃ (v : Option Value) (vm₁ : Vm) (B : Pt), s.WarmedH vm₁ ∧ Stand p l e R s m args below meth c B.U B.locs B.cells B.slots ∧ Post ⟨T.setVm vm₁, locs, cells, slots⟩ argsL.toArray v B ∧
      ∀ target, Steps p.tables e below (B.U.setTop { g with pc := g.pc + 3, stack := v.toList ++ rest }) target → Steps p.tables e below (T.setTop g) target) ∨
    (∃ (q : Addr) (vm₁ : Vm) (B : Pt), s.WarmedH vm₁ ∧ Stand p l e R s m args below meth c B.U B.locs B.cells B.slots ∧ PostX ⟨T.setVm vm₁, locs, cells, slots⟩ argsL.toArray q B ∧
      Steps p.tables e below (T.setTop g) ((B.U.setTop { g with stack := rest }).pushFrame (.throwing q))) := by
  obtain ⟨mk, methM, cM, hnamed, hmethM, -, -, -, -, -, -, hsigM⟩ := Cond.codeWith_spec hcode
  have hstatic : methM.isStatic = true := Cond.static_spec hnamed hmethM hstat
  obtain ⟨kP, hkP, -⟩ := className_of_methodNamed hnamed
  have hinitP : kP.init = .initialized := Cond.initialized_spec (findClass_of_methodNamed hnamed) hkP hinit
  obtain ⟨vm₁, X₁, hstep₁⟩ := X.invokestatic hexec hown hlink hnamed hmethM hstatic hkP hinitP hy (g := g) hg (argsL := argsL) (rest := rest) (hlen _ hsigM) hstack hdg
  rcases hK m meth c ⟨T.setVm vm₁, locs, cells, slots⟩ { g with stack := rest } (.invokestatic index) mk argsL.toArray X₁ hg hsize hdg hW (X₁.named hnamed) (hpre vm₁ X₁.warmed) with ⟨v, B, X', hpost, hsteps⟩ | ⟨q, B, X', hpost, hsteps⟩
  · exact Or.inl ⟨v, vm₁, B, X₁.warmed, X', hpost, fun target h => hstep₁ _ fun acts => by rw [doInvoke_state]; exact hsteps.trans h⟩
  · exact Or.inr ⟨q, vm₁, B, X₁.warmed, X', hpost, hstep₁ _ fun acts => by rw [doInvoke_state]; exact hsteps⟩
theorem vx_callVW (X : Stand p l e R s m args below meth c T locs cells slots) (hexec : p.tables.exec = Jvm.exec) {own C : String} {index : Nat} {y : MethodName} {bytes : ByteArray} {maxL : Nat} {ret : Option FieldType} {hh : List (Nat × Nat × Nat × Nat)}
    (hown : s.vm.findClass own = some m.cls) (hlink : (Cond.methodLink own index y).before args s = true) (hinst : (Cond.instanceMethod y).before args s = true) (hsel : (Cond.selects C y y).before args s = true)
    (hcode : (Cond.codeWith y bytes maxL ret hh).before args s = true) (hy : y.cls ≠ "java/lang/invoke/MethodHandle" ∧ y.cls ≠ "java/lang/invoke/VarHandle")
    {W9 : Nat} {Pre : Pt → Array Value → Prop} {Post : Pt → Array Value → Option Value → Pt → Prop} (hK : Back l R p e below s args y 3 W9 Pre Post)
    {b : Addr} {cellB : Cell} (hcell : T.heap[b]? = some cellB) (hobj : cellB.vm.isStatics = false) (hcls : s.vm.findClass C = some cellB.cls)
    {g : JFrame} (hg : g.method = m) (hsize : g.locals.size = c.maxLocals) {argsL rest : List Value} (hlen : ∀ sig, parseMethodDescriptor y.desc = some sig → argsL.length = sig.parameters.length)
    (hstack : g.stack = argsL.reverse ++ .ref b :: rest) (hW : 2 * g.monitorRoom + (rest.map fun v => v.category).sum ≤ W9) (hdg : decode c.code g.pc = .ok (.invokevirtual index, 3))
    (hpre : ∀ vm₁, s.WarmedH vm₁ → Pre ⟨T.setVm vm₁, locs, cells, slots⟩ (Value.ref b :: argsL).toArray) :
    ∃ (v : Option Value) (vm₁ : Vm) (B : Pt), s.WarmedH vm₁ ∧ Stand p l e R s m args below meth c B.U B.locs B.cells B.slots ∧ Post ⟨T.setVm vm₁, locs, cells, slots⟩ (Value.ref b :: argsL).toArray v B ∧
      ∀ target, Steps p.tables e below (B.U.setTop { g with pc := g.pc + 3, stack := v.toList ++ rest }) target → Steps p.tables e below (T.setTop g) target := by
  obtain ⟨mk, methM, hnamed, hmethM, hstM, habM⟩ := Cond.instanceMethod_spec hinst
  obtain ⟨m8, methM', cM, hn8, hmethM', -, -, -, -, -, -, hsigM⟩ := Cond.codeWith_spec hcode
  cases Option.some.inj (hn8.symm.trans hnamed)
  cases hmethM.symm.trans hmethM'
  obtain ⟨c2, r2, m2, q1, q2, q3, q4, kP, hkP, hkPi⟩ := Cond.selects_spec hsel
  cases hcls.symm.trans q1
  cases (State.methodFound?_of_named hnamed hy).symm.trans q2
  cases hnamed.symm.trans q3
  have hselP : selectMethod e.platform s.vm cellB.cls mk = .method mk := by rw [Launch.admits_selectMethod X.admits]; exact q4
  obtain ⟨vm₁, X₁, hstep₁⟩ := X.invokevirtual hexec hown hlink hnamed hmethM hstM hkP hkPi hy (a := b) (cell := cellB) hcell
    (fun z h => by rw [h] at hobj; cases hobj) hselP hmethM habM hkP hkPi (g := g) hg (argsL := argsL) (rest := rest) (hlen _ hsigM) hstack hdg
  obtain ⟨v, B, X', hpost, hsteps⟩ := hK m meth c ⟨T.setVm vm₁, locs, cells, slots⟩ { g with stack := rest } (.invokevirtual index) mk (Value.ref b :: argsL).toArray X₁ hg hsize hdg hW (X₁.named hnamed) (hpre vm₁ X₁.warmed)
  exact ⟨v, vm₁, B, X₁.warmed, X', hpost, fun target h => hstep₁ _ fun acts => by rw [doInvoke_state]; exact hsteps.trans h⟩
abbrev vx_CVW (R : Room) (s : State) (args : Array Value) (own C : String) (index : Nat) (y : MethodName) (bytes : ByteArray) (maxL : Nat) (ret : Option FieldType) (hh : List (Nat × Nat × Nat × Nat)) (ws : List Cond) (rm : Room) (mc ms n : Nat) : Prop :=
  (rm.cells = mc ∧ rm.slots = ms ∧ rm.frames + 1 ≤ R.frames ∧ 8 + (maxL + 11) + rm.locals ≤ R.locals ∧ (∀ w ∈ ws, ∀ (a' : Array Value) (U : State), s.WarmedH U.vm → w.before a' U = true) ∧ Cond.codeWith y bytes maxL ret hh ∈ ws) ∧
  (Cond.codeWith y bytes maxL ret hh).before args s = true ∧ (Cond.initialized y.cls).before args s = true ∧ (y.cls ≠ "java/lang/invoke/MethodHandle" ∧ y.cls ≠ "java/lang/invoke/VarHandle") ∧
  (∀ sig, parseMethodDescriptor y.desc = some sig → n = sig.parameters.length) ∧ (Cond.methodLink own index y).before args s = true ∧ (Cond.instanceMethod y).before args s = true ∧ (Cond.selects C y y).before args s = true
theorem vx_cwVW {own C : String} {index maxL mc ms : Nat} {y : MethodName} {bytes : ByteArray} {ret : Option FieldType} {hh : List (Nat × Nat × Nat × Nat)} {Ts ws ws' : List Cond} {rm : Room} (n : Nat) (ht : ∀ w ∈ Ts, w.before args s = true) (hT : GoodIn Ts (wsV own index C y ws)) (hw : ws = Cond.codeWith y bytes maxL ret hh :: ws') (hrc : rm.cells = mc) (hrs : rm.slots = ms)
    (hd : y.cls = C ∧ y.cls ≠ "java/lang/invoke/MethodHandle" ∧ y.cls ≠ "java/lang/invoke/VarHandle" ∧ (parseMethodDescriptor y.desc).map (fun d => d.parameters.length) = some n) (hR : rm.frames + 1 ≤ R.frames ∧ 8 + (maxL + 11) + rm.locals ≤ R.locals) :
    vx_CVW R s args own C index y bytes maxL ret hh ws rm mc ms n := by
  obtain ⟨hC, hd⟩ := hd
  subst hC
  have ok : ∀ w ∈ wsV own index y.cls y ws, w.before args s = true := fun w h => ht w (hT w h).1
  have hG : GoodIn Ts ws := fun w h => hT w (by unfold wsV; exact List.mem_append_right _ h)
  have hc : Cond.codeWith y bytes maxL ret hh ∈ ws := by rw [hw]; exact List.mem_cons_self
  refine ⟨⟨hrc, hrs, hR.1, hR.2, pay_in ht hG, hc⟩, ht _ (hG _ hc).1, ok _ (by simp [wsV]), ⟨hd.1, hd.2.1⟩, fun sig h => ?_, ok _ (by simp [wsV]), ok _ (by simp [wsV]), ok _ (by simp [wsV])⟩
  have h2 := hd.2.2
  rw [h] at h2
  exact (Option.some.inj h2).symm
theorem vx_runVW {y : MethodName} {bytes cc : ByteArray} {maxL nL mc ms n index : Nat} {ret : Option FieldType} {hh : List (Nat × Nat × Nat × Nat)} {ws : List Cond} {rm : Room} {Pc : Array Value → State → Prop} {Qc : Array Value → State → Outcome → State → Prop} {free : Addr → Prop} {Ts : List Cond} {own C : String} {b : Addr} {As rest : List Value} {g : JFrame}
    (S : CallFix p m c cc nL s args Ts own) (hM : Met l y ws rm Pc Qc mc ms free) (cw : vx_CVW R s args own C index y bytes maxL ret hh ws rm mc ms n) (hp : PreV s H C b Pc As)
    (hg : g.method = m) (hn : As.length = n) (hsize : g.locals.size = nL) (hstack : g.stack = As.reverse ++ .ref b :: rest) (hW : 2 * g.monitorRoom + (rest.map fun v => v.category).sum ≤ 8) (hdg : decode cc g.pc = .ok (.invokevirtual index, 3)) (hf : cells + mc ≤ R.cells ∧ slots + ms ≤ R.slots) :
    va_Run p l e R s m args below meth c H locs cells slots mc ms g rest (Qc (Value.ref b :: As).toArray) free := by
  obtain ⟨⟨hrc, hrs, hfr, hlo, hws, hcw⟩, hcode, hini, hy, hlen, hl, hin, hse⟩ := cw
  have hK : Back l R p e below s args y 3 8 (PreOf R mc ms Pc) (PostOf Qc mc ms free) := va_backW (hh := hh) (bytes := bytes) (maxL := maxL) (ret := ret) hM hp.1 hrc hrs hfr hlo hws hcw (fun a' U hW => word_at hW (Or.inl (by first | rfl | simp [Cond.onTables, Cond.keeps, Cond.steady])) hini)
  obtain ⟨hx, hb, hml, ho, -⟩ := S
  obtain ⟨-, ⟨cellB, hcB, hoB, hclB⟩, hPc⟩ := hp
  intro T hT X
  obtain ⟨v, vm₁, ⟨U', l2, c2, s2⟩, hW₁, X', ⟨g', mk, t, L, e1, e2, hq, h1, hL, h2, h3⟩, st⟩ := vx_callVW X hx (C := C) (hh := hh) (bytes := bytes) (maxL := maxL) (ret := ret) ho hl hin hse hcode hy hK (by rw [hT]; exact hcB) hoB hclB hg (hsize.trans hml.symm) (argsL := As) (rest := rest) (fun sig h => hn.trans (hlen sig h)) hstack hW (by rw [hb]; exact hdg)
    (fun vm₁ hW₁ => ⟨hf.1, hf.2, hPc (T.setVm vm₁) hT hW₁⟩)
  dsimp only [Pt.U, Pt.locs, Pt.cells, Pt.slots] at X' e1 e2 h1 h2 h3 st
  subst h1; subst h2; subst h3
  exact ⟨v, (T.setVm vm₁).calling g' mk (Value.ref b :: As).toArray, t, U', L, hT, X', hL, e1, e2, hq, st⟩
section
variable {y : MethodName} {bytes cc : ByteArray} {maxL nL mc ms n index : Nat} {ret : Option FieldType} {ws : List Cond} {rm : Room} {Pc : Array Value → State → Prop} {Qc : Array Value → State → Outcome → State → Prop} {XC : String → State → State → Prop} {free : Addr → Prop} {Ts : List Cond} {own C : String} {b : Addr} {As rest : List Value} {g : JFrame}
theorem vx_runVX {hh : List (Nat × Nat × Nat × Nat)} (S : CallFix p m c cc nL s args Ts own) (hM : vx_Met l y ws rm Pc Qc XC mc ms free) (cw : vx_CVW R s args own C index y bytes maxL ret hh ws rm mc ms n) (hp : PreV s H C b Pc As)
    (hg : g.method = m) (hn : As.length = n) (hsize : g.locals.size = nL) (hstack : g.stack = As.reverse ++ .ref b :: rest) (hW : 2 * g.monitorRoom + (rest.map fun v => v.category).sum ≤ 8) (hdg : decode cc g.pc = .ok (.invokevirtual index, 3)) (hf : cells + mc ≤ R.cells ∧ slots + ms ≤ R.slots) :
    vx_Run p l e R s m args below meth c H locs cells slots mc ms g rest (Qc (Value.ref b :: As).toArray) XC free := by
  obtain ⟨⟨hrc, hrs, hfr, hlo, hws, hcw⟩, hcode, hini, hy, hlen, hl, hin, hse⟩ := cw
  have hK : vx_Back l R p e below s args y 3 8 (PreOf R mc ms Pc) (PostOf Qc mc ms free) (vx_Post XC mc ms free) := vx_backW (hh := hh) (bytes := bytes) (maxL := maxL) (ret := ret) hM hp.1 hrc hrs hfr hlo hws hcw (fun a' U hW => word_at hW (Or.inl (by first | rfl | simp [Cond.onTables, Cond.keeps, Cond.steady])) hini)
  obtain ⟨hx, hb, hml, ho, -⟩ := S
  obtain ⟨-, ⟨cellB, hcB, hoB, hclB⟩, hPc⟩ := hp
  intro T hT X
  rcases vx_callVX X hx (C := C) (hh := hh) (bytes := bytes) (maxL := maxL) (ret := ret) ho hl hin hse hcode hy hK (by rw [hT]; exact hcB) hoB hclB hg (hsize.trans hml.symm) (argsL := As) (rest := rest) (fun sig h => hn.trans (hlen sig h)) hstack hW (by rw [hb]; exact hdg)
    (fun vm₁ hW₁ => ⟨hf.1, hf.2, hPc (T.setVm vm₁) hT hW₁⟩) with ⟨v, vm₁, ⟨U', l2, c2, s2⟩, hW₁, X', ⟨g', mk, t, L, e1, e2, hq, h1, hL, h2, h3⟩, st⟩ | ⟨q, vm₁, ⟨U', l2, c2, s2⟩, hW₁, X', ⟨g', mk, t, L, E, ce, e1, e2, hq, hce, hcv, hcl, h1, hL, h2, h3⟩, st⟩
  · dsimp only [Pt.U, Pt.locs, Pt.cells, Pt.slots] at X' e1 e2 h1 h2 h3 st
    subst h1; subst h2; subst h3
    exact Or.inl ⟨v, (T.setVm vm₁).calling g' mk (Value.ref b :: As).toArray, t, U', L, hT, X', hL, e1, e2, hq, st⟩
  · dsimp only [Pt.U, Pt.locs, Pt.cells, Pt.slots] at X' e1 e2 h1 h2 h3 st hcl
    subst h1; subst h2; subst h3
    exact Or.inr ⟨q, (T.setVm vm₁).calling g' mk (Value.ref b :: As).toArray, t, U', L, E, ce, hT, X', hL, e1, e2, hq, hce, hcv, vx_cls hW₁ hcl, st⟩
theorem vx_runSX {hh : List (Nat × Nat × Nat × Nat)} (S : CallFix p m c cc nL s args Ts own) (hM : vx_Met l y ws rm Pc Qc XC mc ms free) (cw : vx_CSW R s args own index y bytes maxL ret hh ws rm mc ms n) (hp : PreS s H Pc As)
    (hg : g.method = m) (hn : As.length = n) (hsize : g.locals.size = nL) (hstack : g.stack = As.reverse ++ rest) (hW : 2 * g.monitorRoom + (rest.map fun v => v.category).sum ≤ 8) (hdg : decode cc g.pc = .ok (.invokestatic index, 3)) (hf : cells + mc ≤ R.cells ∧ slots + ms ≤ R.slots) :
    vx_Run p l e R s m args below meth c H locs cells slots mc ms g rest (Qc As.toArray) XC free := by
  obtain ⟨⟨hrc, hrs, hfr, hlo, hws, hcw⟩, hcode, hini, hy, hlen, hl, hstt⟩ := cw
  have hK : vx_Back l R p e below s args y 3 8 (PreOf R mc ms Pc) (PostOf Qc mc ms free) (vx_Post XC mc ms free) := vx_backW (hh := hh) (bytes := bytes) (maxL := maxL) (ret := ret) hM hp.1 hrc hrs hfr hlo hws hcw (fun a' U hW => word_at hW (Or.inl (by first | rfl | simp [Cond.onTables, Cond.keeps, Cond.steady])) hini)
  obtain ⟨hx, hb, hml, ho, -⟩ := S
  intro T hT X
  rcases vx_callSX X hx (hh := hh) (bytes := bytes) (maxL := maxL) (ret := ret) ho hl hstt hini hcode hy hK hg (hsize.trans hml.symm) (argsL := As) (rest := rest) (fun sig h => hn.trans (hlen sig h)) hstack hW (by rw [hb]; exact hdg)
    (fun vm₁ hW₁ => ⟨hf.1, hf.2, hp.2 (T.setVm vm₁) hT hW₁⟩) with ⟨v, vm₁, ⟨U', l2, c2, s2⟩, hW₁, X', ⟨g', mk, t, L, e1, e2, hq, h1, hL, h2, h3⟩, st⟩ | ⟨q, vm₁, ⟨U', l2, c2, s2⟩, hW₁, X', ⟨g', mk, t, L, E, ce, e1, e2, hq, hce, hcv, hcl, h1, hL, h2, h3⟩, st⟩
  · dsimp only [Pt.U, Pt.locs, Pt.cells, Pt.slots] at X' e1 e2 h1 h2 h3 st
    subst h1; subst h2; subst h3
    exact Or.inl ⟨v, (T.setVm vm₁).calling g' mk As.toArray, t, U', L, hT, X', hL, e1, e2, hq, st⟩
  · dsimp only [Pt.U, Pt.locs, Pt.cells, Pt.slots] at X' e1 e2 h1 h2 h3 st hcl
    subst h1; subst h2; subst h3
    exact Or.inr ⟨q, (T.setVm vm₁).calling g' mk As.toArray, t, U', L, E, ce, hT, X', hL, e1, e2, hq, hce, hcv, vx_cls hW₁ hcl, st⟩
end
end VXH
theorem vx_ofWH {l : Launch} {y : MethodName} {ws ws' : List Cond} {rm : Room} {Pc : Array Value → State → Prop} {Qc : Array Value → State → Outcome → State → Prop} {XC : String → State → State → Prop} {mc ms : Nat} {free : Addr → Prop} {cc : ByteArray} {maxL : Nat} {ret : Option FieldType} {hh : List (Nat × Nat × Nat × Nat)}
    (hy : plainName y.cls = true) (hw : ws = Cond.codeWith y cc maxL ret hh :: ws')
    (body : ∀ p e s m args below meth c s₁, BodyLoose p l y (headSpec ws rm) cc maxL ret e s m args below meth c s₁ → c.maxLocals = maxL → Pc args s →
      W p l e (headSpec ws rm).room s m args below meth c s.heap [] 0 0 (vx_MQ below Qc XC args s mc ms free) (entryFrame m args maxL)) : vx_Met l y ws rm Pc Qc XC mc ms free := by
  refine MetFree.of_bodyS (code := cc) (maxLocals := maxL) (ret := ret) hy ?_ ?_
  · intro args s m h hn
    obtain ⟨m9, meth, c, hn9, h1, h2, h3, h4, -, h5, h6, -⟩ := Cond.codeWith_spec (atoms_spec (ws := ws) h _ (by rw [hw]; exact List.mem_cons_self))
    cases hn.symm.trans hn9
    exact ⟨meth, c, h1, h2, h3, h4, h5, h6⟩
  · intro p e s m args below meth c s₁ B hml hP _
    have hh0 : s₁.heap = s.heap := by rw [B.state]; rfl
    obtain ⟨t, a1, o, b1, b2, b3⟩ := body p e s m args below meth c s₁ B hml hP s₁ hh0 (Stand.of_body B)
    exact ⟨t, o, a1, b1, b2, b3⟩
/-! ===== END ===== -/
end
section
def R_PC : String := "PaxosCommit"
def T_PC : u_T := fun k => match k with
  | 0 => ("PaxosCommit", "stores", "[LPaxosCommit$Store;", true)
  | 1 => ("PaxosCommit", "acceptors", "[LPaxosCommit$Acceptor;", true)
  | 2 => ("PaxosCommit", "ledgers", "[LPaxosCommit$Ledger;", true)
  | 3 => ("PaxosCommit", "majority", "I", true)
  | 4 => ("PaxosCommit", "upSets", "[I", true)
  | 5 => ("PaxosCommit", "net", "LPaxosCommit$Net;", true)
  | 6 => ("PaxosCommit", "members", "[I", true)
  | 7 => ("PaxosCommit", "closed", "[Z", true)
  | _ => ("PaxosCommit", "begun", "I", false)
def t_PC : Nat → FieldType := fun k => match k with
  | 0 => (.array (.object "PaxosCommit$Store"))
  | 1 => (.array (.object "PaxosCommit$Acceptor"))
  | 2 => (.array (.object "PaxosCommit$Ledger"))
  | 3 => .int
  | 4 => (.array .int)
  | 5 => (.object "PaxosCommit$Net")
  | 6 => (.array .int)
  | 7 => (.array .boolean)
  | _ => .int
theorem n_PC : ∀ a, a < 9 → ∀ b, b < 9 → a ≠ b → (T_PC a).2.1 ≠ (T_PC b).2.1 := by decide +kernel
theorem t_PC_ok : ∀ k, k < 9 → parseFieldDescriptor (T_PC k).2.2.1 = some (t_PC k) := by decide +kernel
def R_Store : String := "PaxosCommit$Store"
def T_Store : u_T := fun k => match k with
  | 0 => ("PaxosCommit$Store", "values", "[I", true)
  | 1 => ("PaxosCommit$Store", "locks", "[I", true)
  | 2 => ("PaxosCommit$Store", "states", "[I", true)
  | 3 => ("PaxosCommit$Store", "written", "[I", true)
  | _ => ("PaxosCommit$Store", "writes", "[[I", true)
def t_Store : Nat → FieldType := fun k => match k with
  | 0 => (.array .int)
  | 1 => (.array .int)
  | 2 => (.array .int)
  | 3 => (.array .int)
  | _ => (.array (.array .int))
theorem n_Store : ∀ a, a < 5 → ∀ b, b < 5 → a ≠ b → (T_Store a).2.1 ≠ (T_Store b).2.1 := by decide +kernel
theorem t_Store_ok : ∀ k, k < 5 → parseFieldDescriptor (T_Store k).2.2.1 = some (t_Store k) := by decide +kernel
def R_Acc : String := "PaxosCommit$Acceptor"
def T_Acc : u_T := fun k => match k with
  | 0 => ("PaxosCommit$Acceptor", "promises", "[[I", true)
  | _ => ("PaxosCommit$Acceptor", "accepted", "[[I", true)
def t_Acc : Nat → FieldType := fun k => match k with
  | 0 => (.array (.array .int))
  | _ => (.array (.array .int))
theorem n_Acc : ∀ a, a < 2 → ∀ b, b < 2 → a ≠ b → (T_Acc a).2.1 ≠ (T_Acc b).2.1 := by decide +kernel
theorem t_Acc_ok : ∀ k, k < 2 → parseFieldDescriptor (T_Acc k).2.2.1 = some (t_Acc k) := by decide +kernel
def R_Led : String := "PaxosCommit$Ledger"
def T_Led : u_T := fun k => match k with
  | 0 => ("PaxosCommit$Ledger", "ballot", "I", false)
  | 1 => ("PaxosCommit$Ledger", "proposed", "Z", false)
  | 2 => ("PaxosCommit$Ledger", "known", "I", false)
  | 3 => ("PaxosCommit$Ledger", "hasReply", "[Z", true)
  | 4 => ("PaxosCommit$Ledger", "replies", "[[I", true)
  | _ => ("PaxosCommit$Ledger", "latest", "[[I", true)
def t_Led : Nat → FieldType := fun k => match k with
  | 0 => .int
  | 1 => .boolean
  | 2 => .int
  | 3 => (.array .boolean)
  | 4 => (.array (.array .int))
  | _ => (.array (.array .int))
theorem n_Led : ∀ a, a < 6 → ∀ b, b < 6 → a ≠ b → (T_Led a).2.1 ≠ (T_Led b).2.1 := by decide +kernel
theorem t_Led_ok : ∀ k, k < 6 → parseFieldDescriptor (T_Led k).2.2.1 = some (t_Led k) := by decide +kernel
def R_Msg : String := "PaxosCommit$Message"
def T_Msg : u_T := fun k => match k with
  | 0 => ("PaxosCommit$Message", "kind", "I", false)
  | 1 => ("PaxosCommit$Message", "transaction", "I", false)
  | 2 => ("PaxosCommit$Message", "store", "I", false)
  | 3 => ("PaxosCommit$Message", "acceptor", "I", false)
  | 4 => ("PaxosCommit$Message", "leader", "I", false)
  | 5 => ("PaxosCommit$Message", "ballot", "I", false)
  | 6 => ("PaxosCommit$Message", "vote", "I", false)
  | _ => ("PaxosCommit$Message", "replied", "[I", true)
def t_Msg : Nat → FieldType := fun k => match k with
  | 0 => .int
  | 1 => .int
  | 2 => .int
  | 3 => .int
  | 4 => .int
  | 5 => .int
  | 6 => .int
  | _ => (.array .int)
theorem n_Msg : ∀ a, a < 8 → ∀ b, b < 8 → a ≠ b → (T_Msg a).2.1 ≠ (T_Msg b).2.1 := by decide +kernel
theorem t_Msg_ok : ∀ k, k < 8 → parseFieldDescriptor (T_Msg k).2.2.1 = some (t_Msg k) := by decide +kernel
def R_Net : String := "PaxosCommit$Net"
def T_Net : u_T := fun k => match k with
  | 0 => ("PaxosCommit$Net", "row", "[LPaxosCommit$Message;", true)
  | 1 => ("PaxosCommit$Net", "size", "I", false)
  | 2 => ("PaxosCommit$Net", "overflowed", "I", false)
  | 3 => ("PaxosCommit$Net", "draft", "LPaxosCommit$Message;", true)
  | _ => ("PaxosCommit$Net", "hand", "LPaxosCommit$Message;", true)
def t_Net : Nat → FieldType := fun k => match k with
  | 0 => (.array (.object "PaxosCommit$Message"))
  | 1 => .int
  | 2 => .int
  | 3 => (.object "PaxosCommit$Message")
  | _ => (.object "PaxosCommit$Message")
theorem n_Net : ∀ a, a < 5 → ∀ b, b < 5 → a ≠ b → (T_Net a).2.1 ≠ (T_Net b).2.1 := by decide +kernel
theorem t_Net_ok : ∀ k, k < 5 → parseFieldDescriptor (T_Net k).2.2.1 = some (t_Net k) := by decide +kernel
def R_Mo : String := "PaxosCommitModel"
def T_Mo : u_T := fun k => match k with
  | 0 => ("PaxosCommitModel", "failed", "I", false)
  | 1 => ("PaxosCommitModel", "n", "I", true)
  | 2 => ("PaxosCommitModel", "storeDown", "[Z", true)
  | 3 => ("PaxosCommitModel", "acceptorDown", "[Z", true)
  | 4 => ("PaxosCommitModel", "leaderDown", "[Z", true)
  | 5 => ("PaxosCommitModel", "value", "[I", true)
  | 6 => ("PaxosCommitModel", "lock", "[I", true)
  | 7 => ("PaxosCommitModel", "transactions", "I", false)
  | 8 => ("PaxosCommitModel", "members", "[I", true)
  | 9 => ("PaxosCommitModel", "closed", "[Z", true)
  | 10 => ("PaxosCommitModel", "state", "[I", true)
  | 11 => ("PaxosCommitModel", "writes", "[I", true)
  | 12 => ("PaxosCommitModel", "written", "[I", true)
  | 13 => ("PaxosCommitModel", "promised", "[I", true)
  | 14 => ("PaxosCommitModel", "takenBallot", "[I", true)
  | 15 => ("PaxosCommitModel", "takenVote", "[I", true)
  | 16 => ("PaxosCommitModel", "ballot", "[I", true)
  | 17 => ("PaxosCommitModel", "proposed", "[Z", true)
  | 18 => ("PaxosCommitModel", "known", "[I", true)
  | 19 => ("PaxosCommitModel", "replied", "[Z", true)
  | 20 => ("PaxosCommitModel", "replyBallot", "[I", true)
  | 21 => ("PaxosCommitModel", "replyVote", "[I", true)
  | 22 => ("PaxosCommitModel", "latestBallot", "[I", true)
  | 23 => ("PaxosCommitModel", "latestVote", "[I", true)
  | 24 => ("PaxosCommitModel", "net", "[I", true)
  | 25 => ("PaxosCommitModel", "size", "I", false)
  | _ => ("PaxosCommitModel", "lost", "I", false)
def t_Mo : Nat → FieldType := fun k => match k with
  | 0 => .int
  | 1 => .int
  | 2 => (.array .boolean)
  | 3 => (.array .boolean)
  | 4 => (.array .boolean)
  | 5 => (.array .int)
  | 6 => (.array .int)
  | 7 => .int
  | 8 => (.array .int)
  | 9 => (.array .boolean)
  | 10 => (.array .int)
  | 11 => (.array .int)
  | 12 => (.array .int)
  | 13 => (.array .int)
  | 14 => (.array .int)
  | 15 => (.array .int)
  | 16 => (.array .int)
  | 17 => (.array .boolean)
  | 18 => (.array .int)
  | 19 => (.array .boolean)
  | 20 => (.array .int)
  | 21 => (.array .int)
  | 22 => (.array .int)
  | 23 => (.array .int)
  | 24 => (.array .int)
  | 25 => .int
  | _ => .int
theorem n_Mo : ∀ a, a < 27 → ∀ b, b < 27 → a ≠ b → (T_Mo a).2.1 ≠ (T_Mo b).2.1 := by decide +kernel
theorem t_Mo_ok : ∀ k, k < 27 → parseFieldDescriptor (T_Mo k).2.2.1 = some (t_Mo k) := by decide +kernel
def R_Law : String := "PaxosCommitLaw"
abbrev gcl : List vw_C := [(R_PC, T_PC, 9), (R_Store, T_Store, 5), (R_Acc, T_Acc, 2), (R_Led, T_Led, 6), (R_Msg, T_Msg, 8), (R_Net, T_Net, 5), (R_Mo, T_Mo, 27)]
abbrev iPC : Nat := 0
abbrev iStore : Nat := 1
abbrev iAcc : Nat := 2
abbrev iLed : Nat := 3
abbrev iMsg : Nat := 4
abbrev iNet : Nat := 5
abbrev iMo : Nat := 6
abbrev gclMsg : vw_C := (R_Msg, T_Msg, 8)
def R_Integer : String := "java/lang/Integer"
def R_Math : String := "java/lang/Math"
def R_Arrays : String := "java/util/Arrays"
abbrev b_Acc_accept : ByteArray := prog_2_method_4_code
def y_Acc_accept : MethodName := ⟨R_Acc, "accept", "(IIII)V"⟩
abbrev b_Acc_hasPromisedAbove : ByteArray := prog_2_method_2_code
def y_Acc_hasPromisedAbove : MethodName := ⟨R_Acc, "hasPromisedAbove", "(III)Z"⟩
abbrev b_Acc_init : ByteArray := prog_2_method_1_code
def y_Acc_init : MethodName := ⟨R_Acc, "<init>", "()V"⟩
abbrev b_Acc_promise : ByteArray := prog_2_method_3_code
def y_Acc_promise : MethodName := ⟨R_Acc, "promise", "(III)V"⟩
abbrev b_Arrays_fill : ByteArray := prog_25_method_103_code
def y_Arrays_fill : MethodName := ⟨R_Arrays, "fill", "([II)V"⟩
abbrev b_Integer_bitCount : ByteArray := prog_15_method_49_code
def y_Integer_bitCount : MethodName := ⟨R_Integer, "bitCount", "(I)I"⟩
abbrev b_Law_begin : ByteArray := method_3_code
def y_Law_begin : MethodName := ⟨R_Law, "begin", "(LPaxosCommit;[J)I"⟩
abbrev b_Law_cell : ByteArray := method_2_code
def y_Law_cell : MethodName := ⟨R_Law, "cell", "([II)I"⟩
abbrev b_Law_count : ByteArray := method_17_code
def y_Law_count : MethodName := ⟨R_Law, "count", "(LPaxosCommit;I[J)I"⟩
abbrev b_Law_deliver : ByteArray := method_8_code
def y_Law_deliver : MethodName := ⟨R_Law, "deliver", "(LPaxosCommit;IZ[J)I"⟩
abbrev b_Law_lock : ByteArray := method_13_code
def y_Law_lock : MethodName := ⟨R_Law, "lock", "(LPaxosCommit;II[J)I"⟩
abbrev b_Law_lose : ByteArray := method_9_code
def y_Law_lose : MethodName := ⟨R_Law, "lose", "(LPaxosCommit;I[J)I"⟩
abbrev b_Law_outcome : ByteArray := method_15_code
def y_Law_outcome : MethodName := ⟨R_Law, "outcome", "(LPaxosCommit;II[J)I"⟩
abbrev b_Law_refuse : ByteArray := method_6_code
def y_Law_refuse : MethodName := ⟨R_Law, "refuse", "(LPaxosCommit;II[J)I"⟩
abbrev b_Law_request : ByteArray := method_5_code
def y_Law_request : MethodName := ⟨R_Law, "request", "(LPaxosCommit;I[J)I"⟩
abbrev b_Law_state : ByteArray := method_14_code
def y_Law_state : MethodName := ⟨R_Law, "state", "(LPaxosCommit;II[J)I"⟩
abbrev b_Law_take : ByteArray := method_7_code
def y_Law_take : MethodName := ⟨R_Law, "take", "(LPaxosCommit;II[J)I"⟩
abbrev b_Law_taken : ByteArray := method_16_code
def y_Law_taken : MethodName := ⟨R_Law, "taken", "(LPaxosCommit;IIIZ[J)I"⟩
abbrev b_Law_text : ByteArray := method_11_code
def y_Law_text : MethodName := ⟨R_Law, "text", "(LPaxosCommit;II[J)I"⟩
abbrev b_Law_up : ByteArray := method_10_code
def y_Law_up : MethodName := ⟨R_Law, "up", "(LPaxosCommit;IIZ[J)I"⟩
abbrev b_Law_value : ByteArray := method_12_code
def y_Law_value : MethodName := ⟨R_Law, "value", "(LPaxosCommit;II[J)I"⟩
abbrev b_Law_write : ByteArray := method_4_code
def y_Law_write : MethodName := ⟨R_Law, "write", "(LPaxosCommit;IIII[J)I"⟩
abbrev b_Led_countReplies : ByteArray := prog_3_method_6_code
def y_Led_countReplies : MethodName := ⟨R_Led, "countReplies", "()I"⟩
abbrev b_Led_decidedVote : ByteArray := prog_3_method_10_code
def y_Led_decidedVote : MethodName := ⟨R_Led, "decidedVote", "(II)I"⟩
abbrev b_Led_dropReplies : ByteArray := prog_3_method_4_code
def y_Led_dropReplies : MethodName := ⟨R_Led, "dropReplies", "()V"⟩
abbrev b_Led_forget : ByteArray := prog_3_method_3_code
def y_Led_forget : MethodName := ⟨R_Led, "forget", "()V"⟩
abbrev b_Led_hear : ByteArray := prog_3_method_8_code
def y_Led_hear : MethodName := ⟨R_Led, "hear", "(IIII)V"⟩
abbrev b_Led_init : ByteArray := prog_3_method_1_code
def y_Led_init : MethodName := ⟨R_Led, "<init>", "(I)V"⟩
abbrev b_Led_judge : ByteArray := prog_3_method_9_code
def y_Led_judge : MethodName := ⟨R_Led, "judge", "(II)I"⟩
abbrev b_Led_keepReply : ByteArray := prog_3_method_5_code
def y_Led_keepReply : MethodName := ⟨R_Led, "keepReply", "(I[I)V"⟩
abbrev b_Led_raiseBallot : ByteArray := prog_3_method_2_code
def y_Led_raiseBallot : MethodName := ⟨R_Led, "raiseBallot", "(I)I"⟩
abbrev b_Led_voteToPropose : ByteArray := prog_3_method_7_code
def y_Led_voteToPropose : MethodName := ⟨R_Led, "voteToPropose", "(I)I"⟩
abbrev b_Math_floorMod : ByteArray := prog_16_method_50_code
def y_Math_floorMod : MethodName := ⟨R_Math, "floorMod", "(II)I"⟩
abbrev b_Mo_abort : ByteArray := prog_8_method_10_code
def y_Mo_abort : MethodName := ⟨R_Mo, "abort", "(II)V"⟩
abbrev b_Mo_accept : ByteArray := prog_8_method_21_code
def y_Mo_accept : MethodName := ⟨R_Mo, "accept", "(IIIII)V"⟩
abbrev b_Mo_arrive : ByteArray := prog_8_method_25_code
def y_Mo_arrive : MethodName := ⟨R_Mo, "arrive", "(I)V"⟩
abbrev b_Mo_ask : ByteArray := prog_8_method_18_code
def y_Mo_ask : MethodName := ⟨R_Mo, "ask", "(III)V"⟩
abbrev b_Mo_begin : ByteArray := prog_8_method_11_code
def y_Mo_begin : MethodName := ⟨R_Mo, "begin", "()I"⟩
abbrev b_Mo_count : ByteArray := prog_8_method_42_code
def y_Mo_count : MethodName := ⟨R_Mo, "count", "(I)I"⟩
abbrev b_Mo_decided : ByteArray := prog_8_method_22_code
def y_Mo_decided : MethodName := ⟨R_Mo, "decided", "(II)I"⟩
abbrev b_Mo_deliver : ByteArray := prog_8_method_27_code
def y_Mo_deliver : MethodName := ⟨R_Mo, "deliver", "(IZ)I"⟩
abbrev b_Mo_fail : ByteArray := prog_8_method_3_code
def y_Mo_fail : MethodName := ⟨R_Mo, "fail", "(I)I"⟩
abbrev b_Mo_finish : ByteArray := prog_8_method_24_code
def y_Mo_finish : MethodName := ⟨R_Mo, "finish", "(III)V"⟩
abbrev b_Mo_forget : ByteArray := prog_8_method_29_code
def y_Mo_forget : MethodName := ⟨R_Mo, "forget", "(I)V"⟩
abbrev b_Mo_init : ByteArray := prog_8_method_1_code
def y_Mo_init : MethodName := ⟨R_Mo, "<init>", "(I)V"⟩
abbrev b_Mo_lock : ByteArray := prog_8_method_37_code
def y_Mo_lock : MethodName := ⟨R_Mo, "lock", "(II)I"⟩
abbrev b_Mo_lose : ByteArray := prog_8_method_28_code
def y_Mo_lose : MethodName := ⟨R_Mo, "lose", "(I)I"⟩
abbrev b_Mo_member : ByteArray := prog_8_method_6_code
def y_Mo_member : MethodName := ⟨R_Mo, "member", "(II)Z"⟩
abbrev b_Mo_most : ByteArray := prog_8_method_5_code
def y_Mo_most : MethodName := ⟨R_Mo, "most", "()I"⟩
abbrev b_Mo_ones : ByteArray := prog_8_method_12_code
def y_Mo_ones : MethodName := ⟨R_Mo, "ones", "(I)I"⟩
abbrev b_Mo_out : ByteArray := prog_8_method_4_code
def y_Mo_out : MethodName := ⟨R_Mo, "out", "(II)Z"⟩
abbrev b_Mo_outcome : ByteArray := prog_8_method_39_code
def y_Mo_outcome : MethodName := ⟨R_Mo, "outcome", "(II)I"⟩
abbrev b_Mo_pass : ByteArray := prog_8_method_31_code
def y_Mo_pass : MethodName := ⟨R_Mo, "pass", "(II)I"⟩
abbrev b_Mo_passNumber : ByteArray := prog_8_method_32_code
def y_Mo_passNumber : MethodName := ⟨R_Mo, "passNumber", "(II)I"⟩
abbrev b_Mo_passPart : ByteArray := prog_8_method_33_code
def y_Mo_passPart : MethodName := ⟨R_Mo, "passPart", "(III)I"⟩
abbrev b_Mo_passVote : ByteArray := prog_8_method_34_code
def y_Mo_passVote : MethodName := ⟨R_Mo, "passVote", "(II)I"⟩
abbrev b_Mo_prepare : ByteArray := prog_8_method_17_code
def y_Mo_prepare : MethodName := ⟨R_Mo, "prepare", "(II)V"⟩
abbrev b_Mo_proposal : ByteArray := prog_8_method_19_code
def y_Mo_proposal : MethodName := ⟨R_Mo, "proposal", "(II)I"⟩
abbrev b_Mo_refuse : ByteArray := prog_8_method_15_code
def y_Mo_refuse : MethodName := ⟨R_Mo, "refuse", "(II)I"⟩
abbrev b_Mo_reply : ByteArray := prog_8_method_20_code
def y_Mo_reply : MethodName := ⟨R_Mo, "reply", "(IIIII)V"⟩
abbrev b_Mo_request : ByteArray := prog_8_method_14_code
def y_Mo_request : MethodName := ⟨R_Mo, "request", "(I)I"⟩
abbrev b_Mo_send : ByteArray := prog_8_method_7_code
def y_Mo_send : MethodName := ⟨R_Mo, "send", "(IIIIIII)Z"⟩
abbrev b_Mo_state : ByteArray := prog_8_method_38_code
def y_Mo_state : MethodName := ⟨R_Mo, "state", "(II)I"⟩
abbrev b_Mo_take : ByteArray := prog_8_method_16_code
def y_Mo_take : MethodName := ⟨R_Mo, "take", "(II)I"⟩
abbrev b_Mo_takeOut : ByteArray := prog_8_method_26_code
def y_Mo_takeOut : MethodName := ⟨R_Mo, "takeOut", "(IZ)V"⟩
abbrev b_Mo_taken : ByteArray := prog_8_method_40_code
def y_Mo_taken : MethodName := ⟨R_Mo, "taken", "(IIIZ)I"⟩
abbrev b_Mo_text : ByteArray := prog_8_method_35_code
def y_Mo_text : MethodName := ⟨R_Mo, "text", "(II)I"⟩
abbrev b_Mo_thrown : ByteArray := prog_8_method_2_code
def y_Mo_thrown : MethodName := ⟨R_Mo, "thrown", "()I"⟩
abbrev b_Mo_told : ByteArray := prog_8_method_23_code
def y_Mo_told : MethodName := ⟨R_Mo, "told", "(IIIIII)V"⟩
abbrev b_Mo_unlock : ByteArray := prog_8_method_9_code
def y_Mo_unlock : MethodName := ⟨R_Mo, "unlock", "(II)V"⟩
abbrev b_Mo_up : ByteArray := prog_8_method_30_code
def y_Mo_up : MethodName := ⟨R_Mo, "up", "(IIZ)Z"⟩
abbrev b_Mo_upSet : ByteArray := prog_8_method_41_code
def y_Mo_upSet : MethodName := ⟨R_Mo, "upSet", "([ZI)I"⟩
abbrev b_Mo_value : ByteArray := prog_8_method_36_code
def y_Mo_value : MethodName := ⟨R_Mo, "value", "(II)I"⟩
abbrev b_Mo_vote : ByteArray := prog_8_method_8_code
def y_Mo_vote : MethodName := ⟨R_Mo, "vote", "(IIII)V"⟩
abbrev b_Mo_write : ByteArray := prog_8_method_13_code
def y_Mo_write : MethodName := ⟨R_Mo, "write", "(IIII)I"⟩
abbrev b_Msg_clear : ByteArray := prog_4_method_2_code
def y_Msg_clear : MethodName := ⟨R_Msg, "clear", "(II)V"⟩
abbrev b_Msg_copyFrom : ByteArray := prog_4_method_3_code
def y_Msg_copyFrom : MethodName := ⟨R_Msg, "copyFrom", "(LPaxosCommit$Message;)V"⟩
abbrev b_Msg_init : ByteArray := prog_4_method_1_code
def y_Msg_init : MethodName := ⟨R_Msg, "<init>", "()V"⟩
abbrev b_Msg_receiver : ByteArray := prog_4_method_5_code
def y_Msg_receiver : MethodName := ⟨R_Msg, "receiver", "()I"⟩
abbrev b_Msg_receiverKind : ByteArray := prog_4_method_4_code
def y_Msg_receiverKind : MethodName := ⟨R_Msg, "receiverKind", "()I"⟩
abbrev b_Msg_spell : ByteArray := prog_4_method_6_code
def y_Msg_spell : MethodName := ⟨R_Msg, "spell", "(Ljava/lang/StringBuilder;)V"⟩
abbrev b_Msg_spellPart : ByteArray := prog_4_method_7_code
def y_Msg_spellPart : MethodName := ⟨R_Msg, "spellPart", "(Ljava/lang/StringBuilder;CI)V"⟩
abbrev b_Msg_spellReplied : ByteArray := prog_4_method_8_code
def y_Msg_spellReplied : MethodName := ⟨R_Msg, "spellReplied", "(Ljava/lang/StringBuilder;I)V"⟩
abbrev b_Net_compose : ByteArray := prog_5_method_2_code
def y_Net_compose : MethodName := ⟨R_Net, "compose", "(II)LPaxosCommit$Message;"⟩
abbrev b_Net_init : ByteArray := prog_5_method_1_code
def y_Net_init : MethodName := ⟨R_Net, "<init>", "()V"⟩
abbrev b_Net_pick : ByteArray := prog_5_method_4_code
def y_Net_pick : MethodName := ⟨R_Net, "pick", "(I)LPaxosCommit$Message;"⟩
abbrev b_Net_remove : ByteArray := prog_5_method_5_code
def y_Net_remove : MethodName := ⟨R_Net, "remove", "(I)V"⟩
abbrev b_Net_send : ByteArray := prog_5_method_3_code
def y_Net_send : MethodName := ⟨R_Net, "send", "(LPaxosCommit$Message;)V"⟩
abbrev b_PC_arrive : ByteArray := prog_1_method_27_code
def y_PC_arrive : MethodName := ⟨R_PC, "arrive", "(LPaxosCommit$Message;)V"⟩
abbrev b_PC_arriveAsk : ByteArray := prog_1_method_29_code
def y_PC_arriveAsk : MethodName := ⟨R_PC, "arriveAsk", "(LPaxosCommit$Message;)V"⟩
abbrev b_PC_arriveOutcome : ByteArray := prog_1_method_33_code
def y_PC_arriveOutcome : MethodName := ⟨R_PC, "arriveOutcome", "(LPaxosCommit$Message;)V"⟩
abbrev b_PC_arrivePrepare : ByteArray := prog_1_method_28_code
def y_PC_arrivePrepare : MethodName := ⟨R_PC, "arrivePrepare", "(LPaxosCommit$Message;)V"⟩
abbrev b_PC_arriveReply : ByteArray := prog_1_method_30_code
def y_PC_arriveReply : MethodName := ⟨R_PC, "arriveReply", "(LPaxosCommit$Message;)V"⟩
abbrev b_PC_arriveTold : ByteArray := prog_1_method_32_code
def y_PC_arriveTold : MethodName := ⟨R_PC, "arriveTold", "(LPaxosCommit$Message;)V"⟩
abbrev b_PC_arriveVote : ByteArray := prog_1_method_31_code
def y_PC_arriveVote : MethodName := ⟨R_PC, "arriveVote", "(LPaxosCommit$Message;)V"⟩
abbrev b_PC_ballotOf : ByteArray := prog_1_method_41_code
def y_PC_ballotOf : MethodName := ⟨R_PC, "ballotOf", "(I)I"⟩
abbrev b_PC_begin : ByteArray := prog_1_method_2_code
def y_PC_begin : MethodName := ⟨R_PC, "begin", "()I"⟩
abbrev b_PC_checkBegun : ByteArray := prog_1_method_18_code
def y_PC_checkBegun : MethodName := ⟨R_PC, "checkBegun", "(I)V"⟩
abbrev b_PC_checkMessage : ByteArray := prog_1_method_20_code
def y_PC_checkMessage : MethodName := ⟨R_PC, "checkMessage", "(I)V"⟩
abbrev b_PC_checkRange : ByteArray := prog_1_method_17_code
def y_PC_checkRange : MethodName := ⟨R_PC, "checkRange", "(II)V"⟩
abbrev b_PC_checkUp : ByteArray := prog_1_method_19_code
def y_PC_checkUp : MethodName := ⟨R_PC, "checkUp", "(II)V"⟩
abbrev b_PC_count : ByteArray := prog_1_method_16_code
def y_PC_count : MethodName := ⟨R_PC, "count", "(I)I"⟩
abbrev b_PC_deliver : ByteArray := prog_1_method_7_code
def y_PC_deliver : MethodName := ⟨R_PC, "deliver", "(IZ)I"⟩
abbrev b_PC_has : ByteArray := prog_1_method_21_code
def y_PC_has : MethodName := ⟨R_PC, "has", "(II)Z"⟩
abbrev b_PC_howMany : ByteArray := prog_1_method_24_code
def y_PC_howMany : MethodName := ⟨R_PC, "howMany", "(I)I"⟩
abbrev b_PC_init : ByteArray := prog_1_method_1_code
def y_PC_init : MethodName := ⟨R_PC, "<init>", "(I)V"⟩
abbrev b_PC_ledger : ByteArray := prog_1_method_25_code
def y_PC_ledger : MethodName := ⟨R_PC, "ledger", "(II)LPaxosCommit$Ledger;"⟩
abbrev b_PC_lock : ByteArray := prog_1_method_12_code
def y_PC_lock : MethodName := ⟨R_PC, "lock", "(II)I"⟩
abbrev b_PC_lose : ByteArray := prog_1_method_8_code
def y_PC_lose : MethodName := ⟨R_PC, "lose", "(I)I"⟩
abbrev b_PC_outcome : ByteArray := prog_1_method_14_code
def y_PC_outcome : MethodName := ⟨R_PC, "outcome", "(II)I"⟩
abbrev b_PC_pack : ByteArray := prog_1_method_40_code
def y_PC_pack : MethodName := ⟨R_PC, "pack", "(II)I"⟩
abbrev b_PC_refuse : ByteArray := prog_1_method_5_code
def y_PC_refuse : MethodName := ⟨R_PC, "refuse", "(II)I"⟩
abbrev b_PC_request : ByteArray := prog_1_method_4_code
def y_PC_request : MethodName := ⟨R_PC, "request", "(I)I"⟩
abbrev b_PC_sendAsks : ByteArray := prog_1_method_37_code
def y_PC_sendAsks : MethodName := ⟨R_PC, "sendAsks", "(II)V"⟩
abbrev b_PC_sendOutcomes : ByteArray := prog_1_method_34_code
def y_PC_sendOutcomes : MethodName := ⟨R_PC, "sendOutcomes", "(II)V"⟩
abbrev b_PC_sendReply : ByteArray := prog_1_method_38_code
def y_PC_sendReply : MethodName := ⟨R_PC, "sendReply", "(III)V"⟩
abbrev b_PC_sendToStore : ByteArray := prog_1_method_35_code
def y_PC_sendToStore : MethodName := ⟨R_PC, "sendToStore", "(IIII)V"⟩
abbrev b_PC_sendTold : ByteArray := prog_1_method_39_code
def y_PC_sendTold : MethodName := ⟨R_PC, "sendTold", "(LPaxosCommit$Message;I)V"⟩
abbrev b_PC_sendVotes : ByteArray := prog_1_method_36_code
def y_PC_sendVotes : MethodName := ⟨R_PC, "sendVotes", "(IIII)V"⟩
abbrev b_PC_state : ByteArray := prog_1_method_13_code
def y_PC_state : MethodName := ⟨R_PC, "state", "(II)I"⟩
abbrev b_PC_stop : ByteArray := prog_1_method_26_code
def y_PC_stop : MethodName := ⟨R_PC, "stop", "(II)V"⟩
abbrev b_PC_take : ByteArray := prog_1_method_6_code
def y_PC_take : MethodName := ⟨R_PC, "take", "(II)I"⟩
abbrev b_PC_taken : ByteArray := prog_1_method_15_code
def y_PC_taken : MethodName := ⟨R_PC, "taken", "(IIIZ)I"⟩
abbrev b_PC_text : ByteArray := prog_1_method_10_code
def y_PC_text : MethodName := ⟨R_PC, "text", "(II)I"⟩
abbrev b_PC_up : ByteArray := prog_1_method_9_code
def y_PC_up : MethodName := ⟨R_PC, "up", "(IIZ)Z"⟩
abbrev b_PC_value : ByteArray := prog_1_method_11_code
def y_PC_value : MethodName := ⟨R_PC, "value", "(II)I"⟩
abbrev b_PC_voteOf : ByteArray := prog_1_method_42_code
def y_PC_voteOf : MethodName := ⟨R_PC, "voteOf", "(I)I"⟩
abbrev b_PC_with : ByteArray := prog_1_method_22_code
def y_PC_with : MethodName := ⟨R_PC, "with", "(II)I"⟩
abbrev b_PC_without : ByteArray := prog_1_method_23_code
def y_PC_without : MethodName := ⟨R_PC, "without", "(II)I"⟩
abbrev b_PC_write : ByteArray := prog_1_method_3_code
def y_PC_write : MethodName := ⟨R_PC, "write", "(IIII)I"⟩
abbrev b_Store_abort : ByteArray := prog_6_method_7_code
def y_Store_abort : MethodName := ⟨R_Store, "abort", "(I)V"⟩
abbrev b_Store_abortWork : ByteArray := prog_6_method_8_code
def y_Store_abortWork : MethodName := ⟨R_Store, "abortWork", "()V"⟩
abbrev b_Store_commit : ByteArray := prog_6_method_6_code
def y_Store_commit : MethodName := ⟨R_Store, "commit", "(I)V"⟩
abbrev b_Store_init : ByteArray := prog_6_method_1_code
def y_Store_init : MethodName := ⟨R_Store, "<init>", "()V"⟩
abbrev b_Store_isLockedByAnother : ByteArray := prog_6_method_2_code
def y_Store_isLockedByAnother : MethodName := ⟨R_Store, "isLockedByAnother", "(II)Z"⟩
abbrev b_Store_isOpenFor : ByteArray := prog_6_method_3_code
def y_Store_isOpenFor : MethodName := ⟨R_Store, "isOpenFor", "(I)Z"⟩
abbrev b_Store_keep : ByteArray := prog_6_method_4_code
def y_Store_keep : MethodName := ⟨R_Store, "keep", "(III)V"⟩
abbrev b_Store_keysWritten : ByteArray := prog_6_method_5_code
def y_Store_keysWritten : MethodName := ⟨R_Store, "keysWritten", "(I)I"⟩
abbrev b_Store_unlock : ByteArray := prog_6_method_9_code
def y_Store_unlock : MethodName := ⟨R_Store, "unlock", "(I)V"⟩
def WS : List Cond := lw_tbl.filter goodWord
theorem WS_good : WS.all goodWord = true := List.all_eq_true.mpr fun _ h => (List.mem_filter.mp h).2
abbrev NWf : List (String × Nat × String × String × String × String) := [(R_PC, 239, "PaxosCommit$Message", "kind", "I", "PaxosCommit"), (R_PC, 263, "PaxosCommit$Message", "transaction", "I", "PaxosCommit"), (R_PC, 260, "PaxosCommit$Message", "store", "I", "PaxosCommit"), (R_PC, 266, "PaxosCommit$Message", "acceptor", "I", "PaxosCommit"), (R_PC, 282, "PaxosCommit$Message", "leader", "I", "PaxosCommit"), (R_PC, 269, "PaxosCommit$Message", "ballot", "I", "PaxosCommit"), (R_PC, 303, "PaxosCommit$Message", "vote", "I", "PaxosCommit"), (R_PC, 290, "PaxosCommit$Message", "replied", "[I", "PaxosCommit"), (R_PC, 174, "PaxosCommit$Net", "row", "[LPaxosCommit$Message;", "PaxosCommit"), (R_PC, 154, "PaxosCommit$Net", "size", "I", "PaxosCommit"), (R_PC, 210, "PaxosCommit$Net", "overflowed", "I", "PaxosCommit"), (R_PC, 192, "PaxosCommit$Store", "values", "[I", "PaxosCommit"), (R_PC, 195, "PaxosCommit$Store", "locks", "[I", "PaxosCommit"), (R_PC, 117, "PaxosCommit$Store", "states", "[I", "PaxosCommit"), (R_PC, 203, "PaxosCommit$Acceptor", "promises", "[[I", "PaxosCommit"), (R_PC, 207, "PaxosCommit$Acceptor", "accepted", "[[I", "PaxosCommit"), (R_PC, 285, "PaxosCommit$Ledger", "ballot", "I", "PaxosCommit"), (R_PC, 286, "PaxosCommit$Ledger", "proposed", "Z", "PaxosCommit"), (R_PC, 198, "PaxosCommit$Ledger", "known", "I", "PaxosCommit")]
abbrev NWm : List (String × Nat × MethodName × String) := [(R_Net, 24, y_Msg_init, "PaxosCommit"), (R_Store, 35, y_PC_with, "PaxosCommit"), (R_Acc, 25, y_PC_has, "PaxosCommit"), (R_Led, 49, y_PC_ballotOf, "PaxosCommit"), (R_Led, 53, y_PC_voteOf, "PaxosCommit"), (R_Acc, 29, y_PC_pack, "PaxosCommit"), (R_Led, 56, y_PC_pack, "PaxosCommit"), (R_Led, 59, y_PC_has, "PaxosCommit"), (R_Store, 45, y_PC_has, "PaxosCommit"), (R_Msg, 78, y_PC_ballotOf, "PaxosCommit"), (R_Msg, 82, y_PC_voteOf, "PaxosCommit")]
theorem kf_0 : (R_PC, 239, "PaxosCommit$Message", "kind", "I", "PaxosCommit") ∈ NWf := List.mem_of_getElem? (i := 0) rfl
theorem kf_1 : (R_PC, 263, "PaxosCommit$Message", "transaction", "I", "PaxosCommit") ∈ NWf := List.mem_of_getElem? (i := 1) rfl
theorem kf_2 : (R_PC, 260, "PaxosCommit$Message", "store", "I", "PaxosCommit") ∈ NWf := List.mem_of_getElem? (i := 2) rfl
theorem kf_3 : (R_PC, 266, "PaxosCommit$Message", "acceptor", "I", "PaxosCommit") ∈ NWf := List.mem_of_getElem? (i := 3) rfl
theorem kf_4 : (R_PC, 282, "PaxosCommit$Message", "leader", "I", "PaxosCommit") ∈ NWf := List.mem_of_getElem? (i := 4) rfl
theorem kf_5 : (R_PC, 269, "PaxosCommit$Message", "ballot", "I", "PaxosCommit") ∈ NWf := List.mem_of_getElem? (i := 5) rfl
theorem kf_6 : (R_PC, 303, "PaxosCommit$Message", "vote", "I", "PaxosCommit") ∈ NWf := List.mem_of_getElem? (i := 6) rfl
theorem kf_7 : (R_PC, 290, "PaxosCommit$Message", "replied", "[I", "PaxosCommit") ∈ NWf := List.mem_of_getElem? (i := 7) rfl
theorem kf_8 : (R_PC, 174, "PaxosCommit$Net", "row", "[LPaxosCommit$Message;", "PaxosCommit") ∈ NWf := List.mem_of_getElem? (i := 8) rfl
theorem kf_9 : (R_PC, 154, "PaxosCommit$Net", "size", "I", "PaxosCommit") ∈ NWf := List.mem_of_getElem? (i := 9) rfl
theorem kf_10 : (R_PC, 210, "PaxosCommit$Net", "overflowed", "I", "PaxosCommit") ∈ NWf := List.mem_of_getElem? (i := 10) rfl
theorem kf_11 : (R_PC, 192, "PaxosCommit$Store", "values", "[I", "PaxosCommit") ∈ NWf := List.mem_of_getElem? (i := 11) rfl
theorem kf_12 : (R_PC, 195, "PaxosCommit$Store", "locks", "[I", "PaxosCommit") ∈ NWf := List.mem_of_getElem? (i := 12) rfl
theorem kf_13 : (R_PC, 117, "PaxosCommit$Store", "states", "[I", "PaxosCommit") ∈ NWf := List.mem_of_getElem? (i := 13) rfl
theorem kf_14 : (R_PC, 203, "PaxosCommit$Acceptor", "promises", "[[I", "PaxosCommit") ∈ NWf := List.mem_of_getElem? (i := 14) rfl
theorem kf_15 : (R_PC, 207, "PaxosCommit$Acceptor", "accepted", "[[I", "PaxosCommit") ∈ NWf := List.mem_of_getElem? (i := 15) rfl
theorem kf_16 : (R_PC, 285, "PaxosCommit$Ledger", "ballot", "I", "PaxosCommit") ∈ NWf := List.mem_of_getElem? (i := 16) rfl
theorem kf_17 : (R_PC, 286, "PaxosCommit$Ledger", "proposed", "Z", "PaxosCommit") ∈ NWf := List.mem_of_getElem? (i := 17) rfl
theorem kf_18 : (R_PC, 198, "PaxosCommit$Ledger", "known", "I", "PaxosCommit") ∈ NWf := List.mem_of_getElem? (i := 18) rfl
theorem km_0 : (R_Net, 24, y_Msg_init, "PaxosCommit") ∈ NWm := List.mem_of_getElem? (i := 0) rfl
theorem km_1 : (R_Store, 35, y_PC_with, "PaxosCommit") ∈ NWm := List.mem_of_getElem? (i := 1) rfl
theorem km_2 : (R_Acc, 25, y_PC_has, "PaxosCommit") ∈ NWm := List.mem_of_getElem? (i := 2) rfl
theorem km_3 : (R_Led, 49, y_PC_ballotOf, "PaxosCommit") ∈ NWm := List.mem_of_getElem? (i := 3) rfl
theorem km_4 : (R_Led, 53, y_PC_voteOf, "PaxosCommit") ∈ NWm := List.mem_of_getElem? (i := 4) rfl
theorem km_5 : (R_Acc, 29, y_PC_pack, "PaxosCommit") ∈ NWm := List.mem_of_getElem? (i := 5) rfl
theorem km_6 : (R_Led, 56, y_PC_pack, "PaxosCommit") ∈ NWm := List.mem_of_getElem? (i := 6) rfl
theorem km_7 : (R_Led, 59, y_PC_has, "PaxosCommit") ∈ NWm := List.mem_of_getElem? (i := 7) rfl
theorem km_8 : (R_Store, 45, y_PC_has, "PaxosCommit") ∈ NWm := List.mem_of_getElem? (i := 8) rfl
theorem km_9 : (R_Msg, 78, y_PC_ballotOf, "PaxosCommit") ∈ NWm := List.mem_of_getElem? (i := 9) rfl
theorem km_10 : (R_Msg, 82, y_PC_voteOf, "PaxosCommit") ∈ NWm := List.mem_of_getElem? (i := 10) rfl
theorem i_PC : ∀ w ∈ u_ws R_PC T_PC 9, w ∈ WS := by
  have e : u_ws R_PC T_PC 9 = [.laysFinal R_PC "PaxosCommit" "stores" "[LPaxosCommit$Store;", .laysFinal R_PC "PaxosCommit" "acceptors" "[LPaxosCommit$Acceptor;", .laysFinal R_PC "PaxosCommit" "ledgers" "[LPaxosCommit$Ledger;", .laysFinal R_PC "PaxosCommit" "majority" "I", .laysFinal R_PC "PaxosCommit" "upSets" "[I", .laysFinal R_PC "PaxosCommit" "net" "LPaxosCommit$Net;", .laysFinal R_PC "PaxosCommit" "members" "[I", .laysFinal R_PC "PaxosCommit" "closed" "[Z", .lays R_PC "PaxosCommit" "begun" "I"] := by decide +kernel
  rw [e]
  intro w h
  simp only [List.mem_cons, List.not_mem_nil, or_false] at h
  rcases h with rfl | rfl | rfl | rfl | rfl | rfl | rfl | rfl | rfl
  · exact List.mem_filter.mpr ⟨List.mem_append_right _ (List.mem_of_getElem? (i := 191) (by decide +kernel)), by decide +kernel⟩
  · exact List.mem_filter.mpr ⟨List.mem_append_right _ (List.mem_of_getElem? (i := 193) (by decide +kernel)), by decide +kernel⟩
  · exact List.mem_filter.mpr ⟨List.mem_append_right _ (List.mem_of_getElem? (i := 195) (by decide +kernel)), by decide +kernel⟩
  · exact List.mem_filter.mpr ⟨List.mem_append_right _ (List.mem_of_getElem? (i := 197) (by decide +kernel)), by decide +kernel⟩
  · exact List.mem_filter.mpr ⟨List.mem_append_right _ (List.mem_of_getElem? (i := 199) (by decide +kernel)), by decide +kernel⟩
  · exact List.mem_filter.mpr ⟨List.mem_append_right _ (List.mem_of_getElem? (i := 201) (by decide +kernel)), by decide +kernel⟩
  · exact List.mem_filter.mpr ⟨List.mem_append_right _ (List.mem_of_getElem? (i := 203) (by decide +kernel)), by decide +kernel⟩
  · exact List.mem_filter.mpr ⟨List.mem_append_right _ (List.mem_of_getElem? (i := 205) (by decide +kernel)), by decide +kernel⟩
  · exact List.mem_filter.mpr ⟨List.mem_append_right _ (List.mem_of_getElem? (i := 207) (by decide +kernel)), by decide +kernel⟩
theorem i_Store : ∀ w ∈ u_ws R_Store T_Store 5, w ∈ WS := by
  have e : u_ws R_Store T_Store 5 = [.laysFinal R_Store "PaxosCommit$Store" "values" "[I", .laysFinal R_Store "PaxosCommit$Store" "locks" "[I", .laysFinal R_Store "PaxosCommit$Store" "states" "[I", .laysFinal R_Store "PaxosCommit$Store" "written" "[I", .laysFinal R_Store "PaxosCommit$Store" "writes" "[[I"] := by decide +kernel
  rw [e]
  intro w h
  simp only [List.mem_cons, List.not_mem_nil, or_false] at h
  rcases h with rfl | rfl | rfl | rfl | rfl
  · exact List.mem_filter.mpr ⟨List.mem_append_right _ (List.mem_of_getElem? (i := 125) (by decide +kernel)), by decide +kernel⟩
  · exact List.mem_filter.mpr ⟨List.mem_append_right _ (List.mem_of_getElem? (i := 127) (by decide +kernel)), by decide +kernel⟩
  · exact List.mem_filter.mpr ⟨List.mem_append_right _ (List.mem_of_getElem? (i := 129) (by decide +kernel)), by decide +kernel⟩
  · exact List.mem_filter.mpr ⟨List.mem_append_right _ (List.mem_of_getElem? (i := 131) (by decide +kernel)), by decide +kernel⟩
  · exact List.mem_filter.mpr ⟨List.mem_append_right _ (List.mem_of_getElem? (i := 133) (by decide +kernel)), by decide +kernel⟩
theorem i_Acc : ∀ w ∈ u_ws R_Acc T_Acc 2, w ∈ WS := by
  have e : u_ws R_Acc T_Acc 2 = [.laysFinal R_Acc "PaxosCommit$Acceptor" "promises" "[[I", .laysFinal R_Acc "PaxosCommit$Acceptor" "accepted" "[[I"] := by decide +kernel
  rw [e]
  intro w h
  simp only [List.mem_cons, List.not_mem_nil, or_false] at h
  rcases h with rfl | rfl
  · exact List.mem_filter.mpr ⟨List.mem_append_right _ (List.mem_of_getElem? (i := 148) (by decide +kernel)), by decide +kernel⟩
  · exact List.mem_filter.mpr ⟨List.mem_append_right _ (List.mem_of_getElem? (i := 150) (by decide +kernel)), by decide +kernel⟩
theorem i_Led : ∀ w ∈ u_ws R_Led T_Led 6, w ∈ WS := by
  have e : u_ws R_Led T_Led 6 = [.lays R_Led "PaxosCommit$Ledger" "ballot" "I", .lays R_Led "PaxosCommit$Ledger" "proposed" "Z", .lays R_Led "PaxosCommit$Ledger" "known" "I", .laysFinal R_Led "PaxosCommit$Ledger" "hasReply" "[Z", .laysFinal R_Led "PaxosCommit$Ledger" "replies" "[[I", .laysFinal R_Led "PaxosCommit$Ledger" "latest" "[[I"] := by decide +kernel
  rw [e]
  intro w h
  simp only [List.mem_cons, List.not_mem_nil, or_false] at h
  rcases h with rfl | rfl | rfl | rfl | rfl | rfl
  · exact List.mem_filter.mpr ⟨List.mem_append_right _ (List.mem_of_getElem? (i := 169) (by decide +kernel)), by decide +kernel⟩
  · exact List.mem_filter.mpr ⟨List.mem_append_right _ (List.mem_of_getElem? (i := 171) (by decide +kernel)), by decide +kernel⟩
  · exact List.mem_filter.mpr ⟨List.mem_append_right _ (List.mem_of_getElem? (i := 173) (by decide +kernel)), by decide +kernel⟩
  · exact List.mem_filter.mpr ⟨List.mem_append_right _ (List.mem_of_getElem? (i := 175) (by decide +kernel)), by decide +kernel⟩
  · exact List.mem_filter.mpr ⟨List.mem_append_right _ (List.mem_of_getElem? (i := 177) (by decide +kernel)), by decide +kernel⟩
  · exact List.mem_filter.mpr ⟨List.mem_append_right _ (List.mem_of_getElem? (i := 179) (by decide +kernel)), by decide +kernel⟩
theorem i_Msg : ∀ w ∈ u_ws R_Msg T_Msg 8, w ∈ WS := by
  have e : u_ws R_Msg T_Msg 8 = [.lays R_Msg "PaxosCommit$Message" "kind" "I", .lays R_Msg "PaxosCommit$Message" "transaction" "I", .lays R_Msg "PaxosCommit$Message" "store" "I", .lays R_Msg "PaxosCommit$Message" "acceptor" "I", .lays R_Msg "PaxosCommit$Message" "leader" "I", .lays R_Msg "PaxosCommit$Message" "ballot" "I", .lays R_Msg "PaxosCommit$Message" "vote" "I", .laysFinal R_Msg "PaxosCommit$Message" "replied" "[I"] := by decide +kernel
  rw [e]
  intro w h
  simp only [List.mem_cons, List.not_mem_nil, or_false] at h
  rcases h with rfl | rfl | rfl | rfl | rfl | rfl | rfl | rfl
  · exact List.mem_filter.mpr ⟨List.mem_append_right _ (List.mem_of_getElem? (i := 68) (by decide +kernel)), by decide +kernel⟩
  · exact List.mem_filter.mpr ⟨List.mem_append_right _ (List.mem_of_getElem? (i := 70) (by decide +kernel)), by decide +kernel⟩
  · exact List.mem_filter.mpr ⟨List.mem_append_right _ (List.mem_of_getElem? (i := 72) (by decide +kernel)), by decide +kernel⟩
  · exact List.mem_filter.mpr ⟨List.mem_append_right _ (List.mem_of_getElem? (i := 74) (by decide +kernel)), by decide +kernel⟩
  · exact List.mem_filter.mpr ⟨List.mem_append_right _ (List.mem_of_getElem? (i := 76) (by decide +kernel)), by decide +kernel⟩
  · exact List.mem_filter.mpr ⟨List.mem_append_right _ (List.mem_of_getElem? (i := 78) (by decide +kernel)), by decide +kernel⟩
  · exact List.mem_filter.mpr ⟨List.mem_append_right _ (List.mem_of_getElem? (i := 80) (by decide +kernel)), by decide +kernel⟩
  · exact List.mem_filter.mpr ⟨List.mem_append_right _ (List.mem_of_getElem? (i := 82) (by decide +kernel)), by decide +kernel⟩
theorem i_Net : ∀ w ∈ u_ws R_Net T_Net 5, w ∈ WS := by
  have e : u_ws R_Net T_Net 5 = [.laysFinal R_Net "PaxosCommit$Net" "row" "[LPaxosCommit$Message;", .lays R_Net "PaxosCommit$Net" "size" "I", .lays R_Net "PaxosCommit$Net" "overflowed" "I", .laysFinal R_Net "PaxosCommit$Net" "draft" "LPaxosCommit$Message;", .laysFinal R_Net "PaxosCommit$Net" "hand" "LPaxosCommit$Message;"] := by decide +kernel
  rw [e]
  intro w h
  simp only [List.mem_cons, List.not_mem_nil, or_false] at h
  rcases h with rfl | rfl | rfl | rfl | rfl
  · exact List.mem_filter.mpr ⟨List.mem_append_right _ (List.mem_of_getElem? (i := 94) (by decide +kernel)), by decide +kernel⟩
  · exact List.mem_filter.mpr ⟨List.mem_append_right _ (List.mem_of_getElem? (i := 96) (by decide +kernel)), by decide +kernel⟩
  · exact List.mem_filter.mpr ⟨List.mem_append_right _ (List.mem_of_getElem? (i := 98) (by decide +kernel)), by decide +kernel⟩
  · exact List.mem_filter.mpr ⟨List.mem_append_right _ (List.mem_of_getElem? (i := 100) (by decide +kernel)), by decide +kernel⟩
  · exact List.mem_filter.mpr ⟨List.mem_append_right _ (List.mem_of_getElem? (i := 102) (by decide +kernel)), by decide +kernel⟩
theorem i_Mo : ∀ w ∈ u_ws R_Mo T_Mo 27, w ∈ WS := by
  have e : u_ws R_Mo T_Mo 27 = [.lays R_Mo "PaxosCommitModel" "failed" "I", .laysFinal R_Mo "PaxosCommitModel" "n" "I", .laysFinal R_Mo "PaxosCommitModel" "storeDown" "[Z", .laysFinal R_Mo "PaxosCommitModel" "acceptorDown" "[Z", .laysFinal R_Mo "PaxosCommitModel" "leaderDown" "[Z", .laysFinal R_Mo "PaxosCommitModel" "value" "[I", .laysFinal R_Mo "PaxosCommitModel" "lock" "[I", .lays R_Mo "PaxosCommitModel" "transactions" "I", .laysFinal R_Mo "PaxosCommitModel" "members" "[I", .laysFinal R_Mo "PaxosCommitModel" "closed" "[Z", .laysFinal R_Mo "PaxosCommitModel" "state" "[I", .laysFinal R_Mo "PaxosCommitModel" "writes" "[I", .laysFinal R_Mo "PaxosCommitModel" "written" "[I", .laysFinal R_Mo "PaxosCommitModel" "promised" "[I", .laysFinal R_Mo "PaxosCommitModel" "takenBallot" "[I", .laysFinal R_Mo "PaxosCommitModel" "takenVote" "[I", .laysFinal R_Mo "PaxosCommitModel" "ballot" "[I", .laysFinal R_Mo "PaxosCommitModel" "proposed" "[Z", .laysFinal R_Mo "PaxosCommitModel" "known" "[I", .laysFinal R_Mo "PaxosCommitModel" "replied" "[Z", .laysFinal R_Mo "PaxosCommitModel" "replyBallot" "[I", .laysFinal R_Mo "PaxosCommitModel" "replyVote" "[I", .laysFinal R_Mo "PaxosCommitModel" "latestBallot" "[I", .laysFinal R_Mo "PaxosCommitModel" "latestVote" "[I", .laysFinal R_Mo "PaxosCommitModel" "net" "[I", .lays R_Mo "PaxosCommitModel" "size" "I", .lays R_Mo "PaxosCommitModel" "lost" "I"] := by decide +kernel
  rw [e]
  intro w h
  simp only [List.mem_cons, List.not_mem_nil, or_false] at h
  rcases h with rfl | rfl | rfl | rfl | rfl | rfl | rfl | rfl | rfl | rfl | rfl | rfl | rfl | rfl | rfl | rfl | rfl | rfl | rfl | rfl | rfl | rfl | rfl | rfl | rfl | rfl | rfl
  · exact List.mem_filter.mpr ⟨List.mem_append_right _ (List.mem_of_getElem? (i := 939) (by decide +kernel)), by decide +kernel⟩
  · exact List.mem_filter.mpr ⟨List.mem_append_right _ (List.mem_of_getElem? (i := 941) (by decide +kernel)), by decide +kernel⟩
  · exact List.mem_filter.mpr ⟨List.mem_append_right _ (List.mem_of_getElem? (i := 943) (by decide +kernel)), by decide +kernel⟩
  · exact List.mem_filter.mpr ⟨List.mem_append_right _ (List.mem_of_getElem? (i := 945) (by decide +kernel)), by decide +kernel⟩
  · exact List.mem_filter.mpr ⟨List.mem_append_right _ (List.mem_of_getElem? (i := 947) (by decide +kernel)), by decide +kernel⟩
  · exact List.mem_filter.mpr ⟨List.mem_append_right _ (List.mem_of_getElem? (i := 949) (by decide +kernel)), by decide +kernel⟩
  · exact List.mem_filter.mpr ⟨List.mem_append_right _ (List.mem_of_getElem? (i := 951) (by decide +kernel)), by decide +kernel⟩
  · exact List.mem_filter.mpr ⟨List.mem_append_right _ (List.mem_of_getElem? (i := 953) (by decide +kernel)), by decide +kernel⟩
  · exact List.mem_filter.mpr ⟨List.mem_append_right _ (List.mem_of_getElem? (i := 955) (by decide +kernel)), by decide +kernel⟩
  · exact List.mem_filter.mpr ⟨List.mem_append_right _ (List.mem_of_getElem? (i := 957) (by decide +kernel)), by decide +kernel⟩
  · exact List.mem_filter.mpr ⟨List.mem_append_right _ (List.mem_of_getElem? (i := 959) (by decide +kernel)), by decide +kernel⟩
  · exact List.mem_filter.mpr ⟨List.mem_append_right _ (List.mem_of_getElem? (i := 961) (by decide +kernel)), by decide +kernel⟩
  · exact List.mem_filter.mpr ⟨List.mem_append_right _ (List.mem_of_getElem? (i := 963) (by decide +kernel)), by decide +kernel⟩
  · exact List.mem_filter.mpr ⟨List.mem_append_right _ (List.mem_of_getElem? (i := 965) (by decide +kernel)), by decide +kernel⟩
  · exact List.mem_filter.mpr ⟨List.mem_append_right _ (List.mem_of_getElem? (i := 967) (by decide +kernel)), by decide +kernel⟩
  · exact List.mem_filter.mpr ⟨List.mem_append_right _ (List.mem_of_getElem? (i := 969) (by decide +kernel)), by decide +kernel⟩
  · exact List.mem_filter.mpr ⟨List.mem_append_right _ (List.mem_of_getElem? (i := 971) (by decide +kernel)), by decide +kernel⟩
  · exact List.mem_filter.mpr ⟨List.mem_append_right _ (List.mem_of_getElem? (i := 973) (by decide +kernel)), by decide +kernel⟩
  · exact List.mem_filter.mpr ⟨List.mem_append_right _ (List.mem_of_getElem? (i := 975) (by decide +kernel)), by decide +kernel⟩
  · exact List.mem_filter.mpr ⟨List.mem_append_right _ (List.mem_of_getElem? (i := 977) (by decide +kernel)), by decide +kernel⟩
  · exact List.mem_filter.mpr ⟨List.mem_append_right _ (List.mem_of_getElem? (i := 979) (by decide +kernel)), by decide +kernel⟩
  · exact List.mem_filter.mpr ⟨List.mem_append_right _ (List.mem_of_getElem? (i := 981) (by decide +kernel)), by decide +kernel⟩
  · exact List.mem_filter.mpr ⟨List.mem_append_right _ (List.mem_of_getElem? (i := 983) (by decide +kernel)), by decide +kernel⟩
  · exact List.mem_filter.mpr ⟨List.mem_append_right _ (List.mem_of_getElem? (i := 985) (by decide +kernel)), by decide +kernel⟩
  · exact List.mem_filter.mpr ⟨List.mem_append_right _ (List.mem_of_getElem? (i := 987) (by decide +kernel)), by decide +kernel⟩
  · exact List.mem_filter.mpr ⟨List.mem_append_right _ (List.mem_of_getElem? (i := 989) (by decide +kernel)), by decide +kernel⟩
  · exact List.mem_filter.mpr ⟨List.mem_append_right _ (List.mem_of_getElem? (i := 991) (by decide +kernel)), by decide +kernel⟩
end
section
/-! What a state IS: every cell has a number; gad says where it lies; d says what it holds (d cell place). -/
abbrev DD : Type := Nat → Nat → Int32
/-- the tables' numbers; the classes of arrays; the addresses; where the world begins; how many acceptors -/
abbrev GT : Type := va_G × (Nat → ClassId) × (Nat → Nat) × Nat × Nat
abbrev gC (G : GT) (k : Nat) : ClassId := G.2.1 k
abbrev gad (G : GT) (c : Nat) : Nat := G.2.2.1 c
abbrev gbase (G : GT) : Nat := G.2.2.2.1
abbrev gn (G : GT) : Nat := G.2.2.2.2
abbrev gAb (G : GT) : Nat → Prop := fun q => gbase G ≤ q
def GOK (G : GT) : Prop := gn G ≤ 3 ∧ 1 ≤ gn G
def up2 (d : DD) (c k : Nat) (v : Int32) : DD := fun c' k' => if c' = c ∧ k' = k then v else d c' k'
abbrev aI (cA : ClassId) (n : Nat) (f : Nat → Int32) : va_E := .inl (cA, n, .inl f)
abbrev aJ (cA : ClassId) (n : Nat) (f : Nat → Int64) : va_E := .inl (cA, n, .inr (.inl f))
abbrev aR (cA : ClassId) (n : Nat) (f : Nat → Option Nat) : va_E := .inl (cA, n, .inr (.inr (.inr (.inr f))))
def f_cp3 (d : DD) (ca cb n : Nat) : DD := fun c k => if c = cb ∧ k < n then d ca k else d c k
def fsPC (G : GT) (r : Nat → Int32) : List Value := [.ref (gad G 1), .ref (gad G 2), .ref (gad G 3), .int (r 3), .ref (gad G 4), .ref (gad G 5), .ref (gad G 6), .ref (gad G 7), .int (r 8)]
def fsNet (G : GT) (r : Nat → Int32) : List Value := [.ref (gad G 8), .int (r 1), .int (r 2), .ref (gad G 480), .ref (gad G 481)]
def ec (G : GT) (c : Nat) (r : Nat → Int32) : va_E :=
  if c < 1 then .inr (iPC, fsPC G r) else
  if c < 2 then aR (gC G 4) 3 (fun j => some (gad G (j + 10))) else
  if c < 3 then aR (gC G 5) (gn G) (fun j => some (gad G (j + 100))) else
  if c < 4 then aR (gC G 6) 16 (fun j => some (gad G (j + 200))) else
  if c < 5 then aI (gC G 0) 3 r else
  if c < 6 then .inr (iNet, fsNet G r) else
  if c < 7 then aI (gC G 0) 8 r else
  if c < 8 then aI (gC G 1) 8 r else
  if c < 9 then aR (gC G 7) 60 (fun j => some (gad G ((r j).toNatClampNeg + 420))) else
  if c < 10 then aJ (gC G 2) 1 (fun j => (r j).toInt64) else
  if c < 20 then .inr (iStore, [.ref (gad G (c + 10)), .ref (gad G (c + 20)), .ref (gad G (c + 30)), .ref (gad G (c + 40)), .ref (gad G (c + 50))]) else
  if c < 30 then aI (gC G 0) 4 r else
  if c < 40 then aI (gC G 0) 4 r else
  if c < 50 then aI (gC G 0) 8 r else
  if c < 60 then aI (gC G 0) 8 r else
  if c < 70 then aR (gC G 3) 8 (fun j => some (gad G (8 * (c - 60) + j + 70))) else
  if c < 100 then aI (gC G 0) 4 r else
  if c < 110 then .inr (iAcc, [.ref (gad G (c + 10)), .ref (gad G (c + 20))]) else
  if c < 120 then aR (gC G 3) 8 (fun j => some (gad G (8 * (c - 110) + j + 130))) else
  if c < 130 then aR (gC G 3) 8 (fun j => some (gad G (8 * (c - 120) + j + 160))) else
  if c < 160 then aI (gC G 0) 3 r else
  if c < 200 then aI (gC G 0) 3 r else
  if c < 220 then .inr (iLed, [.int (r 0), .int (r 1), .int (r 2), .ref (gad G (c + 20)), .ref (gad G (c + 40)), .ref (gad G (c + 60))]) else
  if c < 240 then aI (gC G 1) (gn G) r else
  if c < 260 then aR (gC G 3) (gn G) (fun j => some (gad G (4 * (c - 240) + j + 280))) else
  if c < 280 then aR (gC G 3) (gn G) (fun j => some (gad G (4 * (c - 260) + j + 350))) else
  if c < 350 then aI (gC G 0) 3 r else
  if c < 420 then aI (gC G 0) 3 r else
  if c < 490 then .inr (iMsg, [.int (r 0), .int (r 1), .int (r 2), .int (r 3), .int (r 4), .int (r 5), .int (r 6), .ref (gad G (c + 70))]) else
  if c < 600 then aI (gC G 0) 3 r else
  aI (gC G 0) 0 r
def en (G : GT) (d : DD) (c : Nat) : va_E := ec G c (d c)
def okc (n c : Nat) : Prop := c = 0 ∨ c = 1 ∨ c = 2 ∨ c = 3 ∨ c = 4 ∨ c = 5 ∨ c = 6 ∨ c = 7 ∨ c = 8 ∨ c = 9 ∨ (10 ≤ c ∧ c < 13) ∨ (20 ≤ c ∧ c < 23) ∨ (30 ≤ c ∧ c < 33) ∨ (40 ≤ c ∧ c < 43) ∨ (50 ≤ c ∧ c < 53) ∨ (60 ≤ c ∧ c < 63) ∨ (70 ≤ c ∧ c < 94) ∨ (100 ≤ c ∧ c < 100 + n) ∨ (110 ≤ c ∧ c < 110 + n) ∨ (120 ≤ c ∧ c < 120 + n) ∨ (130 ≤ c ∧ c < 130 + 8 * n) ∨ (160 ≤ c ∧ c < 160 + 8 * n) ∨ (200 ≤ c ∧ c < 216) ∨ (220 ≤ c ∧ c < 236) ∨ (240 ≤ c ∧ c < 256) ∨ (260 ≤ c ∧ c < 276) ∨ (280 ≤ c ∧ c < 344 ∧ (c - 280) % 4 < n) ∨ (350 ≤ c ∧ c < 414 ∧ (c - 350) % 4 < n) ∨ (420 ≤ c ∧ c < 482) ∨ (490 ≤ c ∧ c < 552)
noncomputable def Cs (G : GT) : List Nat := (List.range 900).filter (fun c => @decide (okc (gn G) c) (Classical.propDecidable _))
theorem mem_Cs {G : GT} {c : Nat} (h1 : c < 900) (h2 : okc (gn G) c) : c ∈ Cs G := List.mem_filter.mpr ⟨List.mem_range.mpr h1, @decide_eq_true _ (Classical.propDecidable _) h2⟩
noncomputable def wl (G : GT) (d : DD) : va_W := (Cs G).map (fun c => (gad G c, en G d c))
def tys (G : GT) : List (ClassId × FieldType) := [(gC G 0, .int), (gC G 1, .boolean), (gC G 2, .long), (gC G 3, .array .int), (gC G 4, .object "PaxosCommit$Store"), (gC G 5, .object "PaxosCommit$Acceptor"), (gC G 6, .object "PaxosCommit$Ledger"), (gC G 7, .object "PaxosCommit$Message")]
def WD (G : GT) (H0 : Heap) (d : DD) (H : Heap) (locs : List Loc) : Prop := va_P G.1 gcl (wl G d) H ∧ va_D (gAb G) (wl G d) ∧ va_S (gAb G) H0 H locs
/-- what kind of cell a number is -/
def IA (G : GT) (cn n : Nat) : Prop := cn ∈ Cs G ∧ n < 2 ^ 31 ∧ ∀ r : Nat → Int32, ec G cn r = aI (gC G 0) n r
def ZA (G : GT) (cn n : Nat) : Prop := cn ∈ Cs G ∧ n < 2 ^ 31 ∧ ∀ r : Nat → Int32, ec G cn r = aI (gC G 1) n r
def JA (G : GT) (cn n : Nat) : Prop := cn ∈ Cs G ∧ n < 2 ^ 31 ∧ ∀ r : Nat → Int32, ec G cn r = aJ (gC G 2) n (fun j => (r j).toInt64)
def QA (G : GT) (cn n t0 : Nat) (C : String) (f : (Nat → Int32) → Nat → Nat) : Prop := cn ∈ Cs G ∧ n < 2 ^ 31 ∧ (tys G)[t0]? = some (gC G t0, .object C) ∧ ∀ r : Nat → Int32, ec G cn r = aR (gC G t0) n (fun j => some (gad G (f r j)))
def AA (G : GT) (cn n : Nat) (f : Nat → Nat) : Prop := cn ∈ Cs G ∧ n < 2 ^ 31 ∧ ∀ r : Nat → Int32, ec G cn r = aR (gC G 3) n (fun j => some (gad G (f j)))
def OB (G : GT) (cn ci : Nat) (fs : (Nat → Int32) → List Value) : Prop := cn ∈ Cs G ∧ ∀ r : Nat → Int32, ec G cn r = .inr (ci, fs r)
theorem F_PC (G : GT) (hG : GOK G)  : OB G (0) iPC (fsPC G) := by
  have h7 := hG.1
  have hm : 0 ∈ Cs G := mem_Cs (by omega) (Or.inl (by omega))
  exact ⟨hm, fun r => by
    unfold ec
    rw [if_pos (show 0 < 1 by omega)]⟩
theorem F_Stores (G : GT) (hG : GOK G)  : QA G (1) (3) 4 "PaxosCommit$Store" (fun _ j => j + 10) := by
  have h7 := hG.1
  have hm : 1 ∈ Cs G := mem_Cs (by omega) (Or.inr (Or.inl (by omega)))
  exact ⟨hm, by decide, rfl, fun r => by
    unfold ec
    rw [if_neg (show ¬ 1 < 1 by omega), if_pos (show 1 < 2 by omega)]⟩
theorem F_Accs (G : GT) (hG : GOK G)  : QA G (2) (gn G) 5 "PaxosCommit$Acceptor" (fun _ j => j + 100) := by
  have h7 := hG.1
  have hm : 2 ∈ Cs G := mem_Cs (by omega) (Or.inr (Or.inr (Or.inl (by omega))))
  exact ⟨hm, by omega, rfl, fun r => by
    unfold ec
    rw [if_neg (show ¬ 2 < 1 by omega), if_neg (show ¬ 2 < 2 by omega), if_pos (show 2 < 3 by omega)]⟩
theorem F_Leds (G : GT) (hG : GOK G)  : QA G (3) (16) 6 "PaxosCommit$Ledger" (fun _ j => j + 200) := by
  have h7 := hG.1
  have hm : 3 ∈ Cs G := mem_Cs (by omega) (Or.inr (Or.inr (Or.inr (Or.inl (by omega)))))
  exact ⟨hm, by decide, rfl, fun r => by
    unfold ec
    rw [if_neg (show ¬ 3 < 1 by omega), if_neg (show ¬ 3 < 2 by omega), if_neg (show ¬ 3 < 3 by omega), if_pos (show 3 < 4 by omega)]⟩
theorem F_UpS (G : GT) (hG : GOK G)  : IA G (4) (3) := by
  have h7 := hG.1
  have hm : 4 ∈ Cs G := mem_Cs (by omega) (Or.inr (Or.inr (Or.inr (Or.inr (Or.inl (by omega))))))
  exact ⟨hm, by decide, fun r => by
    unfold ec
    rw [if_neg (show ¬ 4 < 1 by omega), if_neg (show ¬ 4 < 2 by omega), if_neg (show ¬ 4 < 3 by omega), if_neg (show ¬ 4 < 4 by omega), if_pos (show 4 < 5 by omega)]⟩
theorem F_Net (G : GT) (hG : GOK G)  : OB G (5) iNet (fsNet G) := by
  have h7 := hG.1
  have hm : 5 ∈ Cs G := mem_Cs (by omega) (Or.inr (Or.inr (Or.inr (Or.inr (Or.inr (Or.inl (by omega)))))))
  exact ⟨hm, fun r => by
    unfold ec
    rw [if_neg (show ¬ 5 < 1 by omega), if_neg (show ¬ 5 < 2 by omega), if_neg (show ¬ 5 < 3 by omega), if_neg (show ¬ 5 < 4 by omega), if_neg (show ¬ 5 < 5 by omega), if_pos (show 5 < 6 by omega)]⟩
theorem F_Mem (G : GT) (hG : GOK G)  : IA G (6) (8) := by
  have h7 := hG.1
  have hm : 6 ∈ Cs G := mem_Cs (by omega) (Or.inr (Or.inr (Or.inr (Or.inr (Or.inr (Or.inr (Or.inl (by omega))))))))
  exact ⟨hm, by decide, fun r => by
    unfold ec
    rw [if_neg (show ¬ 6 < 1 by omega), if_neg (show ¬ 6 < 2 by omega), if_neg (show ¬ 6 < 3 by omega), if_neg (show ¬ 6 < 4 by omega), if_neg (show ¬ 6 < 5 by omega), if_neg (show ¬ 6 < 6 by omega), if_pos (show 6 < 7 by omega)]⟩
theorem F_Clo (G : GT) (hG : GOK G)  : ZA G (7) (8) := by
  have h7 := hG.1
  have hm : 7 ∈ Cs G := mem_Cs (by omega) (Or.inr (Or.inr (Or.inr (Or.inr (Or.inr (Or.inr (Or.inr (Or.inl (by omega)))))))))
  exact ⟨hm, by decide, fun r => by
    unfold ec
    rw [if_neg (show ¬ 7 < 1 by omega), if_neg (show ¬ 7 < 2 by omega), if_neg (show ¬ 7 < 3 by omega), if_neg (show ¬ 7 < 4 by omega), if_neg (show ¬ 7 < 5 by omega), if_neg (show ¬ 7 < 6 by omega), if_neg (show ¬ 7 < 7 by omega), if_pos (show 7 < 8 by omega)]⟩
theorem F_Row (G : GT) (hG : GOK G)  : QA G (8) (60) 7 "PaxosCommit$Message" (fun r j => (r j).toNatClampNeg + 420) := by
  have h7 := hG.1
  have hm : 8 ∈ Cs G := mem_Cs (by omega) (Or.inr (Or.inr (Or.inr (Or.inr (Or.inr (Or.inr (Or.inr (Or.inr (Or.inl (by omega))))))))))
  exact ⟨hm, by decide, rfl, fun r => by
    unfold ec
    rw [if_neg (show ¬ 8 < 1 by omega), if_neg (show ¬ 8 < 2 by omega), if_neg (show ¬ 8 < 3 by omega), if_neg (show ¬ 8 < 4 by omega), if_neg (show ¬ 8 < 5 by omega), if_neg (show ¬ 8 < 6 by omega), if_neg (show ¬ 8 < 7 by omega), if_neg (show ¬ 8 < 8 by omega), if_pos (show 8 < 9 by omega)]⟩
theorem F_Out (G : GT) (hG : GOK G)  : JA G (9) (1) := by
  have h7 := hG.1
  have hm : 9 ∈ Cs G := mem_Cs (by omega) (Or.inr (Or.inr (Or.inr (Or.inr (Or.inr (Or.inr (Or.inr (Or.inr (Or.inr (Or.inl (by omega)))))))))))
  exact ⟨hm, by decide, fun r => by
    unfold ec
    rw [if_neg (show ¬ 9 < 1 by omega), if_neg (show ¬ 9 < 2 by omega), if_neg (show ¬ 9 < 3 by omega), if_neg (show ¬ 9 < 4 by omega), if_neg (show ¬ 9 < 5 by omega), if_neg (show ¬ 9 < 6 by omega), if_neg (show ¬ 9 < 7 by omega), if_neg (show ¬ 9 < 8 by omega), if_neg (show ¬ 9 < 9 by omega), if_pos (show 9 < 10 by omega)]⟩
theorem F_Store (G : GT) (hG : GOK G) {i0 : Nat} (h0 : i0 < 3) : OB G (i0 + 10) iStore (fun _ => [.ref (gad G (i0 + 20)), .ref (gad G (i0 + 30)), .ref (gad G (i0 + 40)), .ref (gad G (i0 + 50)), .ref (gad G (i0 + 60))]) := by
  have h7 := hG.1
  have hm : i0 + 10 ∈ Cs G := mem_Cs (by omega) (Or.inr (Or.inr (Or.inr (Or.inr (Or.inr (Or.inr (Or.inr (Or.inr (Or.inr (Or.inr (Or.inl (by omega))))))))))))
  exact ⟨hm, fun r => by
    unfold ec
    rw [if_neg (show ¬ i0 + 10 < 1 by omega), if_neg (show ¬ i0 + 10 < 2 by omega), if_neg (show ¬ i0 + 10 < 3 by omega), if_neg (show ¬ i0 + 10 < 4 by omega), if_neg (show ¬ i0 + 10 < 5 by omega), if_neg (show ¬ i0 + 10 < 6 by omega), if_neg (show ¬ i0 + 10 < 7 by omega), if_neg (show ¬ i0 + 10 < 8 by omega), if_neg (show ¬ i0 + 10 < 9 by omega), if_neg (show ¬ i0 + 10 < 10 by omega), if_pos (show i0 + 10 < 20 by omega)]⟩
theorem F_Val (G : GT) (hG : GOK G) {i0 : Nat} (h0 : i0 < 3) : IA G (i0 + 20) (4) := by
  have h7 := hG.1
  have hm : i0 + 20 ∈ Cs G := mem_Cs (by omega) (Or.inr (Or.inr (Or.inr (Or.inr (Or.inr (Or.inr (Or.inr (Or.inr (Or.inr (Or.inr (Or.inr (Or.inl (by omega)))))))))))))
  exact ⟨hm, by decide, fun r => by
    unfold ec
    rw [if_neg (show ¬ i0 + 20 < 1 by omega), if_neg (show ¬ i0 + 20 < 2 by omega), if_neg (show ¬ i0 + 20 < 3 by omega), if_neg (show ¬ i0 + 20 < 4 by omega), if_neg (show ¬ i0 + 20 < 5 by omega), if_neg (show ¬ i0 + 20 < 6 by omega), if_neg (show ¬ i0 + 20 < 7 by omega), if_neg (show ¬ i0 + 20 < 8 by omega), if_neg (show ¬ i0 + 20 < 9 by omega), if_neg (show ¬ i0 + 20 < 10 by omega), if_neg (show ¬ i0 + 20 < 20 by omega), if_pos (show i0 + 20 < 30 by omega)]⟩
theorem F_Loc (G : GT) (hG : GOK G) {i0 : Nat} (h0 : i0 < 3) : IA G (i0 + 30) (4) := by
  have h7 := hG.1
  have hm : i0 + 30 ∈ Cs G := mem_Cs (by omega) (Or.inr (Or.inr (Or.inr (Or.inr (Or.inr (Or.inr (Or.inr (Or.inr (Or.inr (Or.inr (Or.inr (Or.inr (Or.inl (by omega))))))))))))))
  exact ⟨hm, by decide, fun r => by
    unfold ec
    rw [if_neg (show ¬ i0 + 30 < 1 by omega), if_neg (show ¬ i0 + 30 < 2 by omega), if_neg (show ¬ i0 + 30 < 3 by omega), if_neg (show ¬ i0 + 30 < 4 by omega), if_neg (show ¬ i0 + 30 < 5 by omega), if_neg (show ¬ i0 + 30 < 6 by omega), if_neg (show ¬ i0 + 30 < 7 by omega), if_neg (show ¬ i0 + 30 < 8 by omega), if_neg (show ¬ i0 + 30 < 9 by omega), if_neg (show ¬ i0 + 30 < 10 by omega), if_neg (show ¬ i0 + 30 < 20 by omega), if_neg (show ¬ i0 + 30 < 30 by omega), if_pos (show i0 + 30 < 40 by omega)]⟩
theorem F_Sta (G : GT) (hG : GOK G) {i0 : Nat} (h0 : i0 < 3) : IA G (i0 + 40) (8) := by
  have h7 := hG.1
  have hm : i0 + 40 ∈ Cs G := mem_Cs (by omega) (Or.inr (Or.inr (Or.inr (Or.inr (Or.inr (Or.inr (Or.inr (Or.inr (Or.inr (Or.inr (Or.inr (Or.inr (Or.inr (Or.inl (by omega)))))))))))))))
  exact ⟨hm, by decide, fun r => by
    unfold ec
    rw [if_neg (show ¬ i0 + 40 < 1 by omega), if_neg (show ¬ i0 + 40 < 2 by omega), if_neg (show ¬ i0 + 40 < 3 by omega), if_neg (show ¬ i0 + 40 < 4 by omega), if_neg (show ¬ i0 + 40 < 5 by omega), if_neg (show ¬ i0 + 40 < 6 by omega), if_neg (show ¬ i0 + 40 < 7 by omega), if_neg (show ¬ i0 + 40 < 8 by omega), if_neg (show ¬ i0 + 40 < 9 by omega), if_neg (show ¬ i0 + 40 < 10 by omega), if_neg (show ¬ i0 + 40 < 20 by omega), if_neg (show ¬ i0 + 40 < 30 by omega), if_neg (show ¬ i0 + 40 < 40 by omega), if_pos (show i0 + 40 < 50 by omega)]⟩
theorem F_Wrt (G : GT) (hG : GOK G) {i0 : Nat} (h0 : i0 < 3) : IA G (i0 + 50) (8) := by
  have h7 := hG.1
  have hm : i0 + 50 ∈ Cs G := mem_Cs (by omega) (Or.inr (Or.inr (Or.inr (Or.inr (Or.inr (Or.inr (Or.inr (Or.inr (Or.inr (Or.inr (Or.inr (Or.inr (Or.inr (Or.inr (Or.inl (by omega))))))))))))))))
  exact ⟨hm, by decide, fun r => by
    unfold ec
    rw [if_neg (show ¬ i0 + 50 < 1 by omega), if_neg (show ¬ i0 + 50 < 2 by omega), if_neg (show ¬ i0 + 50 < 3 by omega), if_neg (show ¬ i0 + 50 < 4 by omega), if_neg (show ¬ i0 + 50 < 5 by omega), if_neg (show ¬ i0 + 50 < 6 by omega), if_neg (show ¬ i0 + 50 < 7 by omega), if_neg (show ¬ i0 + 50 < 8 by omega), if_neg (show ¬ i0 + 50 < 9 by omega), if_neg (show ¬ i0 + 50 < 10 by omega), if_neg (show ¬ i0 + 50 < 20 by omega), if_neg (show ¬ i0 + 50 < 30 by omega), if_neg (show ¬ i0 + 50 < 40 by omega), if_neg (show ¬ i0 + 50 < 50 by omega), if_pos (show i0 + 50 < 60 by omega)]⟩
theorem F_Wrs (G : GT) (hG : GOK G) {i0 : Nat} (h0 : i0 < 3) : AA G (i0 + 60) (8) (fun j => 8 * i0 + j + 70) := by
  have h7 := hG.1
  have hm : i0 + 60 ∈ Cs G := mem_Cs (by omega) (Or.inr (Or.inr (Or.inr (Or.inr (Or.inr (Or.inr (Or.inr (Or.inr (Or.inr (Or.inr (Or.inr (Or.inr (Or.inr (Or.inr (Or.inr (Or.inl (by omega)))))))))))))))))
  exact ⟨hm, by decide, fun r => by
    unfold ec
    rw [if_neg (show ¬ i0 + 60 < 1 by omega), if_neg (show ¬ i0 + 60 < 2 by omega), if_neg (show ¬ i0 + 60 < 3 by omega), if_neg (show ¬ i0 + 60 < 4 by omega), if_neg (show ¬ i0 + 60 < 5 by omega), if_neg (show ¬ i0 + 60 < 6 by omega), if_neg (show ¬ i0 + 60 < 7 by omega), if_neg (show ¬ i0 + 60 < 8 by omega), if_neg (show ¬ i0 + 60 < 9 by omega), if_neg (show ¬ i0 + 60 < 10 by omega), if_neg (show ¬ i0 + 60 < 20 by omega), if_neg (show ¬ i0 + 60 < 30 by omega), if_neg (show ¬ i0 + 60 < 40 by omega), if_neg (show ¬ i0 + 60 < 50 by omega), if_neg (show ¬ i0 + 60 < 60 by omega), if_pos (show i0 + 60 < 70 by omega)]
    simp only [Nat.add_sub_cancel]⟩
theorem F_Wr (G : GT) (hG : GOK G) {i0 i1 : Nat} (h0 : i0 < 3) (h1 : i1 < 8) : IA G (8 * i0 + i1 + 70) (4) := by
  have h7 := hG.1
  have hm : 8 * i0 + i1 + 70 ∈ Cs G := mem_Cs (by omega) (Or.inr (Or.inr (Or.inr (Or.inr (Or.inr (Or.inr (Or.inr (Or.inr (Or.inr (Or.inr (Or.inr (Or.inr (Or.inr (Or.inr (Or.inr (Or.inr (Or.inl (by omega))))))))))))))))))
  exact ⟨hm, by decide, fun r => by
    unfold ec
    rw [if_neg (show ¬ 8 * i0 + i1 + 70 < 1 by omega), if_neg (show ¬ 8 * i0 + i1 + 70 < 2 by omega), if_neg (show ¬ 8 * i0 + i1 + 70 < 3 by omega), if_neg (show ¬ 8 * i0 + i1 + 70 < 4 by omega), if_neg (show ¬ 8 * i0 + i1 + 70 < 5 by omega), if_neg (show ¬ 8 * i0 + i1 + 70 < 6 by omega), if_neg (show ¬ 8 * i0 + i1 + 70 < 7 by omega), if_neg (show ¬ 8 * i0 + i1 + 70 < 8 by omega), if_neg (show ¬ 8 * i0 + i1 + 70 < 9 by omega), if_neg (show ¬ 8 * i0 + i1 + 70 < 10 by omega), if_neg (show ¬ 8 * i0 + i1 + 70 < 20 by omega), if_neg (show ¬ 8 * i0 + i1 + 70 < 30 by omega), if_neg (show ¬ 8 * i0 + i1 + 70 < 40 by omega), if_neg (show ¬ 8 * i0 + i1 + 70 < 50 by omega), if_neg (show ¬ 8 * i0 + i1 + 70 < 60 by omega), if_neg (show ¬ 8 * i0 + i1 + 70 < 70 by omega), if_pos (show 8 * i0 + i1 + 70 < 100 by omega)]⟩
theorem F_Acc (G : GT) (hG : GOK G) {i0 : Nat} (h0 : i0 < gn G) : OB G (i0 + 100) iAcc (fun _ => [.ref (gad G (i0 + 110)), .ref (gad G (i0 + 120))]) := by
  have h7 := hG.1
  have hm : i0 + 100 ∈ Cs G := mem_Cs (by omega) (Or.inr (Or.inr (Or.inr (Or.inr (Or.inr (Or.inr (Or.inr (Or.inr (Or.inr (Or.inr (Or.inr (Or.inr (Or.inr (Or.inr (Or.inr (Or.inr (Or.inr (Or.inl (by omega)))))))))))))))))))
  exact ⟨hm, fun r => by
    unfold ec
    rw [if_neg (show ¬ i0 + 100 < 1 by omega), if_neg (show ¬ i0 + 100 < 2 by omega), if_neg (show ¬ i0 + 100 < 3 by omega), if_neg (show ¬ i0 + 100 < 4 by omega), if_neg (show ¬ i0 + 100 < 5 by omega), if_neg (show ¬ i0 + 100 < 6 by omega), if_neg (show ¬ i0 + 100 < 7 by omega), if_neg (show ¬ i0 + 100 < 8 by omega), if_neg (show ¬ i0 + 100 < 9 by omega), if_neg (show ¬ i0 + 100 < 10 by omega), if_neg (show ¬ i0 + 100 < 20 by omega), if_neg (show ¬ i0 + 100 < 30 by omega), if_neg (show ¬ i0 + 100 < 40 by omega), if_neg (show ¬ i0 + 100 < 50 by omega), if_neg (show ¬ i0 + 100 < 60 by omega), if_neg (show ¬ i0 + 100 < 70 by omega), if_neg (show ¬ i0 + 100 < 100 by omega), if_pos (show i0 + 100 < 110 by omega)]⟩
theorem F_Pro (G : GT) (hG : GOK G) {i0 : Nat} (h0 : i0 < gn G) : AA G (i0 + 110) (8) (fun j => 8 * i0 + j + 130) := by
  have h7 := hG.1
  have hm : i0 + 110 ∈ Cs G := mem_Cs (by omega) (Or.inr (Or.inr (Or.inr (Or.inr (Or.inr (Or.inr (Or.inr (Or.inr (Or.inr (Or.inr (Or.inr (Or.inr (Or.inr (Or.inr (Or.inr (Or.inr (Or.inr (Or.inr (Or.inl (by omega))))))))))))))))))))
  exact ⟨hm, by decide, fun r => by
    unfold ec
    rw [if_neg (show ¬ i0 + 110 < 1 by omega), if_neg (show ¬ i0 + 110 < 2 by omega), if_neg (show ¬ i0 + 110 < 3 by omega), if_neg (show ¬ i0 + 110 < 4 by omega), if_neg (show ¬ i0 + 110 < 5 by omega), if_neg (show ¬ i0 + 110 < 6 by omega), if_neg (show ¬ i0 + 110 < 7 by omega), if_neg (show ¬ i0 + 110 < 8 by omega), if_neg (show ¬ i0 + 110 < 9 by omega), if_neg (show ¬ i0 + 110 < 10 by omega), if_neg (show ¬ i0 + 110 < 20 by omega), if_neg (show ¬ i0 + 110 < 30 by omega), if_neg (show ¬ i0 + 110 < 40 by omega), if_neg (show ¬ i0 + 110 < 50 by omega), if_neg (show ¬ i0 + 110 < 60 by omega), if_neg (show ¬ i0 + 110 < 70 by omega), if_neg (show ¬ i0 + 110 < 100 by omega), if_neg (show ¬ i0 + 110 < 110 by omega), if_pos (show i0 + 110 < 120 by omega)]
    simp only [Nat.add_sub_cancel]⟩
theorem F_Tak (G : GT) (hG : GOK G) {i0 : Nat} (h0 : i0 < gn G) : AA G (i0 + 120) (8) (fun j => 8 * i0 + j + 160) := by
  have h7 := hG.1
  have hm : i0 + 120 ∈ Cs G := mem_Cs (by omega) (Or.inr (Or.inr (Or.inr (Or.inr (Or.inr (Or.inr (Or.inr (Or.inr (Or.inr (Or.inr (Or.inr (Or.inr (Or.inr (Or.inr (Or.inr (Or.inr (Or.inr (Or.inr (Or.inr (Or.inl (by omega)))))))))))))))))))))
  exact ⟨hm, by decide, fun r => by
    unfold ec
    rw [if_neg (show ¬ i0 + 120 < 1 by omega), if_neg (show ¬ i0 + 120 < 2 by omega), if_neg (show ¬ i0 + 120 < 3 by omega), if_neg (show ¬ i0 + 120 < 4 by omega), if_neg (show ¬ i0 + 120 < 5 by omega), if_neg (show ¬ i0 + 120 < 6 by omega), if_neg (show ¬ i0 + 120 < 7 by omega), if_neg (show ¬ i0 + 120 < 8 by omega), if_neg (show ¬ i0 + 120 < 9 by omega), if_neg (show ¬ i0 + 120 < 10 by omega), if_neg (show ¬ i0 + 120 < 20 by omega), if_neg (show ¬ i0 + 120 < 30 by omega), if_neg (show ¬ i0 + 120 < 40 by omega), if_neg (show ¬ i0 + 120 < 50 by omega), if_neg (show ¬ i0 + 120 < 60 by omega), if_neg (show ¬ i0 + 120 < 70 by omega), if_neg (show ¬ i0 + 120 < 100 by omega), if_neg (show ¬ i0 + 120 < 110 by omega), if_neg (show ¬ i0 + 120 < 120 by omega), if_pos (show i0 + 120 < 130 by omega)]
    simp only [Nat.add_sub_cancel]⟩
theorem F_PrR (G : GT) (hG : GOK G) {i0 i1 : Nat} (h0 : i0 < gn G) (h1 : i1 < 8) : IA G (8 * i0 + i1 + 130) (3) := by
  have h7 := hG.1
  have hm : 8 * i0 + i1 + 130 ∈ Cs G := mem_Cs (by omega) (Or.inr (Or.inr (Or.inr (Or.inr (Or.inr (Or.inr (Or.inr (Or.inr (Or.inr (Or.inr (Or.inr (Or.inr (Or.inr (Or.inr (Or.inr (Or.inr (Or.inr (Or.inr (Or.inr (Or.inr (Or.inl (by omega))))))))))))))))))))))
  exact ⟨hm, by decide, fun r => by
    unfold ec
    rw [if_neg (show ¬ 8 * i0 + i1 + 130 < 1 by omega), if_neg (show ¬ 8 * i0 + i1 + 130 < 2 by omega), if_neg (show ¬ 8 * i0 + i1 + 130 < 3 by omega), if_neg (show ¬ 8 * i0 + i1 + 130 < 4 by omega), if_neg (show ¬ 8 * i0 + i1 + 130 < 5 by omega), if_neg (show ¬ 8 * i0 + i1 + 130 < 6 by omega), if_neg (show ¬ 8 * i0 + i1 + 130 < 7 by omega), if_neg (show ¬ 8 * i0 + i1 + 130 < 8 by omega), if_neg (show ¬ 8 * i0 + i1 + 130 < 9 by omega), if_neg (show ¬ 8 * i0 + i1 + 130 < 10 by omega), if_neg (show ¬ 8 * i0 + i1 + 130 < 20 by omega), if_neg (show ¬ 8 * i0 + i1 + 130 < 30 by omega), if_neg (show ¬ 8 * i0 + i1 + 130 < 40 by omega), if_neg (show ¬ 8 * i0 + i1 + 130 < 50 by omega), if_neg (show ¬ 8 * i0 + i1 + 130 < 60 by omega), if_neg (show ¬ 8 * i0 + i1 + 130 < 70 by omega), if_neg (show ¬ 8 * i0 + i1 + 130 < 100 by omega), if_neg (show ¬ 8 * i0 + i1 + 130 < 110 by omega), if_neg (show ¬ 8 * i0 + i1 + 130 < 120 by omega), if_neg (show ¬ 8 * i0 + i1 + 130 < 130 by omega), if_pos (show 8 * i0 + i1 + 130 < 160 by omega)]⟩
theorem F_TkR (G : GT) (hG : GOK G) {i0 i1 : Nat} (h0 : i0 < gn G) (h1 : i1 < 8) : IA G (8 * i0 + i1 + 160) (3) := by
  have h7 := hG.1
  have hm : 8 * i0 + i1 + 160 ∈ Cs G := mem_Cs (by omega) (Or.inr (Or.inr (Or.inr (Or.inr (Or.inr (Or.inr (Or.inr (Or.inr (Or.inr (Or.inr (Or.inr (Or.inr (Or.inr (Or.inr (Or.inr (Or.inr (Or.inr (Or.inr (Or.inr (Or.inr (Or.inr (Or.inl (by omega)))))))))))))))))))))))
  exact ⟨hm, by decide, fun r => by
    unfold ec
    rw [if_neg (show ¬ 8 * i0 + i1 + 160 < 1 by omega), if_neg (show ¬ 8 * i0 + i1 + 160 < 2 by omega), if_neg (show ¬ 8 * i0 + i1 + 160 < 3 by omega), if_neg (show ¬ 8 * i0 + i1 + 160 < 4 by omega), if_neg (show ¬ 8 * i0 + i1 + 160 < 5 by omega), if_neg (show ¬ 8 * i0 + i1 + 160 < 6 by omega), if_neg (show ¬ 8 * i0 + i1 + 160 < 7 by omega), if_neg (show ¬ 8 * i0 + i1 + 160 < 8 by omega), if_neg (show ¬ 8 * i0 + i1 + 160 < 9 by omega), if_neg (show ¬ 8 * i0 + i1 + 160 < 10 by omega), if_neg (show ¬ 8 * i0 + i1 + 160 < 20 by omega), if_neg (show ¬ 8 * i0 + i1 + 160 < 30 by omega), if_neg (show ¬ 8 * i0 + i1 + 160 < 40 by omega), if_neg (show ¬ 8 * i0 + i1 + 160 < 50 by omega), if_neg (show ¬ 8 * i0 + i1 + 160 < 60 by omega), if_neg (show ¬ 8 * i0 + i1 + 160 < 70 by omega), if_neg (show ¬ 8 * i0 + i1 + 160 < 100 by omega), if_neg (show ¬ 8 * i0 + i1 + 160 < 110 by omega), if_neg (show ¬ 8 * i0 + i1 + 160 < 120 by omega), if_neg (show ¬ 8 * i0 + i1 + 160 < 130 by omega), if_neg (show ¬ 8 * i0 + i1 + 160 < 160 by omega), if_pos (show 8 * i0 + i1 + 160 < 200 by omega)]⟩
theorem F_Led (G : GT) (hG : GOK G) {i0 : Nat} (h0 : i0 < 16) : OB G (i0 + 200) iLed (fun r => [.int (r 0), .int (r 1), .int (r 2), .ref (gad G (i0 + 220)), .ref (gad G (i0 + 240)), .ref (gad G (i0 + 260))]) := by
  have h7 := hG.1
  have hm : i0 + 200 ∈ Cs G := mem_Cs (by omega) (Or.inr (Or.inr (Or.inr (Or.inr (Or.inr (Or.inr (Or.inr (Or.inr (Or.inr (Or.inr (Or.inr (Or.inr (Or.inr (Or.inr (Or.inr (Or.inr (Or.inr (Or.inr (Or.inr (Or.inr (Or.inr (Or.inr (Or.inl (by omega))))))))))))))))))))))))
  exact ⟨hm, fun r => by
    unfold ec
    rw [if_neg (show ¬ i0 + 200 < 1 by omega), if_neg (show ¬ i0 + 200 < 2 by omega), if_neg (show ¬ i0 + 200 < 3 by omega), if_neg (show ¬ i0 + 200 < 4 by omega), if_neg (show ¬ i0 + 200 < 5 by omega), if_neg (show ¬ i0 + 200 < 6 by omega), if_neg (show ¬ i0 + 200 < 7 by omega), if_neg (show ¬ i0 + 200 < 8 by omega), if_neg (show ¬ i0 + 200 < 9 by omega), if_neg (show ¬ i0 + 200 < 10 by omega), if_neg (show ¬ i0 + 200 < 20 by omega), if_neg (show ¬ i0 + 200 < 30 by omega), if_neg (show ¬ i0 + 200 < 40 by omega), if_neg (show ¬ i0 + 200 < 50 by omega), if_neg (show ¬ i0 + 200 < 60 by omega), if_neg (show ¬ i0 + 200 < 70 by omega), if_neg (show ¬ i0 + 200 < 100 by omega), if_neg (show ¬ i0 + 200 < 110 by omega), if_neg (show ¬ i0 + 200 < 120 by omega), if_neg (show ¬ i0 + 200 < 130 by omega), if_neg (show ¬ i0 + 200 < 160 by omega), if_neg (show ¬ i0 + 200 < 200 by omega), if_pos (show i0 + 200 < 220 by omega)]⟩
theorem F_HR (G : GT) (hG : GOK G) {i0 : Nat} (h0 : i0 < 16) : ZA G (i0 + 220) (gn G) := by
  have h7 := hG.1
  have hm : i0 + 220 ∈ Cs G := mem_Cs (by omega) (Or.inr (Or.inr (Or.inr (Or.inr (Or.inr (Or.inr (Or.inr (Or.inr (Or.inr (Or.inr (Or.inr (Or.inr (Or.inr (Or.inr (Or.inr (Or.inr (Or.inr (Or.inr (Or.inr (Or.inr (Or.inr (Or.inr (Or.inr (Or.inl (by omega)))))))))))))))))))))))))
  exact ⟨hm, by omega, fun r => by
    unfold ec
    rw [if_neg (show ¬ i0 + 220 < 1 by omega), if_neg (show ¬ i0 + 220 < 2 by omega), if_neg (show ¬ i0 + 220 < 3 by omega), if_neg (show ¬ i0 + 220 < 4 by omega), if_neg (show ¬ i0 + 220 < 5 by omega), if_neg (show ¬ i0 + 220 < 6 by omega), if_neg (show ¬ i0 + 220 < 7 by omega), if_neg (show ¬ i0 + 220 < 8 by omega), if_neg (show ¬ i0 + 220 < 9 by omega), if_neg (show ¬ i0 + 220 < 10 by omega), if_neg (show ¬ i0 + 220 < 20 by omega), if_neg (show ¬ i0 + 220 < 30 by omega), if_neg (show ¬ i0 + 220 < 40 by omega), if_neg (show ¬ i0 + 220 < 50 by omega), if_neg (show ¬ i0 + 220 < 60 by omega), if_neg (show ¬ i0 + 220 < 70 by omega), if_neg (show ¬ i0 + 220 < 100 by omega), if_neg (show ¬ i0 + 220 < 110 by omega), if_neg (show ¬ i0 + 220 < 120 by omega), if_neg (show ¬ i0 + 220 < 130 by omega), if_neg (show ¬ i0 + 220 < 160 by omega), if_neg (show ¬ i0 + 220 < 200 by omega), if_neg (show ¬ i0 + 220 < 220 by omega), if_pos (show i0 + 220 < 240 by omega)]⟩
theorem F_Rpl (G : GT) (hG : GOK G) {i0 : Nat} (h0 : i0 < 16) : AA G (i0 + 240) (gn G) (fun j => 4 * i0 + j + 280) := by
  have h7 := hG.1
  have hm : i0 + 240 ∈ Cs G := mem_Cs (by omega) (Or.inr (Or.inr (Or.inr (Or.inr (Or.inr (Or.inr (Or.inr (Or.inr (Or.inr (Or.inr (Or.inr (Or.inr (Or.inr (Or.inr (Or.inr (Or.inr (Or.inr (Or.inr (Or.inr (Or.inr (Or.inr (Or.inr (Or.inr (Or.inr (Or.inl (by omega))))))))))))))))))))))))))
  exact ⟨hm, by omega, fun r => by
    unfold ec
    rw [if_neg (show ¬ i0 + 240 < 1 by omega), if_neg (show ¬ i0 + 240 < 2 by omega), if_neg (show ¬ i0 + 240 < 3 by omega), if_neg (show ¬ i0 + 240 < 4 by omega), if_neg (show ¬ i0 + 240 < 5 by omega), if_neg (show ¬ i0 + 240 < 6 by omega), if_neg (show ¬ i0 + 240 < 7 by omega), if_neg (show ¬ i0 + 240 < 8 by omega), if_neg (show ¬ i0 + 240 < 9 by omega), if_neg (show ¬ i0 + 240 < 10 by omega), if_neg (show ¬ i0 + 240 < 20 by omega), if_neg (show ¬ i0 + 240 < 30 by omega), if_neg (show ¬ i0 + 240 < 40 by omega), if_neg (show ¬ i0 + 240 < 50 by omega), if_neg (show ¬ i0 + 240 < 60 by omega), if_neg (show ¬ i0 + 240 < 70 by omega), if_neg (show ¬ i0 + 240 < 100 by omega), if_neg (show ¬ i0 + 240 < 110 by omega), if_neg (show ¬ i0 + 240 < 120 by omega), if_neg (show ¬ i0 + 240 < 130 by omega), if_neg (show ¬ i0 + 240 < 160 by omega), if_neg (show ¬ i0 + 240 < 200 by omega), if_neg (show ¬ i0 + 240 < 220 by omega), if_neg (show ¬ i0 + 240 < 240 by omega), if_pos (show i0 + 240 < 260 by omega)]
    simp only [Nat.add_sub_cancel]⟩
theorem F_Lat (G : GT) (hG : GOK G) {i0 : Nat} (h0 : i0 < 16) : AA G (i0 + 260) (gn G) (fun j => 4 * i0 + j + 350) := by
  have h7 := hG.1
  have hm : i0 + 260 ∈ Cs G := mem_Cs (by omega) (Or.inr (Or.inr (Or.inr (Or.inr (Or.inr (Or.inr (Or.inr (Or.inr (Or.inr (Or.inr (Or.inr (Or.inr (Or.inr (Or.inr (Or.inr (Or.inr (Or.inr (Or.inr (Or.inr (Or.inr (Or.inr (Or.inr (Or.inr (Or.inr (Or.inr (Or.inl (by omega)))))))))))))))))))))))))))
  exact ⟨hm, by omega, fun r => by
    unfold ec
    rw [if_neg (show ¬ i0 + 260 < 1 by omega), if_neg (show ¬ i0 + 260 < 2 by omega), if_neg (show ¬ i0 + 260 < 3 by omega), if_neg (show ¬ i0 + 260 < 4 by omega), if_neg (show ¬ i0 + 260 < 5 by omega), if_neg (show ¬ i0 + 260 < 6 by omega), if_neg (show ¬ i0 + 260 < 7 by omega), if_neg (show ¬ i0 + 260 < 8 by omega), if_neg (show ¬ i0 + 260 < 9 by omega), if_neg (show ¬ i0 + 260 < 10 by omega), if_neg (show ¬ i0 + 260 < 20 by omega), if_neg (show ¬ i0 + 260 < 30 by omega), if_neg (show ¬ i0 + 260 < 40 by omega), if_neg (show ¬ i0 + 260 < 50 by omega), if_neg (show ¬ i0 + 260 < 60 by omega), if_neg (show ¬ i0 + 260 < 70 by omega), if_neg (show ¬ i0 + 260 < 100 by omega), if_neg (show ¬ i0 + 260 < 110 by omega), if_neg (show ¬ i0 + 260 < 120 by omega), if_neg (show ¬ i0 + 260 < 130 by omega), if_neg (show ¬ i0 + 260 < 160 by omega), if_neg (show ¬ i0 + 260 < 200 by omega), if_neg (show ¬ i0 + 260 < 220 by omega), if_neg (show ¬ i0 + 260 < 240 by omega), if_neg (show ¬ i0 + 260 < 260 by omega), if_pos (show i0 + 260 < 280 by omega)]
    simp only [Nat.add_sub_cancel]⟩
theorem F_RpR (G : GT) (hG : GOK G) {i0 i1 : Nat} (h0 : i0 < 16) (h1 : i1 < gn G) : IA G (4 * i0 + i1 + 280) (3) := by
  have h7 := hG.1
  have hm : 4 * i0 + i1 + 280 ∈ Cs G := mem_Cs (by omega) (Or.inr (Or.inr (Or.inr (Or.inr (Or.inr (Or.inr (Or.inr (Or.inr (Or.inr (Or.inr (Or.inr (Or.inr (Or.inr (Or.inr (Or.inr (Or.inr (Or.inr (Or.inr (Or.inr (Or.inr (Or.inr (Or.inr (Or.inr (Or.inr (Or.inr (Or.inr (Or.inl (by omega))))))))))))))))))))))))))))
  exact ⟨hm, by decide, fun r => by
    unfold ec
    rw [if_neg (show ¬ 4 * i0 + i1 + 280 < 1 by omega), if_neg (show ¬ 4 * i0 + i1 + 280 < 2 by omega), if_neg (show ¬ 4 * i0 + i1 + 280 < 3 by omega), if_neg (show ¬ 4 * i0 + i1 + 280 < 4 by omega), if_neg (show ¬ 4 * i0 + i1 + 280 < 5 by omega), if_neg (show ¬ 4 * i0 + i1 + 280 < 6 by omega), if_neg (show ¬ 4 * i0 + i1 + 280 < 7 by omega), if_neg (show ¬ 4 * i0 + i1 + 280 < 8 by omega), if_neg (show ¬ 4 * i0 + i1 + 280 < 9 by omega), if_neg (show ¬ 4 * i0 + i1 + 280 < 10 by omega), if_neg (show ¬ 4 * i0 + i1 + 280 < 20 by omega), if_neg (show ¬ 4 * i0 + i1 + 280 < 30 by omega), if_neg (show ¬ 4 * i0 + i1 + 280 < 40 by omega), if_neg (show ¬ 4 * i0 + i1 + 280 < 50 by omega), if_neg (show ¬ 4 * i0 + i1 + 280 < 60 by omega), if_neg (show ¬ 4 * i0 + i1 + 280 < 70 by omega), if_neg (show ¬ 4 * i0 + i1 + 280 < 100 by omega), if_neg (show ¬ 4 * i0 + i1 + 280 < 110 by omega), if_neg (show ¬ 4 * i0 + i1 + 280 < 120 by omega), if_neg (show ¬ 4 * i0 + i1 + 280 < 130 by omega), if_neg (show ¬ 4 * i0 + i1 + 280 < 160 by omega), if_neg (show ¬ 4 * i0 + i1 + 280 < 200 by omega), if_neg (show ¬ 4 * i0 + i1 + 280 < 220 by omega), if_neg (show ¬ 4 * i0 + i1 + 280 < 240 by omega), if_neg (show ¬ 4 * i0 + i1 + 280 < 260 by omega), if_neg (show ¬ 4 * i0 + i1 + 280 < 280 by omega), if_pos (show 4 * i0 + i1 + 280 < 350 by omega)]⟩
theorem F_LtR (G : GT) (hG : GOK G) {i0 i1 : Nat} (h0 : i0 < 16) (h1 : i1 < gn G) : IA G (4 * i0 + i1 + 350) (3) := by
  have h7 := hG.1
  have hm : 4 * i0 + i1 + 350 ∈ Cs G := mem_Cs (by omega) (Or.inr (Or.inr (Or.inr (Or.inr (Or.inr (Or.inr (Or.inr (Or.inr (Or.inr (Or.inr (Or.inr (Or.inr (Or.inr (Or.inr (Or.inr (Or.inr (Or.inr (Or.inr (Or.inr (Or.inr (Or.inr (Or.inr (Or.inr (Or.inr (Or.inr (Or.inr (Or.inr (Or.inl (by omega)))))))))))))))))))))))))))))
  exact ⟨hm, by decide, fun r => by
    unfold ec
    rw [if_neg (show ¬ 4 * i0 + i1 + 350 < 1 by omega), if_neg (show ¬ 4 * i0 + i1 + 350 < 2 by omega), if_neg (show ¬ 4 * i0 + i1 + 350 < 3 by omega), if_neg (show ¬ 4 * i0 + i1 + 350 < 4 by omega), if_neg (show ¬ 4 * i0 + i1 + 350 < 5 by omega), if_neg (show ¬ 4 * i0 + i1 + 350 < 6 by omega), if_neg (show ¬ 4 * i0 + i1 + 350 < 7 by omega), if_neg (show ¬ 4 * i0 + i1 + 350 < 8 by omega), if_neg (show ¬ 4 * i0 + i1 + 350 < 9 by omega), if_neg (show ¬ 4 * i0 + i1 + 350 < 10 by omega), if_neg (show ¬ 4 * i0 + i1 + 350 < 20 by omega), if_neg (show ¬ 4 * i0 + i1 + 350 < 30 by omega), if_neg (show ¬ 4 * i0 + i1 + 350 < 40 by omega), if_neg (show ¬ 4 * i0 + i1 + 350 < 50 by omega), if_neg (show ¬ 4 * i0 + i1 + 350 < 60 by omega), if_neg (show ¬ 4 * i0 + i1 + 350 < 70 by omega), if_neg (show ¬ 4 * i0 + i1 + 350 < 100 by omega), if_neg (show ¬ 4 * i0 + i1 + 350 < 110 by omega), if_neg (show ¬ 4 * i0 + i1 + 350 < 120 by omega), if_neg (show ¬ 4 * i0 + i1 + 350 < 130 by omega), if_neg (show ¬ 4 * i0 + i1 + 350 < 160 by omega), if_neg (show ¬ 4 * i0 + i1 + 350 < 200 by omega), if_neg (show ¬ 4 * i0 + i1 + 350 < 220 by omega), if_neg (show ¬ 4 * i0 + i1 + 350 < 240 by omega), if_neg (show ¬ 4 * i0 + i1 + 350 < 260 by omega), if_neg (show ¬ 4 * i0 + i1 + 350 < 280 by omega), if_neg (show ¬ 4 * i0 + i1 + 350 < 350 by omega), if_pos (show 4 * i0 + i1 + 350 < 420 by omega)]⟩
theorem F_Msg (G : GT) (hG : GOK G) {i0 : Nat} (h0 : i0 < 62) : OB G (i0 + 420) iMsg (fun r => [.int (r 0), .int (r 1), .int (r 2), .int (r 3), .int (r 4), .int (r 5), .int (r 6), .ref (gad G (i0 + 490))]) := by
  have h7 := hG.1
  have hm : i0 + 420 ∈ Cs G := mem_Cs (by omega) (Or.inr (Or.inr (Or.inr (Or.inr (Or.inr (Or.inr (Or.inr (Or.inr (Or.inr (Or.inr (Or.inr (Or.inr (Or.inr (Or.inr (Or.inr (Or.inr (Or.inr (Or.inr (Or.inr (Or.inr (Or.inr (Or.inr (Or.inr (Or.inr (Or.inr (Or.inr (Or.inr (Or.inr (Or.inl (by omega))))))))))))))))))))))))))))))
  exact ⟨hm, fun r => by
    unfold ec
    rw [if_neg (show ¬ i0 + 420 < 1 by omega), if_neg (show ¬ i0 + 420 < 2 by omega), if_neg (show ¬ i0 + 420 < 3 by omega), if_neg (show ¬ i0 + 420 < 4 by omega), if_neg (show ¬ i0 + 420 < 5 by omega), if_neg (show ¬ i0 + 420 < 6 by omega), if_neg (show ¬ i0 + 420 < 7 by omega), if_neg (show ¬ i0 + 420 < 8 by omega), if_neg (show ¬ i0 + 420 < 9 by omega), if_neg (show ¬ i0 + 420 < 10 by omega), if_neg (show ¬ i0 + 420 < 20 by omega), if_neg (show ¬ i0 + 420 < 30 by omega), if_neg (show ¬ i0 + 420 < 40 by omega), if_neg (show ¬ i0 + 420 < 50 by omega), if_neg (show ¬ i0 + 420 < 60 by omega), if_neg (show ¬ i0 + 420 < 70 by omega), if_neg (show ¬ i0 + 420 < 100 by omega), if_neg (show ¬ i0 + 420 < 110 by omega), if_neg (show ¬ i0 + 420 < 120 by omega), if_neg (show ¬ i0 + 420 < 130 by omega), if_neg (show ¬ i0 + 420 < 160 by omega), if_neg (show ¬ i0 + 420 < 200 by omega), if_neg (show ¬ i0 + 420 < 220 by omega), if_neg (show ¬ i0 + 420 < 240 by omega), if_neg (show ¬ i0 + 420 < 260 by omega), if_neg (show ¬ i0 + 420 < 280 by omega), if_neg (show ¬ i0 + 420 < 350 by omega), if_neg (show ¬ i0 + 420 < 420 by omega), if_pos (show i0 + 420 < 490 by omega)]⟩
theorem F_Rep (G : GT) (hG : GOK G) {i0 : Nat} (h0 : i0 < 62) : IA G (i0 + 490) (3) := by
  have h7 := hG.1
  have hm : i0 + 490 ∈ Cs G := mem_Cs (by omega) (Or.inr (Or.inr (Or.inr (Or.inr (Or.inr (Or.inr (Or.inr (Or.inr (Or.inr (Or.inr (Or.inr (Or.inr (Or.inr (Or.inr (Or.inr (Or.inr (Or.inr (Or.inr (Or.inr (Or.inr (Or.inr (Or.inr (Or.inr (Or.inr (Or.inr (Or.inr (Or.inr (Or.inr (Or.inr (by omega))))))))))))))))))))))))))))))
  exact ⟨hm, by decide, fun r => by
    unfold ec
    rw [if_neg (show ¬ i0 + 490 < 1 by omega), if_neg (show ¬ i0 + 490 < 2 by omega), if_neg (show ¬ i0 + 490 < 3 by omega), if_neg (show ¬ i0 + 490 < 4 by omega), if_neg (show ¬ i0 + 490 < 5 by omega), if_neg (show ¬ i0 + 490 < 6 by omega), if_neg (show ¬ i0 + 490 < 7 by omega), if_neg (show ¬ i0 + 490 < 8 by omega), if_neg (show ¬ i0 + 490 < 9 by omega), if_neg (show ¬ i0 + 490 < 10 by omega), if_neg (show ¬ i0 + 490 < 20 by omega), if_neg (show ¬ i0 + 490 < 30 by omega), if_neg (show ¬ i0 + 490 < 40 by omega), if_neg (show ¬ i0 + 490 < 50 by omega), if_neg (show ¬ i0 + 490 < 60 by omega), if_neg (show ¬ i0 + 490 < 70 by omega), if_neg (show ¬ i0 + 490 < 100 by omega), if_neg (show ¬ i0 + 490 < 110 by omega), if_neg (show ¬ i0 + 490 < 120 by omega), if_neg (show ¬ i0 + 490 < 130 by omega), if_neg (show ¬ i0 + 490 < 160 by omega), if_neg (show ¬ i0 + 490 < 200 by omega), if_neg (show ¬ i0 + 490 < 220 by omega), if_neg (show ¬ i0 + 490 < 240 by omega), if_neg (show ¬ i0 + 490 < 260 by omega), if_neg (show ¬ i0 + 490 < 280 by omega), if_neg (show ¬ i0 + 490 < 350 by omega), if_neg (show ¬ i0 + 490 < 420 by omega), if_neg (show ¬ i0 + 490 < 490 by omega), if_pos (show i0 + 490 < 600 by omega)]⟩
end
section
/-! Rows of my own over the kit: ONE world for everything, its cells told by numbers (wl), what they hold by d. -/
theorem up2_self {d : DD} {c k : Nat} {v : Int32} : up2 d c k v c k = v := by simp [up2]
theorem up2_nc {d : DD} {c k c' k' : Nat} {v : Int32} (h : c' ≠ c) : up2 d c k v c' k' = d c' k' := by simp [up2, h]
theorem up2_nk {d : DD} {c k c' k' : Nat} {v : Int32} (h : k' ≠ k) : up2 d c k v c' k' = d c' k' := by simp [up2, h]
theorem up2_off {d : DD} {c k c' : Nat} {v : Int32} (h : c' ≠ c) : up2 d c k v c' = d c' := funext fun k' => up2_nc h
theorem up2_row {d : DD} {c k : Nat} {v : Int32} : up2 d c k v c = upd (d c) k v := by
  funext k'
  by_cases h : k' = k
  · subst h; rw [up2_self, pk_us]
  · rw [up2_nk h, pk_un h]
theorem wl_get {G : GT} {d : DD} {c : Nat} (h : c ∈ Cs G) : ∃ k : Nat, (wl G d)[k]? = some (gad G c, en G d c) := List.getElem?_of_mem (List.mem_map.mpr ⟨c, h, rfl⟩)
theorem wl_set {G : GT} {A : Nat → Prop} {d d' : DD} {c k : Nat} {e' : va_E} (hD : va_D A (wl G d)) (hc : c ∈ Cs G) (hk : (wl G d)[k]? = some (gad G c, en G d c)) (he : en G d' c = e') (ho : ∀ c', c' ≠ c → d' c' = d c') : (wl G d).set k (gad G c, e') = wl G d' := by
  have hl := (List.getElem?_eq_some_iff.mp hk).1
  have key : ∀ j : Nat, (Cs G)[j]? = some c → j = k := by
    intro j hj
    have h2 : (wl G d)[j]? = some (gad G c, en G d c) := by rw [wl, List.getElem?_map, hj]; rfl
    exact hD.1 j k _ _ h2 hk rfl
  obtain ⟨i, hi⟩ := List.getElem?_of_mem hc
  have hik := key i hi
  subst hik
  apply List.ext_getElem?
  intro j
  by_cases hj : j = i
  · subst hj
    rw [List.getElem?_set_self hl, wl, List.getElem?_map, hi, ← he]
    rfl
  · rw [List.getElem?_set_ne (Ne.symm hj)]
    simp only [wl, List.getElem?_map]
    cases hb : (Cs G)[j]? with
    | none => rfl
    | some b =>
      have hbc : b ≠ c := fun q => hj (key j (by rw [hb, q]))
      simp only [Option.map_some, en]
      rw [ho b hbc]
theorem rw_at {x : Int32} {q : Nat} (h : x = nI q) (hq : q < 2 ^ 31) : x.toNatClampNeg + 420 = q + 420 := by rw [h, nI_clamp hq]
section EB
variable {p : Program} {l : Launch} {e : Env} {R : Room} {s : State} {m : MethodId} {args : Array Value} {below : List Frame} {meth : Method} {c : Code} {H : Heap} {locs : List Loc} {cells slots : Nat} {Q : State → Prop}
variable {cc : ByteArray} {pc : Nat} {ls : Array Slot} {rest : List Value} {G : GT} {H0 : Heap} {d : DD}
theorem e_top {x v : Int32} (h : x = v) (kk : W p l e R s m args below meth c H locs cells slots Q (F0 m pc ls (.int v :: rest))) : W p l e R s m args below meth c H locs cells slots Q (F0 m pc ls (.int x :: rest)) := by
  rw [h]; exact kk
theorem e_iald (hx : p.tables.exec = Jvm.exec) (hb : c.code = cc) (hK : va_K G.1 gcl (tys G) s) (hW : WD G H0 d H locs) {cn n : Nat} (hF : IA G cn n) {j : Nat} (hj : j < n) {x : Int32} (hv : d cn j = x) {i : Int32} (hi : i = nI j) (hdg : decode cc pc = .ok (.iaload, 1))
    (kk : W p l e R s m args below meth c H locs cells slots Q (F0 m (pc + 1) ls (.int x :: rest))) : W p l e R s m args below meth c H locs cells slots Q (F0 m pc ls (.int i :: .ref (gad G cn) :: rest)) := by
  obtain ⟨k, hk⟩ := wl_get (G := G) (d := d) hF.1
  subst hi
  refine va_iald hx hb hK hW.1 k 0 (cA := gC G 0) (n := n) (f := d cn) (by rw [hk, en, hF.2.2]) rfl (vp_in_nI hj hF.2.1) hdg ?_
  rw [nI_clamp (by have := hF.2.1; omega), hv]
  exact kk
theorem e_zald (hx : p.tables.exec = Jvm.exec) (hb : c.code = cc) (hK : va_K G.1 gcl (tys G) s) (hW : WD G H0 d H locs) {cn n : Nat} (hF : ZA G cn n) {j : Nat} (hj : j < n) {x : Int32} (hv : d cn j = x) {i : Int32} (hi : i = nI j) (hdg : decode cc pc = .ok (.baload, 1))
    (kk : W p l e R s m args below meth c H locs cells slots Q (F0 m (pc + 1) ls (.int x :: rest))) : W p l e R s m args below meth c H locs cells slots Q (F0 m pc ls (.int i :: .ref (gad G cn) :: rest)) := by
  obtain ⟨k, hk⟩ := wl_get (G := G) (d := d) hF.1
  subst hi
  refine va_zald hx hb hK hW.1 k 1 (cA := gC G 1) (n := n) (f := d cn) (by rw [hk, en, hF.2.2]) rfl (vp_in_nI hj hF.2.1) hdg ?_
  rw [nI_clamp (by have := hF.2.1; omega), hv]
  exact kk
theorem e_iast (hx : p.tables.exec = Jvm.exec) (hb : c.code = cc) (hK : va_K G.1 gcl (tys G) s) (hW : WD G H0 d H locs) {cn n : Nat} (hF : IA G cn n) {j : Nat} (hj : j < n) {i x : Int32} (hi : i = nI j) (hdg : decode cc pc = .ok (.iastore, 1))
    (kk : ∀ (H1 : Heap) (locs1 : List Loc), WD G H0 (up2 d cn j x) H1 locs1 → W p l e R s m args below meth c H1 locs1 cells slots Q (F0 m (pc + 1) ls rest)) : W p l e R s m args below meth c H locs cells slots Q (F0 m pc ls (.int x :: .int i :: .ref (gad G cn) :: rest)) := by
  obtain ⟨k, hk⟩ := wl_get (G := G) (d := d) hF.1
  subst hi
  refine va_iast hx hb hK hW.1 hW.2.1 hW.2.2 k 0 (cA := gC G 0) (n := n) (f := d cn) (by rw [hk, en, hF.2.2]) rfl (vp_in_nI hj hF.2.1) hdg (fun H1 locs1 h1 h2 h3 => kk H1 locs1 ?_)
  rw [nI_clamp (by have := hF.2.1; omega)] at h1 h2
  have he := wl_set (d' := up2 d cn j x) hW.2.1 hF.1 hk (by rw [en, hF.2.2, up2_row]) (fun c' h => up2_off h)
  rw [he] at h1 h2
  exact ⟨h1, h2, h3⟩
theorem e_zast (hx : p.tables.exec = Jvm.exec) (hb : c.code = cc) (hK : va_K G.1 gcl (tys G) s) (hW : WD G H0 d H locs) {cn n : Nat} (hF : ZA G cn n) {j : Nat} (hj : j < n) {i x : Int32} (hi : i = nI j) (h01 : x = 0 ∨ x = 1) (hdg : decode cc pc = .ok (.bastore, 1))
    (kk : ∀ (H1 : Heap) (locs1 : List Loc), WD G H0 (up2 d cn j x) H1 locs1 → W p l e R s m args below meth c H1 locs1 cells slots Q (F0 m (pc + 1) ls rest)) : W p l e R s m args below meth c H locs cells slots Q (F0 m pc ls (.int x :: .int i :: .ref (gad G cn) :: rest)) := by
  obtain ⟨k, hk⟩ := wl_get (G := G) (d := d) hF.1
  subst hi
  refine va_zast hx hb hK hW.1 hW.2.1 hW.2.2 k 1 (cA := gC G 1) (n := n) (f := d cn) (by rw [hk, en, hF.2.2]) rfl (vp_in_nI hj hF.2.1) hdg (fun H1 locs1 h1 h2 h3 => kk H1 locs1 ?_)
  have hx0 : vp_nar .boolean x = x := by rcases h01 with rfl | rfl <;> decide
  rw [nI_clamp (by have := hF.2.1; omega), hx0] at h1 h2
  have he := wl_set (d' := up2 d cn j x) hW.2.1 hF.1 hk (by rw [en, hF.2.2, up2_row]) (fun c' h => up2_off h)
  rw [he] at h1 h2
  exact ⟨h1, h2, h3⟩
/-- an array of objects: element j is the cell f j -/
theorem e_aldq (hx : p.tables.exec = Jvm.exec) (hb : c.code = cc) (hK : va_K G.1 gcl (tys G) s) (hW : WD G H0 d H locs) {cn n t0 : Nat} {C : String} {f : (Nat → Int32) → Nat → Nat} (hF : QA G cn n t0 C f) {j : Nat} (hj : j < n) {q : Nat} (hq : f (d cn) j = q) {i : Int32} (hi : i = nI j) (hdg : decode cc pc = .ok (.aaload, 1))
    (kk : W p l e R s m args below meth c H locs cells slots Q (F0 m (pc + 1) ls (.ref (gad G q) :: rest))) : W p l e R s m args below meth c H locs cells slots Q (F0 m pc ls (.int i :: .ref (gad G cn) :: rest)) := by
  obtain ⟨k, hk⟩ := wl_get (G := G) (d := d) hF.1
  subst hi; subst hq
  refine va_aldq hx hb hK hW.1 k t0 (cA := gC G t0) (n := n) (C := C) (f := fun j => some (gad G (f (d cn) j))) (by rw [hk, en, hF.2.2.2]) hF.2.2.1 (vp_in_nI hj hF.2.1) hdg ?_
  rw [nI_clamp (by have := hF.2.1; omega)]
  exact kk
/-- an array of int arrays: row j is the cell f j -/
theorem e_aldA (hx : p.tables.exec = Jvm.exec) (hb : c.code = cc) (hK : va_K G.1 gcl (tys G) s) (hW : WD G H0 d H locs) {cn n : Nat} {f : Nat → Nat} (hF : AA G cn n f) {j : Nat} (hj : j < n) {q : Nat} (hq : f j = q) {i : Int32} (hi : i = nI j) (hdg : decode cc pc = .ok (.aaload, 1))
    (kk : W p l e R s m args below meth c H locs cells slots Q (F0 m (pc + 1) ls (.ref (gad G q) :: rest))) : W p l e R s m args below meth c H locs cells slots Q (F0 m pc ls (.int i :: .ref (gad G cn) :: rest)) := by
  obtain ⟨k, hk⟩ := wl_get (G := G) (d := d) hF.1
  subst hi; subst hq
  have hk' : (wl G d)[k]? = some (gad G cn, aR (gC G 3) n (fun j => some (gad G (f j)))) := by rw [hk, en, hF.2.2]
  have hn31 : (nI j).toNatClampNeg = j := nI_clamp (by have := hF.2.1; omega)
  exact W.aald (v := .ref (gad G (f j))) (ty := .array .int) hx hb (hW.1 k _ hk') ((hK.2 3 _ rfl).1 n (fun j => va_rf (some (gad G (f j))))) rfl (fun q => by cases q) (by show ¬ (nI j < 0 ∨ (arrV _ _ _).slots.size ≤ _); rw [arrV_size]; exact vp_in_nI hj hF.2.1) (by show (arrV _ _ _).slots[_]? = _; rw [hn31, arrV_read _ _ hj]; rfl) rfl rfl hdg kk
theorem e_lenI (hx : p.tables.exec = Jvm.exec) (hb : c.code = cc) (hK : va_K G.1 gcl (tys G) s) (hW : WD G H0 d H locs) {cn n : Nat} (hF : IA G cn n) (hdg : decode cc pc = .ok (.arraylength, 1))
    (kk : W p l e R s m args below meth c H locs cells slots Q (F0 m (pc + 1) ls (.int (nI n) :: rest))) : W p l e R s m args below meth c H locs cells slots Q (F0 m pc ls (.ref (gad G cn) :: rest)) := by
  obtain ⟨k, hk⟩ := wl_get (G := G) (d := d) hF.1
  exact va_alen hx hb hK hW.1 k 0 (cA := gC G 0) (x := (n, .inl (d cn))) (by rw [hk, en, hF.2.2]) (ty := .int) rfl rfl hdg kk
theorem e_lenZ (hx : p.tables.exec = Jvm.exec) (hb : c.code = cc) (hK : va_K G.1 gcl (tys G) s) (hW : WD G H0 d H locs) {cn n : Nat} (hF : ZA G cn n) (hdg : decode cc pc = .ok (.arraylength, 1))
    (kk : W p l e R s m args below meth c H locs cells slots Q (F0 m (pc + 1) ls (.int (nI n) :: rest))) : W p l e R s m args below meth c H locs cells slots Q (F0 m pc ls (.ref (gad G cn) :: rest)) := by
  obtain ⟨k, hk⟩ := wl_get (G := G) (d := d) hF.1
  exact va_alen hx hb hK hW.1 k 1 (cA := gC G 1) (x := (n, .inl (d cn))) (by rw [hk, en, hF.2.2]) (ty := .boolean) rfl rfl hdg kk
theorem e_lenQ (hx : p.tables.exec = Jvm.exec) (hb : c.code = cc) (hK : va_K G.1 gcl (tys G) s) (hW : WD G H0 d H locs) {cn n t0 : Nat} {C : String} {f : (Nat → Int32) → Nat → Nat} (hF : QA G cn n t0 C f) (hdg : decode cc pc = .ok (.arraylength, 1))
    (kk : W p l e R s m args below meth c H locs cells slots Q (F0 m (pc + 1) ls (.int (nI n) :: rest))) : W p l e R s m args below meth c H locs cells slots Q (F0 m pc ls (.ref (gad G cn) :: rest)) := by
  obtain ⟨k, hk⟩ := wl_get (G := G) (d := d) hF.1
  exact va_alen hx hb hK hW.1 k t0 (cA := gC G t0) (x := (n, .inr (.inr (.inr (.inr (fun j => some (gad G (f (d cn) j)))))))) (by rw [hk, en, hF.2.2.2]) (ty := .object C) hF.2.2.1 rfl hdg kk
theorem e_lenA (hx : p.tables.exec = Jvm.exec) (hb : c.code = cc) (hK : va_K G.1 gcl (tys G) s) (hW : WD G H0 d H locs) {cn n : Nat} {f : Nat → Nat} (hF : AA G cn n f) (hdg : decode cc pc = .ok (.arraylength, 1))
    (kk : W p l e R s m args below meth c H locs cells slots Q (F0 m (pc + 1) ls (.int (nI n) :: rest))) : W p l e R s m args below meth c H locs cells slots Q (F0 m pc ls (.ref (gad G cn) :: rest)) := by
  obtain ⟨k, hk⟩ := wl_get (G := G) (d := d) hF.1
  exact va_alen hx hb hK hW.1 k 3 (cA := gC G 3) (x := (n, .inr (.inr (.inr (.inr (fun j => some (gad G (f j)))))))) (by rw [hk, en, hF.2.2]) (ty := .array .int) rfl rfl hdg kk
/-- fields -/
theorem e_get (hx : p.tables.exec = Jvm.exec) (hb : c.code = cc) {own ref C : String} {T : u_T} {N ci index : Nat} (hts : ∀ w ∈ WS, w.before args s = true) (hown : s.vm.findClass own = some m.cls) (hK : va_K G.1 gcl (tys G) s) (hW : WD G H0 d H locs) {cn : Nat} {fs : (Nat → Int32) → List Value} (hF : OB G cn ci fs) (hin : ∀ w ∈ u_ws C T N, w ∈ WS) (hc : gcl[ci]? = some (C, T, N)) (k : Nat) (hk : k < N) (hlink : (Cond.fieldLink own index ref (T k).2.1 (T k).2.2.1).before args s = true) (hsame : ∀ x, s.fieldFound? (T k).1 (T k).2.1 (T k).2.2.1 = some x → s.fieldFound? ref (T k).2.1 (T k).2.2.1 = some x) {v : Value} (hv : (fs (d cn))[k]? = some v) (hdg : decode cc pc = .ok (.getfield index, 3))
    (kk : W p l e R s m args below meth c H locs cells slots Q (F0 m (pc + 3) ls (v :: rest))) : W p l e R s m args below meth c H locs cells slots Q (F0 m pc ls (.ref (gad G cn) :: rest)) := by
  obtain ⟨k0, hk0⟩ := wl_get (G := G) (d := d) hF.1
  exact va_get hx hb hts hin hown hK hW.1 k0 (by rw [hk0, en, hF.2]) hc k hk hlink hsame hv hdg kk
theorem e_getN (hx : p.tables.exec = Jvm.exec) (hb : c.code = cc) {own ref C host : String} {T : u_T} {N ci index : Nat} (hts : ∀ w ∈ WS, w.before args s = true) (hown : s.vm.findClass own = some m.cls) (hK : va_K G.1 gcl (tys G) s) (hW : WD G H0 d H locs) {cn : Nat} {fs : (Nat → Int32) → List Value} (hF : OB G cn ci fs) (hin : ∀ w ∈ u_ws C T N, w ∈ WS) (hc : gcl[ci]? = some (C, T, N)) (k : Nat) (hk : k < N) (hlink : va_Nw (Cond.fieldLinkNest own index ref (T k).2.1 (T k).2.2.1 host) s) (hsame : ∀ x, s.fieldFound? (T k).1 (T k).2.1 (T k).2.2.1 = some x → s.fieldFound? ref (T k).2.1 (T k).2.2.1 = some x) {v : Value} (hv : (fs (d cn))[k]? = some v) (hdg : decode cc pc = .ok (.getfield index, 3))
    (kk : W p l e R s m args below meth c H locs cells slots Q (F0 m (pc + 3) ls (v :: rest))) : W p l e R s m args below meth c H locs cells slots Q (F0 m pc ls (.ref (gad G cn) :: rest)) := by
  obtain ⟨k0, hk0⟩ := wl_get (G := G) (d := d) hF.1
  exact va_getN hx hb hts hin hown hK hW.1 k0 (by rw [hk0, en, hF.2]) hc k hk (va_Nw.use rfl hlink) hsame hv hdg kk
theorem e_put (hx : p.tables.exec = Jvm.exec) (hb : c.code = cc) {own ref C : String} {T : u_T} {N ci index : Nat} (hts : ∀ w ∈ WS, w.before args s = true) (hown : s.vm.findClass own = some m.cls) (hK : va_K G.1 gcl (tys G) s) (hW : WD G H0 d H locs) {cn : Nat} {fs : (Nat → Int32) → List Value} (hF : OB G cn ci fs) (hin : ∀ w ∈ u_ws C T N, w ∈ WS) (ty0 : Nat → FieldType) (hty : ∀ k, k < N → parseFieldDescriptor (T k).2.2.1 = some (ty0 k)) (hnm : ∀ a, a < N → ∀ b, b < N → a ≠ b → (T a).2.1 ≠ (T b).2.1) (hc : gcl[ci]? = some (C, T, N)) (k : Nat) (hk : k < N) (hlink : (Cond.fieldLink own index ref (T k).2.1 (T k).2.2.1).before args s = true) (hsame : ∀ x, s.fieldFound? (T k).1 (T k).2.1 (T k).2.2.1 = some x → s.fieldFound? ref (T k).2.1 (T k).2.2.1 = some x) (hfin : (T k).2.2.2 = false) (hd : parseFieldDescriptor (T k).2.2.1 = some .int) {v : Int32}
    (hset : ∀ r : Nat → Int32, (fs r).set k (.int v) = fs (upd r k v)) (hlen : ∀ r : Nat → Int32, (fs r).length = N) (hdg : decode cc pc = .ok (.putfield index, 3))
    (kk : ∀ (H1 : Heap) (locs1 : List Loc), WD G H0 (up2 d cn k v) H1 locs1 → W p l e R s m args below meth c H1 locs1 cells slots Q (F0 m (pc + 3) ls rest)) : W p l e R s m args below meth c H locs cells slots Q (F0 m pc ls (.int v :: .ref (gad G cn) :: rest)) := by
  obtain ⟨k0, hk0⟩ := wl_get (G := G) (d := d) hF.1
  refine va_put hx hb hts hin ty0 hty hnm hown hK hW.1 hW.2.1 hW.2.2 k0 (fs := fs (d cn)) (by rw [hk0, en, hF.2]) hc k hk hlink hsame hfin hd rfl rfl (by rw [hlen]; exact hk) hdg (fun H1 locs1 h1 h2 h3 => kk H1 locs1 ?_)
  have he := wl_set (d' := up2 d cn k v) (e' := .inr (ci, (fs (d cn)).set k (.int v))) hW.2.1 hF.1 hk0 (by rw [en, hF.2, up2_row, hset]) (fun c' h => up2_off h)
  rw [he] at h1 h2
  exact ⟨h1, h2, h3⟩
theorem e_putN (hx : p.tables.exec = Jvm.exec) (hb : c.code = cc) {own ref C host : String} {T : u_T} {N ci index : Nat} (hts : ∀ w ∈ WS, w.before args s = true) (hown : s.vm.findClass own = some m.cls) (hK : va_K G.1 gcl (tys G) s) (hW : WD G H0 d H locs) {cn : Nat} {fs : (Nat → Int32) → List Value} (hF : OB G cn ci fs) (hin : ∀ w ∈ u_ws C T N, w ∈ WS) (ty0 : Nat → FieldType) (hty : ∀ k, k < N → parseFieldDescriptor (T k).2.2.1 = some (ty0 k)) (hnm : ∀ a, a < N → ∀ b, b < N → a ≠ b → (T a).2.1 ≠ (T b).2.1) (hc : gcl[ci]? = some (C, T, N)) (k : Nat) (hk : k < N) (hlink : va_Nw (Cond.fieldLinkNest own index ref (T k).2.1 (T k).2.2.1 host) s) (hsame : ∀ x, s.fieldFound? (T k).1 (T k).2.1 (T k).2.2.1 = some x → s.fieldFound? ref (T k).2.1 (T k).2.2.1 = some x) (hfin : (T k).2.2.2 = false) (hd : parseFieldDescriptor (T k).2.2.1 = some .int) {v : Int32}
    (hset : ∀ r : Nat → Int32, (fs r).set k (.int v) = fs (upd r k v)) (hlen : ∀ r : Nat → Int32, (fs r).length = N) (hdg : decode cc pc = .ok (.putfield index, 3))
    (kk : ∀ (H1 : Heap) (locs1 : List Loc), WD G H0 (up2 d cn k v) H1 locs1 → W p l e R s m args below meth c H1 locs1 cells slots Q (F0 m (pc + 3) ls rest)) : W p l e R s m args below meth c H locs cells slots Q (F0 m pc ls (.int v :: .ref (gad G cn) :: rest)) := by
  obtain ⟨k0, hk0⟩ := wl_get (G := G) (d := d) hF.1
  refine va_putN hx hb hts hin ty0 hty hnm hown hK hW.1 hW.2.1 hW.2.2 k0 (fs := fs (d cn)) (by rw [hk0, en, hF.2]) hc k hk (va_Nw.use rfl hlink) hsame hfin hd rfl rfl (by rw [hlen]; exact hk) hdg (fun H1 locs1 h1 h2 h3 => kk H1 locs1 ?_)
  have he := wl_set (d' := up2 d cn k v) (e' := .inr (ci, (fs (d cn)).set k (.int v))) hW.2.1 hF.1 hk0 (by rw [en, hF.2, up2_row, hset]) (fun c' h => up2_off h)
  rw [he] at h1 h2
  exact ⟨h1, h2, h3⟩
theorem e_putz (hx : p.tables.exec = Jvm.exec) (hb : c.code = cc) {own ref C : String} {T : u_T} {N ci index : Nat} (hts : ∀ w ∈ WS, w.before args s = true) (hown : s.vm.findClass own = some m.cls) (hK : va_K G.1 gcl (tys G) s) (hW : WD G H0 d H locs) {cn : Nat} {fs : (Nat → Int32) → List Value} (hF : OB G cn ci fs) (hin : ∀ w ∈ u_ws C T N, w ∈ WS) (ty0 : Nat → FieldType) (hty : ∀ k, k < N → parseFieldDescriptor (T k).2.2.1 = some (ty0 k)) (hnm : ∀ a, a < N → ∀ b, b < N → a ≠ b → (T a).2.1 ≠ (T b).2.1) (hc : gcl[ci]? = some (C, T, N)) (k : Nat) (hk : k < N) (hlink : (Cond.fieldLink own index ref (T k).2.1 (T k).2.2.1).before args s = true) (hsame : ∀ x, s.fieldFound? (T k).1 (T k).2.1 (T k).2.2.1 = some x → s.fieldFound? ref (T k).2.1 (T k).2.2.1 = some x) (hfin : (T k).2.2.2 = false) (hd : parseFieldDescriptor (T k).2.2.1 = some .boolean) {v : Int32}
    (hset : ∀ r : Nat → Int32, (fs r).set k (.int v) = fs (upd r k v)) (hlen : ∀ r : Nat → Int32, (fs r).length = N) (h01 : v = 0 ∨ v = 1) (hdg : decode cc pc = .ok (.putfield index, 3))
    (kk : ∀ (H1 : Heap) (locs1 : List Loc), WD G H0 (up2 d cn k v) H1 locs1 → W p l e R s m args below meth c H1 locs1 cells slots Q (F0 m (pc + 3) ls rest)) : W p l e R s m args below meth c H locs cells slots Q (F0 m pc ls (.int v :: .ref (gad G cn) :: rest)) := by
  obtain ⟨k0, hk0⟩ := wl_get (G := G) (d := d) hF.1
  refine va_put hx hb hts hin ty0 hty hnm hown hK hW.1 hW.2.1 hW.2.2 k0 (fs := fs (d cn)) (by rw [hk0, en, hF.2]) hc k hk hlink hsame hfin hd (by rcases h01 with rfl | rfl <;> rfl) (by rcases h01 with rfl | rfl <;> rfl) (by rw [hlen]; exact hk) hdg (fun H1 locs1 h1 h2 h3 => kk H1 locs1 ?_)
  have he := wl_set (d' := up2 d cn k v) (e' := .inr (ci, (fs (d cn)).set k (.int v))) hW.2.1 hF.1 hk0 (by rw [en, hF.2, up2_row, hset]) (fun c' h => up2_off h)
  rw [he] at h1 h2
  exact ⟨h1, h2, h3⟩
theorem e_putNz (hx : p.tables.exec = Jvm.exec) (hb : c.code = cc) {own ref C host : String} {T : u_T} {N ci index : Nat} (hts : ∀ w ∈ WS, w.before args s = true) (hown : s.vm.findClass own = some m.cls) (hK : va_K G.1 gcl (tys G) s) (hW : WD G H0 d H locs) {cn : Nat} {fs : (Nat → Int32) → List Value} (hF : OB G cn ci fs) (hin : ∀ w ∈ u_ws C T N, w ∈ WS) (ty0 : Nat → FieldType) (hty : ∀ k, k < N → parseFieldDescriptor (T k).2.2.1 = some (ty0 k)) (hnm : ∀ a, a < N → ∀ b, b < N → a ≠ b → (T a).2.1 ≠ (T b).2.1) (hc : gcl[ci]? = some (C, T, N)) (k : Nat) (hk : k < N) (hlink : va_Nw (Cond.fieldLinkNest own index ref (T k).2.1 (T k).2.2.1 host) s) (hsame : ∀ x, s.fieldFound? (T k).1 (T k).2.1 (T k).2.2.1 = some x → s.fieldFound? ref (T k).2.1 (T k).2.2.1 = some x) (hfin : (T k).2.2.2 = false) (hd : parseFieldDescriptor (T k).2.2.1 = some .boolean) {v : Int32}
    (hset : ∀ r : Nat → Int32, (fs r).set k (.int v) = fs (upd r k v)) (hlen : ∀ r : Nat → Int32, (fs r).length = N) (h01 : v = 0 ∨ v = 1) (hdg : decode cc pc = .ok (.putfield index, 3))
    (kk : ∀ (H1 : Heap) (locs1 : List Loc), WD G H0 (up2 d cn k v) H1 locs1 → W p l e R s m args below meth c H1 locs1 cells slots Q (F0 m (pc + 3) ls rest)) : W p l e R s m args below meth c H locs cells slots Q (F0 m pc ls (.int v :: .ref (gad G cn) :: rest)) := by
  obtain ⟨k0, hk0⟩ := wl_get (G := G) (d := d) hF.1
  refine va_putN hx hb hts hin ty0 hty hnm hown hK hW.1 hW.2.1 hW.2.2 k0 (fs := fs (d cn)) (by rw [hk0, en, hF.2]) hc k hk (va_Nw.use rfl hlink) hsame hfin hd (by rcases h01 with rfl | rfl <;> rfl) (by rcases h01 with rfl | rfl <;> rfl) (by rw [hlen]; exact hk) hdg (fun H1 locs1 h1 h2 h3 => kk H1 locs1 ?_)
  have he := wl_set (d' := up2 d cn k v) (e' := .inr (ci, (fs (d cn)).set k (.int v))) hW.2.1 hF.1 hk0 (by rw [en, hF.2, up2_row, hset]) (fun c' h => up2_off h)
  rw [he] at h1 h2
  exact ⟨h1, h2, h3⟩
/-- row[j] = a message -/
theorem e_astR (hG : GOK G) (hx : p.tables.exec = Jvm.exec) (hb : c.code = cc) (hK : va_K G.1 gcl (tys G) s) (hW : WD G H0 d H locs) {j : Nat} (hj : j < 60) {q : Nat} (hq : q < 62) {i : Int32} (hi : i = nI j) (hdg : decode cc pc = .ok (.aastore, 1))
    (kk : ∀ (H1 : Heap) (locs1 : List Loc), WD G H0 (up2 d 8 j (nI q)) H1 locs1 → W p l e R s m args below meth c H1 locs1 cells slots Q (F0 m (pc + 1) ls rest)) : W p l e R s m args below meth c H locs cells slots Q (F0 m pc ls (.ref (gad G (q + 420)) :: .int i :: .ref (gad G 8) :: rest)) := by
  have hF := F_Row G hG
  have hM := F_Msg G hG hq
  obtain ⟨k, hk⟩ := wl_get (G := G) (d := d) hF.1
  obtain ⟨k2, hk2⟩ := wl_get (G := G) (d := d) hM.1
  subst hi
  refine va_astq hx hb hK hW.1 hW.2.1 hW.2.2 k 7 k2 iMsg (cA := gC G 7) (r := gclMsg) (n := 60) (f := fun j => some (gad G ((d 8 j).toNatClampNeg + 420))) (by rw [hk, en, hF.2.2.2]) rfl (by rw [hk2, en, hM.2]) rfl (vp_in_nI hj (by decide)) hdg (fun H1 locs1 h1 h2 h3 => kk H1 locs1 ?_)
  rw [nI_clamp (by omega)] at h1 h2
  have he := wl_set (d' := up2 d 8 j (nI q)) (e' := aR (gC G 7) 60 (va_up (fun j => some (gad G ((d 8 j).toNatClampNeg + 420))) j (some (gad G (q + 420))))) hW.2.1 hF.1 hk (by
    rw [en, hF.2.2.2]
    refine congrArg (fun f => aR (gC G 7) 60 f) (funext fun j' => ?_)
    show some (gad G ((up2 d 8 j (nI q) 8 j').toNatClampNeg + 420)) = _
    by_cases h : j' = j
    · subst h; rw [va_up_self, up2_self, nI_clamp (by omega)]
    · rw [va_up_ne _ _ h, up2_nk h]) (fun c' h => up2_off h)
  rw [he] at h1 h2
  exact ⟨h1, h2, h3⟩
/-- System.arraycopy(a, 0, b, 0, n) of ints -/
theorem e_cp (hx : p.tables.exec = Jvm.exec) (hb : c.code = cc) (hml : c.maxLocals = ls.size) {own : String} {index : Nat} (hown : s.vm.findClass own = some m.cls) (hts : ∀ w ∈ WS, w.before args s = true) (k1 : Cond.methodLink own index arraycopyName ∈ WS) (k2 : Cond.native arraycopyName ∈ WS) (k3 : Cond.static arraycopyName ∈ WS) (k4 : Cond.initialized "java/lang/System" ∈ WS)
    (hK : va_K G.1 gcl (tys G) s) (hW : WD G H0 d H locs) {ca cb na nb n : Nat} (hA : IA G ca na) (hB : IA G cb nb) (h4 : n ≤ na) (h5 : n ≤ nb) {x : Int32} (hn : x = nI n) (hframes : 1 ≤ R.frames) (hlocals : (rest.map fun v => v.category).sum + (nativeFrameWords "java/lang/System" "arraycopy" 5 + 11) ≤ R.locals) (hdg : decode cc pc = .ok (.invokestatic index, 3))
    (kk : ∀ (H1 : Heap) (locs1 : List Loc), WD G H0 (f_cp3 d ca cb n) H1 locs1 → W p l e R s m args below meth c H1 locs1 cells slots Q (F0 m (pc + 3) ls rest)) : W p l e R s m args below meth c H locs cells slots Q (F0 m pc ls (.int x :: .int 0 :: .ref (gad G cb) :: .int 0 :: .ref (gad G ca) :: rest)) := by
  obtain ⟨qa, hqa⟩ := wl_get (G := G) (d := d) hA.1
  obtain ⟨qb, hqb⟩ := wl_get (G := G) (d := d) hB.1
  subst hn
  have hn31 : n < 2 ^ 31 := Nat.lt_of_le_of_lt h4 hA.2.1
  have z0 : (0 : Int32).toNatClampNeg = 0 := sb_cl0
  refine va_copyi hx hb hml hown (hts _ k1) (hts _ k2) (hts _ k3) (hts _ k4) hK hW.1 hW.2.1 hW.2.2 qa qb 0 0 (c0 := gC G 0) (c1 := gC G 0) (n0 := na) (n1 := nb) (f := d ca) (g := d cb) (ty := .int) (by rw [hqa, en, hA.2.2]) (by rw [hqb, en, hB.2.2]) rfl rfl rfl (by decide) (by decide) (nI_pos hn31) (by rw [z0, nI_clamp hn31]; omega) (by rw [z0, nI_clamp hn31]; omega) (fun _ _ => rfl) hframes hlocals hdg (fun H1 locs1 h1 h2 h3 => kk H1 locs1 ?_)
  rw [z0, nI_clamp hn31] at h1 h2
  have he := wl_set (d' := f_cp3 d ca cb n) (e' := aI (gC G 0) nb (va_cpy (d ca) (d cb) 0 0 n)) hW.2.1 hB.1 hqb (by
    rw [en, hB.2.2]
    refine congrArg (fun f => aI (gC G 0) nb f) (funext fun k => ?_)
    by_cases h : k < n
    · rw [pk_cpy_in (Nat.zero_le _) (by omega)]; simp [f_cp3, h]
    · rw [pk_cpy_out (Or.inr (by omega))]; simp [f_cp3, h]) (fun c' h => funext fun k => by simp [f_cp3, h])
  rw [he] at h1 h2
  exact ⟨h1, h2, h3⟩
end EB
end
section
/-- what stands outside the world: two statics of Throwable, the texts of the throws -/
abbrev STRS : List (String × Nat × String) := [(R_PC, 59, "all transactions are begun"), (R_PC, 213, "a number out of range"), (R_PC, 217, "there is no such transaction"), (R_PC, 220, "it is not up"), (R_PC, 78, "another transaction has the lock"), (R_PC, 86, "the transaction writes no more here"), (R_PC, 101, "the transaction has no members"), (R_PC, 103, "the transaction is closed"), (R_PC, 120, "the store is not working"), (R_PC, 128, "the transaction is not closed"), (R_PC, 224, "there is no such message"), (R_PC, 168, "no character below 0"), (R_Msg, 53, "PARVTO"), (R_PC, 201, "the leader knows no outcome")]
theorem ks_59 : (R_PC, 59, "all transactions are begun") ∈ STRS := List.mem_of_getElem? (i := 0) rfl
theorem ks_213 : (R_PC, 213, "a number out of range") ∈ STRS := List.mem_of_getElem? (i := 1) rfl
theorem ks_217 : (R_PC, 217, "there is no such transaction") ∈ STRS := List.mem_of_getElem? (i := 2) rfl
theorem ks_220 : (R_PC, 220, "it is not up") ∈ STRS := List.mem_of_getElem? (i := 3) rfl
theorem ks_78 : (R_PC, 78, "another transaction has the lock") ∈ STRS := List.mem_of_getElem? (i := 4) rfl
theorem ks_86 : (R_PC, 86, "the transaction writes no more here") ∈ STRS := List.mem_of_getElem? (i := 5) rfl
theorem ks_101 : (R_PC, 101, "the transaction has no members") ∈ STRS := List.mem_of_getElem? (i := 6) rfl
theorem ks_103 : (R_PC, 103, "the transaction is closed") ∈ STRS := List.mem_of_getElem? (i := 7) rfl
theorem ks_120 : (R_PC, 120, "the store is not working") ∈ STRS := List.mem_of_getElem? (i := 8) rfl
theorem ks_128 : (R_PC, 128, "the transaction is not closed") ∈ STRS := List.mem_of_getElem? (i := 9) rfl
theorem ks_224 : (R_PC, 224, "there is no such message") ∈ STRS := List.mem_of_getElem? (i := 10) rfl
theorem ks_168 : (R_PC, 168, "no character below 0") ∈ STRS := List.mem_of_getElem? (i := 11) rfl
theorem ks_201 : (R_PC, 201, "the leader knows no outcome") ∈ STRS := List.mem_of_getElem? (i := 13) rfl
def EnvX (G : GT) (U : State) : Prop := vx_Zq Bundle.tN "UNASSIGNED_STACK" Bundle.steD (gAb G) U U.heap ∧ vx_Zq Bundle.tN "SUPPRESSED_SENTINEL" Bundle.listD (gAb G) U U.heap ∧ ∀ q ∈ STRS, ∃ sa : Nat, vk_R q.1 q.2.1 q.2.2 sa U
theorem envx_move {G : GT} {s U : State} {H : Heap} {locs : List Loc} (h : EnvX G s) (hS : va_S (gAb G) s.heap H locs) (hU : U.heap = H) (hW : s.WarmedH U.vm) : EnvX G U := by
  refine ⟨?_, ?_, fun q hq => (h.2.2 q hq).imp fun sa h => vk_R.warm hW h⟩
  · rw [hU]; exact vx_Zq.moved hW.alike (h.1.kept hS.2.1)
  · rw [hU]; exact vx_Zq.moved hW.alike (h.2.1.kept hS.2.1)
theorem envx_calling {G : GT} {U : State} {g : JFrame} {mk : MethodId} {a : Array Value} (h : EnvX G U) : EnvX G (U.calling g mk a) :=
  ⟨vx_Zq.moved (u := U) (U := U.calling g mk a) (Vm.Alike.refl U.vm) h.1, vx_Zq.moved (u := U) (U := U.calling g mk a) (Vm.Alike.refl U.vm) h.2.1, fun q hq => (h.2.2 q hq).imp fun sa h => vk_R.same (u := U) (U := U.calling g mk a) rfl h⟩
/-! Contracts over the one world: how they begin, end, and are called. -/
theorem goodWS {w0 : Cond} (h0 : w0 ∈ WS) : GoodIn WS (w0 :: WS) := by
  have hg : ∀ w ∈ WS, w ∈ WS ∧ ((w.onTables && w.keeps) = true ∨ ∃ ty, w = .arrayClass ty) := fun w h => ⟨h, good_of_word (List.all_eq_true.mp WS_good w h)⟩
  intro w hw
  rcases List.mem_cons.mp hw with h | h
  · rw [h]; exact hg w0 h0
  · exact hg w h
/-- what every method has of the tables and of what lies outside the world -/
def EnvP (G : GT) (U : State) : Prop := va_K G.1 gcl (tys G) U ∧ (∀ q ∈ NWf, va_Nw (.fieldLinkNest q.1 q.2.1 q.2.2.1 q.2.2.2.1 q.2.2.2.2.1 q.2.2.2.2.2) U) ∧ (∀ q ∈ NWm, va_Nw (.methodLinkNest q.1 q.2.1 q.2.2.1 q.2.2.2) U) ∧ EnvX G U
theorem env_move {G : GT} {s U : State} {H : Heap} {locs : List Loc} (h : EnvP G s) (hS : va_S (gAb G) s.heap H locs) (hU : U.heap = H) (hW : s.WarmedH U.vm) : EnvP G U :=
  ⟨va_K.moved hW.alike h.1, fun q hq => va_Nw.warmF hW (h.2.1 q hq), fun q hq => va_Nw.warmM hW (h.2.2.1 q hq), envx_move h.2.2.2 hS hU hW⟩
theorem env_calling {G : GT} {U : State} {g : JFrame} {mk : MethodId} {a : Array Value} (h : EnvP G U) : EnvP G (U.calling g mk a) :=
  ⟨va_K.moved (u := U) (U := U.calling g mk a) (Vm.Alike.refl U.vm) h.1, fun q hq => va_Nw.same (u := U) (U := U.calling g mk a) rfl rfl (h.2.1 q hq), fun q hq => va_Nw.same (u := U) (U := U.calling g mk a) rfl rfl (h.2.2.1 q hq), envx_calling h.2.2.2⟩
def cPre (G : GT) (av : List Value) (d : DD) : Array Value → State → Prop := va_Pc av (fun U => EnvP G U ∧ gbase G ≤ U.heap.size ∧ va_P G.1 gcl (wl G d) U.heap ∧ va_D (gAb G) (wl G d))
def cB (G : GT) (d : DD) (t : State) : Prop := va_P G.1 gcl (wl G d) t.heap ∧ va_D (gAb G) (wl G d)
def cQi (G : GT) (post : Int32 → DD → Prop) : Array Value → State → Outcome → State → Prop := va_Qi post (cB G) (gAb G)
def cQv (G : GT) (post : DD → Prop) : Array Value → State → Outcome → State → Prop := va_Qv post (cB G) (gAb G)
def cQr (G : GT) (post : Nat → DD → Prop) : Array Value → State → Outcome → State → Prop := va_Qr (S := Nat × DD) (fun u => post u.1 u.2) (fun u a t => a = gad G u.1 ∧ cB G u.2 t) (gAb G)
theorem cPre_blind {G : GT} {av : List Value} {d : DD} : FrameBlind (cPre G av d) := fun _ _ _ _ h => ⟨h.1, env_calling h.2.1, h.2.2.1, h.2.2.2⟩
/-- what a body has at its entry -/
def CX (G : GT) (own : String) (cc : ByteArray) (nL : Nat) (ret : Option FieldType) (p : Program) (s : State) (m : MethodId) (args : Array Value) (meth : Method) (c : Code) : Prop :=
  p.tables.exec = Jvm.exec ∧ c.code = cc ∧ meth.sig.returnType = ret ∧ c.maxLocals = nL ∧ s.vm.findClass own = some m.cls ∧ (∀ w ∈ WS, w.before args s = true) ∧ meth.locks = false ∧ EnvP G s ∧ gbase G ≤ s.heap.size
theorem c_start {l : Launch} {G : GT} {y : MethodName} {own : String} {cc : ByteArray} {maxL : Nat} {ret : Option FieldType} {rm : Room} {av : List Value} {d : DD} {Qc : Array Value → State → Outcome → State → Prop} {mc ms : Nat} (hy : plainName y.cls = true) (hown : y.cls = own) (hlen : (lg_sl av).length ≤ maxL)
    (body : ∀ (p : Program) (e : Env) (s : State) (m : MethodId) (below : List Frame) (meth : Method) (c : Code) (ls : Array Slot), CX G own cc maxL ret p s m av.toArray meth c → WD G s.heap d s.heap [] → lv_has ls maxL (lv_args 0 av) → W p l e rm s m av.toArray below meth c s.heap [] 0 0 (MQ below Qc av.toArray s mc ms (gAb G)) (F0 m 0 ls [])) : Met l y (.code y cc maxL ret :: WS) rm (cPre G av d) Qc mc ms (gAb G) := by
  refine Met.ofW (cc := cc) (maxL := maxL) (ret := ret) hy rfl ?_
  intro p e s m args below meth c s₁ B hml hv
  obtain ⟨rfl, hE, hbs, hP, hD⟩ := hv
  have hts := atoms_spec (ws := .code y cc maxL ret :: WS) B.pre
  have ho : s.vm.findClass y.cls = some m.cls := findClass_of_methodNamed B.named
  rw [hown] at ho
  rw [lg_entry_eq]
  exact body p e s m below meth c _ ⟨B.exec, B.bytes, B.returns, hml, ho, fun w h => hts w (List.mem_cons_of_mem _ h), B.notSynchronized, hE, hbs⟩ ⟨hP, hD, va_S.rf⟩ (lv_entry av hlen)
section EC
variable {p : Program} {l : Launch} {e : Env} {R : Room} {s : State} {m : MethodId} {args : Array Value} {below : List Frame} {meth : Method} {c : Code} {H : Heap} {locs : List Loc} {cells slots : Nat} {Q : State → Prop}
variable {cc : ByteArray} {pc : Nat} {ls : Array Slot} {rest : List Value} {G : GT} {d : DD}
theorem e_iret {post : Int32 → DD → Prop} (hx : p.tables.exec = Jvm.exec) (hb : c.code = cc) (hr : meth.sig.returnType = some .int) (hlk : meth.locks = false) (hW : WD G s.heap d H locs) {v : Int32} (hp : post v d) {mc ms : Nat} (hc : cells ≤ mc) (hs : slots ≤ ms) (hdg : decode cc pc = .ok (.ireturn, 1)) : W p l e R s m args below meth c H locs cells slots (MQ below (cQi G post) args s mc ms (gAb G)) (F0 m pc ls [.int v]) := by
  refine W.widen hc hs ?_
  exact W.iret hx hb hr (fun t ht _ => ⟨⟨v, d, rfl, hp, by rw [ht]; exact hW.1, hW.2.1⟩, hW.2.2.F ht⟩) hW.2.2.2.2 hdg hlk
theorem e_zret {post : Int32 → DD → Prop} (hx : p.tables.exec = Jvm.exec) (hb : c.code = cc) (hr : meth.sig.returnType = some .boolean) (hlk : meth.locks = false) (hW : WD G s.heap d H locs) {v : Int32} (h01 : v = 0 ∨ v = 1) (hp : post v d) {mc ms : Nat} (hc : cells ≤ mc) (hs : slots ≤ ms) (hdg : decode cc pc = .ok (.ireturn, 1)) : W p l e R s m args below meth c H locs cells slots (MQ below (cQi G post) args s mc ms (gAb G)) (F0 m pc ls [.int v]) := by
  refine W.widen hc hs ?_
  exact W.zret hx hb hr (by rcases h01 with rfl | rfl <;> rfl) (fun t ht _ => ⟨⟨v, d, rfl, hp, by rw [ht]; exact hW.1, hW.2.1⟩, hW.2.2.F ht⟩) hW.2.2.2.2 hdg hlk
theorem e_vret {post : DD → Prop} (hx : p.tables.exec = Jvm.exec) (hb : c.code = cc) (hr : meth.sig.returnType = none) (hlk : meth.locks = false) (hW : WD G s.heap d H locs) (hp : post d) {mc ms : Nat} (hc : cells ≤ mc) (hs : slots ≤ ms) (hdg : decode cc pc = .ok (.return_, 1)) : W p l e R s m args below meth c H locs cells slots (MQ below (cQv G post) args s mc ms (gAb G)) (F0 m pc ls []) := by
  refine W.widen hc hs ?_
  exact W.vret hx hb hr (fun t ht _ => ⟨⟨d, rfl, hp, by rw [ht]; exact hW.1, hW.2.1⟩, hW.2.2.F ht⟩) hW.2.2.2.2 hdg hlk
theorem e_aret {post : Nat → DD → Prop} {nm : String} (hx : p.tables.exec = Jvm.exec) (hb : c.code = cc) (hr : meth.sig.returnType = some (.object nm)) (hlk : meth.locks = false) (hW : WD G s.heap d H locs) {cn : Nat} (hp : post cn d) {mc ms : Nat} (hc : cells ≤ mc) (hs : slots ≤ ms) (hdg : decode cc pc = .ok (.areturn, 1)) : W p l e R s m args below meth c H locs cells slots (MQ below (cQr G post) args s mc ms (gAb G)) (F0 m pc ls [.ref (gad G cn)]) := by
  refine W.widen hc hs ?_
  exact W.aret hx hb hr (Or.inl ⟨_, rfl⟩) (Or.inr ⟨_, rfl⟩) (fun t ht _ => ⟨⟨(cn, d), gad G cn, rfl, hp, rfl, by rw [ht]; exact hW.1, hW.2.1⟩, hW.2.2.F ht⟩) hW.2.2.2.2 hdg hlk
variable {y : MethodName} {bytes : ByteArray} {maxL nL mc ms n index : Nat} {ret : Option FieldType} {rm : Room} {Qc : Array Value → State → Outcome → State → Prop} {own C host : String} {As st0 : List Value}
theorem pre_of {av : List Value} (hE : EnvP G s) (hW : WD G s.heap d H locs) (hbs : gbase G ≤ s.heap.size) : ∀ U : State, U.heap = H → s.WarmedH U.vm → cPre G av d av.toArray U := fun U hU hWm =>
  ⟨rfl, env_move hE hW.2.2 hU hWm, by rw [hU]; exact Nat.le_trans hbs hW.2.2.1, by rw [hU]; exact hW.1, hW.2.1⟩
/-- a static method, of any class, not across a nest by a private name -/
theorem e_runS (hx : p.tables.exec = Jvm.exec) (hb : c.code = cc) (hml : c.maxLocals = nL) (hown : s.vm.findClass own = some m.cls) (hts : ∀ w ∈ WS, w.before args s = true) (hE : EnvP G s) (hbs : gbase G ≤ s.heap.size) (hW : WD G s.heap d H locs) (hM : Met l y (.code y bytes maxL ret :: WS) rm (cPre G As d) Qc mc ms (gAb G))
    (k1 : Cond.methodLink own index y ∈ WS) (k2 : Cond.static y ∈ WS) (k3 : Cond.initialized y.cls ∈ WS) (k4 : Cond.code y bytes maxL ret ∈ WS) (hrc : rm.cells = mc) (hrs : rm.slots = ms) (hd : y.cls ≠ "java/lang/invoke/MethodHandle" ∧ y.cls ≠ "java/lang/invoke/VarHandle" ∧ (parseMethodDescriptor y.desc).map (fun d => d.parameters.length) = some n) (hR : rm.frames + 1 ≤ R.frames ∧ 8 + (maxL + 11) + rm.locals ≤ R.locals)
    (hn : As.length = n) (hsize : ls.size = nL) (hst : st0 = As.reverse ++ rest) (hcat : (rest.map fun v => v.category).sum ≤ 8) (hdg : decode cc pc = .ok (.invokestatic index, 3)) (hf : cells + mc ≤ R.cells ∧ slots + ms ≤ R.slots) :
    va_Run p l e R s m args below meth c H locs cells slots mc ms (F0 m pc ls st0) rest (Qc As.toArray) (gAb G) :=
  va_runS ⟨hx, hb, hml, hown, hts⟩ hM ⟨callB_of n hts (goodWS k4) rfl hrc hrs (hts _ k3) (hts _ k1) hd hR, hts _ k2⟩ ⟨cPre_blind, pre_of hE hW hbs⟩ rfl hn hsize hst (lv_room hcat) hdg hf
/-- .. a private one of a nest mate -/
theorem e_runSN (hx : p.tables.exec = Jvm.exec) (hb : c.code = cc) (hml : c.maxLocals = nL) (hown : s.vm.findClass own = some m.cls) (hts : ∀ w ∈ WS, w.before args s = true) (hE : EnvP G s) (hbs : gbase G ≤ s.heap.size) (hW : WD G s.heap d H locs) (hM : Met l y (.code y bytes maxL ret :: WS) rm (cPre G As d) Qc mc ms (gAb G))
    (k1 : (own, index, y, host) ∈ NWm) (k2 : Cond.static y ∈ WS) (k3 : Cond.initialized y.cls ∈ WS) (k4 : Cond.code y bytes maxL ret ∈ WS) (hrc : rm.cells = mc) (hrs : rm.slots = ms) (hd : y.cls ≠ "java/lang/invoke/MethodHandle" ∧ y.cls ≠ "java/lang/invoke/VarHandle" ∧ (parseMethodDescriptor y.desc).map (fun d => d.parameters.length) = some n) (hR : rm.frames + 1 ≤ R.frames ∧ 8 + (maxL + 11) + rm.locals ≤ R.locals)
    (hn : As.length = n) (hsize : ls.size = nL) (hst : st0 = As.reverse ++ rest) (hcat : (rest.map fun v => v.category).sum ≤ 8) (hdg : decode cc pc = .ok (.invokestatic index, 3)) (hf : cells + mc ≤ R.cells ∧ slots + ms ≤ R.slots) :
    va_Run p l e R s m args below meth c H locs cells slots mc ms (F0 m pc ls st0) rest (Qc As.toArray) (gAb G) :=
  va_runSN ⟨hx, hb, hml, hown, hts⟩ hM ⟨va_cnB n hts (goodWS k4) rfl hrc hrs (hE.2.2.1 _ k1) (hts _ k3) hd hR, hts _ k2, trivial⟩ ⟨cPre_blind, pre_of hE hW hbs⟩ rfl hn hsize hst (lv_room hcat) hdg hf
/-- a method of an object of the world -/
theorem e_runV (hx : p.tables.exec = Jvm.exec) (hb : c.code = cc) (hml : c.maxLocals = nL) (hown : s.vm.findClass own = some m.cls) (hts : ∀ w ∈ WS, w.before args s = true) (hE : EnvP G s) (hbs : gbase G ≤ s.heap.size) (hW : WD G s.heap d H locs) {cn ci : Nat} {fs : (Nat → Int32) → List Value} (hF : OB G cn ci fs) {T : u_T} {N : Nat} (hcl : gcl[ci]? = some (C, T, N)) (hM : Met l y (.code y bytes maxL ret :: WS) rm (cPre G (.ref (gad G cn) :: As) d) Qc mc ms (gAb G))
    (k1 : Cond.methodLink own index y ∈ WS) (k2 : Cond.instanceMethod y ∈ WS) (k5 : Cond.selects C y y ∈ WS) (k3 : Cond.initialized y.cls ∈ WS) (k4 : Cond.code y bytes maxL ret ∈ WS) (hrc : rm.cells = mc) (hrs : rm.slots = ms) (hd : y.cls ≠ "java/lang/invoke/MethodHandle" ∧ y.cls ≠ "java/lang/invoke/VarHandle" ∧ (parseMethodDescriptor y.desc).map (fun d => d.parameters.length) = some n) (hR : rm.frames + 1 ≤ R.frames ∧ 8 + (maxL + 11) + rm.locals ≤ R.locals)
    (hn : As.length = n) (hsize : ls.size = nL) (hst : st0 = As.reverse ++ .ref (gad G cn) :: rest) (hcat : (rest.map fun v => v.category).sum ≤ 8) (hdg : decode cc pc = .ok (.invokevirtual index, 3)) (hf : cells + mc ≤ R.cells ∧ slots + ms ≤ R.slots) :
    va_Run p l e R s m args below meth c H locs cells slots mc ms (F0 m pc ls st0) rest (Qc (Value.ref (gad G cn) :: As).toArray) (gAb G) := by
  obtain ⟨k0, hk0⟩ := wl_get (G := G) (d := d) hF.1
  have hk1 : (wl G d)[k0]? = some (gad G cn, Sum.inr (ci, fs (d cn))) := by rw [hk0, en, hF.2]
  exact va_runV ⟨hx, hb, hml, hown, hts⟩ hM ⟨callB_of n hts (goodWS k4) rfl hrc hrs (hts _ k3) (hts _ k1) hd hR, hts _ k2, hts _ k5⟩ ⟨cPre_blind, va_recv hE.1 hW.1 (ci := ci) hcl hk1, pre_of hE hW hbs⟩ rfl hn hsize hst (lv_room hcat) hdg hf
/-- .. by a private name across a nest -/
theorem e_runVN (hx : p.tables.exec = Jvm.exec) (hb : c.code = cc) (hml : c.maxLocals = nL) (hown : s.vm.findClass own = some m.cls) (hts : ∀ w ∈ WS, w.before args s = true) (hE : EnvP G s) (hbs : gbase G ≤ s.heap.size) (hW : WD G s.heap d H locs) {cn ci : Nat} {fs : (Nat → Int32) → List Value} (hF : OB G cn ci fs) {T : u_T} {N : Nat} (hcl : gcl[ci]? = some (C, T, N)) (hM : Met l y (.code y bytes maxL ret :: WS) rm (cPre G (.ref (gad G cn) :: As) d) Qc mc ms (gAb G))
    (k1 : (own, index, y, host) ∈ NWm) (k2 : Cond.instanceMethod y ∈ WS) (k5 : Cond.selects C y y ∈ WS) (k3 : Cond.initialized y.cls ∈ WS) (k4 : Cond.code y bytes maxL ret ∈ WS) (hrc : rm.cells = mc) (hrs : rm.slots = ms) (hd : y.cls ≠ "java/lang/invoke/MethodHandle" ∧ y.cls ≠ "java/lang/invoke/VarHandle" ∧ (parseMethodDescriptor y.desc).map (fun d => d.parameters.length) = some n) (hR : rm.frames + 1 ≤ R.frames ∧ 8 + (maxL + 11) + rm.locals ≤ R.locals)
    (hn : As.length = n) (hsize : ls.size = nL) (hst : st0 = As.reverse ++ .ref (gad G cn) :: rest) (hcat : (rest.map fun v => v.category).sum ≤ 8) (hdg : decode cc pc = .ok (.invokevirtual index, 3)) (hf : cells + mc ≤ R.cells ∧ slots + ms ≤ R.slots) :
    va_Run p l e R s m args below meth c H locs cells slots mc ms (F0 m pc ls st0) rest (Qc (Value.ref (gad G cn) :: As).toArray) (gAb G) := by
  obtain ⟨k0, hk0⟩ := wl_get (G := G) (d := d) hF.1
  have hk1 : (wl G d)[k0]? = some (gad G cn, Sum.inr (ci, fs (d cn))) := by rw [hk0, en, hF.2]
  exact va_runVN ⟨hx, hb, hml, hown, hts⟩ hM ⟨va_cnB n hts (goodWS k4) rfl hrc hrs (hE.2.2.1 _ k1) (hts _ k3) hd hR, hts _ k2, hts _ k5⟩ ⟨cPre_blind, va_recv hE.1 hW.1 (ci := ci) hcl hk1, pre_of hE hW hbs⟩ rfl hn hsize hst (lv_room hcat) hdg hf
/-- behind a call -/
theorem e_ci {post : Int32 → DD → Prop} {a : Array Value} (hr : va_Run p l e R s m args below meth c H locs cells slots mc ms (F0 m pc ls st0) rest (cQi G post a) (gAb G)) (hW : WD G s.heap d H locs)
    (kk : ∀ (r : Int32) (d' : DD) (H1 : Heap) (locs1 : List Loc), post r d' → WD G s.heap d' H1 locs1 → W p l e R s m args below meth c H1 locs1 (cells + mc) (slots + ms) Q (F0 m (pc + 3) ls (.int r :: rest))) : W p l e R s m args below meth c H locs cells slots Q (F0 m pc ls st0) :=
  va_calli hr hW.2.2 (fun _ _ h => h) (fun _ h => h) (fun r u t H1 locs1 ht _ hp hB _ _ hS => kk r u H1 locs1 hp ⟨by rw [← ht]; exact hB.1, hB.2, hS⟩)
theorem e_cv {post : DD → Prop} {a : Array Value} (hr : va_Run p l e R s m args below meth c H locs cells slots mc ms (F0 m pc ls st0) rest (cQv G post a) (gAb G)) (hW : WD G s.heap d H locs)
    (kk : ∀ (d' : DD) (H1 : Heap) (locs1 : List Loc), post d' → WD G s.heap d' H1 locs1 → W p l e R s m args below meth c H1 locs1 (cells + mc) (slots + ms) Q (F0 m (pc + 3) ls rest)) : W p l e R s m args below meth c H locs cells slots Q (F0 m pc ls st0) :=
  va_callv hr hW.2.2 (fun _ _ h => h) (fun _ h => h) (fun u t H1 locs1 ht _ hp hB _ _ hS => kk u H1 locs1 hp ⟨by rw [← ht]; exact hB.1, hB.2, hS⟩)
theorem e_cr {post : Nat → DD → Prop} {a : Array Value} (hr : va_Run p l e R s m args below meth c H locs cells slots mc ms (F0 m pc ls st0) rest (cQr G post a) (gAb G)) (hW : WD G s.heap d H locs)
    (kk : ∀ (cn : Nat) (d' : DD) (H1 : Heap) (locs1 : List Loc), post cn d' → WD G s.heap d' H1 locs1 → W p l e R s m args below meth c H1 locs1 (cells + mc) (slots + ms) Q (F0 m (pc + 3) ls (.ref (gad G cn) :: rest))) : W p l e R s m args below meth c H locs cells slots Q (F0 m pc ls st0) :=
  va_callr hr hW.2.2 (fun _ _ h => h) (fun _ h => h) (fun u ra t H1 locs1 ht _ hp hB _ _ hS => by
    obtain ⟨h1, h2⟩ := hB
    subst h1
    exact kk u.1 u.2 H1 locs1 hp ⟨by rw [← ht]; exact h2.1, h2.2, hS⟩)
end EC
end
section
/-! What the methods of the class do to d, in the order in which they do it. -/
def hasI (x : Int32) (i : Nat) : Int32 := if (x >>> (nI i &&& 31)) &&& 1 = 1 then 1 else 0
def withI (x : Int32) (i : Nat) : Int32 := x ||| ((1 : Int32) <<< (nI i &&& 31))
def woutI (x : Int32) (i : Nat) : Int32 := x &&& (((1 : Int32) <<< (nI i &&& 31)) ^^^ (-1))
def packI (b v : Int32) : Int32 := 2 * b + v
def balI (x : Int32) : Int32 := if x = -1 then -1 else x / 2
def votI (x : Int32) : Int32 := if x - x / 2 * 2 = 0 then 0 else 1
theorem lp_out {k B : Nat} {x : Int32} (hx : x = nI B) (hB : B < 2 ^ 31) (hk : k ≤ B) (c : x ≤ nI k) : k = B := by
  subst hx
  have := (nI_leI (a := B) (b := k) (by omega) (by omega)).mp c
  omega
theorem lp_in {k B : Nat} {x : Int32} (hx : x = nI B) (hB : B < 2 ^ 31) (hk : k ≤ B) (c : ¬ x ≤ nI k) : k < B := by
  subst hx
  rcases Nat.lt_or_ge k B with q | q
  · exact q
  · exact absurd (nI_le q (by omega)) c
theorem hasI_01 (x : Int32) (i : Nat) : hasI x i = 0 ∨ hasI x i = 1 := by unfold hasI; split <;> simp
/-- stores -/
def f_keep (d : DD) (s t k : Nat) (v : Int32) : DD := up2 (up2 (up2 (up2 d (s + 40) t 1) (s + 30) k (nI t)) (s + 50) t (withI (d (s + 50) t) k)) (8 * s + t + 70) k v
def lpUnlock (d : DD) (s : Nat) (t : Int32) : Nat → DD
  | 0 => d
  | k + 1 => if lpUnlock d s t k (s + 30) k = t then up2 (lpUnlock d s t k) (s + 30) k (-1) else lpUnlock d s t k
def f_abort (d : DD) (s t : Nat) : DD := lpUnlock (up2 d (s + 40) t 4) s (nI t) 4
def lpCommit (d : DD) (s t : Nat) : Nat → DD
  | 0 => d
  | k + 1 => if hasI (lpCommit d s t k (s + 50) t) k = 0 then lpCommit d s t k else up2 (lpCommit d s t k) (s + 20) k (lpCommit d s t k (8 * s + t + 70) k)
def f_commit (d : DD) (s t : Nat) : DD := lpUnlock (up2 (lpCommit d s t 4) (s + 40) t 3) s (nI t) 4
def lpAW (d : DD) (s : Nat) : Nat → DD
  | 0 => d
  | t + 1 => if lpAW d s t (s + 40) t = 1 then f_abort (lpAW d s t) s t else lpAW d s t
def lockedI (d : DD) (s t k : Nat) : Int32 := if d (s + 30) k = -1 then 0 else if d (s + 30) k = nI t then 0 else 1
def openI (d : DD) (s t : Nat) : Int32 := if d (s + 40) t = 0 then 1 else if d (s + 40) t = 1 then 1 else 0
/-- acceptors -/
def abvI (d : DD) (a t : Nat) (mem b : Int32) : Nat → Int32
  | 0 => 0
  | i + 1 => if hasI mem i = 0 then abvI d a t mem b i else if d (8 * a + t + 130) i ≤ b then abvI d a t mem b i else 1
def lpProm (d : DD) (a t : Nat) (mem b : Int32) : Nat → DD
  | 0 => d
  | i + 1 => if hasI mem i = 0 then lpProm d a t mem b i else up2 (lpProm d a t mem b i) (8 * a + t + 130) i b
def f_accept (d : DD) (a t s : Nat) (b v : Int32) : DD := up2 (up2 d (8 * a + t + 130) s b) (8 * a + t + 160) s (packI b v)
/-- ledgers -/
def lpFill (d : DD) (cn : Nat) (v : Int32) : Nat → DD
  | 0 => d
  | k + 1 => up2 (lpFill d cn v k) cn k v
def f_fill (d : DD) (cn n : Nat) (v : Int32) : DD := lpFill d cn v n
def fmI (x y : Int32) : Int32 := if 0 ≤ (x - x / y * y) ^^^ y then x - x / y * y else if x - x / y * y = 0 then x - x / y * y else x - x / y * y + y
def us (x : Int32) (k : Int32) : Int32 := (x.toUInt32 >>> (k.toUInt32 &&& Int32.toUInt32 31)).toInt32
def bcI (x : Int32) : Int32 :=
  let y1 := x - (us x 1 &&& 1431655765)
  let y2 := (y1 &&& 858993459) + (us y1 2 &&& 858993459)
  let y3 := (y2 + us y2 4) &&& 252645135
  let y4 := y3 + us y3 8
  let y5 := y4 + us y4 16
  y5 &&& 63
def lpDrop (d : DD) (i : Nat) : Nat → DD
  | 0 => d
  | a + 1 => up2 (lpDrop d i a) (i + 220) a 0
def lpForget (d : DD) (i : Nat) : Nat → DD
  | 0 => d
  | a + 1 => f_fill (lpForget d i a) (4 * i + a + 350) 3 (-1)
def f_forget (d : DD) (n i : Nat) : DD := lpForget (lpDrop (up2 (up2 d (i + 200) 1 1) (i + 200) 2 (-1)) i n) i n
def lpKR (d : DD) (i a : Nat) : Nat → DD
  | 0 => d
  | s + 1 => up2 (lpKR d i a s) (4 * i + a + 280) s (lpKR d i a s 551 s)
def cntI (d : DD) (i : Nat) : Nat → Int32
  | 0 => 0
  | a + 1 => cntI d i a + (if d (i + 220) a = 0 then 0 else 1)
def bstI (d : DD) (i s : Nat) : Nat → Int32
  | 0 => -1
  | a + 1 => if d (i + 220) a = 0 then bstI d i s a else if balI (d (4 * i + a + 280) s) ≤ balI (bstI d i s a) then bstI d i s a else d (4 * i + a + 280) s
def vtpI (d : DD) (n i s : Nat) : Int32 := if bstI d i s n = -1 then 0 else votI (bstI d i s n)
def f_hear (d : DD) (i a s : Nat) (b v : Int32) : DD := if b ≤ balI (d (4 * i + a + 350) s) then d else up2 d (4 * i + a + 350) s (packI b v)
def sameI (d : DD) (i s : Nat) (x : Int32) : Nat → Int32
  | 0 => 0
  | b + 1 => sameI d i s x b + (if d (4 * i + b + 350) s = x then 1 else 0)
def dvF (d : DD) (n i s : Nat) (mj : Int32) : Nat → Int32
  | 0 => -1
  | k + 1 => if d (4 * i + (n - (k + 1)) + 350) s = -1 then dvF d n i s mj k else if sameI d i s (d (4 * i + (n - (k + 1)) + 350) s) n < mj then dvF d n i s mj k else votI (d (4 * i + (n - (k + 1)) + 350) s)
def outF (d : DD) (n i : Nat) (mem mj : Int32) : Nat → Int32
  | 0 => 1
  | s + 1 => if hasI mem s = 0 then outF d n i mem mj s else if dvF d n i s mj n = -1 then -1 else outF d n i mem mj s
def jgF (d : DD) (n i : Nat) (mem mj : Int32) : Nat → Int32
  | 0 => outF d n i mem mj 3
  | k + 1 => if hasI mem (3 - (k + 1)) = 0 then jgF d n i mem mj k else if dvF d n i (3 - (k + 1)) mj n = 0 then 0 else jgF d n i mem mj k
/-- messages -/
def f_cl7 (d : DD) (j : Nat) (kd t : Int32) : DD := up2 (up2 (up2 (up2 (up2 (up2 (up2 d (j + 420) 0 kd) (j + 420) 1 t) (j + 420) 2 (-1)) (j + 420) 3 (-1)) (j + 420) 4 (-1)) (j + 420) 5 (-1)) (j + 420) 6 (-1)
def f_clear (d : DD) (j : Nat) (kd t : Int32) : DD := f_fill (f_cl7 d j kd t) (j + 490) 3 (-1)
def f_cm7 (d : DD) (a b : Nat) : DD := up2 (up2 (up2 (up2 (up2 (up2 (up2 d (b + 420) 0 (d (a + 420) 0)) (b + 420) 1 (d (a + 420) 1)) (b + 420) 2 (d (a + 420) 2)) (b + 420) 3 (d (a + 420) 3)) (b + 420) 4 (d (a + 420) 4)) (b + 420) 5 (d (a + 420) 5)) (b + 420) 6 (d (a + 420) 6)
def f_copy (d : DD) (a b : Nat) : DD := f_cp3 (f_cm7 d a b) (a + 490) (b + 490) 3
def rkI (x : Int32) : Int32 := if x = 0 then 0 else if x = 5 then 0 else if x = 1 then 1 else if x = 3 then 1 else 2
def rcvI (d : DD) (j : Nat) : Int32 := if rkI (d (j + 420) 0) = 0 then d (j + 420) 2 else if rkI (d (j + 420) 0) = 1 then d (j + 420) 3 else d (j + 420) 4
/-- the net -/
def shR (d : DD) (i : Nat) : Nat → DD
  | 0 => d
  | m + 1 => up2 (shR d i m) 8 (i + m) (shR d i m 8 (i + m + 1))
theorem abvI_01 (d : DD) (a t : Nat) (mem b : Int32) : ∀ i : Nat, abvI d a t mem b i = 0 ∨ abvI d a t mem b i = 1
  | 0 => Or.inl rfl
  | i + 1 => by
    unfold abvI
    split
    · exact abvI_01 d a t mem b i
    · split
      · exact abvI_01 d a t mem b i
      · exact Or.inr rfl
theorem dvF_skip {d : DD} {n i s a : Nat} {mj : Int32} (lt : a < n) (h : d (4 * i + a + 350) s = -1 ∨ sameI d i s (d (4 * i + a + 350) s) n < mj) : dvF d n i s mj (n - a) = dvF d n i s mj (n - (a + 1)) := by
  have e : n - a = (n - (a + 1)) + 1 := by omega
  have e2 : n - ((n - (a + 1)) + 1) = a := by omega
  rw [e]
  simp only [dvF, e2]
  rcases h with h | h
  · rw [if_pos h]
  · by_cases h0 : d (4 * i + a + 350) s = -1
    · rw [if_pos h0]
    · rw [if_neg h0, if_pos h]
theorem dvF_hit {d : DD} {n i s a : Nat} {mj : Int32} (lt : a < n) (h0 : ¬ d (4 * i + a + 350) s = -1) (h : ¬ sameI d i s (d (4 * i + a + 350) s) n < mj) : dvF d n i s mj (n - a) = votI (d (4 * i + a + 350) s) := by
  have e : n - a = (n - (a + 1)) + 1 := by omega
  have e2 : n - ((n - (a + 1)) + 1) = a := by omega
  rw [e]
  simp only [dvF, e2]
  rw [if_neg h0, if_neg h]
theorem jgF_out {d : DD} {n i s : Nat} {mem mj : Int32} (lt : s < 3) (h : hasI mem s = 0) : jgF d n i mem mj (3 - s) = jgF d n i mem mj (3 - (s + 1)) := by
  have e : 3 - s = (3 - (s + 1)) + 1 := by omega
  have e2 : 3 - ((3 - (s + 1)) + 1) = s := by omega
  rw [e]
  simp only [jgF, e2]
  rw [if_pos h]
theorem jgF_on {d : DD} {n i s : Nat} {mem mj : Int32} (lt : s < 3) (h : ¬ hasI mem s = 0) (h2 : ¬ dvF d n i s mj n = 0) : jgF d n i mem mj (3 - s) = jgF d n i mem mj (3 - (s + 1)) := by
  have e : 3 - s = (3 - (s + 1)) + 1 := by omega
  have e2 : 3 - ((3 - (s + 1)) + 1) = s := by omega
  rw [e]
  simp only [jgF, e2]
  rw [if_neg h, if_neg h2]
theorem jgF_zero {d : DD} {n i s : Nat} {mem mj : Int32} (lt : s < 3) (h : ¬ hasI mem s = 0) (h2 : dvF d n i s mj n = 0) : jgF d n i mem mj (3 - s) = 0 := by
  have e : 3 - s = (3 - (s + 1)) + 1 := by omega
  have e2 : 3 - ((3 - (s + 1)) + 1) = s := by omega
  rw [e]
  simp only [jgF, e2]
  rw [if_neg h, if_pos h2]
end
section
/-! What the methods leave alone. -/
section OFF
variable {d : DD} {c : Nat}
theorem lpFill_off {cn n : Nat} {v : Int32} (h : c ≠ cn) : lpFill d cn v n c = d c := by
  induction n with
  | zero => rfl
  | succ k ih => rw [lpFill, up2_off h, ih]
theorem f_fill_off {cn n : Nat} {v : Int32} (h : c ≠ cn) : f_fill d cn n v c = d c := lpFill_off h
theorem f_cl7_off {j : Nat} {kd t : Int32} (h : c ≠ j + 420) : f_cl7 d j kd t c = d c := by
  unfold f_cl7
  rw [up2_off h, up2_off h, up2_off h, up2_off h, up2_off h, up2_off h, up2_off h]
theorem f_clear_off {j : Nat} {kd t : Int32} (h1 : c ≠ j + 420) (h2 : c ≠ j + 490) : f_clear d j kd t c = d c := (f_fill_off h2).trans (f_cl7_off h1)
theorem f_cp3_off {ca cb n : Nat} (h : c ≠ cb) : f_cp3 d ca cb n c = d c := funext fun k => by simp [f_cp3, h]
theorem f_cm7_off {a b : Nat} (h : c ≠ b + 420) : f_cm7 d a b c = d c := by
  unfold f_cm7
  rw [up2_off h, up2_off h, up2_off h, up2_off h, up2_off h, up2_off h, up2_off h]
theorem f_copy_off {a b : Nat} (h1 : c ≠ b + 420) (h2 : c ≠ b + 490) : f_copy d a b c = d c := (f_cp3_off h2).trans (f_cm7_off h1)
theorem lpUnlock_off {s k : Nat} {t : Int32} (h : c ≠ s + 30) : lpUnlock d s t k c = d c := by
  induction k with
  | zero => rfl
  | succ k ih =>
    rw [lpUnlock]
    split
    · rw [up2_off h, ih]
    · exact ih
theorem f_abort_off {s t : Nat} (h1 : c ≠ s + 30) (h2 : c ≠ s + 40) : f_abort d s t c = d c := (lpUnlock_off h1).trans (up2_off h2)
theorem lpDrop_off {i a : Nat} (h : c ≠ i + 220) : lpDrop d i a c = d c := by
  induction a with
  | zero => rfl
  | succ k ih => rw [lpDrop, up2_off h, ih]
theorem lpKR_off {i a s : Nat} (h : c ≠ 4 * i + a + 280) : lpKR d i a s c = d c := by
  induction s with
  | zero => rfl
  | succ k ih => rw [lpKR, up2_off h, ih]
theorem lpProm_off {a t i : Nat} {mem b : Int32} (h : c ≠ 8 * a + t + 130) : lpProm d a t mem b i c = d c := by
  induction i with
  | zero => rfl
  | succ k ih =>
    rw [lpProm]
    split
    · exact ih
    · rw [up2_off h, ih]
theorem f_hear_off {i a s : Nat} {b v : Int32} (h : c ≠ 4 * i + a + 350) : f_hear d i a s b v c = d c := by
  unfold f_hear
  split
  · rfl
  · exact up2_off h
end OFF
/-- the net is sound: how many there are, and the row is a row of different messages -/
def NetOK (d : DD) : Prop := (∃ z : Nat, z ≤ 60 ∧ d 5 1 = nI z) ∧ (∀ j, j < 60 → ∃ q, q < 60 ∧ d 8 j = nI q) ∧ ∀ i j, i < 60 → j < 60 → d 8 i = d 8 j → i = j
def f_send (d : DD) : DD := if d 5 1 < 60 then up2 (f_copy d 60 (d 8 (d 5 1).toNatClampNeg).toNatClampNeg) 5 1 (f_copy d 60 (d 8 (d 5 1).toNatClampNeg).toNatClampNeg 5 1 + 1) else up2 d 5 2 (d 5 2 + 1)
theorem NetOK_keep {d d' : DD} (h : NetOK d) (h5 : d' 5 = d 5) (h8 : d' 8 = d 8) : NetOK d' := by
  unfold NetOK at *
  rw [h5, h8]
  exact h
theorem f_send_lt {d : DD} {z q : Nat} (hz : z < 60) (hq : q < 60) (fz : d 5 1 = nI z) (fq : d 8 z = nI q) : f_send d = up2 (f_copy d 60 q) 5 1 (f_copy d 60 q 5 1 + 1) := by
  unfold f_send
  rw [fz, nI_clamp (by omega), fq, nI_clamp (by omega), if_pos (show nI z < (60 : Int32) from nI_lt (b := 60) hz (by decide))]
theorem f_send_full {d : DD} (fz : d 5 1 = nI 60) : f_send d = up2 d 5 2 (d 5 2 + 1) := by
  unfold f_send
  rw [fz, if_neg (by decide)]
theorem f_send_off {d : DD} {c : Nat} (hN : NetOK d) (h5 : c ≠ 5) (h : c < 420 ∨ (480 ≤ c ∧ c < 490) ∨ 550 ≤ c) : f_send d c = d c := by
  obtain ⟨⟨z, hz, fz⟩, hr, -⟩ := hN
  rcases Nat.lt_or_ge z 60 with h0 | h0
  · obtain ⟨q, hq, fq⟩ := hr z h0
    rw [f_send_lt h0 hq fz fq, up2_off h5, f_copy_off (by omega) (by omega)]
  · rw [f_send_full (by rw [fz, show z = 60 by omega]), up2_off h5]
theorem NetOK_send {d : DD} (hN : NetOK d) : NetOK (f_send d) := by
  have h8 : f_send d 8 = d 8 := f_send_off hN (by decide) (by decide)
  obtain ⟨⟨z, hz, fz⟩, hr, hi⟩ := hN
  refine ⟨?_, by rw [h8]; exact hr, by rw [h8]; exact hi⟩
  rcases Nat.lt_or_ge z 60 with h0 | h0
  · obtain ⟨q, hq, fq⟩ := hr z h0
    refine ⟨z + 1, h0, ?_⟩
    rw [f_send_lt h0 hq fz fq, up2_self, congrFun (f_copy_off (c := 5) (by omega) (by omega)) 1, fz, nI_1]
  · refine ⟨60, Nat.le_refl _, ?_⟩
    have e : z = 60 := by omega
    subst e
    rw [f_send_full fz, up2_nk (by decide), fz]
end
section
/-! Methods that may throw, over the one world. -/
def cX (G : GT) (xpost : String → DD → Prop) : String → State → State → Prop := vx_X (S := String × DD) (fun u => xpost u.1 u.2) (fun E u t => E = u.1 ∧ cB G u.2 t) (gAb G)
theorem c_startX {l : Launch} {G : GT} {y : MethodName} {own : String} {cc : ByteArray} {maxL : Nat} {ret : Option FieldType} {rm : Room} {av : List Value} {d : DD} {Qc : Array Value → State → Outcome → State → Prop} {XC : String → State → State → Prop} {mc ms : Nat} (hy : plainName y.cls = true) (hown : y.cls = own) (hlen : (lg_sl av).length ≤ maxL)
    (body : ∀ (p : Program) (e : Env) (s : State) (m : MethodId) (below : List Frame) (meth : Method) (c : Code) (ls : Array Slot), (∀ x ∈ c.exceptionTable.toList, False) → CX G own cc maxL ret p s m av.toArray meth c → WD G s.heap d s.heap [] → lv_has ls maxL (lv_args 0 av) → W p l e rm s m av.toArray below meth c s.heap [] 0 0 (vx_MQ below Qc XC av.toArray s mc ms (gAb G)) (F0 m 0 ls [])) : vx_Met l y (.code y cc maxL ret :: WS) rm (cPre G av d) Qc XC mc ms (gAb G) := by
  refine vx_ofW (cc := cc) (maxL := maxL) (ret := ret) hy rfl ?_
  intro p e s m args below meth c s₁ B hml hno hv
  obtain ⟨rfl, hE, hbs, hP, hD⟩ := hv
  have hts := atoms_spec (ws := .code y cc maxL ret :: WS) B.pre
  have ho : s.vm.findClass y.cls = some m.cls := findClass_of_methodNamed B.named
  rw [hown] at ho
  rw [lg_entry_eq]
  exact body p e s m below meth c _ hno ⟨B.exec, B.bytes, B.returns, hml, ho, fun w h => hts w (List.mem_cons_of_mem _ h), B.notSynchronized, hE, hbs⟩ ⟨hP, hD, va_S.rf⟩ (lv_entry av hlen)
section EX
variable {p : Program} {l : Launch} {e : Env} {R : Room} {s : State} {m : MethodId} {args : Array Value} {below : List Frame} {meth : Method} {c : Code} {H : Heap} {locs : List Loc} {cells slots : Nat} {Q : State → Prop}
variable {cc : ByteArray} {pc : Nat} {ls : Array Slot} {rest : List Value} {G : GT} {d : DD}
variable {y : MethodName} {bytes : ByteArray} {maxL nL mc ms n index : Nat} {ret : Option FieldType} {rm : Room} {Qc : Array Value → State → Outcome → State → Prop} {XC : String → State → State → Prop} {own C host : String} {As st0 : List Value}
theorem e_xrunS (hx : p.tables.exec = Jvm.exec) (hb : c.code = cc) (hml : c.maxLocals = nL) (hown : s.vm.findClass own = some m.cls) (hts : ∀ w ∈ WS, w.before args s = true) (hE : EnvP G s) (hbs : gbase G ≤ s.heap.size) (hW : WD G s.heap d H locs) (hM : vx_Met l y (.code y bytes maxL ret :: WS) rm (cPre G As d) Qc XC mc ms (gAb G))
    (k1 : Cond.methodLink own index y ∈ WS) (k2 : Cond.static y ∈ WS) (k3 : Cond.initialized y.cls ∈ WS) (k4 : Cond.code y bytes maxL ret ∈ WS) (hrc : rm.cells = mc) (hrs : rm.slots = ms) (hd : y.cls ≠ "java/lang/invoke/MethodHandle" ∧ y.cls ≠ "java/lang/invoke/VarHandle" ∧ (parseMethodDescriptor y.desc).map (fun d => d.parameters.length) = some n) (hR : rm.frames + 1 ≤ R.frames ∧ 8 + (maxL + 11) + rm.locals ≤ R.locals)
    (hn : As.length = n) (hsize : ls.size = nL) (hst : st0 = As.reverse ++ rest) (hcat : (rest.map fun v => v.category).sum ≤ 8) (hdg : decode cc pc = .ok (.invokestatic index, 3)) (hf : cells + mc ≤ R.cells ∧ slots + ms ≤ R.slots) :
    vx_Run p l e R s m args below meth c H locs cells slots mc ms (F0 m pc ls st0) rest (Qc As.toArray) XC (gAb G) :=
  vx_runS ⟨hx, hb, hml, hown, hts⟩ hM ⟨callB_of n hts (goodWS k4) rfl hrc hrs (hts _ k3) (hts _ k1) hd hR, hts _ k2⟩ ⟨cPre_blind, pre_of hE hW hbs⟩ rfl hn hsize hst (lv_room hcat) hdg hf
theorem e_xrunV (hx : p.tables.exec = Jvm.exec) (hb : c.code = cc) (hml : c.maxLocals = nL) (hown : s.vm.findClass own = some m.cls) (hts : ∀ w ∈ WS, w.before args s = true) (hE : EnvP G s) (hbs : gbase G ≤ s.heap.size) (hW : WD G s.heap d H locs) {cn ci : Nat} {fs : (Nat → Int32) → List Value} (hF : OB G cn ci fs) {T : u_T} {N : Nat} (hcl : gcl[ci]? = some (C, T, N)) (hM : vx_Met l y (.code y bytes maxL ret :: WS) rm (cPre G (.ref (gad G cn) :: As) d) Qc XC mc ms (gAb G))
    (k1 : Cond.methodLink own index y ∈ WS) (k2 : Cond.instanceMethod y ∈ WS) (k5 : Cond.selects C y y ∈ WS) (k3 : Cond.initialized y.cls ∈ WS) (k4 : Cond.code y bytes maxL ret ∈ WS) (hrc : rm.cells = mc) (hrs : rm.slots = ms) (hd : y.cls ≠ "java/lang/invoke/MethodHandle" ∧ y.cls ≠ "java/lang/invoke/VarHandle" ∧ (parseMethodDescriptor y.desc).map (fun d => d.parameters.length) = some n) (hR : rm.frames + 1 ≤ R.frames ∧ 8 + (maxL + 11) + rm.locals ≤ R.locals)
    (hn : As.length = n) (hsize : ls.size = nL) (hst : st0 = As.reverse ++ .ref (gad G cn) :: rest) (hcat : (rest.map fun v => v.category).sum ≤ 8) (hdg : decode cc pc = .ok (.invokevirtual index, 3)) (hf : cells + mc ≤ R.cells ∧ slots + ms ≤ R.slots) :
    vx_Run p l e R s m args below meth c H locs cells slots mc ms (F0 m pc ls st0) rest (Qc (Value.ref (gad G cn) :: As).toArray) XC (gAb G) := by
  obtain ⟨k0, hk0⟩ := wl_get (G := G) (d := d) hF.1
  have hk1 : (wl G d)[k0]? = some (gad G cn, Sum.inr (ci, fs (d cn))) := by rw [hk0, en, hF.2]
  exact vx_runV ⟨hx, hb, hml, hown, hts⟩ hM ⟨callB_of n hts (goodWS k4) rfl hrc hrs (hts _ k3) (hts _ k1) hd hR, hts _ k2, hts _ k5⟩ ⟨cPre_blind, va_recv hE.1 hW.1 (ci := ci) hcl hk1, pre_of hE hW hbs⟩ rfl hn hsize hst (lv_room hcat) hdg hf
theorem e_xv {post : DD → Prop} {xpost : String → DD → Prop} {a : Array Value} (hr : vx_Run p l e R s m args below meth c H locs cells slots mc ms (F0 m pc ls st0) rest (cQv G post a) (cX G xpost) (gAb G)) (hW : WD G s.heap d H locs)
    (kx : ∀ (E : String) (ce : Cell) (q9 : Addr) (d' : DD) (H1 : Heap) (locs1 : List Loc), xpost E d' → WD G s.heap d' H1 locs1 → H1[q9]? = some ce → ce.vm = .none → s.vm.findClass E = some ce.cls → vx_W p l e R s m args below meth c H1 locs1 (cells + mc) (slots + ms) Q (F0 m pc ls rest) q9)
    (kk : ∀ (d' : DD) (H1 : Heap) (locs1 : List Loc), post d' → WD G s.heap d' H1 locs1 → W p l e R s m args below meth c H1 locs1 (cells + mc) (slots + ms) Q (F0 m (pc + 3) ls rest)) : W p l e R s m args below meth c H locs cells slots Q (F0 m pc ls st0) :=
  vx_callv hr hW.2.2 (fun _ _ h => h) (fun _ h => h) (fun _ _ h => h) (fun E ce q9 u t H1 locs1 ht _ hp hB _ _ hS h1 h2 h3 => by
    obtain ⟨rfl, hB⟩ := hB
    exact kx _ ce q9 u.2 H1 locs1 hp ⟨by rw [← ht]; exact hB.1, hB.2, hS⟩ h1 h2 h3)
    (fun u t H1 locs1 ht _ hp hB _ _ hS => kk u H1 locs1 hp ⟨by rw [← ht]; exact hB.1, hB.2, hS⟩)
theorem e_xi {post : Int32 → DD → Prop} {xpost : String → DD → Prop} {a : Array Value} (hr : vx_Run p l e R s m args below meth c H locs cells slots mc ms (F0 m pc ls st0) rest (cQi G post a) (cX G xpost) (gAb G)) (hW : WD G s.heap d H locs)
    (kx : ∀ (E : String) (ce : Cell) (q9 : Addr) (d' : DD) (H1 : Heap) (locs1 : List Loc), xpost E d' → WD G s.heap d' H1 locs1 → H1[q9]? = some ce → ce.vm = .none → s.vm.findClass E = some ce.cls → vx_W p l e R s m args below meth c H1 locs1 (cells + mc) (slots + ms) Q (F0 m pc ls rest) q9)
    (kk : ∀ (r : Int32) (d' : DD) (H1 : Heap) (locs1 : List Loc), post r d' → WD G s.heap d' H1 locs1 → W p l e R s m args below meth c H1 locs1 (cells + mc) (slots + ms) Q (F0 m (pc + 3) ls (.int r :: rest))) : W p l e R s m args below meth c H locs cells slots Q (F0 m pc ls st0) :=
  vx_calli hr hW.2.2 (fun _ _ h => h) (fun _ h => h) (fun _ _ h => h) (fun E ce q9 u t H1 locs1 ht _ hp hB _ _ hS h1 h2 h3 => by
    obtain ⟨rfl, hB⟩ := hB
    exact kx _ ce q9 u.2 H1 locs1 hp ⟨by rw [← ht]; exact hB.1, hB.2, hS⟩ h1 h2 h3)
    (fun r u t H1 locs1 ht _ hp hB _ _ hS => kk r u H1 locs1 hp ⟨by rw [← ht]; exact hB.1, hB.2, hS⟩)
/-- not caught here -/
theorem e_xout {xpost : String → DD → Prop} {E : String} {ce : Cell} {q : Addr} (hno : ∀ x ∈ c.exceptionTable.toList, False) (hlk : meth.locks = false) (hW : WD G s.heap d H locs) (h1 : H[q]? = some ce) (h2 : ce.vm = .none) (h3 : s.vm.findClass E = some ce.cls) (hp : xpost E d) {mc ms : Nat} (hc : cells ≤ mc) (hs : slots ≤ ms) :
    vx_W p l e R s m args below meth c H locs cells slots (vx_MQ below Qc (cX G xpost) args s mc ms (gAb G)) (F0 m pc ls rest) q :=
  vx_out (E := E) (fun x hx => (hno x hx).elim) hlk h1 h2 h3 (fun t ht _ => ⟨(E, d), hp, ⟨rfl, by rw [ht]; exact hW.1, hW.2.1⟩, hW.2.2.F ht⟩) hW.2.2.2.2 hc hs
/-- ends of bodies that may throw -/
theorem e_xiret {post : Int32 → DD → Prop} (hx : p.tables.exec = Jvm.exec) (hb : c.code = cc) (hr : meth.sig.returnType = some .int) (hlk : meth.locks = false) (hW : WD G s.heap d H locs) {v : Int32} (hp : post v d) {mc ms : Nat} (hc : cells ≤ mc) (hs : slots ≤ ms) (hdg : decode cc pc = .ok (.ireturn, 1)) : W p l e R s m args below meth c H locs cells slots (vx_MQ below (cQi G post) XC args s mc ms (gAb G)) (F0 m pc ls [.int v]) := vx_ret (e_iret hx hb hr hlk hW hp hc hs hdg)
theorem e_xzret {post : Int32 → DD → Prop} (hx : p.tables.exec = Jvm.exec) (hb : c.code = cc) (hr : meth.sig.returnType = some .boolean) (hlk : meth.locks = false) (hW : WD G s.heap d H locs) {v : Int32} (h01 : v = 0 ∨ v = 1) (hp : post v d) {mc ms : Nat} (hc : cells ≤ mc) (hs : slots ≤ ms) (hdg : decode cc pc = .ok (.ireturn, 1)) : W p l e R s m args below meth c H locs cells slots (vx_MQ below (cQi G post) XC args s mc ms (gAb G)) (F0 m pc ls [.int v]) := vx_ret (e_zret hx hb hr hlk hW h01 hp hc hs hdg)
theorem e_xvret {post : DD → Prop} (hx : p.tables.exec = Jvm.exec) (hb : c.code = cc) (hr : meth.sig.returnType = none) (hlk : meth.locks = false) (hW : WD G s.heap d H locs) (hp : post d) {mc ms : Nat} (hc : cells ≤ mc) (hs : slots ≤ ms) (hdg : decode cc pc = .ok (.return_, 1)) : W p l e R s m args below meth c H locs cells slots (vx_MQ below (cQv G post) XC args s mc ms (gAb G)) (F0 m pc ls []) := vx_ret (e_vret hx hb hr hlk hW hp hc hs hdg)
end EX
end
