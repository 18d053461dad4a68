section
-- ===== PART A: goes FIRST, ahead of the names: the tables' words, and 'selects' of the private methods out of them =====
/-- a private method of a class that the tables say can be made, by its rows of tables_1 -/
def lw_okq (q : MethodName × Nat) : Prop := (q.1.cls ≠ "java/lang/invoke/MethodHandle" ∧ q.1.cls ≠ "java/lang/invoke/VarHandle") ∧ Cond.instantiable q.1.cls q.2 ∈ tables_1 ∧ Cond.privateMethod q.1 ∈ tables_1 ∧ Cond.instanceMethod q.1 ∈ tables_1
theorem lw_p0 : lw_okq (⟨"java/lang/Throwable", "fillInStackTrace", "(I)Ljava/lang/Throwable;"⟩, 6) := ⟨⟨by decide +kernel, by decide +kernel⟩, List.mem_of_getElem? (i := 262) (by decide +kernel), List.mem_of_getElem? (i := 260) (by decide +kernel), List.mem_of_getElem? (i := 261) (by decide +kernel)⟩
theorem lw_p1 : lw_okq (⟨"PaxosCommit", "checkBegun", "(I)V"⟩, 9) := ⟨⟨by decide +kernel, by decide +kernel⟩, List.mem_of_getElem? (i := 28) (by decide +kernel), List.mem_of_getElem? (i := 321) (by decide +kernel), List.mem_of_getElem? (i := 322) (by decide +kernel)⟩
theorem lw_p2 : lw_okq (⟨"PaxosCommit", "checkUp", "(II)V"⟩, 9) := ⟨⟨by decide +kernel, by decide +kernel⟩, List.mem_of_getElem? (i := 28) (by decide +kernel), List.mem_of_getElem? (i := 341) (by decide +kernel), List.mem_of_getElem? (i := 342) (by decide +kernel)⟩
theorem lw_p3 : lw_okq (⟨"PaxosCommit", "sendToStore", "(IIII)V"⟩, 9) := ⟨⟨by decide +kernel, by decide +kernel⟩, List.mem_of_getElem? (i := 28) (by decide +kernel), List.mem_of_getElem? (i := 401) (by decide +kernel), List.mem_of_getElem? (i := 402) (by decide +kernel)⟩
theorem lw_p4 : lw_okq (⟨"PaxosCommit", "sendVotes", "(IIII)V"⟩, 9) := ⟨⟨by decide +kernel, by decide +kernel⟩, List.mem_of_getElem? (i := 28) (by decide +kernel), List.mem_of_getElem? (i := 442) (by decide +kernel), List.mem_of_getElem? (i := 443) (by decide +kernel)⟩
theorem lw_p5 : lw_okq (⟨"PaxosCommit", "ledger", "(II)LPaxosCommit$Ledger;"⟩, 9) := ⟨⟨by decide +kernel, by decide +kernel⟩, List.mem_of_getElem? (i := 28) (by decide +kernel), List.mem_of_getElem? (i := 454) (by decide +kernel), List.mem_of_getElem? (i := 455) (by decide +kernel)⟩
theorem lw_p6 : lw_okq (⟨"PaxosCommit", "sendAsks", "(II)V"⟩, 9) := ⟨⟨by decide +kernel, by decide +kernel⟩, List.mem_of_getElem? (i := 28) (by decide +kernel), List.mem_of_getElem? (i := 469) (by decide +kernel), List.mem_of_getElem? (i := 470) (by decide +kernel)⟩
theorem lw_p7 : lw_okq (⟨"PaxosCommit", "checkMessage", "(I)V"⟩, 9) := ⟨⟨by decide +kernel, by decide +kernel⟩, List.mem_of_getElem? (i := 28) (by decide +kernel), List.mem_of_getElem? (i := 481) (by decide +kernel), List.mem_of_getElem? (i := 482) (by decide +kernel)⟩
theorem lw_p8 : lw_okq (⟨"PaxosCommit", "arrive", "(LPaxosCommit$Message;)V"⟩, 9) := ⟨⟨by decide +kernel, by decide +kernel⟩, List.mem_of_getElem? (i := 28) (by decide +kernel), List.mem_of_getElem? (i := 509) (by decide +kernel), List.mem_of_getElem? (i := 510) (by decide +kernel)⟩
theorem lw_p9 : lw_okq (⟨"PaxosCommit", "arrivePrepare", "(LPaxosCommit$Message;)V"⟩, 9) := ⟨⟨by decide +kernel, by decide +kernel⟩, List.mem_of_getElem? (i := 28) (by decide +kernel), List.mem_of_getElem? (i := 522) (by decide +kernel), List.mem_of_getElem? (i := 523) (by decide +kernel)⟩
theorem lw_p10 : lw_okq (⟨"PaxosCommit", "arriveAsk", "(LPaxosCommit$Message;)V"⟩, 9) := ⟨⟨by decide +kernel, by decide +kernel⟩, List.mem_of_getElem? (i := 28) (by decide +kernel), List.mem_of_getElem? (i := 526) (by decide +kernel), List.mem_of_getElem? (i := 527) (by decide +kernel)⟩
theorem lw_p11 : lw_okq (⟨"PaxosCommit", "sendReply", "(III)V"⟩, 9) := ⟨⟨by decide +kernel, by decide +kernel⟩, List.mem_of_getElem? (i := 28) (by decide +kernel), List.mem_of_getElem? (i := 539) (by decide +kernel), List.mem_of_getElem? (i := 540) (by decide +kernel)⟩
theorem lw_p12 : lw_okq (⟨"PaxosCommit", "arriveReply", "(LPaxosCommit$Message;)V"⟩, 9) := ⟨⟨by decide +kernel, by decide +kernel⟩, List.mem_of_getElem? (i := 28) (by decide +kernel), List.mem_of_getElem? (i := 544) (by decide +kernel), List.mem_of_getElem? (i := 545) (by decide +kernel)⟩
theorem lw_p13 : lw_okq (⟨"PaxosCommit", "arriveVote", "(LPaxosCommit$Message;)V"⟩, 9) := ⟨⟨by decide +kernel, by decide +kernel⟩, List.mem_of_getElem? (i := 28) (by decide +kernel), List.mem_of_getElem? (i := 566) (by decide +kernel), List.mem_of_getElem? (i := 567) (by decide +kernel)⟩
theorem lw_p14 : lw_okq (⟨"PaxosCommit", "sendTold", "(LPaxosCommit$Message;I)V"⟩, 9) := ⟨⟨by decide +kernel, by decide +kernel⟩, List.mem_of_getElem? (i := 28) (by decide +kernel), List.mem_of_getElem? (i := 577) (by decide +kernel), List.mem_of_getElem? (i := 578) (by decide +kernel)⟩
theorem lw_p15 : lw_okq (⟨"PaxosCommit", "arriveTold", "(LPaxosCommit$Message;)V"⟩, 9) := ⟨⟨by decide +kernel, by decide +kernel⟩, List.mem_of_getElem? (i := 28) (by decide +kernel), List.mem_of_getElem? (i := 581) (by decide +kernel), List.mem_of_getElem? (i := 582) (by decide +kernel)⟩
def lw_privs_1 : List (MethodName × Nat) := [(⟨"java/lang/Throwable", "fillInStackTrace", "(I)Ljava/lang/Throwable;"⟩, 6), (⟨"PaxosCommit", "checkBegun", "(I)V"⟩, 9), (⟨"PaxosCommit", "checkUp", "(II)V"⟩, 9), (⟨"PaxosCommit", "sendToStore", "(IIII)V"⟩, 9), (⟨"PaxosCommit", "sendVotes", "(IIII)V"⟩, 9), (⟨"PaxosCommit", "ledger", "(II)LPaxosCommit$Ledger;"⟩, 9), (⟨"PaxosCommit", "sendAsks", "(II)V"⟩, 9), (⟨"PaxosCommit", "checkMessage", "(I)V"⟩, 9), (⟨"PaxosCommit", "arrive", "(LPaxosCommit$Message;)V"⟩, 9), (⟨"PaxosCommit", "arrivePrepare", "(LPaxosCommit$Message;)V"⟩, 9), (⟨"PaxosCommit", "arriveAsk", "(LPaxosCommit$Message;)V"⟩, 9), (⟨"PaxosCommit", "sendReply", "(III)V"⟩, 9), (⟨"PaxosCommit", "arriveReply", "(LPaxosCommit$Message;)V"⟩, 9), (⟨"PaxosCommit", "arriveVote", "(LPaxosCommit$Message;)V"⟩, 9), (⟨"PaxosCommit", "sendTold", "(LPaxosCommit$Message;I)V"⟩, 9), (⟨"PaxosCommit", "arriveTold", "(LPaxosCommit$Message;)V"⟩, 9)]
theorem lw_r1 : ∀ q ∈ lw_privs_1, lw_okq q := List.forall_mem_cons.mpr ⟨lw_p0, List.forall_mem_cons.mpr ⟨lw_p1, List.forall_mem_cons.mpr ⟨lw_p2, List.forall_mem_cons.mpr ⟨lw_p3, List.forall_mem_cons.mpr ⟨lw_p4, List.forall_mem_cons.mpr ⟨lw_p5, List.forall_mem_cons.mpr ⟨lw_p6, List.forall_mem_cons.mpr ⟨lw_p7, List.forall_mem_cons.mpr ⟨lw_p8, List.forall_mem_cons.mpr ⟨lw_p9, List.forall_mem_cons.mpr ⟨lw_p10, List.forall_mem_cons.mpr ⟨lw_p11, List.forall_mem_cons.mpr ⟨lw_p12, List.forall_mem_cons.mpr ⟨lw_p13, List.forall_mem_cons.mpr ⟨lw_p14, List.forall_mem_cons.mpr ⟨lw_p15, fun _ h => absurd h List.not_mem_nil⟩⟩⟩⟩⟩⟩⟩⟩⟩⟩⟩⟩⟩⟩⟩⟩
theorem lw_p16 : lw_okq (⟨"PaxosCommit", "sendOutcomes", "(II)V"⟩, 9) := ⟨⟨by decide +kernel, by decide +kernel⟩, List.mem_of_getElem? (i := 28) (by decide +kernel), List.mem_of_getElem? (i := 599) (by decide +kernel), List.mem_of_getElem? (i := 600) (by decide +kernel)⟩
theorem lw_p17 : lw_okq (⟨"PaxosCommit", "arriveOutcome", "(LPaxosCommit$Message;)V"⟩, 9) := ⟨⟨by decide +kernel, by decide +kernel⟩, List.mem_of_getElem? (i := 28) (by decide +kernel), List.mem_of_getElem? (i := 603) (by decide +kernel), List.mem_of_getElem? (i := 604) (by decide +kernel)⟩
theorem lw_p18 : lw_okq (⟨"PaxosCommit", "howMany", "(I)I"⟩, 9) := ⟨⟨by decide +kernel, by decide +kernel⟩, List.mem_of_getElem? (i := 28) (by decide +kernel), List.mem_of_getElem? (i := 626) (by decide +kernel), List.mem_of_getElem? (i := 627) (by decide +kernel)⟩
theorem lw_p19 : lw_okq (⟨"PaxosCommit", "stop", "(II)V"⟩, 9) := ⟨⟨by decide +kernel, by decide +kernel⟩, List.mem_of_getElem? (i := 28) (by decide +kernel), List.mem_of_getElem? (i := 633) (by decide +kernel), List.mem_of_getElem? (i := 634) (by decide +kernel)⟩
theorem lw_p20 : lw_okq (⟨"PaxosCommitModel", "forget", "(I)V"⟩, 27) := ⟨⟨by decide +kernel, by decide +kernel⟩, List.mem_of_getElem? (i := 903) (by decide +kernel), List.mem_of_getElem? (i := 909) (by decide +kernel), List.mem_of_getElem? (i := 910) (by decide +kernel)⟩
theorem lw_p21 : lw_okq (⟨"PaxosCommitModel", "fail", "(I)I"⟩, 27) := ⟨⟨by decide +kernel, by decide +kernel⟩, List.mem_of_getElem? (i := 903) (by decide +kernel), List.mem_of_getElem? (i := 1003) (by decide +kernel), List.mem_of_getElem? (i := 1004) (by decide +kernel)⟩
theorem lw_p22 : lw_okq (⟨"PaxosCommitModel", "out", "(II)Z"⟩, 27) := ⟨⟨by decide +kernel, by decide +kernel⟩, List.mem_of_getElem? (i := 903) (by decide +kernel), List.mem_of_getElem? (i := 1011) (by decide +kernel), List.mem_of_getElem? (i := 1012) (by decide +kernel)⟩
theorem lw_p23 : lw_okq (⟨"PaxosCommitModel", "ones", "(I)I"⟩, 27) := ⟨⟨by decide +kernel, by decide +kernel⟩, List.mem_of_getElem? (i := 903) (by decide +kernel), List.mem_of_getElem? (i := 1015) (by decide +kernel), List.mem_of_getElem? (i := 1016) (by decide +kernel)⟩
theorem lw_p24 : lw_okq (⟨"PaxosCommitModel", "member", "(II)Z"⟩, 27) := ⟨⟨by decide +kernel, by decide +kernel⟩, List.mem_of_getElem? (i := 903) (by decide +kernel), List.mem_of_getElem? (i := 1023) (by decide +kernel), List.mem_of_getElem? (i := 1024) (by decide +kernel)⟩
theorem lw_p25 : lw_okq (⟨"PaxosCommitModel", "send", "(IIIIIII)Z"⟩, 27) := ⟨⟨by decide +kernel, by decide +kernel⟩, List.mem_of_getElem? (i := 903) (by decide +kernel), List.mem_of_getElem? (i := 1027) (by decide +kernel), List.mem_of_getElem? (i := 1028) (by decide +kernel)⟩
theorem lw_p26 : lw_okq (⟨"PaxosCommitModel", "abort", "(II)V"⟩, 27) := ⟨⟨by decide +kernel, by decide +kernel⟩, List.mem_of_getElem? (i := 903) (by decide +kernel), List.mem_of_getElem? (i := 1035) (by decide +kernel), List.mem_of_getElem? (i := 1036) (by decide +kernel)⟩
theorem lw_p27 : lw_okq (⟨"PaxosCommitModel", "unlock", "(II)V"⟩, 27) := ⟨⟨by decide +kernel, by decide +kernel⟩, List.mem_of_getElem? (i := 903) (by decide +kernel), List.mem_of_getElem? (i := 1039) (by decide +kernel), List.mem_of_getElem? (i := 1040) (by decide +kernel)⟩
theorem lw_p28 : lw_okq (⟨"PaxosCommitModel", "vote", "(IIII)V"⟩, 27) := ⟨⟨by decide +kernel, by decide +kernel⟩, List.mem_of_getElem? (i := 903) (by decide +kernel), List.mem_of_getElem? (i := 1043) (by decide +kernel), List.mem_of_getElem? (i := 1044) (by decide +kernel)⟩
theorem lw_p29 : lw_okq (⟨"PaxosCommitModel", "takeOut", "(IZ)V"⟩, 27) := ⟨⟨by decide +kernel, by decide +kernel⟩, List.mem_of_getElem? (i := 903) (by decide +kernel), List.mem_of_getElem? (i := 1055) (by decide +kernel), List.mem_of_getElem? (i := 1056) (by decide +kernel)⟩
theorem lw_p30 : lw_okq (⟨"PaxosCommitModel", "arrive", "(I)V"⟩, 27) := ⟨⟨by decide +kernel, by decide +kernel⟩, List.mem_of_getElem? (i := 903) (by decide +kernel), List.mem_of_getElem? (i := 1059) (by decide +kernel), List.mem_of_getElem? (i := 1060) (by decide +kernel)⟩
theorem lw_p31 : lw_okq (⟨"PaxosCommitModel", "prepare", "(II)V"⟩, 27) := ⟨⟨by decide +kernel, by decide +kernel⟩, List.mem_of_getElem? (i := 903) (by decide +kernel), List.mem_of_getElem? (i := 1063) (by decide +kernel), List.mem_of_getElem? (i := 1064) (by decide +kernel)⟩
def lw_privs_2 : List (MethodName × Nat) := [(⟨"PaxosCommit", "sendOutcomes", "(II)V"⟩, 9), (⟨"PaxosCommit", "arriveOutcome", "(LPaxosCommit$Message;)V"⟩, 9), (⟨"PaxosCommit", "howMany", "(I)I"⟩, 9), (⟨"PaxosCommit", "stop", "(II)V"⟩, 9), (⟨"PaxosCommitModel", "forget", "(I)V"⟩, 27), (⟨"PaxosCommitModel", "fail", "(I)I"⟩, 27), (⟨"PaxosCommitModel", "out", "(II)Z"⟩, 27), (⟨"PaxosCommitModel", "ones", "(I)I"⟩, 27), (⟨"PaxosCommitModel", "member", "(II)Z"⟩, 27), (⟨"PaxosCommitModel", "send", "(IIIIIII)Z"⟩, 27), (⟨"PaxosCommitModel", "abort", "(II)V"⟩, 27), (⟨"PaxosCommitModel", "unlock", "(II)V"⟩, 27), (⟨"PaxosCommitModel", "vote", "(IIII)V"⟩, 27), (⟨"PaxosCommitModel", "takeOut", "(IZ)V"⟩, 27), (⟨"PaxosCommitModel", "arrive", "(I)V"⟩, 27), (⟨"PaxosCommitModel", "prepare", "(II)V"⟩, 27)]
theorem lw_r2 : ∀ q ∈ lw_privs_2, lw_okq q := List.forall_mem_cons.mpr ⟨lw_p16, List.forall_mem_cons.mpr ⟨lw_p17, List.forall_mem_cons.mpr ⟨lw_p18, List.forall_mem_cons.mpr ⟨lw_p19, List.forall_mem_cons.mpr ⟨lw_p20, List.forall_mem_cons.mpr ⟨lw_p21, List.forall_mem_cons.mpr ⟨lw_p22, List.forall_mem_cons.mpr ⟨lw_p23, List.forall_mem_cons.mpr ⟨lw_p24, List.forall_mem_cons.mpr ⟨lw_p25, List.forall_mem_cons.mpr ⟨lw_p26, List.forall_mem_cons.mpr ⟨lw_p27, List.forall_mem_cons.mpr ⟨lw_p28, List.forall_mem_cons.mpr ⟨lw_p29, List.forall_mem_cons.mpr ⟨lw_p30, List.forall_mem_cons.mpr ⟨lw_p31, fun _ h => absurd h List.not_mem_nil⟩⟩⟩⟩⟩⟩⟩⟩⟩⟩⟩⟩⟩⟩⟩⟩
theorem lw_p32 : lw_okq (⟨"PaxosCommitModel", "ask", "(III)V"⟩, 27) := ⟨⟨by decide +kernel, by decide +kernel⟩, List.mem_of_getElem? (i := 903) (by decide +kernel), List.mem_of_getElem? (i := 1067) (by decide +kernel), List.mem_of_getElem? (i := 1068) (by decide +kernel)⟩
theorem lw_p33 : lw_okq (⟨"PaxosCommitModel", "reply", "(IIIII)V"⟩, 27) := ⟨⟨by decide +kernel, by decide +kernel⟩, List.mem_of_getElem? (i := 903) (by decide +kernel), List.mem_of_getElem? (i := 1071) (by decide +kernel), List.mem_of_getElem? (i := 1072) (by decide +kernel)⟩
theorem lw_p34 : lw_okq (⟨"PaxosCommitModel", "most", "()I"⟩, 27) := ⟨⟨by decide +kernel, by decide +kernel⟩, List.mem_of_getElem? (i := 903) (by decide +kernel), List.mem_of_getElem? (i := 1075) (by decide +kernel), List.mem_of_getElem? (i := 1076) (by decide +kernel)⟩
theorem lw_p35 : lw_okq (⟨"PaxosCommitModel", "proposal", "(II)I"⟩, 27) := ⟨⟨by decide +kernel, by decide +kernel⟩, List.mem_of_getElem? (i := 903) (by decide +kernel), List.mem_of_getElem? (i := 1079) (by decide +kernel), List.mem_of_getElem? (i := 1080) (by decide +kernel)⟩
theorem lw_p36 : lw_okq (⟨"PaxosCommitModel", "accept", "(IIIII)V"⟩, 27) := ⟨⟨by decide +kernel, by decide +kernel⟩, List.mem_of_getElem? (i := 903) (by decide +kernel), List.mem_of_getElem? (i := 1083) (by decide +kernel), List.mem_of_getElem? (i := 1084) (by decide +kernel)⟩
theorem lw_p37 : lw_okq (⟨"PaxosCommitModel", "told", "(IIIIII)V"⟩, 27) := ⟨⟨by decide +kernel, by decide +kernel⟩, List.mem_of_getElem? (i := 903) (by decide +kernel), List.mem_of_getElem? (i := 1087) (by decide +kernel), List.mem_of_getElem? (i := 1088) (by decide +kernel)⟩
theorem lw_p38 : lw_okq (⟨"PaxosCommitModel", "decided", "(II)I"⟩, 27) := ⟨⟨by decide +kernel, by decide +kernel⟩, List.mem_of_getElem? (i := 903) (by decide +kernel), List.mem_of_getElem? (i := 1091) (by decide +kernel), List.mem_of_getElem? (i := 1092) (by decide +kernel)⟩
theorem lw_p39 : lw_okq (⟨"PaxosCommitModel", "finish", "(III)V"⟩, 27) := ⟨⟨by decide +kernel, by decide +kernel⟩, List.mem_of_getElem? (i := 903) (by decide +kernel), List.mem_of_getElem? (i := 1095) (by decide +kernel), List.mem_of_getElem? (i := 1096) (by decide +kernel)⟩
theorem lw_p40 : lw_okq (⟨"PaxosCommitModel", "pass", "(II)I"⟩, 27) := ⟨⟨by decide +kernel, by decide +kernel⟩, List.mem_of_getElem? (i := 903) (by decide +kernel), List.mem_of_getElem? (i := 1111) (by decide +kernel), List.mem_of_getElem? (i := 1112) (by decide +kernel)⟩
theorem lw_p41 : lw_okq (⟨"PaxosCommitModel", "passPart", "(III)I"⟩, 27) := ⟨⟨by decide +kernel, by decide +kernel⟩, List.mem_of_getElem? (i := 903) (by decide +kernel), List.mem_of_getElem? (i := 1115) (by decide +kernel), List.mem_of_getElem? (i := 1116) (by decide +kernel)⟩
theorem lw_p42 : lw_okq (⟨"PaxosCommitModel", "passNumber", "(II)I"⟩, 27) := ⟨⟨by decide +kernel, by decide +kernel⟩, List.mem_of_getElem? (i := 903) (by decide +kernel), List.mem_of_getElem? (i := 1119) (by decide +kernel), List.mem_of_getElem? (i := 1120) (by decide +kernel)⟩
theorem lw_p43 : lw_okq (⟨"PaxosCommitModel", "passVote", "(II)I"⟩, 27) := ⟨⟨by decide +kernel, by decide +kernel⟩, List.mem_of_getElem? (i := 903) (by decide +kernel), List.mem_of_getElem? (i := 1123) (by decide +kernel), List.mem_of_getElem? (i := 1124) (by decide +kernel)⟩
theorem lw_p44 : lw_okq (⟨"PaxosCommitModel", "upSet", "([ZI)I"⟩, 27) := ⟨⟨by decide +kernel, by decide +kernel⟩, List.mem_of_getElem? (i := 903) (by decide +kernel), List.mem_of_getElem? (i := 1151) (by decide +kernel), List.mem_of_getElem? (i := 1152) (by decide +kernel)⟩
def lw_privs_3 : List (MethodName × Nat) := [(⟨"PaxosCommitModel", "ask", "(III)V"⟩, 27), (⟨"PaxosCommitModel", "reply", "(IIIII)V"⟩, 27), (⟨"PaxosCommitModel", "most", "()I"⟩, 27), (⟨"PaxosCommitModel", "proposal", "(II)I"⟩, 27), (⟨"PaxosCommitModel", "accept", "(IIIII)V"⟩, 27), (⟨"PaxosCommitModel", "told", "(IIIIII)V"⟩, 27), (⟨"PaxosCommitModel", "decided", "(II)I"⟩, 27), (⟨"PaxosCommitModel", "finish", "(III)V"⟩, 27), (⟨"PaxosCommitModel", "pass", "(II)I"⟩, 27), (⟨"PaxosCommitModel", "passPart", "(III)I"⟩, 27), (⟨"PaxosCommitModel", "passNumber", "(II)I"⟩, 27), (⟨"PaxosCommitModel", "passVote", "(II)I"⟩, 27), (⟨"PaxosCommitModel", "upSet", "([ZI)I"⟩, 27)]
theorem lw_r3 : ∀ q ∈ lw_privs_3, lw_okq q := List.forall_mem_cons.mpr ⟨lw_p32, List.forall_mem_cons.mpr ⟨lw_p33, List.forall_mem_cons.mpr ⟨lw_p34, List.forall_mem_cons.mpr ⟨lw_p35, List.forall_mem_cons.mpr ⟨lw_p36, List.forall_mem_cons.mpr ⟨lw_p37, List.forall_mem_cons.mpr ⟨lw_p38, List.forall_mem_cons.mpr ⟨lw_p39, List.forall_mem_cons.mpr ⟨lw_p40, List.forall_mem_cons.mpr ⟨lw_p41, List.forall_mem_cons.mpr ⟨lw_p42, List.forall_mem_cons.mpr ⟨lw_p43, List.forall_mem_cons.mpr ⟨lw_p44, fun _ h => absurd h List.not_mem_nil⟩⟩⟩⟩⟩⟩⟩⟩⟩⟩⟩⟩⟩
def lw_privs : List (MethodName × Nat) := lw_privs_1 ++ (lw_privs_2 ++ (lw_privs_3))
def lw_tbl : List Cond := k2_sels lw_privs ++ tables_1
theorem lw_privs_ok : ∀ q ∈ lw_privs, lw_okq q := by
  show ∀ q ∈ lw_privs_1 ++ (lw_privs_2 ++ (lw_privs_3)), lw_okq q
  exact List.forall_mem_append.mpr ⟨lw_r1, List.forall_mem_append.mpr ⟨lw_r2, lw_r3⟩⟩

/-- the word of arrays of arrays (the printed rows below name it, and nothing before them has it) -/
def va_AOA (t : FieldType) (U : State) : Prop := (Cond.arrayOver (.array t)).before #[] U = true
theorem va_AOA.use {t : FieldType} {A : Array Value} {U : State} (h : va_AOA t U) : (Cond.arrayOver (.array t)).before A U = true := h
/-! ===== BEGIN words of one list among another's, by their places ===== -/
theorem goodIn_r {big : List Cond} (ws : List Cond) (ps : List Nat) (hp : ws = ps.filterMap (fun i => big[i]?)) (h : ws.all goodWord = true) : GoodIn big ws := by
  intro w hw
  have h1 := List.all_eq_true.mp h w hw
  rw [hp] at hw
  obtain ⟨i, -, hi⟩ := List.mem_filterMap.mp hw
  have hm : w ∈ big := by first | exact List.mem_of_getElem? hi | exact List.getElem?_mem hi
  exact ⟨hm, good_of_word h1⟩
theorem goodIn_app {big a b : List Cond} (ha : GoodIn big a) (hb : GoodIn big b) : GoodIn big (a ++ b) := fun w h => (List.mem_append.mp h).elim (ha w) (hb w)
theorem goodIn_ca {big a b : List Cond} {c : Cond} (ha : GoodIn big (c :: a)) (hb : GoodIn big b) : GoodIn big (c :: (a ++ b)) := fun w h => (List.mem_cons.mp h).elim (fun e => ha w (List.mem_cons.mpr (Or.inl e))) (fun h => (List.mem_append.mp h).elim (fun h => ha w (List.mem_cons.mpr (Or.inr h))) (hb w))
theorem goodIn_sub {big ws : List Cond} (hm : ∀ w ∈ ws, w ∈ big) (h : ws.all goodWord = true) : GoodIn big ws := fun w hw => ⟨hm w hw, good_of_word (List.all_eq_true.mp h w hw)⟩
/-! ===== END ===== -/

/-! ===== BEGIN new T[n][m]: the outer array a place, the inner ones among the pooled ===== -/
/-- f, but v at every address of l -/
def vr_up {α : Type} (f : Nat → α) (l : List Nat) (v : α) : Nat → α := fun a => if a ∈ l then v else f a
theorem vr_up_in {α : Type} {f : Nat → α} {l : List Nat} {v : α} {a : Nat} (h : a ∈ l) : vr_up f l v a = v := if_pos h
theorem vr_up_ne {α : Type} {f : Nat → α} {l : List Nat} {v : α} {a : Nat} (h : a ∉ l) : vr_up f l v a = f a := if_neg h
theorem vr_rows {L l : List Nat} {f : Nat → va_E} {e : va_E} (h : ∀ a, a ∈ l → a ∉ L) : va_pl L f ++ l.map (fun a => (a, e)) = va_pl (L ++ l) (vr_up f l e) := by
  unfold va_pl
  rw [List.map_append]
  congr 1
  · apply List.map_congr_left
    intro a ha
    rw [vr_up_ne (fun q => h a q ha)]
  · apply List.map_congr_left
    intro a ha
    rw [vr_up_in ha]
theorem vr_lay {X rows : va_W} {x : Nat × va_E} {pl : va_W} {D : va_G} {cl : List vw_C} {H : Heap} (hP : va_P D cl (((X ++ pl) ++ [x]) ++ rows) H) : va_P D cl ((X ++ [x]) ++ (pl ++ rows)) H := by
  rw [List.append_assoc (X ++ pl)] at hP
  have h := va_P.swap hP
  rw [← List.append_assoc X] at h
  have h2 := va_P.swap h
  rw [List.append_assoc (X ++ [x])] at h2
  exact h2
theorem vr_layD {X rows : va_W} {x : Nat × va_E} {pl : va_W} {A : Nat → Prop} (hD : va_D A (((X ++ pl) ++ [x]) ++ rows)) : va_D A ((X ++ [x]) ++ (pl ++ rows)) := by
  rw [List.append_assoc (X ++ pl)] at hD
  have h := va_D.swap hD
  rw [← List.append_assoc X] at h
  have h2 := va_D.swap h
  rw [List.append_assoc (X ++ [x])] at h2
  exact h2
theorem vr_outer (c : ClassId) (N h0 : Nat) : ∀ i : Nat, Jvm.Free.Multi.outerC c N h0 i = arrV c N (fun j => va_rf (if j < i then some (h0 + 1 + j) else none))
  | 0 => by
    show ({ cls := c, slots := Array.replicate N .null, vm := .none } : Cell) = _
    rw [arrV_new]
    refine congrArg (arrV c N) (funext fun j => ?_)
    simp [va_rf]
  | i + 1 => by
    show (Jvm.Free.Multi.outerC c N h0 i).setSlot i (.ref (h0 + 1 + i)) = _
    rw [vr_outer c N h0 i, arrV_store]
    refine congrArg (arrV c N) (funext fun j => ?_)
    by_cases e : j = i
    · subst e
      simp [updV, va_rf]
    · by_cases h : j < i
      · simp [updV, e, h, Nat.lt_succ_of_lt h]
      · simp [updV, e, h, show ¬ j < i + 1 by omega]
section VGM
variable {p : Program} {l : Launch} {e : Env} {R : Room} {s : State} {m : MethodId} {args : Array Value} {below : List Frame} {meth : Method} {c : Code} {H : Heap} {locs : List Loc} {cells slots : Nat} {Q : State → Prop}
variable {cc : ByteArray} {pc : Nat} {ls : Array Slot} {rest : List Value} {D : va_G} {cl : List vw_C} {A : Nat → Prop} {a : Nat} {tys : List (ClassId × FieldType)} {ws : va_W} {H0 : Heap}
theorem va_mna {X : va_W} {L : List Nat} {f : Nat → va_E} {cc : ByteArray} (hexec : p.tables.exec = Jvm.exec) (hb : c.code = cc) {own : String} {index : Nat} {ty : FieldType} {cy : ClassId} (hown : s.vm.findClass own = some m.cls) (hclink : (Cond.classLink own index ("[" ++ (FieldType.array ty).toString)).before args s = true) (hover : va_AOA ty s) (harr : (Cond.arrayClass ty).before args s = true) (hcy : s.vm.findClass (FieldType.array ty).toString = some cy)
    (hK : va_K D cl tys s) (hP : va_P D cl (X ++ va_pl L f) H) (hD : va_D A (X ++ va_pl L f)) (hS : va_S A H0 H locs) (hA : ∀ q, H0.size ≤ q → A q) {n k : Int32} {N' K' : Nat} {z : vp_A} (hn : ¬ n < 0) (hk : ¬ k < 0) (hN : n.toNatClampNeg = N') (hM : k.toNatClampNeg = K')
    (hb1 : N' * 4 ≤ 536870912) (hb2 : K' * componentBytes ty ≤ 536870912) (hb3 : K' ≤ 536870912) (hdf : fits ty (defaultValue ty) = true) (hdd : (defaultValue ty).isDefault = true) (hcells : cells + (1 + N') ≤ R.cells) (hslots : slots + (N' + N' * K') ≤ R.slots) (hz : ∀ c : ClassId, Jvm.Free.Multi.innerC c K' (defaultValue ty) = vp_cell c z) (hdg : decode cc pc = .ok (.multianewarray index 2, 4))
    (kk : ∀ (q : Nat) (r : Nat → Nat) (cA : ClassId) (H1 : Heap), (∀ i j : Nat, i < N' → j < N' → r i = r j → i = j) → (∀ i : Nat, i < N' → r i ∉ L) → va_K D cl (tys ++ [(cA, .array ty)]) s →
      va_P D cl ((X ++ [(q, .inl (cA, N', .inr (.inr (.inr (.inr (fun i => if i < N' then some (r i) else none))))))]) ++ va_pl (L ++ (List.range N').map r) (vr_up f ((List.range N').map r) (.inl (cy, z)))) H1 → va_D A ((X ++ [(q, .inl (cA, N', .inr (.inr (.inr (.inr (fun i => if i < N' then some (r i) else none))))))]) ++ va_pl (L ++ (List.range N').map r) (vr_up f ((List.range N').map r) (.inl (cy, z)))) → va_S A H0 H1 locs →
      W p l e R s m args below meth c H1 locs (cells + 1 + N') (slots + N' + N' * K') Q (F0 m (pc + 4) ls (.ref q :: rest))) : W p l e R s m args below meth c H locs cells slots Q (F0 m pc ls (.int k :: .int n :: rest)) := by
  subst hN
  subst hM
  intro T hT Xs
  obtain ⟨vm₁, cA, comp, -, fA, fC, hO, -, X', step⟩ := Xs.multianewarray2F hexec hown hclink (va_AOA.use hover) harr (g := F0 m pc ls (.int k :: .int n :: rest)) rfl (by rw [hb]; exact hdg) rfl hn hk hb1 hb2 hb3 hdf hdd hcells hslots
  have ec : some cy = some comp := hcy.symm.trans fC
  cases ec
  generalize hF : Jvm.Free.Multi.fill (T.setVm vm₁) cA cy n.toNatClampNeg k.toNatClampNeg (defaultValue ty) n.toNatClampNeg = F at X' step
  have hTh : (T.setVm vm₁).heap = H := hT
  obtain ⟨f1, f2, -, -⟩ := Jvm.Free.Multi.fill_facts (T.setVm vm₁) cA cy n.toNatClampNeg k.toNatClampNeg (defaultValue ty) n.toNatClampNeg
  rw [hF, hTh] at f1 f2
  have hold : ∀ x : Nat, x < H.size → F.heap[x]? = H[x]? := fun x hx => by
    have := Jvm.Free.Multi.fill_old (T.setVm vm₁) cA cy n.toNatClampNeg k.toNatClampNeg (defaultValue ty) (a := x) (by rw [hTh]; exact hx) n.toNatClampNeg
    rw [hF, hTh] at this
    exact this
  have hrow : ∀ j : Nat, j < n.toNatClampNeg → F.heap[H.size + 1 + j]? = some (vp_cell cy z) := fun j hj => by
    have := Jvm.Free.Multi.fill_inner (T.setVm vm₁) cA cy n.toNatClampNeg k.toNatClampNeg (defaultValue ty) n.toNatClampNeg j hj
    rw [hF, hTh, hz] at this
    exact this
  have hout : Jvm.Free.Multi.outerC cA n.toNatClampNeg H.size n.toNatClampNeg = vp_cell cA (n.toNatClampNeg, .inr (.inr (.inr (.inr (fun i => if i < n.toNatClampNeg then some (H.size + 1 + i) else none))))) := by
    rw [vp_cell_q]
    exact vr_outer cA n.toNatClampNeg H.size n.toNatClampNeg
  rw [hout] at f2
  have hlt : ∀ a, a ∈ L → a < H.size := fun a ha => by
    obtain ⟨k9, hk9⟩ := va_pl_get (X := X) (f := f) ha
    exact (hP k9 _ hk9).lt
  have hnl : ∀ i : Nat, i < n.toNatClampNeg → H.size + 1 + i ∉ L := fun i _ h => by
    have := hlt _ h
    omega
  have hnm : ∀ a, a ∈ (List.range n.toNatClampNeg).map (fun i => H.size + 1 + i) → a ∉ L := fun a ha h => by
    obtain ⟨i, -, rfl⟩ := List.mem_map.mp ha
    have := hlt _ h
    omega
  have hP0 : va_P D cl (X ++ va_pl L f) F.heap := hP.kept (fun k9 x hx => hold x.1 ((hP k9 x hx).lt))
  have hP1 : va_P D cl ((X ++ va_pl L f) ++ [(H.size, .inl (cA, n.toNatClampNeg, .inr (.inr (.inr (.inr (fun i => if i < n.toNatClampNeg then some (H.size + 1 + i) else none))))))]) F.heap := hP0.app (fun k9 x hx => by
    have h0 : k9 < 1 := (List.getElem?_eq_some_iff.mp hx).1
    rw [show k9 = 0 by omega] at hx
    cases hx
    exact f2)
  have hP2 : va_P D cl (((X ++ va_pl L f) ++ [(H.size, .inl (cA, n.toNatClampNeg, .inr (.inr (.inr (.inr (fun i => if i < n.toNatClampNeg then some (H.size + 1 + i) else none))))))]) ++ ((List.range n.toNatClampNeg).map (fun i => H.size + 1 + i)).map (fun a => (a, .inl (cy, z)))) F.heap := hP1.app (fun k9 x hx => by
    obtain ⟨a, ha, rfl⟩ := List.mem_map.mp (List.mem_of_getElem? hx)
    obtain ⟨i, hi, rfl⟩ := List.mem_map.mp ha
    exact hrow i (List.mem_range.mp hi))
  have hD2 : va_D A (((X ++ va_pl L f) ++ [(H.size, .inl (cA, n.toNatClampNeg, .inr (.inr (.inr (.inr (fun i => if i < n.toNatClampNeg then some (H.size + 1 + i) else none))))))]) ++ ((List.range n.toNatClampNeg).map (fun i => H.size + 1 + i)).map (fun a => (a, .inl (cy, z)))) := by
    have hD1 := hD.push (e := .inl (cA, n.toNatClampNeg, .inr (.inr (.inr (.inr (fun i => if i < n.toNatClampNeg then some (H.size + 1 + i) else none)))))) hP rfl (hA _ hS.1)
    generalize hW1 : (X ++ va_pl L f) ++ [(H.size, .inl (cA, n.toNatClampNeg, .inr (.inr (.inr (.inr (fun i => if i < n.toNatClampNeg then some (H.size + 1 + i) else none))))))] = W1 at hD1 hP1 ⊢
    have hle : ∀ (k9 : Nat) (x : Nat × va_E), W1[k9]? = some x → x.1 ≤ H.size := fun k9 x hx => by
      rw [← hW1] at hx
      by_cases hl : k9 < (X ++ va_pl L f).length
      · rw [List.getElem?_append_left hl] at hx
        exact Nat.le_of_lt ((hP k9 x hx).lt)
      · rw [List.getElem?_append_right (by omega)] at hx
        have h0 : k9 - (X ++ va_pl L f).length < 1 := (List.getElem?_eq_some_iff.mp hx).1
        rw [show k9 - (X ++ va_pl L f).length = 0 by omega] at hx
        cases hx
        exact Nat.le_refl _
    have hr : ∀ (k9 : Nat) (x : Nat × va_E), (((List.range n.toNatClampNeg).map (fun i => H.size + 1 + i)).map (fun a => ((a, .inl (cy, z)) : Nat × va_E)))[k9]? = some x → x.1 = H.size + 1 + k9 := fun k9 x hx => by
      rw [List.getElem?_map, List.getElem?_map] at hx
      by_cases h9 : k9 < n.toNatClampNeg
      · rw [List.getElem?_range h9] at hx
        cases hx
        rfl
      · have hn0 : (List.range n.toNatClampNeg)[k9]? = none := List.getElem?_eq_none (by rw [List.length_range]; omega)
        rw [hn0] at hx
        cases hx
    refine ⟨fun i j x y hi hj hxy => ?_, fun k9 x hx => ?_⟩
    · by_cases h1 : i < W1.length <;> by_cases h2 : j < W1.length
      · rw [List.getElem?_append_left h1] at hi
        rw [List.getElem?_append_left h2] at hj
        exact hD1.1 i j x y hi hj hxy
      · rw [List.getElem?_append_left h1] at hi
        rw [List.getElem?_append_right (by omega)] at hj
        have := hle _ _ hi
        have := hr _ _ hj
        omega
      · rw [List.getElem?_append_right (by omega)] at hi
        rw [List.getElem?_append_left h2] at hj
        have := hle _ _ hj
        have := hr _ _ hi
        omega
      · rw [List.getElem?_append_right (by omega)] at hi hj
        have := hr _ _ hi
        have := hr _ _ hj
        omega
    · by_cases h1 : k9 < W1.length
      · rw [List.getElem?_append_left h1] at hx
        exact hD1.2 k9 x hx
      · rw [List.getElem?_append_right (by omega)] at hx
        have := hr _ _ hx
        exact hA _ (by have := hS.1; omega)
  have hAr : ArrOfT s cA (.array ty) := fun N9 z9 => by
    obtain ⟨-, k9, hk9, cm9, hkk9⟩ := (hO 0 0 0).1
    exact ⟨(fun q hq => by cases hq), k9, hk9, cm9, hkk9⟩
  have hK2 : va_K D cl (tys ++ [(cA, .array ty)]) s := ⟨hK.1, fun k9 x hx => by
    by_cases hl : k9 < tys.length
    · rw [List.getElem?_append_left hl] at hx
      exact hK.2 k9 x hx
    · rw [List.getElem?_append_right (by omega)] at hx
      have h0 : k9 - tys.length < 1 := (List.getElem?_eq_some_iff.mp hx).1
      rw [show k9 - tys.length = 0 by omega] at hx
      cases hx
      exact ⟨hAr, fA⟩⟩
  obtain ⟨t, a1, b1⟩ := kk H.size (fun i => H.size + 1 + i) cA F.heap (fun i j _ _ h => by have h9 : H.size + 1 + i = H.size + 1 + j := h; omega) hnl hK2 (by rw [← vr_rows hnm]; exact vr_lay hP2) (by rw [← vr_rows hnm]; exact vr_layD hD2) ⟨by rw [f1]; have := hS.1; omega, fun x h1 h2 => (hold x (Nat.lt_of_lt_of_le h1 hS.1)).trans (hS.2.1 x h1 h2), hS.2.2⟩ F rfl X'
  refine ⟨t, step t ?_, b1⟩
  have e : T.heap.size = H.size := by rw [hT]
  rw [e]
  exact a1
end VGM
/-! ===== END ===== -/

/-! ===== BEGIN exceptions that leave a method, and their catching by the caller (launches without stack traces) ===== -/
section VXA
/-! The laws vx_back, vx_callV, vx_callS, vx_callSW, vx_throw0, vx_throwS follow proofs of the library, with one case more: JvmDerived/Free/Laws.lean (Back.of_free), Shelf42/LK1.lean (callV, callS), Shelf/KitTraced.lean (throwNew0V, throwNewS). -/
/-- where a method has thrown q: the class by its name, the cell, what was written, the world -/
def vx_T (XC : String → State → State → Prop) (st : State) (q : Addr) (t : State) (mc ms : Nat) (free : Addr → Prop) : Prop :=
  ∃ (E : String) (ce : Cell) (L : List Loc), XC E st t ∧ t.heap[q]? = some ce ∧ ce.vm = .none ∧ st.vm.findClass E = some ce.cls ∧ st.WarmedH t.vm ∧ st.sameButNew ({ t with vm := st.vm } : State) L mc ms ∧ ∀ z ∈ L, free z.base
def vx_Q (Qc : Array Value → State → Outcome → State → Prop) (XC : String → State → State → Prop) (mc ms : Nat) (free : Addr → Prop) : Array Value → State → Outcome → State → Prop := fun a st o t =>
  (Qc a st o t ∧ ∃ L, FrameEnd st o t L mc ms ∧ ∀ q ∈ L, free q.base) ∨ ∃ q, o = .threw q ∧ vx_T XC st q t mc ms free
/-- a callee that returns or throws -/
def vx_Met (l : Launch) (y : MethodName) (ws : List Cond) (rm : Room) (Pc : Array Value → State → Prop) (Qc : Array Value → State → Outcome → State → Prop) (XC : String → State → State → Prop) (mc ms : Nat) (free : Addr → Prop) : Prop :=
  MetFree l y (headSpec ws rm) Pc (fun _ _ _ _ _ => True) (vx_Q Qc XC mc ms free)
def vx_Post (XC : String → State → State → Prop) (mc ms : Nat) (free : Addr → Prop) : Pt → Array Value → Addr → Pt → Prop := fun A a q B =>
  ∃ (g : JFrame) (mk : MethodId) (t : State) (L : List Loc) (E : String) (ce : Cell), B.U.heap = t.heap ∧ B.U.vm = t.vm ∧ XC E (A.U.calling g mk a) t ∧ t.heap[q]? = some ce ∧ ce.vm = .none ∧ A.U.vm.findClass E = some ce.cls ∧ B.locs = A.locs ++ L ∧ (∀ z ∈ L, free z.base) ∧ B.cells = A.cells + mc ∧ B.slots = A.slots + ms
def vx_Back (l : Launch) (R : Room) (p : Program) (e : Env) (below : List Frame) (s : State) (sargs : Array Value) (y : MethodName) (len W9 : Nat)
    (Pre : Pt → Array Value → Prop) (Post : Pt → Array Value → Option Value → Pt → Prop) (PostX : Pt → Array Value → Addr → Pt → Prop) : Prop :=
  ∀ (m : MethodId) (meth : Method) (c : Code) (A : Pt) (g : JFrame) (ig : Instr) (mk : MethodId) (a : Array Value),
    Stand p l e R s m sargs below meth c A.U A.locs A.cells A.slots → g.method = m → g.locals.size = c.maxLocals → decode c.code g.pc = .ok (ig, len) →
    2 * g.monitorRoom + (g.stack.map fun v => v.category).sum ≤ W9 → A.U.methodNamed? y = some mk → Pre A a →
    (∃ (v : Option Value) (B : Pt), Stand p l e R s m sargs below meth c B.U B.locs B.cells B.slots ∧ Post A a v B ∧
      Steps p.tables e below (doInvoke e (A.U.setTop g) [] mk a).1 (B.U.setTop { g with pc := g.pc + len, stack := v.toList ++ g.stack })) ∨
    (∃ (q : Addr) (B : Pt), Stand p l e R s m sargs below meth c B.U B.locs B.cells B.slots ∧ PostX A a q B ∧
      Steps p.tables e below (doInvoke e (A.U.setTop g) [] mk a).1 ((B.U.setTop g).pushFrame (.throwing q)))
section Payer
variable {l : Launch} {R : Room} {p : Program} {e : Env} {below : List Frame} {s : State} {sargs : Array Value} {y : MethodName} {len W9 : Nat}
theorem vx_back {ws : List Cond} {rm : Room} {Pc : Array Value → State → Prop} {Qc : Array Value → State → Outcome → State → Prop} {XC : String → State → State → Prop} {mc ms : Nat} {free : Addr → Prop} {bytes : ByteArray} {maxL : Nat} {ret : Option FieldType}
    (hM : vx_Met l y ws rm Pc Qc XC mc ms free) (hblind : FrameBlind Pc) (hrc : rm.cells = mc) (hrs : rm.slots = ms)
    (hframes : rm.frames + 1 ≤ R.frames) (hlocals : W9 + (maxL + 11) + rm.locals ≤ R.locals)
    (hws : ∀ w ∈ ws, ∀ a' U, s.WarmedH U.vm → w.before a' U = true) (hcode : Cond.code y bytes maxL ret ∈ ws) (hinit : ∀ a' U, s.WarmedH U.vm → (Cond.initialized y.cls).before a' U = true) :
    vx_Back l R p e below s sargs y len W9 (PreOf R mc ms Pc) (PostOf Qc mc ms free) (vx_Post XC mc ms free) := by
  intro m meth c A g ig mk a X hg hsize hdg hW hn hp
  have h1 : (headSpec ws rm).pre.before a A.U = true := atoms_intro fun w hw => hws w hw _ _ X.warmed
  have h2 : (Cond.code y bytes maxL ret).before a A.U = true := hws _ hcode _ _ X.warmed
  have h3 : (Cond.initialized y.cls).before a A.U = true := hinit _ _ X.warmed
  have h4 : A.cells + (headSpec ws rm).room.cells ≤ R.cells := by rw [show (headSpec ws rm).room.cells = mc from hrc]; exact hp.1
  have h5 : A.slots + (headSpec ws rm).room.slots ≤ R.slots := by rw [show (headSpec ws rm).room.slots = ms from hrs]; exact hp.2.1
  have hPc : Pc a (A.U.calling g mk a) := hblind _ _ _ _ hp.2.2
  obtain ⟨U, Ls, c0, s0⟩ := A
  dsimp only [Pt.U, Pt.locs, Pt.cells, Pt.slots] at h1 h2 h3 h4 h5 X hn hPc ⊢
  obtain ⟨methY, cY, hmY, hcY, -, hlY, -, -, -, -⟩ := Cond.code_spec hn h2
  obtain ⟨kY, hkY, -⟩ := className_of_methodNamed hn
  have hinitY : kY.init = .initialized := Cond.initialized_spec (findClass_of_methodNamed hn) hkY h3
  have h : At U g.method c below := by rw [hg]; exact X.here
  have hlocals9 : W9 + (maxL + 11) + (headSpec ws rm).room.locals ≤ R.locals := hlocals
  have happ : (headSpec ws rm).appliesLoose y e.platform (U.calling g mk a) = true :=
    Spec.appliesLoose_calling (g := g) h hdg hn hkY hinitY
      (X.room_calling (g := g) (R' := (headSpec ws rm).room) hsize hmY hcY hframes (by rw [hlY]; omega) h4 h5) h1
  obtain ⟨mid, hmid⟩ := h.above
  have hfr : (U.setTop g).frames = (.java g :: mid) ++ below := by rw [State.frames_setTop' g h.top, hmid]; rfl
  obtain ⟨o, s₂, hsteps, -, hend, hq⟩ := Steps.callFree hM p X.admits X.cas X.clock (acts := []) hfr happ hPc trivial
  have hq' : vx_Q Qc XC mc ms free a (U.calling g mk a) o s₂ := hq
  rw [State.frames_setTop' g h.top] at hend
  obtain ⟨g₀, hg0⟩ := Option.isSome_iff_exists.mp h.top
  obtain ⟨r, hr⟩ := State.topJava?_eq_some.mp hg0
  have hr' : (({ U with heap := s₂.heap, slotsUsed := s₂.slotsUsed } : State).setVm s₂.vm).frames = .java g₀ :: r := hr
  rcases hq' with ⟨hqc, L, hfe, hL⟩ | ⟨q, rfl, E, ce, L, hx, hce, hcv, hcl, hW₂, hsm, hL⟩
  · obtain ⟨⟨v, rfl⟩, hW₂, e2, q2, q3, q4, q5, q6⟩ := id hfe
    have e3 : s₂ = ({ (U.calling g mk a).setFrames s₂.frames with heap := s₂.heap, slotsUsed := s₂.slotsUsed } : State).setVm s₂.vm := by
      have : s₂ = ({ s₂ with vm := (U.calling g mk a).vm } : State).setVm s₂.vm := rfl
      rw [e2] at this
      exact this
    obtain ⟨c₂, i₂, len₂, hc₂, hd₂, hf₂⟩ := hend
    have hW' : U.WarmedH s₂.vm := hW₂
    have hcc : c₂ = c := by
      have h1 : s₂.code? g.method = U.code? g.method := by
        rw [State.code?_eq, State.code?_eq, hW'.alike.method?]
      exact Option.some.inj (hc₂.symm.trans (h1.trans h.code))
    subst hcc
    have hlen : len₂ = len := by rw [hdg] at hd₂; cases hd₂; rfl
    subst hlen
    have hs₂ : s₂ = (({ U with heap := s₂.heap, slotsUsed := s₂.slotsUsed } : State).setVm s₂.vm).setTop { g with pc := g.pc + len₂, stack := v.toList ++ g.stack } := by
      refine e3.trans ?_
      rw [hf₂, State.calling_eq h.top, State.setFrames_setFrames, State.setTop_of_frames _ hr', hr]
      rfl
    have hsame : U.sameButNew ({ U with heap := s₂.heap, slotsUsed := s₂.slotsUsed } : State) L mc ms := by
      refine ⟨?_, q2, q3, q4, q5, q6⟩
      obtain ⟨t, ht, -⟩ := State.frames_cons hr
      show ({ U with heap := s₂.heap, slotsUsed := s₂.slotsUsed } : State) = { U.setFrames U.frames with heap := s₂.heap, slotsUsed := s₂.slotsUsed }
      rw [State.setFrames_self ht]
    subst hg
    refine Or.inl ⟨v, ⟨(({ U with heap := s₂.heap, slotsUsed := s₂.slotsUsed } : State).setVm s₂.vm), Ls ++ L, c0 + mc, s0 + ms⟩,
      ⟨X.admits, X.cas, X.clock, X.frames, X.room, X.hears, X.method, X.code, (X.here.setHeapUsed s₂.heap s₂.slotsUsed).setVm hW'.alike, X.tail, State.WarmedH.trans X.warmed hW', X.limits, X.bytes, X.same.trans (hsame.setVm s.vm)⟩,
      ⟨g, mk, s₂, L, rfl, rfl, hqc, rfl, hL, rfl, rfl⟩, ?_⟩
    show Steps p.tables e below _ ((({ U with heap := s₂.heap, slotsUsed := s₂.slotsUsed } : State).setVm s₂.vm).setTop { g with pc := g.pc + len₂, stack := v.toList ++ g.stack })
    rw [← hs₂]
    exact hsteps
  · obtain ⟨e2, q2, q3, q4, q5, q6⟩ := id hsm
    have e3 : s₂ = ({ (U.calling g mk a).setFrames s₂.frames with heap := s₂.heap, slotsUsed := s₂.slotsUsed } : State).setVm s₂.vm := by
      have : s₂ = ({ s₂ with vm := (U.calling g mk a).vm } : State).setVm s₂.vm := rfl
      rw [e2] at this
      exact this
    have hf₂ : s₂.frames = .throwing q :: .java g :: U.frames.tail := hend
    have hW' : U.WarmedH s₂.vm := hW₂
    have hs₂ : s₂ = ((({ U with heap := s₂.heap, slotsUsed := s₂.slotsUsed } : State).setVm s₂.vm).setTop g).pushFrame (.throwing q) := by
      refine e3.trans ?_
      rw [hf₂, State.calling_eq h.top, State.setFrames_setFrames, State.pushFrame, State.frames_setTop _ hr', State.setTop_of_frames _ hr', State.setFrames_setFrames, hr]
      rfl
    have hsame : U.sameButNew ({ U with heap := s₂.heap, slotsUsed := s₂.slotsUsed } : State) L mc ms := by
      refine ⟨?_, q2, q3, q4, q5, q6⟩
      obtain ⟨t, ht, -⟩ := State.frames_cons hr
      show ({ U with heap := s₂.heap, slotsUsed := s₂.slotsUsed } : State) = { U.setFrames U.frames with heap := s₂.heap, slotsUsed := s₂.slotsUsed }
      rw [State.setFrames_self ht]
    subst hg
    refine Or.inr ⟨q, ⟨(({ U with heap := s₂.heap, slotsUsed := s₂.slotsUsed } : State).setVm s₂.vm), Ls ++ L, c0 + mc, s0 + ms⟩,
      ⟨X.admits, X.cas, X.clock, X.frames, X.room, X.hears, X.method, X.code, (X.here.setHeapUsed s₂.heap s₂.slotsUsed).setVm hW'.alike, X.tail, State.WarmedH.trans X.warmed hW', X.limits, X.bytes, X.same.trans (hsame.setVm s.vm)⟩,
      ⟨g, mk, s₂, L, E, ce, rfl, rfl, hx, hce, hcv, hcl, rfl, hL, rfl, rfl⟩, ?_⟩
    show Steps p.tables e below _ (((({ U with heap := s₂.heap, slotsUsed := s₂.slotsUsed } : State).setVm s₂.vm).setTop g).pushFrame (.throwing q))
    rw [← hs₂]
    exact hsteps
end Payer
section Calls
variable {p : Program} {l : Launch} {e : Env} {R : Room} {s : State} {m : MethodId} {args : Array Value} {below : List Frame} {meth : Method} {c : Code} {T : State} {locs : List Loc} {cells slots : Nat}
theorem vx_callV (X : Stand p l e R s m args below meth c T locs cells slots) (hexec : p.tables.exec = Jvm.exec) {own C : String} {index : Nat} {y : MethodName} {bytes : ByteArray} {maxL : Nat} {ret : Option FieldType}
    (hown : s.vm.findClass own = some m.cls) (hlink : (Cond.methodLink own index y).before args s = true) (hinst : (Cond.instanceMethod y).before args s = true) (hsel : (Cond.selects C y y).before args s = true)
    (hcode : (Cond.code y bytes maxL ret).before args s = true) (hy : y.cls ≠ "java/lang/invoke/MethodHandle" ∧ y.cls ≠ "java/lang/invoke/VarHandle")
    {W9 : Nat} {Pre : Pt → Array Value → Prop} {Post : Pt → Array Value → Option Value → Pt → Prop} {PostX : Pt → Array Value → Addr → Pt → Prop} (hK : vx_Back l R p e below s args y 3 W9 Pre Post PostX)
    {b : Addr} {cellB : Cell} (hcell : T.heap[b]? = some cellB) (hobj : cellB.vm.isStatics = false) (hcls : s.vm.findClass C = some cellB.cls)
    {g : JFrame} (hg : g.method = m) (hsize : g.locals.size = c.maxLocals) {argsL rest : List Value} (hlen : ∀ sig, parseMethodDescriptor y.desc = some sig → argsL.length = sig.parameters.length)
    (hstack : g.stack = argsL.reverse ++ .ref b :: rest) (hW : 2 * g.monitorRoom + (rest.map fun v => v.category).sum ≤ W9) (hdg : decode c.code g.pc = .ok (.invokevirtual index, 3))
    (hpre : ∀ vm₁, s.WarmedH vm₁ → Pre ⟨T.setVm vm₁, locs, cells, slots⟩ (Value.ref b :: argsL).toArray) :
    (∃ (v : Option Value) (vm₁ : Vm) (B : Pt), s.WarmedH vm₁ ∧ Stand p l e R s m args below meth c B.U B.locs B.cells B.slots ∧ Post ⟨T.setVm vm₁, locs, cells, slots⟩ (Value.ref b :: argsL).toArray v B ∧
      ∀ target, Steps p.tables e below (B.U.setTop { g with pc := g.pc + 3, stack := v.toList ++ rest }) target → Steps p.tables e below (T.setTop g) target) ∨
    (∃ (q : Addr) (vm₁ : Vm) (B : Pt), s.WarmedH vm₁ ∧ Stand p l e R s m args below meth c B.U B.locs B.cells B.slots ∧ PostX ⟨T.setVm vm₁, locs, cells, slots⟩ (Value.ref b :: argsL).toArray q B ∧
      Steps p.tables e below (T.setTop g) ((B.U.setTop { g with stack := rest }).pushFrame (.throwing q))) := by
  obtain ⟨mk, methM, hnamed, hmethM, hstM, habM⟩ := Cond.instanceMethod_spec hinst
  obtain ⟨methM', cM, hmethM', -, -, -, -, -, -, hsigM⟩ := Cond.code_spec hnamed hcode
  cases hmethM.symm.trans hmethM'
  obtain ⟨c2, r2, m2, q1, q2, q3, q4, kP, hkP, hkPi⟩ := Cond.selects_spec hsel
  cases hcls.symm.trans q1
  cases (State.methodFound?_of_named hnamed hy).symm.trans q2
  cases hnamed.symm.trans q3
  have hselP : selectMethod e.platform s.vm cellB.cls mk = .method mk := by rw [Launch.admits_selectMethod X.admits]; exact q4
  obtain ⟨vm₁, X₁, hstep₁⟩ := X.invokevirtual hexec hown hlink hnamed hmethM hstM hkP hkPi hy (a := b) (cell := cellB) hcell
    (fun z h => by rw [h] at hobj; cases hobj) hselP hmethM habM hkP hkPi (g := g) hg (argsL := argsL) (rest := rest) (hlen _ hsigM) hstack hdg
  rcases hK m meth c ⟨T.setVm vm₁, locs, cells, slots⟩ { g with stack := rest } (.invokevirtual index) mk (Value.ref b :: argsL).toArray X₁ hg hsize hdg hW (X₁.named hnamed) (hpre vm₁ X₁.warmed) with ⟨v, B, X', hpost, hsteps⟩ | ⟨q, B, X', hpost, hsteps⟩
  · exact Or.inl ⟨v, vm₁, B, X₁.warmed, X', hpost, fun target h => hstep₁ _ fun acts => by rw [doInvoke_state]; exact hsteps.trans h⟩
  · exact Or.inr ⟨q, vm₁, B, X₁.warmed, X', hpost, hstep₁ _ fun acts => by rw [doInvoke_state]; exact hsteps⟩
theorem vx_callS (X : Stand p l e R s m args below meth c T locs cells slots) (hexec : p.tables.exec = Jvm.exec) {own : String} {index : Nat} {y : MethodName} {bytes : ByteArray} {maxL : Nat} {ret : Option FieldType}
    (hown : s.vm.findClass own = some m.cls) (hlink : (Cond.methodLink own index y).before args s = true) (hstat : (Cond.static y).before args s = true) (hinit : (Cond.initialized y.cls).before args s = true)
    (hcode : (Cond.code y bytes maxL ret).before args s = true) (hy : y.cls ≠ "java/lang/invoke/MethodHandle" ∧ y.cls ≠ "java/lang/invoke/VarHandle")
    {W9 : Nat} {Pre : Pt → Array Value → Prop} {Post : Pt → Array Value → Option Value → Pt → Prop} {PostX : Pt → Array Value → Addr → Pt → Prop} (hK : vx_Back l R p e below s args y 3 W9 Pre Post PostX)
    {g : JFrame} (hg : g.method = m) (hsize : g.locals.size = c.maxLocals) {argsL rest : List Value} (hlen : ∀ sig, parseMethodDescriptor y.desc = some sig → argsL.length = sig.parameters.length)
    (hstack : g.stack = argsL.reverse ++ rest) (hW : 2 * g.monitorRoom + (rest.map fun v => v.category).sum ≤ W9) (hdg : decode c.code g.pc = .ok (.invokestatic index, 3))
    (hpre : ∀ vm₁, s.WarmedH vm₁ → Pre ⟨T.setVm vm₁, locs, cells, slots⟩ argsL.toArray) :
    (∃ (v : Option Value) (vm₁ : Vm) (B : Pt), s.WarmedH vm₁ ∧ Stand p l e R s m args below meth c B.U B.locs B.cells B.slots ∧ Post ⟨T.setVm vm₁, locs, cells, slots⟩ argsL.toArray v B ∧
      ∀ target, Steps p.tables e below (B.U.setTop { g with pc := g.pc + 3, stack := v.toList ++ rest }) target → Steps p.tables e below (T.setTop g) target) ∨
    (∃ (q : Addr) (vm₁ : Vm) (B : Pt), s.WarmedH vm₁ ∧ Stand p l e R s m args below meth c B.U B.locs B.cells B.slots ∧ PostX ⟨T.setVm vm₁, locs, cells, slots⟩ argsL.toArray q B ∧
      Steps p.tables e below (T.setTop g) ((B.U.setTop { g with stack := rest }).pushFrame (.throwing q))) := by
  obtain ⟨mk, hnamed⟩ := Cond.code_named hcode
  obtain ⟨methM, cM, hmethM, -, -, -, -, -, -, hsigM⟩ := Cond.code_spec hnamed hcode
  have hstatic : methM.isStatic = true := Cond.static_spec hnamed hmethM hstat
  obtain ⟨kP, hkP, -⟩ := className_of_methodNamed hnamed
  have hinitP : kP.init = .initialized := Cond.initialized_spec (findClass_of_methodNamed hnamed) hkP hinit
  obtain ⟨vm₁, X₁, hstep₁⟩ := X.invokestatic hexec hown hlink hnamed hmethM hstatic hkP hinitP hy (g := g) hg (argsL := argsL) (rest := rest) (hlen _ hsigM) hstack hdg
  rcases hK m meth c ⟨T.setVm vm₁, locs, cells, slots⟩ { g with stack := rest } (.invokestatic index) mk argsL.toArray X₁ hg hsize hdg hW (X₁.named hnamed) (hpre vm₁ X₁.warmed) with ⟨v, B, X', hpost, hsteps⟩ | ⟨q, B, X', hpost, hsteps⟩
  · exact Or.inl ⟨v, vm₁, B, X₁.warmed, X', hpost, fun target h => hstep₁ _ fun acts => by rw [doInvoke_state]; exact hsteps.trans h⟩
  · exact Or.inr ⟨q, vm₁, B, X₁.warmed, X', hpost, hstep₁ _ fun acts => by rw [doInvoke_state]; exact hsteps⟩
end Calls
theorem vx_cls {s : State} {T : State} {vm₁ : Vm} {E : String} {k : ClassId} (hW : s.WarmedH vm₁) (h : (T.setVm vm₁).vm.findClass E = some k) : s.vm.findClass E = some k := by
  have h1 : vm₁.findClass E = some k := h
  rw [hW.alike.findClass] at h1
  exact h1
/-- the method's frame g, with q thrown over it -/
def vx_W (p : Program) (l : Launch) (e : Env) (R : Room) (s : State) (m : MethodId) (args : Array Value) (below : List Frame) (meth : Method) (c : Code) (H : Heap) (locs : List Loc) (cells slots : Nat) (Q : State → Prop) (g : JFrame) (q : Addr) : Prop :=
  ∀ T : State, T.heap = H → Stand p l e R s m args below meth c T locs cells slots → ∃ t, Steps p.tables e below ((T.setTop g).pushFrame (.throwing q)) t ∧ Q t
def vx_Run (p : Program) (l : Launch) (e : Env) (R : Room) (s : State) (m : MethodId) (args : Array Value) (below : List Frame) (meth : Method) (c : Code) (H : Heap) (locs : List Loc) (cells slots mc ms : Nat) (g : JFrame) (rest : List Value) (Qa : State → Outcome → State → Prop) (XC : String → State → State → Prop) (free : Addr → Prop) : Prop :=
  ∀ T : State, T.heap = H → Stand p l e R s m args below meth c T locs cells slots →
    (∃ (v : Option Value) (st₀ t T' : State) (L : List Loc), st₀.heap = H ∧ Stand p l e R s m args below meth c T' (locs ++ L) (cells + mc) (slots + ms) ∧ (∀ q ∈ L, free q.base) ∧ T'.heap = t.heap ∧ T'.vm = t.vm ∧ Qa st₀ (.returned v) t ∧
      Goes p e below T g T' { g with pc := g.pc + 3, stack := v.toList ++ rest }) ∨
    (∃ (q : Addr) (st₀ t T' : State) (L : List Loc) (E : String) (ce : Cell), st₀.heap = H ∧ Stand p l e R s m args below meth c T' (locs ++ L) (cells + mc) (slots + ms) ∧ (∀ z ∈ L, free z.base) ∧ T'.heap = t.heap ∧ T'.vm = t.vm ∧ XC E st₀ t ∧ t.heap[q]? = some ce ∧ ce.vm = .none ∧ s.vm.findClass E = some ce.cls ∧
      Steps p.tables e below (T.setTop g) ((T'.setTop { g with stack := rest }).pushFrame (.throwing q)))
def vx_X {S : Type} (px : S → Prop) (B : String → S → State → Prop) (A : Nat → Prop) : String → State → State → Prop := fun E st t => ∃ u : S, px u ∧ B E u t ∧ va_F A st t
section Runs
variable {p : Program} {l : Launch} {e : Env} {R : Room} {s : State} {m : MethodId} {args : Array Value} {below : List Frame} {meth : Method} {c : Code} {H : Heap} {locs : List Loc} {cells slots : Nat}
variable {y : MethodName} {bytes cc : ByteArray} {maxL nL mc ms n index : Nat} {ret : Option FieldType} {ws : List Cond} {rm : Room} {Pc : Array Value → State → Prop} {Qc : Array Value → State → Outcome → State → Prop} {XC : String → State → State → Prop} {free : Addr → Prop} {Ts : List Cond} {own C : String} {b : Addr} {As rest : List Value} {g : JFrame}
theorem vx_callBack (cb : CallB R s args own index y bytes maxL ret ws rm mc ms n) (hM : vx_Met l y ws rm Pc Qc XC mc ms free) (hbl : FrameBlind Pc) : vx_Back l R p e below s args y 3 8 (PreOf R mc ms Pc) (PostOf Qc mc ms free) (vx_Post XC mc ms free) := by
  obtain ⟨hrc, hrs, hfr, hlo, hws, hcw, -, hini, -⟩ := cb
  exact vx_back (bytes := bytes) (maxL := maxL) (ret := ret) hM hbl hrc hrs hfr hlo hws hcw (fun a' U hW => word_at hW (Or.inl (by first | rfl | simp [Cond.onTables, Cond.keeps, Cond.steady])) hini)
theorem vx_runV (S : CallFix p m c cc nL s args Ts own) (hM : vx_Met l y ws rm Pc Qc XC mc ms free) (cw : CallW R s args own C index y bytes maxL ret ws rm mc ms n) (hp : PreV s H C b Pc As)
    (hg : g.method = m) (hn : As.length = n) (hsize : g.locals.size = nL) (hstack : g.stack = As.reverse ++ .ref b :: rest) (hW : 2 * g.monitorRoom + (rest.map fun v => v.category).sum ≤ 8) (hdg : decode cc g.pc = .ok (.invokevirtual index, 3)) (hf : cells + mc ≤ R.cells ∧ slots + ms ≤ R.slots) :
    vx_Run p l e R s m args below meth c H locs cells slots mc ms g rest (Qc (Value.ref b :: As).toArray) XC free := by
  have hK : vx_Back l R p e below s args y 3 8 (PreOf R mc ms Pc) (PostOf Qc mc ms free) (vx_Post XC mc ms free) := vx_callBack cw.1 hM hp.1
  obtain ⟨⟨-, -, -, -, -, -, hcode, -, hy, hlen, hl⟩, hin, hse⟩ := cw
  obtain ⟨hx, hb, hml, ho, -⟩ := S
  obtain ⟨-, ⟨cellB, hcB, hoB, hclB⟩, hPc⟩ := hp
  intro T hT X
  rcases vx_callV X hx (C := C) (bytes := bytes) (maxL := maxL) (ret := ret) ho hl hin hse hcode hy hK (by rw [hT]; exact hcB) hoB hclB hg (hsize.trans hml.symm) (argsL := As) (rest := rest) (fun sig h => hn.trans (hlen sig h)) hstack hW (by rw [hb]; exact hdg)
    (fun vm₁ hW₁ => ⟨hf.1, hf.2, hPc (T.setVm vm₁) hT hW₁⟩) with ⟨v, vm₁, ⟨U', l2, c2, s2⟩, hW₁, X', ⟨g', mk, t, L, e1, e2, hq, h1, hL, h2, h3⟩, st⟩ | ⟨q, vm₁, ⟨U', l2, c2, s2⟩, hW₁, X', ⟨g', mk, t, L, E, ce, e1, e2, hq, hce, hcv, hcl, h1, hL, h2, h3⟩, st⟩
  · dsimp only [Pt.U, Pt.locs, Pt.cells, Pt.slots] at X' e1 e2 h1 h2 h3 st
    subst h1; subst h2; subst h3
    exact Or.inl ⟨v, (T.setVm vm₁).calling g' mk (Value.ref b :: As).toArray, t, U', L, hT, X', hL, e1, e2, hq, st⟩
  · dsimp only [Pt.U, Pt.locs, Pt.cells, Pt.slots] at X' e1 e2 h1 h2 h3 st hcl
    subst h1; subst h2; subst h3
    exact Or.inr ⟨q, (T.setVm vm₁).calling g' mk (Value.ref b :: As).toArray, t, U', L, E, ce, hT, X', hL, e1, e2, hq, hce, hcv, vx_cls hW₁ hcl, st⟩
theorem vx_runS (S : CallFix p m c cc nL s args Ts own) (hM : vx_Met l y ws rm Pc Qc XC mc ms free) (cw : CallB R s args own index y bytes maxL ret ws rm mc ms n ∧ (Cond.static y).before args s = true) (hp : PreS s H Pc As)
    (hg : g.method = m) (hn : As.length = n) (hsize : g.locals.size = nL) (hstack : g.stack = As.reverse ++ rest) (hW : 2 * g.monitorRoom + (rest.map fun v => v.category).sum ≤ 8) (hdg : decode cc g.pc = .ok (.invokestatic index, 3)) (hf : cells + mc ≤ R.cells ∧ slots + ms ≤ R.slots) :
    vx_Run p l e R s m args below meth c H locs cells slots mc ms g rest (Qc As.toArray) XC free := by
  have hK : vx_Back l R p e below s args y 3 8 (PreOf R mc ms Pc) (PostOf Qc mc ms free) (vx_Post XC mc ms free) := vx_callBack cw.1 hM hp.1
  obtain ⟨⟨-, -, -, -, -, -, hcode, hini, hy, hlen, hl⟩, hstt⟩ := cw
  obtain ⟨hx, hb, hml, ho, -⟩ := S
  intro T hT X
  rcases vx_callS X hx (bytes := bytes) (maxL := maxL) (ret := ret) ho hl hstt hini hcode hy hK hg (hsize.trans hml.symm) (argsL := As) (rest := rest) (fun sig h => hn.trans (hlen sig h)) hstack hW (by rw [hb]; exact hdg)
    (fun vm₁ hW₁ => ⟨hf.1, hf.2, hp.2 (T.setVm vm₁) hT hW₁⟩) with ⟨v, vm₁, ⟨U', l2, c2, s2⟩, hW₁, X', ⟨g', mk, t, L, e1, e2, hq, h1, hL, h2, h3⟩, st⟩ | ⟨q, vm₁, ⟨U', l2, c2, s2⟩, hW₁, X', ⟨g', mk, t, L, E, ce, e1, e2, hq, hce, hcv, hcl, h1, hL, h2, h3⟩, st⟩
  · dsimp only [Pt.U, Pt.locs, Pt.cells, Pt.slots] at X' e1 e2 h1 h2 h3 st
    subst h1; subst h2; subst h3
    exact Or.inl ⟨v, (T.setVm vm₁).calling g' mk As.toArray, t, U', L, hT, X', hL, e1, e2, hq, st⟩
  · dsimp only [Pt.U, Pt.locs, Pt.cells, Pt.slots] at X' e1 e2 h1 h2 h3 st hcl
    subst h1; subst h2; subst h3
    exact Or.inr ⟨q, (T.setVm vm₁).calling g' mk As.toArray, t, U', L, E, ce, hT, X', hL, e1, e2, hq, hce, hcv, vx_cls hW₁ hcl, st⟩
end Runs
section Rows
variable {p : Program} {l : Launch} {e : Env} {R : Room} {s : State} {m : MethodId} {args : Array Value} {below : List Frame} {meth : Method} {c : Code} {H : Heap} {locs : List Loc} {cells slots : Nat} {Q : State → Prop}
variable {mc ms : Nat} {free : Addr → Prop} {A0 A1 : Nat → Prop} {H0 : Heap} {a : Array Value} {pc : Nat} {ls : Array Slot} {st0 rest : List Value}
theorem vx_keep {st₀ t T' : State} {L : List Loc} (h0 : st₀.heap = H) (e1 : T'.heap = t.heap) (hS : va_S A0 H0 H locs) (hA : ∀ q, q < H.size → A1 q → A0 q) (hf : ∀ q, free q → A0 q) (hL : ∀ q ∈ L, free q.base) (hF : va_F A1 st₀ t) :
    H.size ≤ T'.heap.size ∧ (∀ q : Nat, q < H.size → ¬ A1 q → T'.heap[q]? = H[q]?) ∧ va_S A0 H0 T'.heap (locs ++ L) := by
  obtain ⟨hz, hk⟩ := hF
  rw [h0] at hz hk
  exact ⟨by rw [e1]; exact hz, fun q h1 h2 => by rw [e1]; exact hk q h1 h2,
    ⟨Nat.le_trans hS.1 (by rw [e1]; exact hz), fun q h1 h2 => by rw [e1, hk q (Nat.lt_of_lt_of_le h1 hS.1) (fun z => h2 (hA q (Nat.lt_of_lt_of_le h1 hS.1) z))]; exact hS.2.1 q h1 h2, fun q hq => by
      rcases List.mem_append.mp hq with h | h
      · exact hS.2.2 q h
      · exact hf _ (hL q h)⟩⟩
theorem vx_calli {S SX : Type} {post : Int32 → S → Prop} {px : SX → Prop} {B : S → State → Prop} {BX : String → SX → State → Prop} {AX : Nat → Prop} (hr : vx_Run p l e R s m args below meth c H locs cells slots mc ms (F0 m pc ls st0) rest (va_Qi post B A1 a) (vx_X px BX AX) free) (hS : va_S A0 H0 H locs) (hA : ∀ q, q < H.size → A1 q → A0 q) (hf : ∀ q, free q → A0 q) (hAX : ∀ q, q < H.size → AX q → A0 q)
    (kx : ∀ (E : String) (ce : Cell) (q9 : Addr) (u : SX) (t : State) (H1 : Heap) (locs1 : List Loc), t.heap = H1 → s.vm.Alike t.vm → px u → BX E u t → H.size ≤ H1.size → (∀ q : Nat, q < H.size → ¬ AX q → H1[q]? = H[q]?) → va_S A0 H0 H1 locs1 → H1[q9]? = some ce → ce.vm = .none → s.vm.findClass E = some ce.cls → vx_W p l e R s m args below meth c H1 locs1 (cells + mc) (slots + ms) Q (F0 m pc ls rest) q9)
    (kk : ∀ (r : Int32) (u : S) (t : State) (H1 : Heap) (locs1 : List Loc), t.heap = H1 → s.vm.Alike t.vm → post r u → B u t → H.size ≤ H1.size → (∀ q : Nat, q < H.size → ¬ A1 q → H1[q]? = H[q]?) → va_S A0 H0 H1 locs1 → W p l e R s m args below meth c H1 locs1 (cells + mc) (slots + ms) Q (F0 m (pc + 3) ls (.int r :: rest))) : W p l e R s m args below meth c H locs cells slots Q (F0 m pc ls st0) := by
  intro T hT X
  rcases hr T hT X with ⟨v, st₀, t, T', L, h0, X', hL, e1, e2, ⟨⟨r, u, hv, hp, hb⟩, hF⟩, st⟩ | ⟨q, st₀, t, T', L, E, ce, h0, X', hL, e1, e2, ⟨u, hp, hb, hF⟩, hce, hcv, hcl, st⟩
  · cases hv
    obtain ⟨k1, k2, k3⟩ := vx_keep h0 e1 hS hA hf hL hF
    obtain ⟨t2, a1, b1⟩ := kk r u t T'.heap (locs ++ L) e1.symm (by rw [← e2]; exact X'.warmed.alike) hp hb k1 k2 k3 T' rfl X'
    exact ⟨t2, st t2 a1, b1⟩
  · obtain ⟨k1, k2, k3⟩ := vx_keep h0 e1 hS hAX hf hL hF
    obtain ⟨t2, a1, b1⟩ := kx E ce q u t T'.heap (locs ++ L) e1.symm (by rw [← e2]; exact X'.warmed.alike) hp hb k1 k2 k3 (by rw [e1]; exact hce) hcv hcl T' rfl X'
    exact ⟨t2, st.trans a1, b1⟩
theorem vx_calll {S SX : Type} {post : Int64 → S → Prop} {px : SX → Prop} {B : S → State → Prop} {BX : String → SX → State → Prop} {AX : Nat → Prop} (hr : vx_Run p l e R s m args below meth c H locs cells slots mc ms (F0 m pc ls st0) rest (va_Ql post B A1 a) (vx_X px BX AX) free) (hS : va_S A0 H0 H locs) (hA : ∀ q, q < H.size → A1 q → A0 q) (hf : ∀ q, free q → A0 q) (hAX : ∀ q, q < H.size → AX q → A0 q)
    (kx : ∀ (E : String) (ce : Cell) (q9 : Addr) (u : SX) (t : State) (H1 : Heap) (locs1 : List Loc), t.heap = H1 → s.vm.Alike t.vm → px u → BX E u t → H.size ≤ H1.size → (∀ q : Nat, q < H.size → ¬ AX q → H1[q]? = H[q]?) → va_S A0 H0 H1 locs1 → H1[q9]? = some ce → ce.vm = .none → s.vm.findClass E = some ce.cls → vx_W p l e R s m args below meth c H1 locs1 (cells + mc) (slots + ms) Q (F0 m pc ls rest) q9)
    (kk : ∀ (r : Int64) (u : S) (t : State) (H1 : Heap) (locs1 : List Loc), t.heap = H1 → s.vm.Alike t.vm → post r u → B u t → H.size ≤ H1.size → (∀ q : Nat, q < H.size → ¬ A1 q → H1[q]? = H[q]?) → va_S A0 H0 H1 locs1 → W p l e R s m args below meth c H1 locs1 (cells + mc) (slots + ms) Q (F0 m (pc + 3) ls (.long r :: rest))) : W p l e R s m args below meth c H locs cells slots Q (F0 m pc ls st0) := by
  intro T hT X
  rcases hr T hT X with ⟨v, st₀, t, T', L, h0, X', hL, e1, e2, ⟨⟨r, u, hv, hp, hb⟩, hF⟩, st⟩ | ⟨q, st₀, t, T', L, E, ce, h0, X', hL, e1, e2, ⟨u, hp, hb, hF⟩, hce, hcv, hcl, st⟩
  · cases hv
    obtain ⟨k1, k2, k3⟩ := vx_keep h0 e1 hS hA hf hL hF
    obtain ⟨t2, a1, b1⟩ := kk r u t T'.heap (locs ++ L) e1.symm (by rw [← e2]; exact X'.warmed.alike) hp hb k1 k2 k3 T' rfl X'
    exact ⟨t2, st t2 a1, b1⟩
  · obtain ⟨k1, k2, k3⟩ := vx_keep h0 e1 hS hAX hf hL hF
    obtain ⟨t2, a1, b1⟩ := kx E ce q u t T'.heap (locs ++ L) e1.symm (by rw [← e2]; exact X'.warmed.alike) hp hb k1 k2 k3 (by rw [e1]; exact hce) hcv hcl T' rfl X'
    exact ⟨t2, st.trans a1, b1⟩
theorem vx_callf {S SX : Type} {post : UInt32 → S → Prop} {px : SX → Prop} {B : S → State → Prop} {BX : String → SX → State → Prop} {AX : Nat → Prop} (hr : vx_Run p l e R s m args below meth c H locs cells slots mc ms (F0 m pc ls st0) rest (va_Qf post B A1 a) (vx_X px BX AX) free) (hS : va_S A0 H0 H locs) (hA : ∀ q, q < H.size → A1 q → A0 q) (hf : ∀ q, free q → A0 q) (hAX : ∀ q, q < H.size → AX q → A0 q)
    (kx : ∀ (E : String) (ce : Cell) (q9 : Addr) (u : SX) (t : State) (H1 : Heap) (locs1 : List Loc), t.heap = H1 → s.vm.Alike t.vm → px u → BX E u t → H.size ≤ H1.size → (∀ q : Nat, q < H.size → ¬ AX q → H1[q]? = H[q]?) → va_S A0 H0 H1 locs1 → H1[q9]? = some ce → ce.vm = .none → s.vm.findClass E = some ce.cls → vx_W p l e R s m args below meth c H1 locs1 (cells + mc) (slots + ms) Q (F0 m pc ls rest) q9)
    (kk : ∀ (r : UInt32) (u : S) (t : State) (H1 : Heap) (locs1 : List Loc), t.heap = H1 → s.vm.Alike t.vm → post r u → B u t → H.size ≤ H1.size → (∀ q : Nat, q < H.size → ¬ A1 q → H1[q]? = H[q]?) → va_S A0 H0 H1 locs1 → W p l e R s m args below meth c H1 locs1 (cells + mc) (slots + ms) Q (F0 m (pc + 3) ls (.float r :: rest))) : W p l e R s m args below meth c H locs cells slots Q (F0 m pc ls st0) := by
  intro T hT X
  rcases hr T hT X with ⟨v, st₀, t, T', L, h0, X', hL, e1, e2, ⟨⟨r, u, hv, hp, hb⟩, hF⟩, st⟩ | ⟨q, st₀, t, T', L, E, ce, h0, X', hL, e1, e2, ⟨u, hp, hb, hF⟩, hce, hcv, hcl, st⟩
  · cases hv
    obtain ⟨k1, k2, k3⟩ := vx_keep h0 e1 hS hA hf hL hF
    obtain ⟨t2, a1, b1⟩ := kk r u t T'.heap (locs ++ L) e1.symm (by rw [← e2]; exact X'.warmed.alike) hp hb k1 k2 k3 T' rfl X'
    exact ⟨t2, st t2 a1, b1⟩
  · obtain ⟨k1, k2, k3⟩ := vx_keep h0 e1 hS hAX hf hL hF
    obtain ⟨t2, a1, b1⟩ := kx E ce q u t T'.heap (locs ++ L) e1.symm (by rw [← e2]; exact X'.warmed.alike) hp hb k1 k2 k3 (by rw [e1]; exact hce) hcv hcl T' rfl X'
    exact ⟨t2, st.trans a1, b1⟩
theorem vx_calld {S SX : Type} {post : UInt64 → S → Prop} {px : SX → Prop} {B : S → State → Prop} {BX : String → SX → State → Prop} {AX : Nat → Prop} (hr : vx_Run p l e R s m args below meth c H locs cells slots mc ms (F0 m pc ls st0) rest (va_Qd post B A1 a) (vx_X px BX AX) free) (hS : va_S A0 H0 H locs) (hA : ∀ q, q < H.size → A1 q → A0 q) (hf : ∀ q, free q → A0 q) (hAX : ∀ q, q < H.size → AX q → A0 q)
    (kx : ∀ (E : String) (ce : Cell) (q9 : Addr) (u : SX) (t : State) (H1 : Heap) (locs1 : List Loc), t.heap = H1 → s.vm.Alike t.vm → px u → BX E u t → H.size ≤ H1.size → (∀ q : Nat, q < H.size → ¬ AX q → H1[q]? = H[q]?) → va_S A0 H0 H1 locs1 → H1[q9]? = some ce → ce.vm = .none → s.vm.findClass E = some ce.cls → vx_W p l e R s m args below meth c H1 locs1 (cells + mc) (slots + ms) Q (F0 m pc ls rest) q9)
    (kk : ∀ (r : UInt64) (u : S) (t : State) (H1 : Heap) (locs1 : List Loc), t.heap = H1 → s.vm.Alike t.vm → post r u → B u t → H.size ≤ H1.size → (∀ q : Nat, q < H.size → ¬ A1 q → H1[q]? = H[q]?) → va_S A0 H0 H1 locs1 → W p l e R s m args below meth c H1 locs1 (cells + mc) (slots + ms) Q (F0 m (pc + 3) ls (.double r :: rest))) : W p l e R s m args below meth c H locs cells slots Q (F0 m pc ls st0) := by
  intro T hT X
  rcases hr T hT X with ⟨v, st₀, t, T', L, h0, X', hL, e1, e2, ⟨⟨r, u, hv, hp, hb⟩, hF⟩, st⟩ | ⟨q, st₀, t, T', L, E, ce, h0, X', hL, e1, e2, ⟨u, hp, hb, hF⟩, hce, hcv, hcl, st⟩
  · cases hv
    obtain ⟨k1, k2, k3⟩ := vx_keep h0 e1 hS hA hf hL hF
    obtain ⟨t2, a1, b1⟩ := kk r u t T'.heap (locs ++ L) e1.symm (by rw [← e2]; exact X'.warmed.alike) hp hb k1 k2 k3 T' rfl X'
    exact ⟨t2, st t2 a1, b1⟩
  · obtain ⟨k1, k2, k3⟩ := vx_keep h0 e1 hS hAX hf hL hF
    obtain ⟨t2, a1, b1⟩ := kx E ce q u t T'.heap (locs ++ L) e1.symm (by rw [← e2]; exact X'.warmed.alike) hp hb k1 k2 k3 (by rw [e1]; exact hce) hcv hcl T' rfl X'
    exact ⟨t2, st.trans a1, b1⟩
theorem vx_callv {S SX : Type} {post : S → Prop} {px : SX → Prop} {B : S → State → Prop} {BX : String → SX → State → Prop} {AX : Nat → Prop} (hr : vx_Run p l e R s m args below meth c H locs cells slots mc ms (F0 m pc ls st0) rest (va_Qv post B A1 a) (vx_X px BX AX) free) (hS : va_S A0 H0 H locs) (hA : ∀ q, q < H.size → A1 q → A0 q) (hf : ∀ q, free q → A0 q) (hAX : ∀ q, q < H.size → AX q → A0 q)
    (kx : ∀ (E : String) (ce : Cell) (q9 : Addr) (u : SX) (t : State) (H1 : Heap) (locs1 : List Loc), t.heap = H1 → s.vm.Alike t.vm → px u → BX E u t → H.size ≤ H1.size → (∀ q : Nat, q < H.size → ¬ AX q → H1[q]? = H[q]?) → va_S A0 H0 H1 locs1 → H1[q9]? = some ce → ce.vm = .none → s.vm.findClass E = some ce.cls → vx_W p l e R s m args below meth c H1 locs1 (cells + mc) (slots + ms) Q (F0 m pc ls rest) q9)
    (kk : ∀ (u : S) (t : State) (H1 : Heap) (locs1 : List Loc), t.heap = H1 → s.vm.Alike t.vm → post u → B u t → H.size ≤ H1.size → (∀ q : Nat, q < H.size → ¬ A1 q → H1[q]? = H[q]?) → va_S A0 H0 H1 locs1 → W p l e R s m args below meth c H1 locs1 (cells + mc) (slots + ms) Q (F0 m (pc + 3) ls (rest))) : W p l e R s m args below meth c H locs cells slots Q (F0 m pc ls st0) := by
  intro T hT X
  rcases hr T hT X with ⟨v, st₀, t, T', L, h0, X', hL, e1, e2, ⟨⟨u, hv, hp, hb⟩, hF⟩, st⟩ | ⟨q, st₀, t, T', L, E, ce, h0, X', hL, e1, e2, ⟨u, hp, hb, hF⟩, hce, hcv, hcl, st⟩
  · cases hv
    obtain ⟨k1, k2, k3⟩ := vx_keep h0 e1 hS hA hf hL hF
    obtain ⟨t2, a1, b1⟩ := kk u t T'.heap (locs ++ L) e1.symm (by rw [← e2]; exact X'.warmed.alike) hp hb k1 k2 k3 T' rfl X'
    exact ⟨t2, st t2 a1, b1⟩
  · obtain ⟨k1, k2, k3⟩ := vx_keep h0 e1 hS hAX hf hL hF
    obtain ⟨t2, a1, b1⟩ := kx E ce q u t T'.heap (locs ++ L) e1.symm (by rw [← e2]; exact X'.warmed.alike) hp hb k1 k2 k3 (by rw [e1]; exact hce) hcv hcl T' rfl X'
    exact ⟨t2, st.trans a1, b1⟩
/-- caught by the row x of this method's table; the rows ahead don't take it -/
theorem vx_catch {own name : String} {E : String} {ce : Cell} {q : Addr} (hown : s.vm.findClass own = some m.cls) (pre : List ExceptionTableEntry) (x : ExceptionTableEntry) (suf : List ExceptionTableEntry) (hsplit : c.exceptionTable.toList = pre ++ x :: suf)
    (hpass : ∀ z ∈ pre, covers z pc = false ∨ (z.catchType ≠ 0 ∧ ∃ nm : String, (Cond.classLink own z.catchType nm).before args s = true ∧ va_Nc E nm s)) (hx : covers x pc = true) (h0 : x.catchType ≠ 0)
    (hlink : (Cond.classLink own x.catchType name).before args s = true) (hcast : (Cond.castable E name).before args s = true) (hcell : H[q]? = some ce) (hv : ce.vm = .none) (hcl : s.vm.findClass E = some ce.cls)
    (kk : W p l e R s m args below meth c H locs cells slots Q (F0 m x.handlerPc ls [.ref q])) : vx_W p l e R s m args below meth c H locs cells slots Q (F0 m pc ls rest) q := by
  intro T hT X
  have hpl : e.platform.magicAccessors = ({} : Platform).magicAccessors := by rw [X.admits.platform]
  obtain ⟨c3, c4, hc3, hc4, hasg⟩ := Cond.castable_spec hcast
  cases Option.some.inj (hc3.symm.trans hcl)
  obtain ⟨c5, hc5, hcl5⟩ := Cond.classLink_spec hown hlink e.platform hpl
  cases Option.some.inj (hc4.symm.trans hc5)
  obtain ⟨vm', X', st⟩ := X.thenCaughtThrough q (g := F0 m pc ls rest) rfl (Steps.refl _) (by rw [hT]; exact hcell) (by rw [hv]; rfl) (by obtain ⟨k9, h9, -⟩ := Vm.findClass_spec hcl; exact ⟨k9, h9⟩) pre x suf hsplit
    (fun z hz => by
      rcases hpass z hz with h | ⟨hz0, nm, hl1, hn1⟩
      · exact Or.inl h
      · obtain ⟨c6, hc6, hcl6⟩ := Cond.classLink_spec hown hl1 e.platform hpl
        obtain ⟨a8, b8, h1, h2, h3⟩ := hn1
        cases Option.some.inj (h1.symm.trans hcl)
        cases Option.some.inj (h2.symm.trans hc6)
        exact Or.inr ⟨hz0, _, hcl6, h3⟩) hx (Or.inr ⟨h0, c4, hcl5, hasg⟩)
  obtain ⟨t, a1, b1⟩ := kk (T.setVm vm') hT X'
  exact ⟨t, st.trans a1, b1⟩
end Rows
section Ends
variable {p : Program} {l : Launch} {e : Env} {R : Room} {s : State} {m : MethodId} {args : Array Value} {below : List Frame} {meth : Method} {c : Code} {H : Heap} {locs : List Loc} {cells slots : Nat} {Q : State → Prop}
variable {mc ms : Nat} {free : Addr → Prop} {A0 A1 : Nat → Prop} {H0 : Heap} {a : Array Value} {ls : Array Slot} {st0 rest : List Value}
variable {Qc : Array Value → State → Outcome → State → Prop} {XC : String → State → State → Prop}
/-- what a body that may throw owes at its end -/
def vx_MQ (below : List Frame) (Qc : Array Value → State → Outcome → State → Prop) (XC : String → State → State → Prop) (a : Array Value) (s : State) (mc ms : Nat) (free : Addr → Prop) : State → Prop := fun t =>
  ∃ o, t.status = .running ∧ Ended t below o ∧ vx_Q Qc XC mc ms free a s o t
theorem vx_ret {g : JFrame} {mc ms : Nat} (k : W p l e R s m args below meth c H locs cells slots (MQ below Qc args s mc ms free) g) : W p l e R s m args below meth c H locs cells slots (vx_MQ below Qc XC args s mc ms free) g := by
  intro T hT X
  obtain ⟨t, a1, o, b1, b2, b3, b4⟩ := k T hT X
  exact ⟨t, a1, o, b1, b2, Or.inl ⟨b3, b4⟩⟩
/-- not caught here: it goes on to the caller -/
theorem vx_widen {g : JFrame} {q : Addr} {k n : Nat} (h1 : cells ≤ k) (h2 : slots ≤ n) (kk : vx_W p l e R s m args below meth c H locs k n Q g q) : vx_W p l e R s m args below meth c H locs cells slots Q g q := fun T hT X => kk T hT (stand_widen X h1 h2)
theorem vx_out {pc : Nat} {E : String} {ce : Cell} {q : Addr} {mc ms : Nat} (hout : ∀ x ∈ c.exceptionTable.toList, covers x pc = false) (hlocks : meth.locks = false) (hcell : H[q]? = some ce) (hv : ce.vm = .none) (hcl : s.vm.findClass E = some ce.cls)
    (hx : ∀ t : State, t.heap = H → s.vm.Alike t.vm → XC E s t) (hf : ∀ z ∈ locs, free z.base) (hc : cells ≤ mc) (hs : slots ≤ ms) :
    vx_W p l e R s m args below meth c H locs cells slots (vx_MQ below Qc XC args s mc ms free) (F0 m pc ls rest) q := by
  intro T hT X
  obtain ⟨st1, hrun, hend, hW, hsm⟩ := X.leaveThrown q (g := F0 m pc ls rest) rfl rfl rfl hout hlocks
  have hcell9 : (T.setFrames (.throwing q :: below)).heap[q]? = some ce := by
    show T.heap[q]? = some ce
    rw [hT]; exact hcell
  exact ⟨_, st1, .threw q, hrun, hend, Or.inr ⟨q, rfl, E, ce, locs, hx _ hT hW.alike, hcell9, hv, hcl, hW, hsm.mono hc hs, hf⟩⟩
theorem vx_frame {U : State} {k n : Nat} (h : s.sameButNew ({ U with vm := s.vm } : State) locs k n) : s.heap.size ≤ U.heap.size ∧ ∀ q : Nat, q < s.heap.size → (∀ z ∈ locs, z.base ≠ q) → U.heap[q]? = s.heap[q]? := by
  obtain ⟨-, h2, -, -, -, h6⟩ := h
  refine ⟨h2, fun q hq hz => ?_⟩
  obtain ⟨c9, e1, e2, e3, e4⟩ := h6 q _ (Array.getElem?_eq_getElem hq)
  have hs : c9.slots = (s.heap[q]).slots := Array.ext_getElem? fun i => e4 i fun hm => hz _ hm rfl
  have h9 : c9 = s.heap[q] := by
    rw [hs] at e2
    exact e2
  have e5 : U.heap[q]? = some c9 := e1
  rw [e5, h9, Array.getElem?_eq_getElem hq]
/-- the words of a throw but the four that speak of the heap -/
def vx_no (w : Cond) : Bool := decide (w ≠ .isRef (.static Bundle.tN "UNASSIGNED_STACK" Bundle.steD)) && decide (w ≠ .isRef (.static Bundle.tN "SUPPRESSED_SENTINEL" Bundle.listD)) && decide (w ≠ .laysStatic Bundle.tN "UNASSIGNED_STACK" Bundle.steD) && decide (w ≠ .laysStatic Bundle.tN "SUPPRESSED_SENTINEL" Bundle.listD)
def vx_at0 (own : String) (ic : Nat) (X : String) (names : List String) : List Cond := (Bundle.ownAtoms0 own ic X names).filter vx_no
def vx_atS (own : String) (ic : Nat) (X : String) (names : List String) : List Cond := (Bundle.ownAtoms own ic X names).filter vx_no
/-- a word that the tables alone decide, or a good one -/
def vx_ot (w : Cond) : Bool := w.onTables || goodWord w
theorem vx_ot_at {args a' : Array Value} {s U : State} {w : Cond} (hW : s.WarmedH U.vm) (hvm : s.vm = U.vm) (hg : vx_ot w = true) (h : w.before args s = true) : w.before a' U = true := by
  simp only [vx_ot, Bool.or_eq_true] at hg
  rcases hg with hg | hg
  · exact va_tabs hg hvm h
  · exact word_at hW (good_of_word hg) h
/-- a list's words: the good ones out of the method's own list, the others by premises of their own -/
theorem vx_hat {args : Array Value} {s : State} {L B : List Cond} (h1 : ∀ w ∈ L.filter goodWord, w.before args s = true) (h2 : ∀ w ∈ L.filter (fun w => !goodWord w), w ∈ B) (h3 : ∀ w ∈ B, w.before args s = true) : ∀ w ∈ L, w.before args s = true := by
  intro w hw
  by_cases g : goodWord w = true
  · exact h1 w (List.mem_filter.mpr ⟨hw, g⟩)
  · refine h3 w (h2 w (List.mem_filter.mpr ⟨hw, ?_⟩))
    show (!goodWord w) = true
    cases hgw : goodWord w
    · rfl
    · exact absurd hgw g
theorem vx_c {args : Array Value} {s : State} {w : Cond} {B : List Cond} (h : w.before args s = true) (t : ∀ w ∈ B, w.before args s = true) : ∀ w' ∈ w :: B, w'.before args s = true := fun w' h' => (List.mem_cons.mp h').elim (fun e => by rw [e]; exact h) (t w')
theorem vx_n {args : Array Value} {s : State} : ∀ w ∈ ([] : List Cond), w.before args s = true := fun _ h => nomatch h
theorem vx_own {args : Array Value} {s : State} {L : List Cond} (h1 : ∀ w ∈ L.filter vx_no, w.before args s = true)
    (hU : (Cond.isRef (.static Bundle.tN "UNASSIGNED_STACK" Bundle.steD)).before args s = true) (hN : (Cond.isRef (.static Bundle.tN "SUPPRESSED_SENTINEL" Bundle.listD)).before args s = true)
    (lU : (Cond.laysStatic Bundle.tN "UNASSIGNED_STACK" Bundle.steD).before args s = true) (lN : (Cond.laysStatic Bundle.tN "SUPPRESSED_SENTINEL" Bundle.listD).before args s = true) : ∀ w ∈ L, w.before args s = true := by
  intro w hw
  by_cases e1 : w = .isRef (.static Bundle.tN "UNASSIGNED_STACK" Bundle.steD)
  · rw [e1]; exact hU
  · by_cases e2 : w = .isRef (.static Bundle.tN "SUPPRESSED_SENTINEL" Bundle.listD)
    · rw [e2]; exact hN
    · by_cases e3 : w = .laysStatic Bundle.tN "UNASSIGNED_STACK" Bundle.steD
      · rw [e3]; exact lU
      · by_cases e4 : w = .laysStatic Bundle.tN "SUPPRESSED_SENTINEL" Bundle.listD
        · rw [e4]; exact lN
        · exact h1 w (List.mem_filter.mpr ⟨hw, by unfold vx_no; rw [decide_eq_true e1, decide_eq_true e2, decide_eq_true e3, decide_eq_true e4]; rfl⟩)
/-- where a static field lies, its class's statics cell in H -/
def vx_L (C n d : String) (A : Nat → Prop) (U : State) (H : Heap) : Prop := ∃ (c : ClassId) (k : Class) (i : Nat) (f : Field) (a : Nat) (cell : Cell), U.vm.findClass C = some c ∧ U.fieldFound? C n d = some (c, k, i, f) ∧ f.isStatic = true ∧ k.statics = some a ∧ H[a]? = some cell ∧ cell.vm.isStatics = true ∧ cell.cls = c ∧ f.slot < cell.slots.size ∧ k.staticTypes[f.slot]? = some f.type ∧ ¬ A a
theorem vx_L.moved {C n d : String} {A : Nat → Prop} {u U : State} {H : Heap} (hvm : u.vm.Alike U.vm) (h : vx_L C n d A u H) : vx_L C n d A U H := by
  obtain ⟨c, k, i, f, a, cell, h1, h2, h3, h4, h5, h6, h7, h8, h9, h10⟩ := h
  obtain ⟨k', hi', he⟩ := State.fieldFound?_setVm hvm h2
  exact ⟨c, k', i, f, a, cell, by rw [hvm.findClass]; exact h1, hi', h3, by rw [he]; exact h4, h5, h6, h7, h8, by rw [he]; exact h9, h10⟩
theorem vx_L.kept {C n d : String} {A : Nat → Prop} {U : State} {H H1 : Heap} (h : vx_L C n d A U H) (hq : ∀ a : Nat, a < H.size → ¬ A a → H1[a]? = H[a]?) : vx_L C n d A U H1 := by
  obtain ⟨c, k, i, f, a, cell, h1, h2, h3, h4, h5, h6, h7, h8, h9, h10⟩ := h
  exact ⟨c, k, i, f, a, cell, h1, h2, h3, h4, by rw [hq a (Array.getElem?_eq_some_iff.mp h5).1 h10]; exact h5, h6, h7, h8, h9, h10⟩
theorem vx_L.narrow {C n d : String} {A B : Nat → Prop} {U : State} {H : Heap} (h : vx_L C n d A U H) (hAB : ∀ q, B q → A q) : vx_L C n d B U H := by
  obtain ⟨c, k, i, f, a, cell, h1, h2, h3, h4, h5, h6, h7, h8, h9, h10⟩ := h
  exact ⟨c, k, i, f, a, cell, h1, h2, h3, h4, h5, h6, h7, h8, h9, fun z => h10 (hAB _ z)⟩
theorem vx_L.word {C n d : String} {A : Nat → Prop} {s : State} {args : Array Value} (h : vx_L C n d A s s.heap) : (Cond.laysStatic C n d).before args s = true := by
  obtain ⟨c, k, i, f, a, cell, h1, h2, h3, h4, h5, h6, h7, h8, h9, -⟩ := h
  show (Cond.laysStatic C n d).holds args s none s [] = true
  exact Cond.laysStatic_of h1 h2 h3 h4 h5 h6 h7 h8 h9
/-- .. and what it holds: null or some reference -/
def vx_Zq (C n d : String) (A : Nat → Prop) (U : State) (H : Heap) : Prop := va_Zq C n d A U H ∧ vx_L C n d A U H
theorem vx_Zq.moved {C n d : String} {A : Nat → Prop} {u U : State} {H : Heap} (hvm : u.vm.Alike U.vm) (h : vx_Zq C n d A u H) : vx_Zq C n d A U H := ⟨va_Zq.moved hvm h.1, vx_L.moved hvm h.2⟩
theorem vx_Zq.kept {C n d : String} {A : Nat → Prop} {U : State} {H H1 : Heap} (h : vx_Zq C n d A U H) (hq : ∀ a : Nat, a < H.size → ¬ A a → H1[a]? = H[a]?) : vx_Zq C n d A U H1 := ⟨va_Zq.kept h.1 hq, vx_L.kept h.2 hq⟩
theorem vx_Zq.narrow {C n d : String} {A B : Nat → Prop} {U : State} {H : Heap} (h : vx_Zq C n d A U H) (hAB : ∀ q, B q → A q) : vx_Zq C n d B U H := ⟨va_Zq.narrow h.1 hAB, vx_L.narrow h.2 hAB⟩
theorem vx_Zqof {args : Array Value} {s : State} {C n d : String} {A : Nat → Prop} (hl : (Cond.laysStatic C n d).before args s = true) (hini : (Cond.initialized C).before args s = true) (h : (Cond.isRef (.static C n d)).before args s = true) (hA : ∀ a : Nat, a < s.heap.size → ¬ A a) : vx_Zq C n d A s s.heap := by
  refine ⟨va_Zqof hl hini h hA, ?_⟩
  obtain ⟨c, k, i, f, a, cell, h1, h2, h3, h4, h5, h6, h7, h8, h9⟩ := Cond.laysStatic_spec hl
  exact ⟨c, k, i, f, a, cell, h1, h2, h3, h4, h5, h6, h7, h8, h9, hA a (Array.getElem?_eq_some_iff.mp h5).1⟩
theorem vx_isRef {C n d : String} {v : Value} {A : Nat → Prop} {s : State} {args : Array Value} (h : va_Z C n d v A s s.heap) (hv : v.isRef = true) : (Cond.isRef (.static C n d)).before args s = true := by
  obtain ⟨cf, kf, fi, f, a, cell, h1, h2, h3, h4, h5, h6, h7, -⟩ := h
  have he : (Term.static C n d).eval args s none [] s = some v := by
    simp [Term.eval, State.fieldNamed?, h1, h2, h4, h5, h6, h7]
  simp only [Cond.before, Cond.holds, Cond.value, he]
  cases v <;> simp_all [Value.isRef]
theorem vx_isRefq {C n d : String} {A : Nat → Prop} {s : State} {args : Array Value} (h : va_Zq C n d A s s.heap) : (Cond.isRef (.static C n d)).before args s = true := by
  rcases h with h | ⟨t, h⟩
  · exact vx_isRef h rfl
  · exact vx_isRef h rfl
/-- the same frame, seen from here: as if the method were called anew in this heap -/
theorem vx_rebase {T : State} (X : Stand p l e R s m args below meth c T locs cells slots) {R' : Room} (hf : R'.frames ≤ R.frames) (hl : R'.locals ≤ R.locals) (hc : cells + R'.cells ≤ R.cells) (hs : slots + R'.slots ≤ R.slots) :
    Stand p l e R' ((T.setVm s.vm).setFrames (.invoking m args :: below)) m args below meth c T [] 0 0 := by
  have htop : (T.setVm s.vm).topJava?.isSome := X.here.top
  have hF : ((T.setVm s.vm).setFrames (.invoking m args :: below)).frames = .invoking m args :: below := State.frames_setFrames _ (State.cur_lt_of_top htop)
  obtain ⟨g₀, hg0⟩ := Option.isSome_iff_exists.mp htop
  obtain ⟨r, hr⟩ := State.topJava?_eq_some.mp hg0
  have hl9 : e.platform.stackLimits (T.setVm s.vm).me = e.platform.stackLimits s.me := X.limits
  have hb9 : (T.setVm s.vm).me.stackBytes = s.me.stackBytes := X.bytes
  refine ⟨X.admits, X.cas, X.clock, hF, ?_, X.hears, X.method, X.code, X.here, X.tail, X.warmed, ?_, ?_, ?_⟩
  · have h := X.room
    have hU : ((T.setVm s.vm).setFrames (.invoking m args :: below)).localsInUse = s.localsInUse := by
      rw [State.localsInUse_invoking hF (meth := meth) (c := c) X.method X.code, State.localsInUse_invoking X.frames X.method X.code]
    simp only [State.hasRoom, Bool.and_eq_true, decide_eq_true_eq] at h ⊢
    obtain ⟨⟨⟨⟨h1, h2, h3, h4, h5, h6⟩, h7⟩, h8⟩, h9⟩ := h
    rw [X.frames, List.length_cons] at h2 h3
    have q1 := X.heapSize
    have q2 := X.used
    simp only [hF, hU, List.length_cons, State.stackLimits_setFrames, State.stackBytes_setFrames, hl9, hb9]
    refine ⟨⟨⟨⟨by omega, by omega, by omega, by omega, by omega, h6⟩, ?_⟩, ?_⟩, X.book⟩
    · show T.heap.size + R'.cells ≤ e.platform.maxCells
      omega
    · show T.slotsUsed + R'.slots ≤ e.platform.maxSlots
      omega
  · rw [State.stackLimits_setFrames]; rfl
  · rw [State.stackBytes_setFrames]; rfl
  · refine ⟨?_, Nat.le_refl _, Nat.le_refl _, ?_, ?_, fun a c9 h9 => ⟨c9, h9, rfl, rfl, fun _ _ => rfl⟩⟩
    · obtain ⟨t, ht, -⟩ := State.frames_cons hr
      show T.setVm s.vm = { ((T.setVm s.vm).setFrames (.invoking m args :: below)).setFrames (T.setVm s.vm).frames with heap := T.heap, slotsUsed := T.slotsUsed }
      rw [State.setFrames_setFrames, State.setFrames_self ht]
      rfl
    · show T.slotsUsed = T.slotsUsed + ((T.heap.toList.drop T.heap.size).map (·.slots.size)).sum
      rw [List.drop_eq_nil_of_le (Nat.le_of_eq Array.length_toList)]
      rfl
    · show ((T.heap.toList.drop T.heap.size).map (·.slots.size)).sum ≤ 0
      rw [List.drop_eq_nil_of_le (Nat.le_of_eq Array.length_toList)]
      exact Nat.le_refl _
/-- 'throw new E()': new; dup; invokespecial; athrow -/
theorem vx_throw0 {cc : ByteArray} {pc : Nat} (hexec : p.tables.exec = Jvm.exec) (hb : c.code = cc) (hl : l.stackTraces = false) {own cls : String} {names : List String} {ik ic mc ms : Nat} {A : Nat → Prop}
    (hown : s.vm.findClass own = some m.cls) (hcls : Bundle.fit cls = true) (hnames : ∀ n ∈ names, Bundle.fit n = true)
    (hk : (Cond.classLink own ik cls).before args s = true) (hini : (Cond.initialized cls).before args s = true) (hat : ∀ w ∈ vx_at0 own ic cls names, w.before args s = true)
    (hgood : ∀ w ∈ Cond.classLink own ik cls :: Cond.initialized cls :: vx_at0 own ic cls names, vx_ot w = true)
    (hU : vx_Zq Bundle.tN "UNASSIGNED_STACK" Bundle.steD A s s.heap) (hN : vx_Zq Bundle.tN "SUPPRESSED_SENTINEL" Bundle.listD A s s.heap) (hS : va_S A s.heap H locs) (hsize : ls.size = c.maxLocals)
    (d0 : decode cc pc = .ok (.new ik, 3)) (d3 : decode cc (pc + 3) = .ok (.dup, 1)) (d4 : decode cc (pc + 4) = .ok (.invokespecial ic, 3)) (d7 : decode cc (pc + 7) = .ok (.athrow, 1))
    (hout : ∀ x ∈ c.exceptionTable.toList, covers x (pc + 7) = false)
    (hRframes : names.length + 3 < R.frames) (hRlocals : (rest.map fun v => v.category).sum + (13 * (names.length + 1) + 42) ≤ R.locals) (hRcells : cells + 1 ≤ R.cells) (hRslots : slots + 6 ≤ R.slots) (hlocks : meth.locks = false)
    (hx : ∀ t : State, s.vm.Alike t.vm → H.size ≤ t.heap.size → (∀ q : Nat, q < H.size → t.heap[q]? = H[q]?) → XC cls s t)
    (hf : ∀ z ∈ locs, free z.base) (hc : cells + 1 ≤ mc) (hs : slots + 6 ≤ ms) :
    W p l e R s m args below meth c H locs cells slots (vx_MQ below Qc XC args s mc ms free) (F0 m pc ls rest) := by
  intro T hT X
  have htr : e.platform.stackTraces = false := (show e.platform.stackTraces = l.stackTraces by rw [X.admits.platform]).trans hl
  have Y := vx_rebase X (R' := { frames := R.frames, locals := R.locals, cells := 1, slots := 6 }) (Nat.le_refl _) (Nat.le_refl _) hRcells hRslots
  obtain ⟨s', hA⟩ : ∃ z, z = (T.setVm s.vm).setFrames (.invoking m args :: below) := ⟨_, rfl⟩
  rw [← hA] at Y
  have hvm : s'.vm = s.vm := by rw [hA]; rfl
  have hhp : s'.heap = H := by rw [hA]; exact hT
  have hW0 : s.WarmedH s'.vm := by rw [hvm]; exact State.WarmedH.refl s
  have hat' : ∀ w ∈ vx_at0 own ic cls names, w.before args s' = true := fun w hw => vx_ot_at hW0 hvm.symm (hgood w (List.mem_cons_of_mem _ (List.mem_cons_of_mem _ hw))) (hat w hw)
  have hk' : (Cond.classLink own ik cls).before args s' = true := vx_ot_at hW0 hvm.symm (hgood _ List.mem_cons_self) hk
  have hini' : (Cond.initialized cls).before args s' = true := vx_ot_at hW0 hvm.symm (hgood _ (List.mem_cons_of_mem _ List.mem_cons_self)) hini
  have hU' : vx_Zq Bundle.tN "UNASSIGNED_STACK" Bundle.steD A s' s'.heap := by rw [hhp]; exact vx_Zq.moved hW0.alike (hU.kept hS.2.1)
  have hN' : vx_Zq Bundle.tN "SUPPRESSED_SENTINEL" Bundle.listD A s' s'.heap := by rw [hhp]; exact vx_Zq.moved hW0.alike (hN.kept hS.2.1)
  have h : ∀ w ∈ Bundle.ownAtoms0 own ic cls names, w.before args s' = true := vx_own hat' (vx_isRefq hU'.1) (vx_isRefq hN'.1) hU'.2.word hN'.2.word
  have hown' : s'.vm.findClass own = some m.cls := by rw [hvm]; exact hown
  have hins : (Cond.instantiable cls 6).before args s' = true := h _ (by simp [Bundle.ownAtoms0])
  obtain ⟨vm₁, cX, kX, hfX, hkX, -, -, X₁, st1⟩ := Y.newCold hexec (own := own) (C := cls) (index := ik) (n := 6) hown' hk' hins hini'
    (g := F0 m pc ls rest) rfl (by rw [hb]; exact d0) (Nat.le_refl _) (Nat.le_refl _)
  generalize hT1 : (T.setVm vm₁).pushCell { cls := cX, slots := kX.instanceTypes.map defaultValue, vm := .none } = T1 at X₁ st1
  have hcat : (Value.ref T.heap.size).category = 1 := rfl
  have hcellA : T1.heap[T.heap.size]? = some (freshCell cX kX) := by rw [← hT1]; exact State.heap_pushCell_size _ _
  have d3' : decode c.code (pc + 3) = .ok (.dup, 1) := by rw [hb]; exact d3
  obtain ⟨U, hsteps, hrun, hend, hW, hsame, ce, hce, hO⟩ := X₁.ctorThrow0 hexec htr (own := own) (cls := cls) (names := names) (ic := ic) hown' hcls hnames h (fun x hx => nomatch hx) hfX hkX hcellA (by rw [hhp, hT]; exact Nat.le_refl _)
    (g := { method := m, pc := pc + 4, locals := ls, stack := .ref T.heap.size :: .ref T.heap.size :: rest, locked := none }) rfl hsize rfl rfl (rest := rest) rfl
    (by rw [hb]; exact d4) (by rw [hb]; exact d7) hout hRframes (by simp only [List.map_cons, List.sum_cons, hcat]; omega) hlocks
  obtain ⟨f1, f2⟩ := vx_frame hsame
  rw [hhp] at f1 f2
  have hWs : s.WarmedH U.vm := State.WarmedH.trans hW0 hW
  have hcl : s.vm.findClass cls = some ce.cls := by
    have h9 := hO.cls
    rw [hvm] at h9
    exact h9
  have hall : s.sameButNew ({ U with vm := s.vm } : State) locs mc ms := by
    subst hA
    obtain ⟨e1, e2⟩ := hsame
    rw [State.setFrames_setFrames] at e1
    have h2 : (T.setVm s.vm).sameButNew ({ U with vm := s.vm } : State) [] (0 + 1) (0 + 6) := ⟨e1, e2⟩
    have h3 := X.same.trans h2
    rw [List.append_nil] at h3
    exact h3.mono hc hs
  refine ⟨U, ?_, .threw T.heap.size, hrun, hend, Or.inr ⟨T.heap.size, rfl, cls, ce, locs, hx U hWs.alike f1 (fun q hq => f2 q hq (fun z hz => nomatch hz)), hce, hO.vm, hcl, hWs, hall, hf⟩⟩
  refine st1 _ ?_
  show Steps p.tables e below (T1.setTop { method := m, pc := pc + 3, locals := ls, stack := .ref T.heap.size :: rest, locked := none }) _
  jvm_step X₁.here [X₁.here.top, hexec, d3', Value.category]
  exact hsteps
/-- 'throw new E("text")': new; dup; ldc; invokespecial; athrow -/
theorem vx_throwS {cc : ByteArray} {pc : Nat} (hexec : p.tables.exec = Jvm.exec) (hb : c.code = cc) (hl : l.stackTraces = false) {own cls text : String} {names : List String} {ik is ic mc ms sa : Nat} {A : Nat → Prop}
    (hown : s.vm.findClass own = some m.cls) (hcls : Bundle.fit cls = true) (hnames : ∀ n ∈ names, Bundle.fit n = true)
    (hk : (Cond.classLink own ik cls).before args s = true) (hini : (Cond.initialized cls).before args s = true) (hstr : vk_R own is text sa s) (hat : ∀ w ∈ vx_atS own ic cls names, w.before args s = true)
    (hgood : ∀ w ∈ Cond.classLink own ik cls :: Cond.initialized cls :: vx_atS own ic cls names, vx_ot w = true)
    (hU : vx_Zq Bundle.tN "UNASSIGNED_STACK" Bundle.steD A s s.heap) (hN : vx_Zq Bundle.tN "SUPPRESSED_SENTINEL" Bundle.listD A s s.heap) (hS : va_S A s.heap H locs) (hsize : ls.size = c.maxLocals)
    (d0 : decode cc pc = .ok (.new ik, 3)) (d3 : decode cc (pc + 3) = .ok (.dup, 1)) (d4 : decode cc (pc + 4) = .ok (.ldc is, 2)) (d6 : decode cc (pc + 6) = .ok (.invokespecial ic, 3)) (d9 : decode cc (pc + 9) = .ok (.athrow, 1))
    (hout : ∀ x ∈ c.exceptionTable.toList, covers x (pc + 9) = false)
    (hRframes : names.length + 3 < R.frames) (hRlocals : (rest.map fun v => v.category).sum + (13 * (names.length + 1) + 43) ≤ R.locals) (hRcells : cells + 1 ≤ R.cells) (hRslots : slots + 6 ≤ R.slots) (hlocks : meth.locks = false)
    (hx : ∀ t : State, s.vm.Alike t.vm → H.size ≤ t.heap.size → (∀ q : Nat, q < H.size → t.heap[q]? = H[q]?) → XC cls s t)
    (hf : ∀ z ∈ locs, free z.base) (hc : cells + 1 ≤ mc) (hs : slots + 6 ≤ ms) :
    W p l e R s m args below meth c H locs cells slots (vx_MQ below Qc XC args s mc ms free) (F0 m pc ls rest) := by
  intro T hT X
  have htr : e.platform.stackTraces = false := (show e.platform.stackTraces = l.stackTraces by rw [X.admits.platform]).trans hl
  have Y := vx_rebase X (R' := { frames := R.frames, locals := R.locals, cells := 1, slots := 6 }) (Nat.le_refl _) (Nat.le_refl _) hRcells hRslots
  obtain ⟨s', hA⟩ : ∃ z, z = (T.setVm s.vm).setFrames (.invoking m args :: below) := ⟨_, rfl⟩
  rw [← hA] at Y
  have hvm : s'.vm = s.vm := by rw [hA]; rfl
  have hhp : s'.heap = H := by rw [hA]; exact hT
  have hW0 : s.WarmedH s'.vm := by rw [hvm]; exact State.WarmedH.refl s
  have hat' : ∀ w ∈ vx_atS own ic cls names, w.before args s' = true := fun w hw => vx_ot_at hW0 hvm.symm (hgood w (List.mem_cons_of_mem _ (List.mem_cons_of_mem _ hw))) (hat w hw)
  have hk' : (Cond.classLink own ik cls).before args s' = true := vx_ot_at hW0 hvm.symm (hgood _ List.mem_cons_self) hk
  have hini' : (Cond.initialized cls).before args s' = true := vx_ot_at hW0 hvm.symm (hgood _ (List.mem_cons_of_mem _ List.mem_cons_self)) hini
  have hU' : vx_Zq Bundle.tN "UNASSIGNED_STACK" Bundle.steD A s' s'.heap := by rw [hhp]; exact vx_Zq.moved hW0.alike (hU.kept hS.2.1)
  have hN' : vx_Zq Bundle.tN "SUPPRESSED_SENTINEL" Bundle.listD A s' s'.heap := by rw [hhp]; exact vx_Zq.moved hW0.alike (hN.kept hS.2.1)
  have h : ∀ w ∈ Bundle.ownAtoms own ic cls names, w.before args s' = true := vx_own hat' (vx_isRefq hU'.1) (vx_isRefq hN'.1) hU'.2.word hN'.2.word
  have hown' : s'.vm.findClass own = some m.cls := by rw [hvm]; exact hown
  have hins : (Cond.instantiable cls 6).before args s' = true := h _ (by simp [Bundle.ownAtoms])
  obtain ⟨vm₁, cX, kX, hfX, hkX, -, -, X₁, st1⟩ := Y.newCold hexec (own := own) (C := cls) (index := ik) (n := 6) hown' hk' hins hini'
    (g := F0 m pc ls rest) rfl (by rw [hb]; exact d0) (Nat.le_refl _) (Nat.le_refl _)
  generalize hT1 : (T.setVm vm₁).pushCell { cls := cX, slots := kX.instanceTypes.map defaultValue, vm := .none } = T1 at X₁ st1
  have hcat : (Value.ref T.heap.size).category = 1 := rfl
  have hcellA : T1.heap[T.heap.size]? = some (freshCell cX kX) := by rw [← hT1]; exact State.heap_pushCell_size _ _
  have d3' : decode c.code (pc + 3) = .ok (.dup, 1) := by rw [hb]; exact d3
  have d4' : decode c.code (pc + 4) = .ok (.ldc is, 2) := by rw [hb]; exact d4
  have hstr' : vk_R own is text sa s' := vk_R.warm hW0 hstr
  obtain ⟨U, hsteps, hrun, hend, hW, hsame, ce, hce, hO⟩ := X₁.ctorThrowS hexec htr (own := own) (cls := cls) (names := names) (ic := ic) hown' hcls hnames h (fun x hx => nomatch hx) hfX hkX hcellA (by rw [hhp, hT]; exact Nat.le_refl _) (msg := .ref sa) rfl
    (g := { method := m, pc := pc + 6, locals := ls, stack := .ref sa :: .ref T.heap.size :: .ref T.heap.size :: rest, locked := none }) rfl hsize rfl rfl (rest := rest) rfl
    (by rw [hb]; exact d6) (by rw [hb]; exact d9) hout hRframes (by simp only [List.map_cons, List.sum_cons, hcat]; omega) hlocks
  obtain ⟨f1, f2⟩ := vx_frame hsame
  rw [hhp] at f1 f2
  have hWs : s.WarmedH U.vm := State.WarmedH.trans hW0 hW
  have hcl : s.vm.findClass cls = some ce.cls := by
    have h9 := hO.cls
    rw [hvm] at h9
    exact h9
  have hall : s.sameButNew ({ U with vm := s.vm } : State) locs mc ms := by
    subst hA
    obtain ⟨e1, e2⟩ := hsame
    rw [State.setFrames_setFrames] at e1
    have h2 : (T.setVm s.vm).sameButNew ({ U with vm := s.vm } : State) [] (0 + 1) (0 + 6) := ⟨e1, e2⟩
    have h3 := X.same.trans h2
    rw [List.append_nil] at h3
    exact h3.mono hc hs
  refine ⟨U, ?_, .threw T.heap.size, hrun, hend, Or.inr ⟨T.heap.size, rfl, cls, ce, locs, hx U hWs.alike f1 (fun q hq => f2 q hq (fun z hz => nomatch hz)), hce, hO.vm, hcl, hWs, hall, hf⟩⟩
  refine st1 _ ?_
  show Steps p.tables e below (T1.setTop { method := m, pc := pc + 3, locals := ls, stack := .ref T.heap.size :: rest, locked := none }) _
  jvm_step X₁.here [X₁.here.top, hexec, d3', Value.category]
  exact X₁.ldcString hexec (own := own) (text := text) (index := is) (a := sa) hown' hstr'.1 hstr'.2
    (g := { method := m, pc := pc + 4, locals := ls, stack := .ref T.heap.size :: .ref T.heap.size :: rest, locked := none }) rfl d4' _ hsteps
/-- 'throw new E("text")', the text by a wide index -/
theorem vx_throwSW {cc : ByteArray} {pc : Nat} (hexec : p.tables.exec = Jvm.exec) (hb : c.code = cc) (hl : l.stackTraces = false) {own cls text : String} {names : List String} {ik is ic mc ms sa : Nat} {A : Nat → Prop}
    (hown : s.vm.findClass own = some m.cls) (hcls : Bundle.fit cls = true) (hnames : ∀ n ∈ names, Bundle.fit n = true)
    (hk : (Cond.classLink own ik cls).before args s = true) (hini : (Cond.initialized cls).before args s = true) (hstr : vk_R own is text sa s) (hat : ∀ w ∈ vx_atS own ic cls names, w.before args s = true)
    (hgood : ∀ w ∈ Cond.classLink own ik cls :: Cond.initialized cls :: vx_atS own ic cls names, vx_ot w = true)
    (hU : vx_Zq Bundle.tN "UNASSIGNED_STACK" Bundle.steD A s s.heap) (hN : vx_Zq Bundle.tN "SUPPRESSED_SENTINEL" Bundle.listD A s s.heap) (hS : va_S A s.heap H locs) (hsize : ls.size = c.maxLocals)
    (d0 : decode cc pc = .ok (.new ik, 3)) (d3 : decode cc (pc + 3) = .ok (.dup, 1)) (d4 : decode cc (pc + 4) = .ok (.ldc_w is, 3)) (d7 : decode cc (pc + 7) = .ok (.invokespecial ic, 3)) (d10 : decode cc (pc + 10) = .ok (.athrow, 1))
    (hout : ∀ x ∈ c.exceptionTable.toList, covers x (pc + 10) = false)
    (hRframes : names.length + 3 < R.frames) (hRlocals : (rest.map fun v => v.category).sum + (13 * (names.length + 1) + 43) ≤ R.locals) (hRcells : cells + 1 ≤ R.cells) (hRslots : slots + 6 ≤ R.slots) (hlocks : meth.locks = false)
    (hx : ∀ t : State, s.vm.Alike t.vm → H.size ≤ t.heap.size → (∀ q : Nat, q < H.size → t.heap[q]? = H[q]?) → XC cls s t)
    (hf : ∀ z ∈ locs, free z.base) (hc : cells + 1 ≤ mc) (hs : slots + 6 ≤ ms) :
    W p l e R s m args below meth c H locs cells slots (vx_MQ below Qc XC args s mc ms free) (F0 m pc ls rest) := by
  intro T hT X
  have htr : e.platform.stackTraces = false := (show e.platform.stackTraces = l.stackTraces by rw [X.admits.platform]).trans hl
  have Y := vx_rebase X (R' := { frames := R.frames, locals := R.locals, cells := 1, slots := 6 }) (Nat.le_refl _) (Nat.le_refl _) hRcells hRslots
  obtain ⟨s', hA⟩ : ∃ z, z = (T.setVm s.vm).setFrames (.invoking m args :: below) := ⟨_, rfl⟩
  rw [← hA] at Y
  have hvm : s'.vm = s.vm := by rw [hA]; rfl
  have hhp : s'.heap = H := by rw [hA]; exact hT
  have hW0 : s.WarmedH s'.vm := by rw [hvm]; exact State.WarmedH.refl s
  have hat' : ∀ w ∈ vx_atS own ic cls names, w.before args s' = true := fun w hw => vx_ot_at hW0 hvm.symm (hgood w (List.mem_cons_of_mem _ (List.mem_cons_of_mem _ hw))) (hat w hw)
  have hk' : (Cond.classLink own ik cls).before args s' = true := vx_ot_at hW0 hvm.symm (hgood _ List.mem_cons_self) hk
  have hini' : (Cond.initialized cls).before args s' = true := vx_ot_at hW0 hvm.symm (hgood _ (List.mem_cons_of_mem _ List.mem_cons_self)) hini
  have hU' : vx_Zq Bundle.tN "UNASSIGNED_STACK" Bundle.steD A s' s'.heap := by rw [hhp]; exact vx_Zq.moved hW0.alike (hU.kept hS.2.1)
  have hN' : vx_Zq Bundle.tN "SUPPRESSED_SENTINEL" Bundle.listD A s' s'.heap := by rw [hhp]; exact vx_Zq.moved hW0.alike (hN.kept hS.2.1)
  have h : ∀ w ∈ Bundle.ownAtoms own ic cls names, w.before args s' = true := vx_own hat' (vx_isRefq hU'.1) (vx_isRefq hN'.1) hU'.2.word hN'.2.word
  have hown' : s'.vm.findClass own = some m.cls := by rw [hvm]; exact hown
  have hins : (Cond.instantiable cls 6).before args s' = true := h _ (by simp [Bundle.ownAtoms])
  obtain ⟨vm₁, cX, kX, hfX, hkX, -, -, X₁, st1⟩ := Y.newCold hexec (own := own) (C := cls) (index := ik) (n := 6) hown' hk' hins hini'
    (g := F0 m pc ls rest) rfl (by rw [hb]; exact d0) (Nat.le_refl _) (Nat.le_refl _)
  generalize hT1 : (T.setVm vm₁).pushCell { cls := cX, slots := kX.instanceTypes.map defaultValue, vm := .none } = T1 at X₁ st1
  have hcat : (Value.ref T.heap.size).category = 1 := rfl
  have hcellA : T1.heap[T.heap.size]? = some (freshCell cX kX) := by rw [← hT1]; exact State.heap_pushCell_size _ _
  have d3' : decode c.code (pc + 3) = .ok (.dup, 1) := by rw [hb]; exact d3
  have d4' : decode c.code (pc + 4) = .ok (.ldc_w is, 3) := by rw [hb]; exact d4
  have hstr' : vk_R own is text sa s' := vk_R.warm hW0 hstr
  obtain ⟨U, hsteps, hrun, hend, hW, hsame, ce, hce, hO⟩ := X₁.ctorThrowS hexec htr (own := own) (cls := cls) (names := names) (ic := ic) hown' hcls hnames h (fun x hx => nomatch hx) hfX hkX hcellA (by rw [hhp, hT]; exact Nat.le_refl _) (msg := .ref sa) rfl
    (g := { method := m, pc := pc + 7, locals := ls, stack := .ref sa :: .ref T.heap.size :: .ref T.heap.size :: rest, locked := none }) rfl hsize rfl rfl (rest := rest) rfl
    (by rw [hb]; exact d7) (by rw [hb]; exact d10) hout hRframes (by simp only [List.map_cons, List.sum_cons, hcat]; omega) hlocks
  obtain ⟨f1, f2⟩ := vx_frame hsame
  rw [hhp] at f1 f2
  have hWs : s.WarmedH U.vm := State.WarmedH.trans hW0 hW
  have hcl : s.vm.findClass cls = some ce.cls := by
    have h9 := hO.cls
    rw [hvm] at h9
    exact h9
  have hall : s.sameButNew ({ U with vm := s.vm } : State) locs mc ms := by
    subst hA
    obtain ⟨e1, e2⟩ := hsame
    rw [State.setFrames_setFrames] at e1
    have h2 : (T.setVm s.vm).sameButNew ({ U with vm := s.vm } : State) [] (0 + 1) (0 + 6) := ⟨e1, e2⟩
    have h3 := X.same.trans h2
    rw [List.append_nil] at h3
    exact h3.mono hc hs
  refine ⟨U, ?_, .threw T.heap.size, hrun, hend, Or.inr ⟨T.heap.size, rfl, cls, ce, locs, hx U hWs.alike f1 (fun q hq => f2 q hq (fun z hz => nomatch hz)), hce, hO.vm, hcl, hWs, hall, hf⟩⟩
  refine st1 _ ?_
  show Steps p.tables e below (T1.setTop { method := m, pc := pc + 3, locals := ls, stack := .ref T.heap.size :: rest, locked := none }) _
  jvm_step X₁.here [X₁.here.top, hexec, d3', Value.category]
  exact X₁.ldcStringW hexec (own := own) (text := text) (index := is) (a := sa) hown' hstr'.1 hstr'.2
    (g := { method := m, pc := pc + 4, locals := ls, stack := .ref T.heap.size :: .ref T.heap.size :: rest, locked := none }) rfl d4' _ hsteps
end Ends
section Bodies
variable {l : Launch}
theorem vx_ofW {y : MethodName} {ws ws' : List Cond} {rm : Room} {Pc : Array Value → State → Prop} {Qc : Array Value → State → Outcome → State → Prop} {XC : String → State → State → Prop} {mc ms : Nat} {free : Addr → Prop} {cc : ByteArray} {maxL : Nat} {ret : Option FieldType}
    (hy : plainName y.cls = true) (hw : ws = Cond.code y cc maxL ret :: ws')
    (body : ∀ p e s m args below meth c s₁, BodyLoose p l y (headSpec ws rm) cc maxL ret e s m args below meth c s₁ → c.maxLocals = maxL → (∀ x ∈ c.exceptionTable.toList, False) → Pc args s →
      W p l e (headSpec ws rm).room s m args below meth c s.heap [] 0 0 (vx_MQ below Qc XC args s mc ms free) (entryFrame m args maxL)) : vx_Met l y ws rm Pc Qc XC mc ms free := by
  refine MetFree.of_bodyS (code := cc) (maxLocals := maxL) (ret := ret) hy ?_ ?_
  · intro args s m h hn
    obtain ⟨meth, c, h1, h2, h3, h4, h5, h6, -, -⟩ := Cond.code_spec hn (atoms_spec (ws := ws) h _ (by rw [hw]; exact List.mem_cons_self))
    exact ⟨meth, c, h1, h2, h3, h4, h5, h6⟩
  · intro p e s m args below meth c s₁ B hml hP _
    have hh0 : s₁.heap = s.heap := by rw [B.state]; rfl
    have ht : ∀ x ∈ c.exceptionTable.toList, False := by
      obtain ⟨meth9, c9, h1, h2, -, -, -, -, h7, -⟩ := Cond.code_spec B.named (atoms_spec (ws := ws) B.pre _ (by rw [hw]; exact List.mem_cons_self))
      cases Option.some.inj (h1.symm.trans B.method)
      cases Option.some.inj (h2.symm.trans (Stand.of_body B).code)
      intro x hx
      rw [Array.isEmpty_iff.mp h7] at hx
      cases hx
    obtain ⟨t, a1, o, b1, b2, b3⟩ := body p e s m args below meth c s₁ B hml ht hP s₁ hh0 (Stand.of_body B)
    exact ⟨t, o, a1, b1, b2, b3⟩
/-- the table of a body with handlers -/
theorem vx_table {p : Program} {x y : MethodName} {S : Spec} {cc bytes : ByteArray} {maxL maxL' : Nat} {ret ret' : Option FieldType} {e : Env} {s s₁ : State} {m : MethodId} {args : Array Value} {below : List Frame} {meth : Method} {c : Code} {hh : List (Nat × Nat × Nat × Nat)}
    (B : BodyLoose p l y S cc maxL ret e s m args below meth c s₁) (h : (Cond.codeWith y bytes maxL' ret' hh).before args s = true) : c.exceptionTable.toList = tableOf hh := by
  obtain ⟨m9, meth9, c9, hn9, h1, h2, -, -, h6, -⟩ := Cond.codeWith_spec h
  cases Option.some.inj (hn9.symm.trans B.named)
  cases Option.some.inj (h1.symm.trans B.method)
  cases Option.some.inj (h2.symm.trans (Stand.of_body B).code)
  rw [← h6, table_eq]
end Bodies
end VXA
/-! ===== END ===== -/
/-! ===== BEGIN a static call of a method with an exception table ===== -/
section VXS
variable {p : Program} {l : Launch} {e : Env} {R : Room} {s : State} {m : MethodId} {args : Array Value} {below : List Frame} {meth : Method} {c : Code} {T : State} {H : Heap} {locs : List Loc} {cells slots : Nat}
abbrev vx_CSW (R : Room) (s : State) (args : Array Value) (own : String) (index : Nat) (y : MethodName) (bytes : ByteArray) (maxL : Nat) (ret : Option FieldType) (hh : List (Nat × Nat × Nat × Nat)) (ws : List Cond) (rm : Room) (mc ms n : Nat) : Prop :=
  (rm.cells = mc ∧ rm.slots = ms ∧ rm.frames + 1 ≤ R.frames ∧ 8 + (maxL + 11) + rm.locals ≤ R.locals ∧ (∀ w ∈ ws, ∀ (a' : Array Value) (U : State), s.WarmedH U.vm → w.before a' U = true) ∧ Cond.codeWith y bytes maxL ret hh ∈ ws) ∧
  (Cond.codeWith y bytes maxL ret hh).before args s = true ∧ (Cond.initialized y.cls).before args s = true ∧ (y.cls ≠ "java/lang/invoke/MethodHandle" ∧ y.cls ≠ "java/lang/invoke/VarHandle") ∧
  (∀ sig, parseMethodDescriptor y.desc = some sig → n = sig.parameters.length) ∧ (Cond.methodLink own index y).before args s = true ∧ (Cond.static y).before args s = true
theorem vx_cwSW {own : String} {index maxL mc ms : Nat} {y : MethodName} {bytes : ByteArray} {ret : Option FieldType} {hh : List (Nat × Nat × Nat × Nat)} {Ts ws ws' : List Cond} {rm : Room} (n : Nat) (ht : ∀ w ∈ Ts, w.before args s = true) (hT : GoodIn Ts (va_wsS own index y ws)) (hw : ws = Cond.codeWith y bytes maxL ret hh :: ws') (hrc : rm.cells = mc) (hrs : rm.slots = ms)
    (hd : y.cls ≠ "java/lang/invoke/MethodHandle" ∧ y.cls ≠ "java/lang/invoke/VarHandle" ∧ (parseMethodDescriptor y.desc).map (fun d => d.parameters.length) = some n) (hR : rm.frames + 1 ≤ R.frames ∧ 8 + (maxL + 11) + rm.locals ≤ R.locals) :
    vx_CSW R s args own index y bytes maxL ret hh ws rm mc ms n := by
  have ok : ∀ w ∈ va_wsS own index y ws, w.before args s = true := fun w h => ht w (hT w h).1
  have hG : GoodIn Ts ws := fun w h => hT w (by unfold va_wsS; exact List.mem_append_right _ h)
  have hc : Cond.codeWith y bytes maxL ret hh ∈ ws := by rw [hw]; exact List.mem_cons_self
  refine ⟨⟨hrc, hrs, hR.1, hR.2, pay_in ht hG, hc⟩, ht _ (hG _ hc).1, ok _ (by simp [va_wsS]), ⟨hd.1, hd.2.1⟩, fun sig h => ?_, ok _ (by simp [va_wsS]), ok _ (by simp [va_wsS])⟩
  have h2 := hd.2.2
  rw [h] at h2
  exact (Option.some.inj h2).symm
theorem vx_callSW (X : Stand p l e R s m args below meth c T locs cells slots) (hexec : p.tables.exec = Jvm.exec) {own : String} {index : Nat} {y : MethodName} {bytes : ByteArray} {maxL : Nat} {ret : Option FieldType} {hh : List (Nat × Nat × Nat × Nat)}
    (hown : s.vm.findClass own = some m.cls) (hlink : (Cond.methodLink own index y).before args s = true) (hstat : (Cond.static y).before args s = true) (hinit : (Cond.initialized y.cls).before args s = true)
    (hcode : (Cond.codeWith y bytes maxL ret hh).before args s = true) (hy : y.cls ≠ "java/lang/invoke/MethodHandle" ∧ y.cls ≠ "java/lang/invoke/VarHandle")
    {W9 : Nat} {Pre : Pt → Array Value → Prop} {Post : Pt → Array Value → Option Value → Pt → Prop} (hK : Back l R p e below s args y 3 W9 Pre Post)
    {g : JFrame} (hg : g.method = m) (hsize : g.locals.size = c.maxLocals) {argsL rest : List Value} (hlen : ∀ sig, parseMethodDescriptor y.desc = some sig → argsL.length = sig.parameters.length)
    (hstack : g.stack = argsL.reverse ++ rest) (hW : 2 * g.monitorRoom + (rest.map fun v => v.category).sum ≤ W9) (hdg : decode c.code g.pc = .ok (.invokestatic index, 3))
    (hpre : ∀ vm₁, s.WarmedH vm₁ → Pre ⟨T.setVm vm₁, locs, cells, slots⟩ argsL.toArray) :
    ∃ (v : Option Value) (vm₁ : Vm) (B : Pt), s.WarmedH vm₁ ∧ Stand p l e R s m args below meth c B.U B.locs B.cells B.slots ∧ Post ⟨T.setVm vm₁, locs, cells, slots⟩ argsL.toArray v B ∧
      ∀ target, Steps p.tables e below (B.U.setTop { g with pc := g.pc + 3, stack := v.toList ++ rest }) target → Steps p.tables e below (T.setTop g) target := by
  obtain ⟨mk, methM, cM, hnamed, hmethM, -, -, -, -, -, -, hsigM⟩ := Cond.codeWith_spec hcode
  have hstatic : methM.isStatic = true := Cond.static_spec hnamed hmethM hstat
  obtain ⟨kP, hkP, -⟩ := className_of_methodNamed hnamed
  have hinitP : kP.init = .initialized := Cond.initialized_spec (findClass_of_methodNamed hnamed) hkP hinit
  obtain ⟨vm₁, X₁, hstep₁⟩ := X.invokestatic hexec hown hlink hnamed hmethM hstatic hkP hinitP hy (g := g) hg (argsL := argsL) (rest := rest) (hlen _ hsigM) hstack hdg
  obtain ⟨v, B, X', hpost, hsteps⟩ := hK m meth c ⟨T.setVm vm₁, locs, cells, slots⟩ { g with stack := rest } (.invokestatic index) mk argsL.toArray X₁ hg hsize hdg hW (X₁.named hnamed) (hpre vm₁ X₁.warmed)
  exact ⟨v, vm₁, B, X₁.warmed, X', hpost, fun target h => hstep₁ _ fun acts => by rw [doInvoke_state]; exact hsteps.trans h⟩
theorem vx_runSW {y : MethodName} {bytes cc : ByteArray} {maxL nL mc ms n index : Nat} {ret : Option FieldType} {hh : List (Nat × Nat × Nat × Nat)} {ws : List Cond} {rm : Room} {Pc : Array Value → State → Prop} {Qc : Array Value → State → Outcome → State → Prop} {free : Addr → Prop} {Ts : List Cond} {own : String} {As rest : List Value} {g : JFrame}
    (S : CallFix p m c cc nL s args Ts own) (hM : Met l y ws rm Pc Qc mc ms free) (cw : vx_CSW R s args own index y bytes maxL ret hh ws rm mc ms n) (hp : PreS s H Pc As)
    (hg : g.method = m) (hn : As.length = n) (hsize : g.locals.size = nL) (hstack : g.stack = As.reverse ++ rest) (hW : 2 * g.monitorRoom + (rest.map fun v => v.category).sum ≤ 8) (hdg : decode cc g.pc = .ok (.invokestatic index, 3)) (hf : cells + mc ≤ R.cells ∧ slots + ms ≤ R.slots) :
    va_Run p l e R s m args below meth c H locs cells slots mc ms g rest (Qc As.toArray) (free) := by
  obtain ⟨⟨hrc, hrs, hfr, hlo, hws, hcw⟩, hcode, hini, hy, hlen, hl, hstt⟩ := cw
  have hK : Back l R p e below s args y 3 8 (PreOf R mc ms Pc) (PostOf Qc mc ms free) := va_backW (hh := hh) (bytes := bytes) (maxL := maxL) (ret := ret) hM hp.1 hrc hrs hfr hlo hws hcw (fun a' U hW => word_at hW (Or.inl (by first | rfl | simp [Cond.onTables, Cond.keeps, Cond.steady])) hini)
  obtain ⟨hx, hb, hml, ho, -⟩ := S
  intro T hT X
  obtain ⟨v, vm₁, ⟨U', l2, c2, s2⟩, hW₁, X', ⟨g', mk, t, L, e1, e2, hq, h1, hL, h2, h3⟩, st⟩ := vx_callSW X hx (hh := hh) (bytes := bytes) (maxL := maxL) (ret := ret) ho hl hstt hini hcode hy hK hg (hsize.trans hml.symm) (argsL := As) (rest := rest) (fun sig h => hn.trans (hlen sig h)) hstack hW (by rw [hb]; exact hdg)
    (fun vm₁ hW₁ => ⟨hf.1, hf.2, hp.2 (T.setVm vm₁) hT hW₁⟩)
  dsimp only [Pt.U, Pt.locs, Pt.cells, Pt.slots] at X' e1 e2 h1 h2 h3 st
  subst h1; subst h2; subst h3
  exact ⟨v, (T.setVm vm₁).calling g' mk As.toArray, t, U', L, hT, X', hL, e1, e2, hq, st⟩
/-- not caught here, past rows that name other classes: it goes on to the caller -/
theorem vx_outP {p : Program} {l : Launch} {e : Env} {R : Room} {s : State} {m : MethodId} {args : Array Value} {below : List Frame} {meth : Method} {c : Code} {H : Heap} {locs : List Loc} {cells slots : Nat} {free : Addr → Prop} {ls : Array Slot} {rest : List Value} {Qc : Array Value → State → Outcome → State → Prop} {XC : String → State → State → Prop}
    {pc : Nat} {own E : String} {ce : Cell} {q : Addr} {mc ms : Nat} (hown : s.vm.findClass own = some m.cls) (hlocks : meth.locks = false)
    (hpass : ∀ z ∈ c.exceptionTable.toList, covers z pc = false ∨ (z.catchType ≠ 0 ∧ ∃ nm : String, (Cond.classLink own z.catchType nm).before args s = true ∧ va_Nc E nm s)) (hcell : H[q]? = some ce) (hv : ce.vm = .none) (hcl : s.vm.findClass E = some ce.cls)
    (hx : ∀ t : State, t.heap = H → s.vm.Alike t.vm → XC E s t) (hf : ∀ z ∈ locs, free z.base) (hc : cells ≤ mc) (hs : slots ≤ ms) :
    vx_W p l e R s m args below meth c H locs cells slots (vx_MQ below Qc XC args s mc ms free) (F0 m pc ls rest) q := by
  intro T hT X
  have hpl : e.platform.magicAccessors = ({} : Platform).magicAccessors := by rw [X.admits.platform]
  obtain ⟨vm', hW', X', st⟩ := X.outThrough hlocks q (g := F0 m pc ls rest) rfl rfl rfl (cell := ce) (by rw [hT]; exact hcell) (by rw [hv]; rfl)
    (by obtain ⟨k9, h9, -⟩ := Vm.findClass_spec hcl; exact ⟨k9, h9⟩) (fun z hz => by
      rcases hpass z hz with h | ⟨hz0, nm, hl1, hn1⟩
      · exact Or.inl h
      · obtain ⟨c6, hc6, hcl6⟩ := Cond.classLink_spec hown hl1 e.platform hpl
        obtain ⟨a8, b8, h1, h2, h3⟩ := hn1
        cases Option.some.inj (h1.symm.trans hcl)
        cases Option.some.inj (h2.symm.trans hc6)
        exact Or.inr ⟨hz0, _, hcl6, h3⟩)
  obtain ⟨g₀, hfr⟩ := X'.frames_eq
  have hcell9 : ((T.setVm vm').setFrames (.throwing q :: below)).heap[q]? = some ce := by
    show T.heap[q]? = some ce
    rw [hT]; exact hcell
  have hend : Ended ((T.setVm vm').setFrames (.throwing q :: below)) below (.threw q) := State.frames_setFrames _ (State.cur_lt_of_frames hfr)
  refine ⟨(T.setVm vm').setFrames (.throwing q :: below), ?_, .threw q, X'.here.running, hend, Or.inr ⟨q, rfl, E, ce, locs, hx _ hT (X'.ends _).1.alike, hcell9, hv, hcl, (X'.ends _).1, (X'.ends _).2.mono hc hs, hf⟩⟩
  rw [X.pushThrowing_eq]
  exact st
/-- a thing of a world lies in the heap -/
theorem vx_lt {D : va_G} {cl : List vw_C} {ws : va_W} {H1 : Heap} (h : va_P D cl ws H1) {k : Nat} {q : Nat × va_E} (hk : ws[k]? = some q) : q.1 < H1.size := (h k q hk).lt
end VXS
/-! ===== END ===== -/
/-! ===== BEGIN methods with a table of their own: called by a name, returning or throwing ===== -/
section VXH
/-! vx_backW, vx_callVX, vx_callSX, vx_callVW, vx_runVW, vx_runVX, vx_runSX, vx_ofWH follow the same proofs as their sisters above (Free/Laws.lean, Shelf42/LK1.lean); vx_outP calls Shelf42/NT130.lean (outThrough). -/
section
variable {l : Launch} {R : Room} {p : Program} {e : Env} {below : List Frame} {s : State} {sargs : Array Value} {y : MethodName} {len W9 : Nat}
theorem vx_backW {ws : List Cond} {rm : Room} {Pc : Array Value → State → Prop} {Qc : Array Value → State → Outcome → State → Prop} {XC : String → State → State → Prop} {mc ms : Nat} {free : Addr → Prop} {bytes : ByteArray} {maxL : Nat} {ret : Option FieldType} {hh : List (Nat × Nat × Nat × Nat)}
    (hM : vx_Met l y ws rm Pc Qc XC mc ms free) (hblind : FrameBlind Pc) (hrc : rm.cells = mc) (hrs : rm.slots = ms)
    (hframes : rm.frames + 1 ≤ R.frames) (hlocals : W9 + (maxL + 11) + rm.locals ≤ R.locals)
    (hws : ∀ w ∈ ws, ∀ a' U, s.WarmedH U.vm → w.before a' U = true) (hcode : Cond.codeWith y bytes maxL ret hh ∈ ws) (hinit : ∀ a' U, s.WarmedH U.vm → (Cond.initialized y.cls).before a' U = true) :
    vx_Back l R p e below s sargs y len W9 (PreOf R mc ms Pc) (PostOf Qc mc ms free) (vx_Post XC mc ms free) := by
  intro m meth c A g ig mk a X hg hsize hdg hW hn hp
  have h1 : (headSpec ws rm).pre.before a A.U = true := atoms_intro fun w hw => hws w hw _ _ X.warmed
  have h2 : (Cond.codeWith y bytes maxL ret hh).before a A.U = true := hws _ hcode _ _ X.warmed
  have h3 : (Cond.initialized y.cls).before a A.U = true := hinit _ _ X.warmed
  have h4 : A.cells + (headSpec ws rm).room.cells ≤ R.cells := by rw [show (headSpec ws rm).room.cells = mc from hrc]; exact hp.1
  have h5 : A.slots + (headSpec ws rm).room.slots ≤ R.slots := by rw [show (headSpec ws rm).room.slots = ms from hrs]; exact hp.2.1
  have hPc : Pc a (A.U.calling g mk a) := hblind _ _ _ _ hp.2.2
  obtain ⟨U, Ls, c0, s0⟩ := A
  dsimp only [Pt.U, Pt.locs, Pt.cells, Pt.slots] at h1 h2 h3 h4 h5 X hn hPc ⊢
  obtain ⟨m9, methY, cY, hn9, hmY, hcY, -, hlY, -⟩ := Cond.codeWith_spec h2
  cases Option.some.inj (hn9.symm.trans hn)
  obtain ⟨kY, hkY, -⟩ := className_of_methodNamed hn
  have hinitY : kY.init = .initialized := Cond.initialized_spec (findClass_of_methodNamed hn) hkY h3
  have h : At U g.method c below := by rw [hg]; exact X.here
  have hlocals9 : W9 + (maxL + 11) + (headSpec ws rm).room.locals ≤ R.locals := hlocals
  have happ : (headSpec ws rm).appliesLoose y e.platform (U.calling g mk a) = true :=
    Spec.appliesLoose_calling (g := g) h hdg hn hkY hinitY
      (X.room_calling (g := g) (R' := (headSpec ws rm).room) hsize hmY hcY hframes (by rw [hlY]; omega) h4 h5) h1
  obtain ⟨mid, hmid⟩ := h.above
  have hfr : (U.setTop g).frames = (.java g :: mid) ++ below := by rw [State.frames_setTop' g h.top, hmid]; rfl
  obtain ⟨o, s₂, hsteps, -, hend, hq⟩ := Steps.callFree hM p X.admits X.cas X.clock (acts := []) hfr happ hPc trivial
  have hq' : vx_Q Qc XC mc ms free a (U.calling g mk a) o s₂ := hq
  rw [State.frames_setTop' g h.top] at hend
  obtain ⟨g₀, hg0⟩ := Option.isSome_iff_exists.mp h.top
  obtain ⟨r, hr⟩ := State.topJava?_eq_some.mp hg0
  have hr' : (({ U with heap := s₂.heap, slotsUsed := s₂.slotsUsed } : State).setVm s₂.vm).frames = .java g₀ :: r := hr
  rcases hq' with ⟨hqc, L, hfe, hL⟩ | ⟨q, rfl, E, ce, L, hx, hce, hcv, hcl, hW₂, hsm, hL⟩
  · obtain ⟨⟨v, rfl⟩, hW₂, e2, q2, q3, q4, q5, q6⟩ := id hfe
    have e3 : s₂ = ({ (U.calling g mk a).setFrames s₂.frames with heap := s₂.heap, slotsUsed := s₂.slotsUsed } : State).setVm s₂.vm := by
      have : s₂ = ({ s₂ with vm := (U.calling g mk a).vm } : State).setVm s₂.vm := rfl
      rw [e2] at this
      exact this
    obtain ⟨c₂, i₂, len₂, hc₂, hd₂, hf₂⟩ := hend
    have hW' : U.WarmedH s₂.vm := hW₂
    have hcc : c₂ = c := by
      have h1 : s₂.code? g.method = U.code? g.method := by
        rw [State.code?_eq, State.code?_eq, hW'.alike.method?]
      exact Option.some.inj (hc₂.symm.trans (h1.trans h.code))
    subst hcc
    have hlen : len₂ = len := by rw [hdg] at hd₂; cases hd₂; rfl
    subst hlen
    have hs₂ : s₂ = (({ U with heap := s₂.heap, slotsUsed := s₂.slotsUsed } : State).setVm s₂.vm).setTop { g with pc := g.pc + len₂, stack := v.toList ++ g.stack } := by
      refine e3.trans ?_
      rw [hf₂, State.calling_eq h.top, State.setFrames_setFrames, State.setTop_of_frames _ hr', hr]
      rfl
    have hsame : U.sameButNew ({ U with heap := s₂.heap, slotsUsed := s₂.slotsUsed } : State) L mc ms := by
      refine ⟨?_, q2, q3, q4, q5, q6⟩
      obtain ⟨t, ht, -⟩ := State.frames_cons hr
      show ({ U with heap := s₂.heap, slotsUsed := s₂.slotsUsed } : State) = { U.setFrames U.frames with heap := s₂.heap, slotsUsed := s₂.slotsUsed }
      rw [State.setFrames_self ht]
    subst hg
    refine Or.inl ⟨v, ⟨(({ U with heap := s₂.heap, slotsUsed := s₂.slotsUsed } : State).setVm s₂.vm), Ls ++ L, c0 + mc, s0 + ms⟩,
      ⟨X.admits, X.cas, X.clock, X.frames, X.room, X.hears, X.method, X.code, (X.here.setHeapUsed s₂.heap s₂.slotsUsed).setVm hW'.alike, X.tail, State.WarmedH.trans X.warmed hW', X.limits, X.bytes, X.same.trans (hsame.setVm s.vm)⟩,
      ⟨g, mk, s₂, L, rfl, rfl, hqc, rfl, hL, rfl, rfl⟩, ?_⟩
    show Steps p.tables e below _ ((({ U with heap := s₂.heap, slotsUsed := s₂.slotsUsed } : State).setVm s₂.vm).setTop { g with pc := g.pc + len₂, stack := v.toList ++ g.stack })
    rw [← hs₂]
    exact hsteps
  · obtain ⟨e2, q2, q3, q4, q5, q6⟩ := id hsm
    have e3 : s₂ = ({ (U.calling g mk a).setFrames s₂.frames with heap := s₂.heap, slotsUsed := s₂.slotsUsed } : State).setVm s₂.vm := by
      have : s₂ = ({ s₂ with vm := (U.calling g mk a).vm } : State).setVm s₂.vm := rfl
      rw [e2] at this
      exact this
    have hf₂ : s₂.frames = .throwing q :: .java g :: U.frames.tail := hend
    have hW' : U.WarmedH s₂.vm := hW₂
    have hs₂ : s₂ = ((({ U with heap := s₂.heap, slotsUsed := s₂.slotsUsed } : State).setVm s₂.vm).setTop g).pushFrame (.throwing q) := by
      refine e3.trans ?_
      rw [hf₂, State.calling_eq h.top, State.setFrames_setFrames, State.pushFrame, State.frames_setTop _ hr', State.setTop_of_frames _ hr', State.setFrames_setFrames, hr]
      rfl
    have hsame : U.sameButNew ({ U with heap := s₂.heap, slotsUsed := s₂.slotsUsed } : State) L mc ms := by
      refine ⟨?_, q2, q3, q4, q5, q6⟩
      obtain ⟨t, ht, -⟩ := State.frames_cons hr
      show ({ U with heap := s₂.heap, slotsUsed := s₂.slotsUsed } : State) = { U.setFrames U.frames with heap := s₂.heap, slotsUsed := s₂.slotsUsed }
      rw [State.setFrames_self ht]
    subst hg
    refine Or.inr ⟨q, ⟨(({ U with heap := s₂.heap, slotsUsed := s₂.slotsUsed } : State).setVm s₂.vm), Ls ++ L, c0 + mc, s0 + ms⟩,
      ⟨X.admits, X.cas, X.clock, X.frames, X.room, X.hears, X.method, X.code, (X.here.setHeapUsed s₂.heap s₂.slotsUsed).setVm hW'.alike, X.tail, State.WarmedH.trans X.warmed hW', X.limits, X.bytes, X.same.trans (hsame.setVm s.vm)⟩,
      ⟨g, mk, s₂, L, E, ce, rfl, rfl, hx, hce, hcv, hcl, rfl, hL, rfl, rfl⟩, ?_⟩
    show Steps p.tables e below _ (((({ U with heap := s₂.heap, slotsUsed := s₂.slotsUsed } : State).setVm s₂.vm).setTop g).pushFrame (.throwing q))
    rw [← hs₂]
    exact hsteps
end
variable {p : Program} {l : Launch} {e : Env} {R : Room} {s : State} {m : MethodId} {args : Array Value} {below : List Frame} {meth : Method} {c : Code} {T : State} {H : Heap} {locs : List Loc} {cells slots : Nat}
theorem vx_callVX (X : Stand p l e R s m args below meth c T locs cells slots) (hexec : p.tables.exec = Jvm.exec) {own C : String} {index : Nat} {y : MethodName} {bytes : ByteArray} {maxL : Nat} {ret : Option FieldType} {hh : List (Nat × Nat × Nat × Nat)}
    (hown : s.vm.findClass own = some m.cls) (hlink : (Cond.methodLink own index y).before args s = true) (hinst : (Cond.instanceMethod y).before args s = true) (hsel : (Cond.selects C y y).before args s = true)
    (hcode : (Cond.codeWith y bytes maxL ret hh).before args s = true) (hy : y.cls ≠ "java/lang/invoke/MethodHandle" ∧ y.cls ≠ "java/lang/invoke/VarHandle")
    {W9 : Nat} {Pre : Pt → Array Value → Prop} {Post : Pt → Array Value → Option Value → Pt → Prop} {PostX : Pt → Array Value → Addr → Pt → Prop} (hK : vx_Back l R p e below s args y 3 W9 Pre Post PostX)
    {b : Addr} {cellB : Cell} (hcell : T.heap[b]? = some cellB) (hobj : cellB.vm.isStatics = false) (hcls : s.vm.findClass C = some cellB.cls)
    {g : JFrame} (hg : g.method = m) (hsize : g.locals.size = c.maxLocals) {argsL rest : List Value} (hlen : ∀ sig, parseMethodDescriptor y.desc = some sig → argsL.length = sig.parameters.length)
    (hstack : g.stack = argsL.reverse ++ .ref b :: rest) (hW : 2 * g.monitorRoom + (rest.map fun v => v.category).sum ≤ W9) (hdg : decode c.code g.pc = .ok (.invokevirtual index, 3))
    (hpre : ∀ vm₁, s.WarmedH vm₁ → Pre ⟨T.setVm vm₁, locs, cells, slots⟩ (Value.ref b :: argsL).toArray) :
    (∃ (v : Option Value) (vm₁ : Vm) (B : Pt), s.WarmedH vm₁ ∧ Stand p l e R s m args below meth c B.U B.locs B.cells B.slots ∧ Post ⟨T.setVm vm₁, locs, cells, slots⟩ (Value.ref b :: argsL).toArray v B ∧
      ∀ target, Steps p.tables e below (B.U.setTop { g with pc := g.pc + 3, stack := v.toList ++ rest }) target → Steps p.tables e below (T.setTop g) target) ∨
    (∃ (q : Addr) (vm₁ : Vm) (B : Pt), s.WarmedH vm₁ ∧ Stand p l e R s m args below meth c B.U B.locs B.cells B.slots ∧ PostX ⟨T.setVm vm₁, locs, cells, slots⟩ (Value.ref b :: argsL).toArray q B ∧
      Steps p.tables e below (T.setTop g) ((B.U.setTop { g with stack := rest }).pushFrame (.throwing q))) := by
  obtain ⟨mk, methM, hnamed, hmethM, hstM, habM⟩ := Cond.instanceMethod_spec hinst
  obtain ⟨m8, methM', cM, hn8, hmethM', -, -, -, -, -, -, hsigM⟩ := Cond.codeWith_spec hcode
  cases Option.some.inj (hn8.symm.trans hnamed)
  cases hmethM.symm.trans hmethM'
  obtain ⟨c2, r2, m2, q1, q2, q3, q4, kP, hkP, hkPi⟩ := Cond.selects_spec hsel
  cases hcls.symm.trans q1
  cases (State.methodFound?_of_named hnamed hy).symm.trans q2
  cases hnamed.symm.trans q3
  have hselP : selectMethod e.platform s.vm cellB.cls mk = .method mk := by rw [Launch.admits_selectMethod X.admits]; exact q4
  obtain ⟨vm₁, X₁, hstep₁⟩ := X.invokevirtual hexec hown hlink hnamed hmethM hstM hkP hkPi hy (a := b) (cell := cellB) hcell
    (fun z h => by rw [h] at hobj; cases hobj) hselP hmethM habM hkP hkPi (g := g) hg (argsL := argsL) (rest := rest) (hlen _ hsigM) hstack hdg
  rcases hK m meth c ⟨T.setVm vm₁, locs, cells, slots⟩ { g with stack := rest } (.invokevirtual index) mk (Value.ref b :: argsL).toArray X₁ hg hsize hdg hW (X₁.named hnamed) (hpre vm₁ X₁.warmed) with ⟨v, B, X', hpost, hsteps⟩ | ⟨q, B, X', hpost, hsteps⟩
  · exact Or.inl ⟨v, vm₁, B, X₁.warmed, X', hpost, fun target h => hstep₁ _ fun acts => by rw [doInvoke_state]; exact hsteps.trans h⟩
  · exact Or.inr ⟨q, vm₁, B, X₁.warmed, X', hpost, hstep₁ _ fun acts => by rw [doInvoke_state]; exact hsteps⟩
theorem vx_callSX (X : Stand p l e R s m args below meth c T locs cells slots) (hexec : p.tables.exec = Jvm.exec) {own : String} {index : Nat} {y : MethodName} {bytes : ByteArray} {maxL : Nat} {ret : Option FieldType} {hh : List (Nat × Nat × Nat × Nat)}
    (hown : s.vm.findClass own = some m.cls) (hlink : (Cond.methodLink own index y).before args s = true) (hstat : (Cond.static y).before args s = true) (hinit : (Cond.initialized y.cls).before args s = true)
    (hcode : (Cond.codeWith y bytes maxL ret hh).before args s = true) (hy : y.cls ≠ "java/lang/invoke/MethodHandle" ∧ y.cls ≠ "java/lang/invoke/VarHandle")
    {W9 : Nat} {Pre : Pt → Array Value → Prop} {Post : Pt → Array Value → Option Value → Pt → Prop} {PostX : Pt → Array Value → Addr → Pt → Prop} (hK : vx_Back l R p e below s args y 3 W9 Pre Post PostX)
    {g : JFrame} (hg : g.method = m) (hsize : g.locals.size = c.maxLocals) {argsL rest : List Value} (hlen : ∀ sig, parseMethodDescriptor y.desc = some sig → argsL.length = sig.parameters.length)
    (hstack : g.stack = argsL.reverse ++ rest) (hW : 2 * g.monitorRoom + (rest.map fun v => v.category).sum ≤ W9) (hdg : decode c.code g.pc = .ok (.invokestatic index, 3))
    (hpre : ∀ vm₁, s.WarmedH vm₁ → Pre ⟨T.setVm vm₁, locs, cells, slots⟩ argsL.toArray) :
    (∃ (v : Option Value) (vm₁ : Vm) (B : Pt), s.WarmedH vm₁ ∧ Stand p l e R s m args below meth c B.U B.locs B.cells B.slots ∧ Post ⟨T.setVm vm₁, locs, cells, slots⟩ argsL.toArray v B ∧
      ∀ target, Steps p.tables e below (B.U.setTop { g with pc := g.pc + 3, stack := v.toList ++ rest }) target → Steps p.tables e below (T.setTop g) target) ∨
    (∃ (q : Addr) (vm₁ : Vm) (B : Pt), s.WarmedH vm₁ ∧ Stand p l e R s m args below meth c B.U B.locs B.cells B.slots ∧ PostX ⟨T.setVm vm₁, locs, cells, slots⟩ argsL.toArray q B ∧
      Steps p.tables e below (T.setTop g) ((B.U.setTop { g with stack := rest }).pushFrame (.throwing q))) := by
  obtain ⟨mk, methM, cM, hnamed, hmethM, -, -, -, -, -, -, hsigM⟩ := Cond.codeWith_spec hcode
  have hstatic : methM.isStatic = true := Cond.static_spec hnamed hmethM hstat
  obtain ⟨kP, hkP, -⟩ := className_of_methodNamed hnamed
  have hinitP : kP.init = .initialized := Cond.initialized_spec (findClass_of_methodNamed hnamed) hkP hinit
  obtain ⟨vm₁, X₁, hstep₁⟩ := X.invokestatic hexec hown hlink hnamed hmethM hstatic hkP hinitP hy (g := g) hg (argsL := argsL) (rest := rest) (hlen _ hsigM) hstack hdg
  rcases hK m meth c ⟨T.setVm vm₁, locs, cells, slots⟩ { g with stack := rest } (.invokestatic index) mk argsL.toArray X₁ hg hsize hdg hW (X₁.named hnamed) (hpre vm₁ X₁.warmed) with ⟨v, B, X', hpost, hsteps⟩ | ⟨q, B, X', hpost, hsteps⟩
  · exact Or.inl ⟨v, vm₁, B, X₁.warmed, X', hpost, fun target h => hstep₁ _ fun acts => by rw [doInvoke_state]; exact hsteps.trans h⟩
  · exact Or.inr ⟨q, vm₁, B, X₁.warmed, X', hpost, hstep₁ _ fun acts => by rw [doInvoke_state]; exact hsteps⟩
theorem vx_callVW (X : Stand p l e R s m args below meth c T locs cells slots) (hexec : p.tables.exec = Jvm.exec) {own C : String} {index : Nat} {y : MethodName} {bytes : ByteArray} {maxL : Nat} {ret : Option FieldType} {hh : List (Nat × Nat × Nat × Nat)}
    (hown : s.vm.findClass own = some m.cls) (hlink : (Cond.methodLink own index y).before args s = true) (hinst : (Cond.instanceMethod y).before args s = true) (hsel : (Cond.selects C y y).before args s = true)
    (hcode : (Cond.codeWith y bytes maxL ret hh).before args s = true) (hy : y.cls ≠ "java/lang/invoke/MethodHandle" ∧ y.cls ≠ "java/lang/invoke/VarHandle")
    {W9 : Nat} {Pre : Pt → Array Value → Prop} {Post : Pt → Array Value → Option Value → Pt → Prop} (hK : Back l R p e below s args y 3 W9 Pre Post)
    {b : Addr} {cellB : Cell} (hcell : T.heap[b]? = some cellB) (hobj : cellB.vm.isStatics = false) (hcls : s.vm.findClass C = some cellB.cls)
    {g : JFrame} (hg : g.method = m) (hsize : g.locals.size = c.maxLocals) {argsL rest : List Value} (hlen : ∀ sig, parseMethodDescriptor y.desc = some sig → argsL.length = sig.parameters.length)
    (hstack : g.stack = argsL.reverse ++ .ref b :: rest) (hW : 2 * g.monitorRoom + (rest.map fun v => v.category).sum ≤ W9) (hdg : decode c.code g.pc = .ok (.invokevirtual index, 3))
    (hpre : ∀ vm₁, s.WarmedH vm₁ → Pre ⟨T.setVm vm₁, locs, cells, slots⟩ (Value.ref b :: argsL).toArray) :
    ∃ (v : Option Value) (vm₁ : Vm) (B : Pt), s.WarmedH vm₁ ∧ Stand p l e R s m args below meth c B.U B.locs B.cells B.slots ∧ Post ⟨T.setVm vm₁, locs, cells, slots⟩ (Value.ref b :: argsL).toArray v B ∧
      ∀ target, Steps p.tables e below (B.U.setTop { g with pc := g.pc + 3, stack := v.toList ++ rest }) target → Steps p.tables e below (T.setTop g) target := by
  obtain ⟨mk, methM, hnamed, hmethM, hstM, habM⟩ := Cond.instanceMethod_spec hinst
  obtain ⟨m8, methM', cM, hn8, hmethM', -, -, -, -, -, -, hsigM⟩ := Cond.codeWith_spec hcode
  cases Option.some.inj (hn8.symm.trans hnamed)
  cases hmethM.symm.trans hmethM'
  obtain ⟨c2, r2, m2, q1, q2, q3, q4, kP, hkP, hkPi⟩ := Cond.selects_spec hsel
  cases hcls.symm.trans q1
  cases (State.methodFound?_of_named hnamed hy).symm.trans q2
  cases hnamed.symm.trans q3
  have hselP : selectMethod e.platform s.vm cellB.cls mk = .method mk := by rw [Launch.admits_selectMethod X.admits]; exact q4
  obtain ⟨vm₁, X₁, hstep₁⟩ := X.invokevirtual hexec hown hlink hnamed hmethM hstM hkP hkPi hy (a := b) (cell := cellB) hcell
    (fun z h => by rw [h] at hobj; cases hobj) hselP hmethM habM hkP hkPi (g := g) hg (argsL := argsL) (rest := rest) (hlen _ hsigM) hstack hdg
  obtain ⟨v, B, X', hpost, hsteps⟩ := hK m meth c ⟨T.setVm vm₁, locs, cells, slots⟩ { g with stack := rest } (.invokevirtual index) mk (Value.ref b :: argsL).toArray X₁ hg hsize hdg hW (X₁.named hnamed) (hpre vm₁ X₁.warmed)
  exact ⟨v, vm₁, B, X₁.warmed, X', hpost, fun target h => hstep₁ _ fun acts => by rw [doInvoke_state]; exact hsteps.trans h⟩
abbrev vx_CVW (R : Room) (s : State) (args : Array Value) (own C : String) (index : Nat) (y : MethodName) (bytes : ByteArray) (maxL : Nat) (ret : Option FieldType) (hh : List (Nat × Nat × Nat × Nat)) (ws : List Cond) (rm : Room) (mc ms n : Nat) : Prop :=
  (rm.cells = mc ∧ rm.slots = ms ∧ rm.frames + 1 ≤ R.frames ∧ 8 + (maxL + 11) + rm.locals ≤ R.locals ∧ (∀ w ∈ ws, ∀ (a' : Array Value) (U : State), s.WarmedH U.vm → w.before a' U = true) ∧ Cond.codeWith y bytes maxL ret hh ∈ ws) ∧
  (Cond.codeWith y bytes maxL ret hh).before args s = true ∧ (Cond.initialized y.cls).before args s = true ∧ (y.cls ≠ "java/lang/invoke/MethodHandle" ∧ y.cls ≠ "java/lang/invoke/VarHandle") ∧
  (∀ sig, parseMethodDescriptor y.desc = some sig → n = sig.parameters.length) ∧ (Cond.methodLink own index y).before args s = true ∧ (Cond.instanceMethod y).before args s = true ∧ (Cond.selects C y y).before args s = true
theorem vx_cwVW {own C : String} {index maxL mc ms : Nat} {y : MethodName} {bytes : ByteArray} {ret : Option FieldType} {hh : List (Nat × Nat × Nat × Nat)} {Ts ws ws' : List Cond} {rm : Room} (n : Nat) (ht : ∀ w ∈ Ts, w.before args s = true) (hT : GoodIn Ts (wsV own index C y ws)) (hw : ws = Cond.codeWith y bytes maxL ret hh :: ws') (hrc : rm.cells = mc) (hrs : rm.slots = ms)
    (hd : y.cls = C ∧ y.cls ≠ "java/lang/invoke/MethodHandle" ∧ y.cls ≠ "java/lang/invoke/VarHandle" ∧ (parseMethodDescriptor y.desc).map (fun d => d.parameters.length) = some n) (hR : rm.frames + 1 ≤ R.frames ∧ 8 + (maxL + 11) + rm.locals ≤ R.locals) :
    vx_CVW R s args own C index y bytes maxL ret hh ws rm mc ms n := by
  obtain ⟨hC, hd⟩ := hd
  subst hC
  have ok : ∀ w ∈ wsV own index y.cls y ws, w.before args s = true := fun w h => ht w (hT w h).1
  have hG : GoodIn Ts ws := fun w h => hT w (by unfold wsV; exact List.mem_append_right _ h)
  have hc : Cond.codeWith y bytes maxL ret hh ∈ ws := by rw [hw]; exact List.mem_cons_self
  refine ⟨⟨hrc, hrs, hR.1, hR.2, pay_in ht hG, hc⟩, ht _ (hG _ hc).1, ok _ (by simp [wsV]), ⟨hd.1, hd.2.1⟩, fun sig h => ?_, ok _ (by simp [wsV]), ok _ (by simp [wsV]), ok _ (by simp [wsV])⟩
  have h2 := hd.2.2
  rw [h] at h2
  exact (Option.some.inj h2).symm
theorem vx_runVW {y : MethodName} {bytes cc : ByteArray} {maxL nL mc ms n index : Nat} {ret : Option FieldType} {hh : List (Nat × Nat × Nat × Nat)} {ws : List Cond} {rm : Room} {Pc : Array Value → State → Prop} {Qc : Array Value → State → Outcome → State → Prop} {free : Addr → Prop} {Ts : List Cond} {own C : String} {b : Addr} {As rest : List Value} {g : JFrame}
    (S : CallFix p m c cc nL s args Ts own) (hM : Met l y ws rm Pc Qc mc ms free) (cw : vx_CVW R s args own C index y bytes maxL ret hh ws rm mc ms n) (hp : PreV s H C b Pc As)
    (hg : g.method = m) (hn : As.length = n) (hsize : g.locals.size = nL) (hstack : g.stack = As.reverse ++ .ref b :: rest) (hW : 2 * g.monitorRoom + (rest.map fun v => v.category).sum ≤ 8) (hdg : decode cc g.pc = .ok (.invokevirtual index, 3)) (hf : cells + mc ≤ R.cells ∧ slots + ms ≤ R.slots) :
    va_Run p l e R s m args below meth c H locs cells slots mc ms g rest (Qc (Value.ref b :: As).toArray) free := by
  obtain ⟨⟨hrc, hrs, hfr, hlo, hws, hcw⟩, hcode, hini, hy, hlen, hl, hin, hse⟩ := cw
  have hK : Back l R p e below s args y 3 8 (PreOf R mc ms Pc) (PostOf Qc mc ms free) := va_backW (hh := hh) (bytes := bytes) (maxL := maxL) (ret := ret) hM hp.1 hrc hrs hfr hlo hws hcw (fun a' U hW => word_at hW (Or.inl (by first | rfl | simp [Cond.onTables, Cond.keeps, Cond.steady])) hini)
  obtain ⟨hx, hb, hml, ho, -⟩ := S
  obtain ⟨-, ⟨cellB, hcB, hoB, hclB⟩, hPc⟩ := hp
  intro T hT X
  obtain ⟨v, vm₁, ⟨U', l2, c2, s2⟩, hW₁, X', ⟨g', mk, t, L, e1, e2, hq, h1, hL, h2, h3⟩, st⟩ := vx_callVW X hx (C := C) (hh := hh) (bytes := bytes) (maxL := maxL) (ret := ret) ho hl hin hse hcode hy hK (by rw [hT]; exact hcB) hoB hclB hg (hsize.trans hml.symm) (argsL := As) (rest := rest) (fun sig h => hn.trans (hlen sig h)) hstack hW (by rw [hb]; exact hdg)
    (fun vm₁ hW₁ => ⟨hf.1, hf.2, hPc (T.setVm vm₁) hT hW₁⟩)
  dsimp only [Pt.U, Pt.locs, Pt.cells, Pt.slots] at X' e1 e2 h1 h2 h3 st
  subst h1; subst h2; subst h3
  exact ⟨v, (T.setVm vm₁).calling g' mk (Value.ref b :: As).toArray, t, U', L, hT, X', hL, e1, e2, hq, st⟩
section
variable {y : MethodName} {bytes cc : ByteArray} {maxL nL mc ms n index : Nat} {ret : Option FieldType} {ws : List Cond} {rm : Room} {Pc : Array Value → State → Prop} {Qc : Array Value → State → Outcome → State → Prop} {XC : String → State → State → Prop} {free : Addr → Prop} {Ts : List Cond} {own C : String} {b : Addr} {As rest : List Value} {g : JFrame}
theorem vx_runVX {hh : List (Nat × Nat × Nat × Nat)} (S : CallFix p m c cc nL s args Ts own) (hM : vx_Met l y ws rm Pc Qc XC mc ms free) (cw : vx_CVW R s args own C index y bytes maxL ret hh ws rm mc ms n) (hp : PreV s H C b Pc As)
    (hg : g.method = m) (hn : As.length = n) (hsize : g.locals.size = nL) (hstack : g.stack = As.reverse ++ .ref b :: rest) (hW : 2 * g.monitorRoom + (rest.map fun v => v.category).sum ≤ 8) (hdg : decode cc g.pc = .ok (.invokevirtual index, 3)) (hf : cells + mc ≤ R.cells ∧ slots + ms ≤ R.slots) :
    vx_Run p l e R s m args below meth c H locs cells slots mc ms g rest (Qc (Value.ref b :: As).toArray) XC free := by
  obtain ⟨⟨hrc, hrs, hfr, hlo, hws, hcw⟩, hcode, hini, hy, hlen, hl, hin, hse⟩ := cw
  have hK : vx_Back l R p e below s args y 3 8 (PreOf R mc ms Pc) (PostOf Qc mc ms free) (vx_Post XC mc ms free) := vx_backW (hh := hh) (bytes := bytes) (maxL := maxL) (ret := ret) hM hp.1 hrc hrs hfr hlo hws hcw (fun a' U hW => word_at hW (Or.inl (by first | rfl | simp [Cond.onTables, Cond.keeps, Cond.steady])) hini)
  obtain ⟨hx, hb, hml, ho, -⟩ := S
  obtain ⟨-, ⟨cellB, hcB, hoB, hclB⟩, hPc⟩ := hp
  intro T hT X
  rcases vx_callVX X hx (C := C) (hh := hh) (bytes := bytes) (maxL := maxL) (ret := ret) ho hl hin hse hcode hy hK (by rw [hT]; exact hcB) hoB hclB hg (hsize.trans hml.symm) (argsL := As) (rest := rest) (fun sig h => hn.trans (hlen sig h)) hstack hW (by rw [hb]; exact hdg)
    (fun vm₁ hW₁ => ⟨hf.1, hf.2, hPc (T.setVm vm₁) hT hW₁⟩) with ⟨v, vm₁, ⟨U', l2, c2, s2⟩, hW₁, X', ⟨g', mk, t, L, e1, e2, hq, h1, hL, h2, h3⟩, st⟩ | ⟨q, vm₁, ⟨U', l2, c2, s2⟩, hW₁, X', ⟨g', mk, t, L, E, ce, e1, e2, hq, hce, hcv, hcl, h1, hL, h2, h3⟩, st⟩
  · dsimp only [Pt.U, Pt.locs, Pt.cells, Pt.slots] at X' e1 e2 h1 h2 h3 st
    subst h1; subst h2; subst h3
    exact Or.inl ⟨v, (T.setVm vm₁).calling g' mk (Value.ref b :: As).toArray, t, U', L, hT, X', hL, e1, e2, hq, st⟩
  · dsimp only [Pt.U, Pt.locs, Pt.cells, Pt.slots] at X' e1 e2 h1 h2 h3 st hcl
    subst h1; subst h2; subst h3
    exact Or.inr ⟨q, (T.setVm vm₁).calling g' mk (Value.ref b :: As).toArray, t, U', L, E, ce, hT, X', hL, e1, e2, hq, hce, hcv, vx_cls hW₁ hcl, st⟩
theorem vx_runSX {hh : List (Nat × Nat × Nat × Nat)} (S : CallFix p m c cc nL s args Ts own) (hM : vx_Met l y ws rm Pc Qc XC mc ms free) (cw : vx_CSW R s args own index y bytes maxL ret hh ws rm mc ms n) (hp : PreS s H Pc As)
    (hg : g.method = m) (hn : As.length = n) (hsize : g.locals.size = nL) (hstack : g.stack = As.reverse ++ rest) (hW : 2 * g.monitorRoom + (rest.map fun v => v.category).sum ≤ 8) (hdg : decode cc g.pc = .ok (.invokestatic index, 3)) (hf : cells + mc ≤ R.cells ∧ slots + ms ≤ R.slots) :
    vx_Run p l e R s m args below meth c H locs cells slots mc ms g rest (Qc As.toArray) XC free := by
  obtain ⟨⟨hrc, hrs, hfr, hlo, hws, hcw⟩, hcode, hini, hy, hlen, hl, hstt⟩ := cw
  have hK : vx_Back l R p e below s args y 3 8 (PreOf R mc ms Pc) (PostOf Qc mc ms free) (vx_Post XC mc ms free) := vx_backW (hh := hh) (bytes := bytes) (maxL := maxL) (ret := ret) hM hp.1 hrc hrs hfr hlo hws hcw (fun a' U hW => word_at hW (Or.inl (by first | rfl | simp [Cond.onTables, Cond.keeps, Cond.steady])) hini)
  obtain ⟨hx, hb, hml, ho, -⟩ := S
  intro T hT X
  rcases vx_callSX X hx (hh := hh) (bytes := bytes) (maxL := maxL) (ret := ret) ho hl hstt hini hcode hy hK hg (hsize.trans hml.symm) (argsL := As) (rest := rest) (fun sig h => hn.trans (hlen sig h)) hstack hW (by rw [hb]; exact hdg)
    (fun vm₁ hW₁ => ⟨hf.1, hf.2, hp.2 (T.setVm vm₁) hT hW₁⟩) with ⟨v, vm₁, ⟨U', l2, c2, s2⟩, hW₁, X', ⟨g', mk, t, L, e1, e2, hq, h1, hL, h2, h3⟩, st⟩ | ⟨q, vm₁, ⟨U', l2, c2, s2⟩, hW₁, X', ⟨g', mk, t, L, E, ce, e1, e2, hq, hce, hcv, hcl, h1, hL, h2, h3⟩, st⟩
  · dsimp only [Pt.U, Pt.locs, Pt.cells, Pt.slots] at X' e1 e2 h1 h2 h3 st
    subst h1; subst h2; subst h3
    exact Or.inl ⟨v, (T.setVm vm₁).calling g' mk As.toArray, t, U', L, hT, X', hL, e1, e2, hq, st⟩
  · dsimp only [Pt.U, Pt.locs, Pt.cells, Pt.slots] at X' e1 e2 h1 h2 h3 st hcl
    subst h1; subst h2; subst h3
    exact Or.inr ⟨q, (T.setVm vm₁).calling g' mk As.toArray, t, U', L, E, ce, hT, X', hL, e1, e2, hq, hce, hcv, vx_cls hW₁ hcl, st⟩
end
end VXH
theorem vx_ofWH {l : Launch} {y : MethodName} {ws ws' : List Cond} {rm : Room} {Pc : Array Value → State → Prop} {Qc : Array Value → State → Outcome → State → Prop} {XC : String → State → State → Prop} {mc ms : Nat} {free : Addr → Prop} {cc : ByteArray} {maxL : Nat} {ret : Option FieldType} {hh : List (Nat × Nat × Nat × Nat)}
    (hy : plainName y.cls = true) (hw : ws = Cond.codeWith y cc maxL ret hh :: ws')
    (body : ∀ p e s m args below meth c s₁, BodyLoose p l y (headSpec ws rm) cc maxL ret e s m args below meth c s₁ → c.maxLocals = maxL → Pc args s →
      W p l e (headSpec ws rm).room s m args below meth c s.heap [] 0 0 (vx_MQ below Qc XC args s mc ms free) (entryFrame m args maxL)) : vx_Met l y ws rm Pc Qc XC mc ms free := by
  refine MetFree.of_bodyS (code := cc) (maxLocals := maxL) (ret := ret) hy ?_ ?_
  · intro args s m h hn
    obtain ⟨m9, meth, c, hn9, h1, h2, h3, h4, -, h5, h6, -⟩ := Cond.codeWith_spec (atoms_spec (ws := ws) h _ (by rw [hw]; exact List.mem_cons_self))
    cases hn.symm.trans hn9
    exact ⟨meth, c, h1, h2, h3, h4, h5, h6⟩
  · intro p e s m args below meth c s₁ B hml hP _
    have hh0 : s₁.heap = s.heap := by rw [B.state]; rfl
    obtain ⟨t, a1, o, b1, b2, b3⟩ := body p e s m args below meth c s₁ B hml hP s₁ hh0 (Stand.of_body B)
    exact ⟨t, o, a1, b1, b2, b3⟩
/-! ===== END ===== -/
end
section
def R_PC : String := "PaxosCommit"
def T_PC : u_T := fun k => match k with
  | 0 => ("PaxosCommit", "stores", "[LPaxosCommit$Store;", true)
  | 1 => ("PaxosCommit", "acceptors", "[LPaxosCommit$Acceptor;", true)
  | 2 => ("PaxosCommit", "ledgers", "[LPaxosCommit$Ledger;", true)
  | 3 => ("PaxosCommit", "majority", "I", true)
  | 4 => ("PaxosCommit", "upSets", "[I", true)
  | 5 => ("PaxosCommit", "net", "LPaxosCommit$Net;", true)
  | 6 => ("PaxosCommit", "members", "[I", true)
  | 7 => ("PaxosCommit", "closed", "[Z", true)
  | _ => ("PaxosCommit", "begun", "I", false)
def t_PC : Nat → FieldType := fun k => match k with
  | 0 => (.array (.object "PaxosCommit$Store"))
  | 1 => (.array (.object "PaxosCommit$Acceptor"))
  | 2 => (.array (.object "PaxosCommit$Ledger"))
  | 3 => .int
  | 4 => (.array .int)
  | 5 => (.object "PaxosCommit$Net")
  | 6 => (.array .int)
  | 7 => (.array .boolean)
  | _ => .int
theorem n_PC : ∀ a, a < 9 → ∀ b, b < 9 → a ≠ b → (T_PC a).2.1 ≠ (T_PC b).2.1 := by decide +kernel
theorem t_PC_ok : ∀ k, k < 9 → parseFieldDescriptor (T_PC k).2.2.1 = some (t_PC k) := by decide +kernel
def R_Store : String := "PaxosCommit$Store"
def T_Store : u_T := fun k => match k with
  | 0 => ("PaxosCommit$Store", "values", "[I", true)
  | 1 => ("PaxosCommit$Store", "locks", "[I", true)
  | 2 => ("PaxosCommit$Store", "states", "[I", true)
  | 3 => ("PaxosCommit$Store", "written", "[I", true)
  | _ => ("PaxosCommit$Store", "writes", "[[I", true)
def t_Store : Nat → FieldType := fun k => match k with
  | 0 => (.array .int)
  | 1 => (.array .int)
  | 2 => (.array .int)
  | 3 => (.array .int)
  | _ => (.array (.array .int))
theorem n_Store : ∀ a, a < 5 → ∀ b, b < 5 → a ≠ b → (T_Store a).2.1 ≠ (T_Store b).2.1 := by decide +kernel
theorem t_Store_ok : ∀ k, k < 5 → parseFieldDescriptor (T_Store k).2.2.1 = some (t_Store k) := by decide +kernel
def R_Acc : String := "PaxosCommit$Acceptor"
def T_Acc : u_T := fun k => match k with
  | 0 => ("PaxosCommit$Acceptor", "promises", "[[I", true)
  | _ => ("PaxosCommit$Acceptor", "accepted", "[[I", true)
def t_Acc : Nat → FieldType := fun k => match k with
  | 0 => (.array (.array .int))
  | _ => (.array (.array .int))
theorem n_Acc : ∀ a, a < 2 → ∀ b, b < 2 → a ≠ b → (T_Acc a).2.1 ≠ (T_Acc b).2.1 := by decide +kernel
theorem t_Acc_ok : ∀ k, k < 2 → parseFieldDescriptor (T_Acc k).2.2.1 = some (t_Acc k) := by decide +kernel
def R_Led : String := "PaxosCommit$Ledger"
def T_Led : u_T := fun k => match k with
  | 0 => ("PaxosCommit$Ledger", "ballot", "I", false)
  | 1 => ("PaxosCommit$Ledger", "proposed", "Z", false)
  | 2 => ("PaxosCommit$Ledger", "known", "I", false)
  | 3 => ("PaxosCommit$Ledger", "hasReply", "[Z", true)
  | 4 => ("PaxosCommit$Ledger", "replies", "[[I", true)
  | _ => ("PaxosCommit$Ledger", "latest", "[[I", true)
def t_Led : Nat → FieldType := fun k => match k with
  | 0 => .int
  | 1 => .boolean
  | 2 => .int
  | 3 => (.array .boolean)
  | 4 => (.array (.array .int))
  | _ => (.array (.array .int))
theorem n_Led : ∀ a, a < 6 → ∀ b, b < 6 → a ≠ b → (T_Led a).2.1 ≠ (T_Led b).2.1 := by decide +kernel
theorem t_Led_ok : ∀ k, k < 6 → parseFieldDescriptor (T_Led k).2.2.1 = some (t_Led k) := by decide +kernel
def R_Msg : String := "PaxosCommit$Message"
def T_Msg : u_T := fun k => match k with
  | 0 => ("PaxosCommit$Message", "kind", "I", false)
  | 1 => ("PaxosCommit$Message", "transaction", "I", false)
  | 2 => ("PaxosCommit$Message", "store", "I", false)
  | 3 => ("PaxosCommit$Message", "acceptor", "I", false)
  | 4 => ("PaxosCommit$Message", "leader", "I", false)
  | 5 => ("PaxosCommit$Message", "ballot", "I", false)
  | 6 => ("PaxosCommit$Message", "vote", "I", false)
  | _ => ("PaxosCommit$Message", "replied", "[I", true)
def t_Msg : Nat → FieldType := fun k => match k with
  | 0 => .int
  | 1 => .int
  | 2 => .int
  | 3 => .int
  | 4 => .int
  | 5 => .int
  | 6 => .int
  | _ => (.array .int)
theorem n_Msg : ∀ a, a < 8 → ∀ b, b < 8 → a ≠ b → (T_Msg a).2.1 ≠ (T_Msg b).2.1 := by decide +kernel
theorem t_Msg_ok : ∀ k, k < 8 → parseFieldDescriptor (T_Msg k).2.2.1 = some (t_Msg k) := by decide +kernel
def R_Net : String := "PaxosCommit$Net"
def T_Net : u_T := fun k => match k with
  | 0 => ("PaxosCommit$Net", "row", "[LPaxosCommit$Message;", true)
  | 1 => ("PaxosCommit$Net", "size", "I", false)
  | 2 => ("PaxosCommit$Net", "overflowed", "I", false)
  | 3 => ("PaxosCommit$Net", "draft", "LPaxosCommit$Message;", true)
  | _ => ("PaxosCommit$Net", "hand", "LPaxosCommit$Message;", true)
def t_Net : Nat → FieldType := fun k => match k with
  | 0 => (.array (.object "PaxosCommit$Message"))
  | 1 => .int
  | 2 => .int
  | 3 => (.object "PaxosCommit$Message")
  | _ => (.object "PaxosCommit$Message")
theorem n_Net : ∀ a, a < 5 → ∀ b, b < 5 → a ≠ b → (T_Net a).2.1 ≠ (T_Net b).2.1 := by decide +kernel
theorem t_Net_ok : ∀ k, k < 5 → parseFieldDescriptor (T_Net k).2.2.1 = some (t_Net k) := by decide +kernel
def R_Mo : String := "PaxosCommitModel"
def T_Mo : u_T := fun k => match k with
  | 0 => ("PaxosCommitModel", "failed", "I", false)
  | 1 => ("PaxosCommitModel", "n", "I", true)
  | 2 => ("PaxosCommitModel", "storeDown", "[Z", true)
  | 3 => ("PaxosCommitModel", "acceptorDown", "[Z", true)
  | 4 => ("PaxosCommitModel", "leaderDown", "[Z", true)
  | 5 => ("PaxosCommitModel", "value", "[I", true)
  | 6 => ("PaxosCommitModel", "lock", "[I", true)
  | 7 => ("PaxosCommitModel", "transactions", "I", false)
  | 8 => ("PaxosCommitModel", "members", "[I", true)
  | 9 => ("PaxosCommitModel", "closed", "[Z", true)
  | 10 => ("PaxosCommitModel", "state", "[I", true)
  | 11 => ("PaxosCommitModel", "writes", "[I", true)
  | 12 => ("PaxosCommitModel", "written", "[I", true)
  | 13 => ("PaxosCommitModel", "promised", "[I", true)
  | 14 => ("PaxosCommitModel", "takenBallot", "[I", true)
  | 15 => ("PaxosCommitModel", "takenVote", "[I", true)
  | 16 => ("PaxosCommitModel", "ballot", "[I", true)
  | 17 => ("PaxosCommitModel", "proposed", "[Z", true)
  | 18 => ("PaxosCommitModel", "known", "[I", true)
  | 19 => ("PaxosCommitModel", "replied", "[Z", true)
  | 20 => ("PaxosCommitModel", "replyBallot", "[I", true)
  | 21 => ("PaxosCommitModel", "replyVote", "[I", true)
  | 22 => ("PaxosCommitModel", "latestBallot", "[I", true)
  | 23 => ("PaxosCommitModel", "latestVote", "[I", true)
  | 24 => ("PaxosCommitModel", "net", "[I", true)
  | 25 => ("PaxosCommitModel", "size", "I", false)
  | _ => ("PaxosCommitModel", "lost", "I", false)
def t_Mo : Nat → FieldType := fun k => match k with
  | 0 => .int
  | 1 => .int
  | 2 => (.array .boolean)
  | 3 => (.array .boolean)
  | 4 => (.array .boolean)
  | 5 => (.array .int)
  | 6 => (.array .int)
  | 7 => .int
  | 8 => (.array .int)
  | 9 => (.array .boolean)
  | 10 => (.array .int)
  | 11 => (.array .int)
  | 12 => (.array .int)
  | 13 => (.array .int)
  | 14 => (.array .int)
  | 15 => (.array .int)
  | 16 => (.array .int)
  | 17 => (.array .boolean)
  | 18 => (.array .int)
  | 19 => (.array .boolean)
  | 20 => (.array .int)
  | 21 => (.array .int)
  | 22 => (.array .int)
  | 23 => (.array .int)
  | 24 => (.array .int)
  | 25 => .int
  | _ => .int
theorem n_Mo : ∀ a, a < 27 → ∀ b, b < 27 → a ≠ b → (T_Mo a).2.1 ≠ (T_Mo b).2.1 := by decide +kernel
theorem t_Mo_ok : ∀ k, k < 27 → parseFieldDescriptor (T_Mo k).2.2.1 = some (t_Mo k) := by decide +kernel
def R_SB : String := "java/lang/StringBuilder"
def T_SB : u_T := fun k => match k with
  | 0 => ("java/lang/AbstractStringBuilder", "value", "[B", false)
  | 1 => ("java/lang/AbstractStringBuilder", "coder", "B", false)
  | 2 => ("java/lang/AbstractStringBuilder", "maybeLatin1", "Z", false)
  | _ => ("java/lang/AbstractStringBuilder", "count", "I", false)
def t_SB : Nat → FieldType := fun k => match k with
  | 0 => (.array .byte)
  | 1 => .byte
  | 2 => .boolean
  | _ => .int
theorem n_SB : ∀ a, a < 4 → ∀ b, b < 4 → a ≠ b → (T_SB a).2.1 ≠ (T_SB b).2.1 := by decide +kernel
theorem t_SB_ok : ∀ k, k < 4 → parseFieldDescriptor (T_SB k).2.2.1 = some (t_SB k) := by decide +kernel
def R_Law : String := "PaxosCommitLaw"
abbrev gcl : List vw_C := [(R_PC, T_PC, 9), (R_Store, T_Store, 5), (R_Acc, T_Acc, 2), (R_Led, T_Led, 6), (R_Msg, T_Msg, 8), (R_Net, T_Net, 5), (R_Mo, T_Mo, 27), (R_SB, T_SB, 4)]
abbrev iPC : Nat := 0
abbrev iStore : Nat := 1
abbrev iAcc : Nat := 2
abbrev iLed : Nat := 3
abbrev iMsg : Nat := 4
abbrev iNet : Nat := 5
abbrev iMo : Nat := 6
abbrev iSB : Nat := 7
abbrev gclMsg : vw_C := (R_Msg, T_Msg, 8)
def R_AbstractStringBuilder : String := "java/lang/AbstractStringBuilder"
def R_Integer : String := "java/lang/Integer"
def R_Math : String := "java/lang/Math"
def R_Object : String := "java/lang/Object"
def R_String : String := "java/lang/String"
def R_StringLatin1 : String := "java/lang/StringLatin1"
def R_Arrays : String := "java/util/Arrays"
def R_ArraysSupport : String := "jdk/internal/util/ArraysSupport"
def R_Preconditions : String := "jdk/internal/util/Preconditions"
abbrev b_AbstractStringBuilder_append_C : ByteArray := prog_9_method_31_code
def y_AbstractStringBuilder_append_C : MethodName := ⟨R_AbstractStringBuilder, "append", "(C)Ljava/lang/AbstractStringBuilder;"⟩
abbrev b_AbstractStringBuilder_append_I : ByteArray := prog_9_method_32_code
def y_AbstractStringBuilder_append_I : MethodName := ⟨R_AbstractStringBuilder, "append", "(I)Ljava/lang/AbstractStringBuilder;"⟩
abbrev b_AbstractStringBuilder_charAt : ByteArray := prog_9_method_14_code
def y_AbstractStringBuilder_charAt : MethodName := ⟨R_AbstractStringBuilder, "charAt", "(I)C"⟩
abbrev b_AbstractStringBuilder_ensureCapacityInternal : ByteArray := prog_9_method_9_code
def y_AbstractStringBuilder_ensureCapacityInternal : MethodName := ⟨R_AbstractStringBuilder, "ensureCapacityInternal", "(I)V"⟩
abbrev b_AbstractStringBuilder_init : ByteArray := prog_9_method_2_code
def y_AbstractStringBuilder_init : MethodName := ⟨R_AbstractStringBuilder, "<init>", "(I)V"⟩
abbrev b_AbstractStringBuilder_isLatin1 : ByteArray := prog_9_method_68_code
def y_AbstractStringBuilder_isLatin1 : MethodName := ⟨R_AbstractStringBuilder, "isLatin1", "()Z"⟩
abbrev b_AbstractStringBuilder_length : ByteArray := prog_9_method_6_code
def y_AbstractStringBuilder_length : MethodName := ⟨R_AbstractStringBuilder, "length", "()I"⟩
abbrev b_AbstractStringBuilder_newCapacity : ByteArray := prog_9_method_10_code
def y_AbstractStringBuilder_newCapacity : MethodName := ⟨R_AbstractStringBuilder, "newCapacity", "(I)I"⟩
abbrev b_Acc_accept : ByteArray := prog_2_method_4_code
def y_Acc_accept : MethodName := ⟨R_Acc, "accept", "(IIII)V"⟩
abbrev b_Acc_hasPromisedAbove : ByteArray := prog_2_method_2_code
def y_Acc_hasPromisedAbove : MethodName := ⟨R_Acc, "hasPromisedAbove", "(III)Z"⟩
abbrev b_Acc_init : ByteArray := prog_2_method_1_code
def y_Acc_init : MethodName := ⟨R_Acc, "<init>", "()V"⟩
abbrev b_Acc_promise : ByteArray := prog_2_method_3_code
def y_Acc_promise : MethodName := ⟨R_Acc, "promise", "(III)V"⟩
abbrev b_ArraysSupport_newLength : ByteArray := prog_27_method_27_code
def y_ArraysSupport_newLength : MethodName := ⟨R_ArraysSupport, "newLength", "(III)I"⟩
abbrev b_Arrays_copyOf : ByteArray := prog_25_method_121_code
def y_Arrays_copyOf : MethodName := ⟨R_Arrays, "copyOf", "([BI)[B"⟩
abbrev b_Arrays_fill : ByteArray := prog_25_method_103_code
def y_Arrays_fill : MethodName := ⟨R_Arrays, "fill", "([II)V"⟩
abbrev b_Integer_bitCount : ByteArray := prog_15_method_49_code
def y_Integer_bitCount : MethodName := ⟨R_Integer, "bitCount", "(I)I"⟩
abbrev b_Integer_getChars : ByteArray := prog_15_method_12_code
def y_Integer_getChars : MethodName := ⟨R_Integer, "getChars", "(II[B)I"⟩
abbrev b_Integer_stringSize : ByteArray := prog_15_method_13_code
def y_Integer_stringSize : MethodName := ⟨R_Integer, "stringSize", "(I)I"⟩
abbrev b_Law_begin : ByteArray := method_3_code
def y_Law_begin : MethodName := ⟨R_Law, "begin", "(LPaxosCommit;[J)I"⟩
abbrev b_Law_cell : ByteArray := method_2_code
def y_Law_cell : MethodName := ⟨R_Law, "cell", "([II)I"⟩
abbrev b_Law_count : ByteArray := method_17_code
def y_Law_count : MethodName := ⟨R_Law, "count", "(LPaxosCommit;I[J)I"⟩
abbrev b_Law_deliver : ByteArray := method_8_code
def y_Law_deliver : MethodName := ⟨R_Law, "deliver", "(LPaxosCommit;IZ[J)I"⟩
abbrev b_Law_lock : ByteArray := method_13_code
def y_Law_lock : MethodName := ⟨R_Law, "lock", "(LPaxosCommit;II[J)I"⟩
abbrev b_Law_lose : ByteArray := method_9_code
def y_Law_lose : MethodName := ⟨R_Law, "lose", "(LPaxosCommit;I[J)I"⟩
abbrev b_Law_outcome : ByteArray := method_15_code
def y_Law_outcome : MethodName := ⟨R_Law, "outcome", "(LPaxosCommit;II[J)I"⟩
abbrev b_Law_refuse : ByteArray := method_6_code
def y_Law_refuse : MethodName := ⟨R_Law, "refuse", "(LPaxosCommit;II[J)I"⟩
abbrev b_Law_request : ByteArray := method_5_code
def y_Law_request : MethodName := ⟨R_Law, "request", "(LPaxosCommit;I[J)I"⟩
abbrev b_Law_state : ByteArray := method_14_code
def y_Law_state : MethodName := ⟨R_Law, "state", "(LPaxosCommit;II[J)I"⟩
abbrev b_Law_take : ByteArray := method_7_code
def y_Law_take : MethodName := ⟨R_Law, "take", "(LPaxosCommit;II[J)I"⟩
abbrev b_Law_taken : ByteArray := method_16_code
def y_Law_taken : MethodName := ⟨R_Law, "taken", "(LPaxosCommit;IIIZ[J)I"⟩
abbrev b_Law_text : ByteArray := method_11_code
def y_Law_text : MethodName := ⟨R_Law, "text", "(LPaxosCommit;II[J)I"⟩
abbrev b_Law_up : ByteArray := method_10_code
def y_Law_up : MethodName := ⟨R_Law, "up", "(LPaxosCommit;IIZ[J)I"⟩
abbrev b_Law_value : ByteArray := method_12_code
def y_Law_value : MethodName := ⟨R_Law, "value", "(LPaxosCommit;II[J)I"⟩
abbrev b_Law_write : ByteArray := method_4_code
def y_Law_write : MethodName := ⟨R_Law, "write", "(LPaxosCommit;IIII[J)I"⟩
abbrev b_Led_countReplies : ByteArray := prog_3_method_6_code
def y_Led_countReplies : MethodName := ⟨R_Led, "countReplies", "()I"⟩
abbrev b_Led_decidedVote : ByteArray := prog_3_method_10_code
def y_Led_decidedVote : MethodName := ⟨R_Led, "decidedVote", "(II)I"⟩
abbrev b_Led_dropReplies : ByteArray := prog_3_method_4_code
def y_Led_dropReplies : MethodName := ⟨R_Led, "dropReplies", "()V"⟩
abbrev b_Led_forget : ByteArray := prog_3_method_3_code
def y_Led_forget : MethodName := ⟨R_Led, "forget", "()V"⟩
abbrev b_Led_hear : ByteArray := prog_3_method_8_code
def y_Led_hear : MethodName := ⟨R_Led, "hear", "(IIII)V"⟩
abbrev b_Led_init : ByteArray := prog_3_method_1_code
def y_Led_init : MethodName := ⟨R_Led, "<init>", "(I)V"⟩
abbrev b_Led_judge : ByteArray := prog_3_method_9_code
def y_Led_judge : MethodName := ⟨R_Led, "judge", "(II)I"⟩
abbrev b_Led_keepReply : ByteArray := prog_3_method_5_code
def y_Led_keepReply : MethodName := ⟨R_Led, "keepReply", "(I[I)V"⟩
abbrev b_Led_raiseBallot : ByteArray := prog_3_method_2_code
def y_Led_raiseBallot : MethodName := ⟨R_Led, "raiseBallot", "(I)I"⟩
abbrev b_Led_voteToPropose : ByteArray := prog_3_method_7_code
def y_Led_voteToPropose : MethodName := ⟨R_Led, "voteToPropose", "(I)I"⟩
abbrev b_Math_floorMod : ByteArray := prog_16_method_50_code
def y_Math_floorMod : MethodName := ⟨R_Math, "floorMod", "(II)I"⟩
abbrev b_Math_max : ByteArray := prog_16_method_65_code
def y_Math_max : MethodName := ⟨R_Math, "max", "(II)I"⟩
abbrev b_Math_min : ByteArray := prog_16_method_69_code
def y_Math_min : MethodName := ⟨R_Math, "min", "(II)I"⟩
abbrev b_Mo_abort : ByteArray := prog_8_method_10_code
def y_Mo_abort : MethodName := ⟨R_Mo, "abort", "(II)V"⟩
abbrev b_Mo_accept : ByteArray := prog_8_method_21_code
def y_Mo_accept : MethodName := ⟨R_Mo, "accept", "(IIIII)V"⟩
abbrev b_Mo_arrive : ByteArray := prog_8_method_25_code
def y_Mo_arrive : MethodName := ⟨R_Mo, "arrive", "(I)V"⟩
abbrev b_Mo_ask : ByteArray := prog_8_method_18_code
def y_Mo_ask : MethodName := ⟨R_Mo, "ask", "(III)V"⟩
abbrev b_Mo_begin : ByteArray := prog_8_method_11_code
def y_Mo_begin : MethodName := ⟨R_Mo, "begin", "()I"⟩
abbrev b_Mo_count : ByteArray := prog_8_method_42_code
def y_Mo_count : MethodName := ⟨R_Mo, "count", "(I)I"⟩
abbrev b_Mo_decided : ByteArray := prog_8_method_22_code
def y_Mo_decided : MethodName := ⟨R_Mo, "decided", "(II)I"⟩
abbrev b_Mo_deliver : ByteArray := prog_8_method_27_code
def y_Mo_deliver : MethodName := ⟨R_Mo, "deliver", "(IZ)I"⟩
abbrev b_Mo_fail : ByteArray := prog_8_method_3_code
def y_Mo_fail : MethodName := ⟨R_Mo, "fail", "(I)I"⟩
abbrev b_Mo_finish : ByteArray := prog_8_method_24_code
def y_Mo_finish : MethodName := ⟨R_Mo, "finish", "(III)V"⟩
abbrev b_Mo_forget : ByteArray := prog_8_method_29_code
def y_Mo_forget : MethodName := ⟨R_Mo, "forget", "(I)V"⟩
abbrev b_Mo_init : ByteArray := prog_8_method_1_code
def y_Mo_init : MethodName := ⟨R_Mo, "<init>", "(I)V"⟩
abbrev b_Mo_lock : ByteArray := prog_8_method_37_code
def y_Mo_lock : MethodName := ⟨R_Mo, "lock", "(II)I"⟩
abbrev b_Mo_lose : ByteArray := prog_8_method_28_code
def y_Mo_lose : MethodName := ⟨R_Mo, "lose", "(I)I"⟩
abbrev b_Mo_member : ByteArray := prog_8_method_6_code
def y_Mo_member : MethodName := ⟨R_Mo, "member", "(II)Z"⟩
abbrev b_Mo_most : ByteArray := prog_8_method_5_code
def y_Mo_most : MethodName := ⟨R_Mo, "most", "()I"⟩
abbrev b_Mo_ones : ByteArray := prog_8_method_12_code
def y_Mo_ones : MethodName := ⟨R_Mo, "ones", "(I)I"⟩
abbrev b_Mo_out : ByteArray := prog_8_method_4_code
def y_Mo_out : MethodName := ⟨R_Mo, "out", "(II)Z"⟩
abbrev b_Mo_outcome : ByteArray := prog_8_method_39_code
def y_Mo_outcome : MethodName := ⟨R_Mo, "outcome", "(II)I"⟩
abbrev b_Mo_pass : ByteArray := prog_8_method_31_code
def y_Mo_pass : MethodName := ⟨R_Mo, "pass", "(II)I"⟩
abbrev b_Mo_passNumber : ByteArray := prog_8_method_32_code
def y_Mo_passNumber : MethodName := ⟨R_Mo, "passNumber", "(II)I"⟩
abbrev b_Mo_passPart : ByteArray := prog_8_method_33_code
def y_Mo_passPart : MethodName := ⟨R_Mo, "passPart", "(III)I"⟩
abbrev b_Mo_passVote : ByteArray := prog_8_method_34_code
def y_Mo_passVote : MethodName := ⟨R_Mo, "passVote", "(II)I"⟩
abbrev b_Mo_prepare : ByteArray := prog_8_method_17_code
def y_Mo_prepare : MethodName := ⟨R_Mo, "prepare", "(II)V"⟩
abbrev b_Mo_proposal : ByteArray := prog_8_method_19_code
def y_Mo_proposal : MethodName := ⟨R_Mo, "proposal", "(II)I"⟩
abbrev b_Mo_refuse : ByteArray := prog_8_method_15_code
def y_Mo_refuse : MethodName := ⟨R_Mo, "refuse", "(II)I"⟩
abbrev b_Mo_reply : ByteArray := prog_8_method_20_code
def y_Mo_reply : MethodName := ⟨R_Mo, "reply", "(IIIII)V"⟩
abbrev b_Mo_request : ByteArray := prog_8_method_14_code
def y_Mo_request : MethodName := ⟨R_Mo, "request", "(I)I"⟩
abbrev b_Mo_send : ByteArray := prog_8_method_7_code
def y_Mo_send : MethodName := ⟨R_Mo, "send", "(IIIIIII)Z"⟩
abbrev b_Mo_state : ByteArray := prog_8_method_38_code
def y_Mo_state : MethodName := ⟨R_Mo, "state", "(II)I"⟩
abbrev b_Mo_take : ByteArray := prog_8_method_16_code
def y_Mo_take : MethodName := ⟨R_Mo, "take", "(II)I"⟩
abbrev b_Mo_takeOut : ByteArray := prog_8_method_26_code
def y_Mo_takeOut : MethodName := ⟨R_Mo, "takeOut", "(IZ)V"⟩
abbrev b_Mo_taken : ByteArray := prog_8_method_40_code
def y_Mo_taken : MethodName := ⟨R_Mo, "taken", "(IIIZ)I"⟩
abbrev b_Mo_text : ByteArray := prog_8_method_35_code
def y_Mo_text : MethodName := ⟨R_Mo, "text", "(II)I"⟩
abbrev b_Mo_thrown : ByteArray := prog_8_method_2_code
def y_Mo_thrown : MethodName := ⟨R_Mo, "thrown", "()I"⟩
abbrev b_Mo_told : ByteArray := prog_8_method_23_code
def y_Mo_told : MethodName := ⟨R_Mo, "told", "(IIIIII)V"⟩
abbrev b_Mo_unlock : ByteArray := prog_8_method_9_code
def y_Mo_unlock : MethodName := ⟨R_Mo, "unlock", "(II)V"⟩
abbrev b_Mo_up : ByteArray := prog_8_method_30_code
def y_Mo_up : MethodName := ⟨R_Mo, "up", "(IIZ)Z"⟩
abbrev b_Mo_upSet : ByteArray := prog_8_method_41_code
def y_Mo_upSet : MethodName := ⟨R_Mo, "upSet", "([ZI)I"⟩
abbrev b_Mo_value : ByteArray := prog_8_method_36_code
def y_Mo_value : MethodName := ⟨R_Mo, "value", "(II)I"⟩
abbrev b_Mo_vote : ByteArray := prog_8_method_8_code
def y_Mo_vote : MethodName := ⟨R_Mo, "vote", "(IIII)V"⟩
abbrev b_Mo_write : ByteArray := prog_8_method_13_code
def y_Mo_write : MethodName := ⟨R_Mo, "write", "(IIII)I"⟩
abbrev b_Msg_clear : ByteArray := prog_4_method_2_code
def y_Msg_clear : MethodName := ⟨R_Msg, "clear", "(II)V"⟩
abbrev b_Msg_copyFrom : ByteArray := prog_4_method_3_code
def y_Msg_copyFrom : MethodName := ⟨R_Msg, "copyFrom", "(LPaxosCommit$Message;)V"⟩
abbrev b_Msg_init : ByteArray := prog_4_method_1_code
def y_Msg_init : MethodName := ⟨R_Msg, "<init>", "()V"⟩
abbrev b_Msg_receiver : ByteArray := prog_4_method_5_code
def y_Msg_receiver : MethodName := ⟨R_Msg, "receiver", "()I"⟩
abbrev b_Msg_receiverKind : ByteArray := prog_4_method_4_code
def y_Msg_receiverKind : MethodName := ⟨R_Msg, "receiverKind", "()I"⟩
abbrev b_Msg_spell : ByteArray := prog_4_method_6_code
def y_Msg_spell : MethodName := ⟨R_Msg, "spell", "(Ljava/lang/StringBuilder;)V"⟩
abbrev b_Msg_spellPart : ByteArray := prog_4_method_7_code
def y_Msg_spellPart : MethodName := ⟨R_Msg, "spellPart", "(Ljava/lang/StringBuilder;CI)V"⟩
abbrev b_Msg_spellReplied : ByteArray := prog_4_method_8_code
def y_Msg_spellReplied : MethodName := ⟨R_Msg, "spellReplied", "(Ljava/lang/StringBuilder;I)V"⟩
abbrev b_Net_compose : ByteArray := prog_5_method_2_code
def y_Net_compose : MethodName := ⟨R_Net, "compose", "(II)LPaxosCommit$Message;"⟩
abbrev b_Net_init : ByteArray := prog_5_method_1_code
def y_Net_init : MethodName := ⟨R_Net, "<init>", "()V"⟩
abbrev b_Net_pick : ByteArray := prog_5_method_4_code
def y_Net_pick : MethodName := ⟨R_Net, "pick", "(I)LPaxosCommit$Message;"⟩
abbrev b_Net_remove : ByteArray := prog_5_method_5_code
def y_Net_remove : MethodName := ⟨R_Net, "remove", "(I)V"⟩
abbrev b_Net_send : ByteArray := prog_5_method_3_code
def y_Net_send : MethodName := ⟨R_Net, "send", "(LPaxosCommit$Message;)V"⟩
abbrev b_Object_init : ByteArray := object_method_1_code
def y_Object_init : MethodName := ⟨R_Object, "<init>", "()V"⟩
abbrev b_PC_arrive : ByteArray := prog_1_method_27_code
def y_PC_arrive : MethodName := ⟨R_PC, "arrive", "(LPaxosCommit$Message;)V"⟩
abbrev b_PC_arriveAsk : ByteArray := prog_1_method_29_code
def y_PC_arriveAsk : MethodName := ⟨R_PC, "arriveAsk", "(LPaxosCommit$Message;)V"⟩
abbrev b_PC_arriveOutcome : ByteArray := prog_1_method_33_code
def y_PC_arriveOutcome : MethodName := ⟨R_PC, "arriveOutcome", "(LPaxosCommit$Message;)V"⟩
abbrev b_PC_arrivePrepare : ByteArray := prog_1_method_28_code
def y_PC_arrivePrepare : MethodName := ⟨R_PC, "arrivePrepare", "(LPaxosCommit$Message;)V"⟩
abbrev b_PC_arriveReply : ByteArray := prog_1_method_30_code
def y_PC_arriveReply : MethodName := ⟨R_PC, "arriveReply", "(LPaxosCommit$Message;)V"⟩
abbrev b_PC_arriveTold : ByteArray := prog_1_method_32_code
def y_PC_arriveTold : MethodName := ⟨R_PC, "arriveTold", "(LPaxosCommit$Message;)V"⟩
abbrev b_PC_arriveVote : ByteArray := prog_1_method_31_code
def y_PC_arriveVote : MethodName := ⟨R_PC, "arriveVote", "(LPaxosCommit$Message;)V"⟩
abbrev b_PC_ballotOf : ByteArray := prog_1_method_41_code
def y_PC_ballotOf : MethodName := ⟨R_PC, "ballotOf", "(I)I"⟩
abbrev b_PC_begin : ByteArray := prog_1_method_2_code
def y_PC_begin : MethodName := ⟨R_PC, "begin", "()I"⟩
abbrev b_PC_checkBegun : ByteArray := prog_1_method_18_code
def y_PC_checkBegun : MethodName := ⟨R_PC, "checkBegun", "(I)V"⟩
abbrev b_PC_checkMessage : ByteArray := prog_1_method_20_code
def y_PC_checkMessage : MethodName := ⟨R_PC, "checkMessage", "(I)V"⟩
abbrev b_PC_checkRange : ByteArray := prog_1_method_17_code
def y_PC_checkRange : MethodName := ⟨R_PC, "checkRange", "(II)V"⟩
abbrev b_PC_checkUp : ByteArray := prog_1_method_19_code
def y_PC_checkUp : MethodName := ⟨R_PC, "checkUp", "(II)V"⟩
abbrev b_PC_count : ByteArray := prog_1_method_16_code
def y_PC_count : MethodName := ⟨R_PC, "count", "(I)I"⟩
abbrev b_PC_deliver : ByteArray := prog_1_method_7_code
def y_PC_deliver : MethodName := ⟨R_PC, "deliver", "(IZ)I"⟩
abbrev b_PC_has : ByteArray := prog_1_method_21_code
def y_PC_has : MethodName := ⟨R_PC, "has", "(II)Z"⟩
abbrev b_PC_howMany : ByteArray := prog_1_method_24_code
def y_PC_howMany : MethodName := ⟨R_PC, "howMany", "(I)I"⟩
abbrev b_PC_init : ByteArray := prog_1_method_1_code
def y_PC_init : MethodName := ⟨R_PC, "<init>", "(I)V"⟩
abbrev b_PC_ledger : ByteArray := prog_1_method_25_code
def y_PC_ledger : MethodName := ⟨R_PC, "ledger", "(II)LPaxosCommit$Ledger;"⟩
abbrev b_PC_lock : ByteArray := prog_1_method_12_code
def y_PC_lock : MethodName := ⟨R_PC, "lock", "(II)I"⟩
abbrev b_PC_lose : ByteArray := prog_1_method_8_code
def y_PC_lose : MethodName := ⟨R_PC, "lose", "(I)I"⟩
abbrev b_PC_outcome : ByteArray := prog_1_method_14_code
def y_PC_outcome : MethodName := ⟨R_PC, "outcome", "(II)I"⟩
abbrev b_PC_pack : ByteArray := prog_1_method_40_code
def y_PC_pack : MethodName := ⟨R_PC, "pack", "(II)I"⟩
abbrev b_PC_refuse : ByteArray := prog_1_method_5_code
def y_PC_refuse : MethodName := ⟨R_PC, "refuse", "(II)I"⟩
abbrev b_PC_request : ByteArray := prog_1_method_4_code
def y_PC_request : MethodName := ⟨R_PC, "request", "(I)I"⟩
abbrev b_PC_sendAsks : ByteArray := prog_1_method_37_code
def y_PC_sendAsks : MethodName := ⟨R_PC, "sendAsks", "(II)V"⟩
abbrev b_PC_sendOutcomes : ByteArray := prog_1_method_34_code
def y_PC_sendOutcomes : MethodName := ⟨R_PC, "sendOutcomes", "(II)V"⟩
abbrev b_PC_sendReply : ByteArray := prog_1_method_38_code
def y_PC_sendReply : MethodName := ⟨R_PC, "sendReply", "(III)V"⟩
abbrev b_PC_sendToStore : ByteArray := prog_1_method_35_code
def y_PC_sendToStore : MethodName := ⟨R_PC, "sendToStore", "(IIII)V"⟩
abbrev b_PC_sendTold : ByteArray := prog_1_method_39_code
def y_PC_sendTold : MethodName := ⟨R_PC, "sendTold", "(LPaxosCommit$Message;I)V"⟩
abbrev b_PC_sendVotes : ByteArray := prog_1_method_36_code
def y_PC_sendVotes : MethodName := ⟨R_PC, "sendVotes", "(IIII)V"⟩
abbrev b_PC_state : ByteArray := prog_1_method_13_code
def y_PC_state : MethodName := ⟨R_PC, "state", "(II)I"⟩
abbrev b_PC_stop : ByteArray := prog_1_method_26_code
def y_PC_stop : MethodName := ⟨R_PC, "stop", "(II)V"⟩
abbrev b_PC_take : ByteArray := prog_1_method_6_code
def y_PC_take : MethodName := ⟨R_PC, "take", "(II)I"⟩
abbrev b_PC_taken : ByteArray := prog_1_method_15_code
def y_PC_taken : MethodName := ⟨R_PC, "taken", "(IIIZ)I"⟩
abbrev b_PC_text : ByteArray := prog_1_method_10_code
def y_PC_text : MethodName := ⟨R_PC, "text", "(II)I"⟩
abbrev b_PC_up : ByteArray := prog_1_method_9_code
def y_PC_up : MethodName := ⟨R_PC, "up", "(IIZ)Z"⟩
abbrev b_PC_value : ByteArray := prog_1_method_11_code
def y_PC_value : MethodName := ⟨R_PC, "value", "(II)I"⟩
abbrev b_PC_voteOf : ByteArray := prog_1_method_42_code
def y_PC_voteOf : MethodName := ⟨R_PC, "voteOf", "(I)I"⟩
abbrev b_PC_with : ByteArray := prog_1_method_22_code
def y_PC_with : MethodName := ⟨R_PC, "with", "(II)I"⟩
abbrev b_PC_without : ByteArray := prog_1_method_23_code
def y_PC_without : MethodName := ⟨R_PC, "without", "(II)I"⟩
abbrev b_PC_write : ByteArray := prog_1_method_3_code
def y_PC_write : MethodName := ⟨R_PC, "write", "(IIII)I"⟩
abbrev b_Preconditions_checkIndex : ByteArray := prog_28_method_11_code
def y_Preconditions_checkIndex : MethodName := ⟨R_Preconditions, "checkIndex", "(IILjava/util/function/BiFunction;)I"⟩
abbrev b_SB_append_C : ByteArray := prog_19_method_14_code
def y_SB_append_C : MethodName := ⟨R_SB, "append", "(C)Ljava/lang/StringBuilder;"⟩
abbrev b_SB_append_I : ByteArray := prog_19_method_15_code
def y_SB_append_I : MethodName := ⟨R_SB, "append", "(I)Ljava/lang/StringBuilder;"⟩
abbrev b_SB_charAt : ByteArray := prog_19_method_88_code
def y_SB_charAt : MethodName := ⟨R_SB, "charAt", "(I)C"⟩
abbrev b_SB_init : ByteArray := prog_19_method_1_code
def y_SB_init : MethodName := ⟨R_SB, "<init>", "()V"⟩
abbrev b_SB_length : ByteArray := prog_19_method_93_code
def y_SB_length : MethodName := ⟨R_SB, "length", "()I"⟩
abbrev b_Store_abort : ByteArray := prog_6_method_7_code
def y_Store_abort : MethodName := ⟨R_Store, "abort", "(I)V"⟩
abbrev b_Store_abortWork : ByteArray := prog_6_method_8_code
def y_Store_abortWork : MethodName := ⟨R_Store, "abortWork", "()V"⟩
abbrev b_Store_commit : ByteArray := prog_6_method_6_code
def y_Store_commit : MethodName := ⟨R_Store, "commit", "(I)V"⟩
abbrev b_Store_init : ByteArray := prog_6_method_1_code
def y_Store_init : MethodName := ⟨R_Store, "<init>", "()V"⟩
abbrev b_Store_isLockedByAnother : ByteArray := prog_6_method_2_code
def y_Store_isLockedByAnother : MethodName := ⟨R_Store, "isLockedByAnother", "(II)Z"⟩
abbrev b_Store_isOpenFor : ByteArray := prog_6_method_3_code
def y_Store_isOpenFor : MethodName := ⟨R_Store, "isOpenFor", "(I)Z"⟩
abbrev b_Store_keep : ByteArray := prog_6_method_4_code
def y_Store_keep : MethodName := ⟨R_Store, "keep", "(III)V"⟩
abbrev b_Store_keysWritten : ByteArray := prog_6_method_5_code
def y_Store_keysWritten : MethodName := ⟨R_Store, "keysWritten", "(I)I"⟩
abbrev b_Store_unlock : ByteArray := prog_6_method_9_code
def y_Store_unlock : MethodName := ⟨R_Store, "unlock", "(I)V"⟩
abbrev b_StringLatin1_canEncode : ByteArray := prog_20_method_3_code
def y_StringLatin1_canEncode : MethodName := ⟨R_StringLatin1, "canEncode", "(C)Z"⟩
abbrev b_StringLatin1_charAt : ByteArray := prog_20_method_2_code
def y_StringLatin1_charAt : MethodName := ⟨R_StringLatin1, "charAt", "([BI)C"⟩
abbrev b_String_charAt : ByteArray := prog_18_method_56_code
def y_String_charAt : MethodName := ⟨R_String, "charAt", "(I)C"⟩
abbrev b_String_checkIndex : ByteArray := prog_18_method_155_code
def y_String_checkIndex : MethodName := ⟨R_String, "checkIndex", "(II)V"⟩
abbrev b_String_isLatin1 : ByteArray := prog_18_method_154_code
def y_String_isLatin1 : MethodName := ⟨R_String, "isLatin1", "()Z"⟩
def WS : List Cond := lw_tbl.filter goodWord
theorem WS_good : WS.all goodWord = true := List.all_eq_true.mpr fun _ h => (List.mem_filter.mp h).2
abbrev NWf : List (String × Nat × String × String × String × String) := [(R_PC, 239, "PaxosCommit$Message", "kind", "I", "PaxosCommit"), (R_PC, 263, "PaxosCommit$Message", "transaction", "I", "PaxosCommit"), (R_PC, 260, "PaxosCommit$Message", "store", "I", "PaxosCommit"), (R_PC, 266, "PaxosCommit$Message", "acceptor", "I", "PaxosCommit"), (R_PC, 282, "PaxosCommit$Message", "leader", "I", "PaxosCommit"), (R_PC, 269, "PaxosCommit$Message", "ballot", "I", "PaxosCommit"), (R_PC, 303, "PaxosCommit$Message", "vote", "I", "PaxosCommit"), (R_PC, 290, "PaxosCommit$Message", "replied", "[I", "PaxosCommit"), (R_PC, 174, "PaxosCommit$Net", "row", "[LPaxosCommit$Message;", "PaxosCommit"), (R_PC, 154, "PaxosCommit$Net", "size", "I", "PaxosCommit"), (R_PC, 210, "PaxosCommit$Net", "overflowed", "I", "PaxosCommit"), (R_PC, 192, "PaxosCommit$Store", "values", "[I", "PaxosCommit"), (R_PC, 195, "PaxosCommit$Store", "locks", "[I", "PaxosCommit"), (R_PC, 117, "PaxosCommit$Store", "states", "[I", "PaxosCommit"), (R_PC, 203, "PaxosCommit$Acceptor", "promises", "[[I", "PaxosCommit"), (R_PC, 207, "PaxosCommit$Acceptor", "accepted", "[[I", "PaxosCommit"), (R_PC, 285, "PaxosCommit$Ledger", "ballot", "I", "PaxosCommit"), (R_PC, 286, "PaxosCommit$Ledger", "proposed", "Z", "PaxosCommit"), (R_PC, 198, "PaxosCommit$Ledger", "known", "I", "PaxosCommit")]
abbrev NWm : List (String × Nat × MethodName × String) := [(R_Net, 24, y_Msg_init, "PaxosCommit"), (R_Store, 35, y_PC_with, "PaxosCommit"), (R_Acc, 25, y_PC_has, "PaxosCommit"), (R_Led, 49, y_PC_ballotOf, "PaxosCommit"), (R_Led, 53, y_PC_voteOf, "PaxosCommit"), (R_Acc, 29, y_PC_pack, "PaxosCommit"), (R_Led, 56, y_PC_pack, "PaxosCommit"), (R_Led, 59, y_PC_has, "PaxosCommit"), (R_Store, 45, y_PC_has, "PaxosCommit"), (R_Msg, 78, y_PC_ballotOf, "PaxosCommit"), (R_Msg, 82, y_PC_voteOf, "PaxosCommit")]
theorem kf_0 : (R_PC, 239, "PaxosCommit$Message", "kind", "I", "PaxosCommit") ∈ NWf := List.mem_of_getElem? (i := 0) rfl
theorem kf_1 : (R_PC, 263, "PaxosCommit$Message", "transaction", "I", "PaxosCommit") ∈ NWf := List.mem_of_getElem? (i := 1) rfl
theorem kf_2 : (R_PC, 260, "PaxosCommit$Message", "store", "I", "PaxosCommit") ∈ NWf := List.mem_of_getElem? (i := 2) rfl
theorem kf_3 : (R_PC, 266, "PaxosCommit$Message", "acceptor", "I", "PaxosCommit") ∈ NWf := List.mem_of_getElem? (i := 3) rfl
theorem kf_4 : (R_PC, 282, "PaxosCommit$Message", "leader", "I", "PaxosCommit") ∈ NWf := List.mem_of_getElem? (i := 4) rfl
theorem kf_5 : (R_PC, 269, "PaxosCommit$Message", "ballot", "I", "PaxosCommit") ∈ NWf := List.mem_of_getElem? (i := 5) rfl
theorem kf_6 : (R_PC, 303, "PaxosCommit$Message", "vote", "I", "PaxosCommit") ∈ NWf := List.mem_of_getElem? (i := 6) rfl
theorem kf_7 : (R_PC, 290, "PaxosCommit$Message", "replied", "[I", "PaxosCommit") ∈ NWf := List.mem_of_getElem? (i := 7) rfl
theorem kf_8 : (R_PC, 174, "PaxosCommit$Net", "row", "[LPaxosCommit$Message;", "PaxosCommit") ∈ NWf := List.mem_of_getElem? (i := 8) rfl
theorem kf_9 : (R_PC, 154, "PaxosCommit$Net", "size", "I", "PaxosCommit") ∈ NWf := List.mem_of_getElem? (i := 9) rfl
theorem kf_10 : (R_PC, 210, "PaxosCommit$Net", "overflowed", "I", "PaxosCommit") ∈ NWf := List.mem_of_getElem? (i := 10) rfl
theorem kf_11 : (R_PC, 192, "PaxosCommit$Store", "values", "[I", "PaxosCommit") ∈ NWf := List.mem_of_getElem? (i := 11) rfl
theorem kf_12 : (R_PC, 195, "PaxosCommit$Store", "locks", "[I", "PaxosCommit") ∈ NWf := List.mem_of_getElem? (i := 12) rfl
theorem kf_13 : (R_PC, 117, "PaxosCommit$Store", "states", "[I", "PaxosCommit") ∈ NWf := List.mem_of_getElem? (i := 13) rfl
theorem kf_14 : (R_PC, 203, "PaxosCommit$Acceptor", "promises", "[[I", "PaxosCommit") ∈ NWf := List.mem_of_getElem? (i := 14) rfl
theorem kf_15 : (R_PC, 207, "PaxosCommit$Acceptor", "accepted", "[[I", "PaxosCommit") ∈ NWf := List.mem_of_getElem? (i := 15) rfl
theorem kf_16 : (R_PC, 285, "PaxosCommit$Ledger", "ballot", "I", "PaxosCommit") ∈ NWf := List.mem_of_getElem? (i := 16) rfl
theorem kf_17 : (R_PC, 286, "PaxosCommit$Ledger", "proposed", "Z", "PaxosCommit") ∈ NWf := List.mem_of_getElem? (i := 17) rfl
theorem kf_18 : (R_PC, 198, "PaxosCommit$Ledger", "known", "I", "PaxosCommit") ∈ NWf := List.mem_of_getElem? (i := 18) rfl
theorem km_0 : (R_Net, 24, y_Msg_init, "PaxosCommit") ∈ NWm := List.mem_of_getElem? (i := 0) rfl
theorem km_1 : (R_Store, 35, y_PC_with, "PaxosCommit") ∈ NWm := List.mem_of_getElem? (i := 1) rfl
theorem km_2 : (R_Acc, 25, y_PC_has, "PaxosCommit") ∈ NWm := List.mem_of_getElem? (i := 2) rfl
theorem km_3 : (R_Led, 49, y_PC_ballotOf, "PaxosCommit") ∈ NWm := List.mem_of_getElem? (i := 3) rfl
theorem km_4 : (R_Led, 53, y_PC_voteOf, "PaxosCommit") ∈ NWm := List.mem_of_getElem? (i := 4) rfl
theorem km_5 : (R_Acc, 29, y_PC_pack, "PaxosCommit") ∈ NWm := List.mem_of_getElem? (i := 5) rfl
theorem km_6 : (R_Led, 56, y_PC_pack, "PaxosCommit") ∈ NWm := List.mem_of_getElem? (i := 6) rfl
theorem km_7 : (R_Led, 59, y_PC_has, "PaxosCommit") ∈ NWm := List.mem_of_getElem? (i := 7) rfl
theorem km_8 : (R_Store, 45, y_PC_has, "PaxosCommit") ∈ NWm := List.mem_of_getElem? (i := 8) rfl
theorem km_9 : (R_Msg, 78, y_PC_ballotOf, "PaxosCommit") ∈ NWm := List.mem_of_getElem? (i := 9) rfl
theorem km_10 : (R_Msg, 82, y_PC_voteOf, "PaxosCommit") ∈ NWm := List.mem_of_getElem? (i := 10) rfl
theorem i_PC : ∀ w ∈ u_ws R_PC T_PC 9, w ∈ WS := by
  have e : u_ws R_PC T_PC 9 = [.laysFinal R_PC "PaxosCommit" "stores" "[LPaxosCommit$Store;", .laysFinal R_PC "PaxosCommit" "acceptors" "[LPaxosCommit$Acceptor;", .laysFinal R_PC "PaxosCommit" "ledgers" "[LPaxosCommit$Ledger;", .laysFinal R_PC "PaxosCommit" "majority" "I", .laysFinal R_PC "PaxosCommit" "upSets" "[I", .laysFinal R_PC "PaxosCommit" "net" "LPaxosCommit$Net;", .laysFinal R_PC "PaxosCommit" "members" "[I", .laysFinal R_PC "PaxosCommit" "closed" "[Z", .lays R_PC "PaxosCommit" "begun" "I"] := by decide +kernel
  rw [e]
  intro w h
  simp only [List.mem_cons, List.not_mem_nil, or_false] at h
  rcases h with rfl | rfl | rfl | rfl | rfl | rfl | rfl | rfl | rfl
  · exact List.mem_filter.mpr ⟨List.mem_append_right _ (List.mem_of_getElem? (i := 191) (by decide +kernel)), by decide +kernel⟩
  · exact List.mem_filter.mpr ⟨List.mem_append_right _ (List.mem_of_getElem? (i := 193) (by decide +kernel)), by decide +kernel⟩
  · exact List.mem_filter.mpr ⟨List.mem_append_right _ (List.mem_of_getElem? (i := 195) (by decide +kernel)), by decide +kernel⟩
  · exact List.mem_filter.mpr ⟨List.mem_append_right _ (List.mem_of_getElem? (i := 197) (by decide +kernel)), by decide +kernel⟩
  · exact List.mem_filter.mpr ⟨List.mem_append_right _ (List.mem_of_getElem? (i := 199) (by decide +kernel)), by decide +kernel⟩
  · exact List.mem_filter.mpr ⟨List.mem_append_right _ (List.mem_of_getElem? (i := 201) (by decide +kernel)), by decide +kernel⟩
  · exact List.mem_filter.mpr ⟨List.mem_append_right _ (List.mem_of_getElem? (i := 203) (by decide +kernel)), by decide +kernel⟩
  · exact List.mem_filter.mpr ⟨List.mem_append_right _ (List.mem_of_getElem? (i := 205) (by decide +kernel)), by decide +kernel⟩
  · exact List.mem_filter.mpr ⟨List.mem_append_right _ (List.mem_of_getElem? (i := 207) (by decide +kernel)), by decide +kernel⟩
theorem i_Store : ∀ w ∈ u_ws R_Store T_Store 5, w ∈ WS := by
  have e : u_ws R_Store T_Store 5 = [.laysFinal R_Store "PaxosCommit$Store" "values" "[I", .laysFinal R_Store "PaxosCommit$Store" "locks" "[I", .laysFinal R_Store "PaxosCommit$Store" "states" "[I", .laysFinal R_Store "PaxosCommit$Store" "written" "[I", .laysFinal R_Store "PaxosCommit$Store" "writes" "[[I"] := by decide +kernel
  rw [e]
  intro w h
  simp only [List.mem_cons, List.not_mem_nil, or_false] at h
  rcases h with rfl | rfl | rfl | rfl | rfl
  · exact List.mem_filter.mpr ⟨List.mem_append_right _ (List.mem_of_getElem? (i := 125) (by decide +kernel)), by decide +kernel⟩
  · exact List.mem_filter.mpr ⟨List.mem_append_right _ (List.mem_of_getElem? (i := 127) (by decide +kernel)), by decide +kernel⟩
  · exact List.mem_filter.mpr ⟨List.mem_append_right _ (List.mem_of_getElem? (i := 129) (by decide +kernel)), by decide +kernel⟩
  · exact List.mem_filter.mpr ⟨List.mem_append_right _ (List.mem_of_getElem? (i := 131) (by decide +kernel)), by decide +kernel⟩
  · exact List.mem_filter.mpr ⟨List.mem_append_right _ (List.mem_of_getElem? (i := 133) (by decide +kernel)), by decide +kernel⟩
theorem i_Acc : ∀ w ∈ u_ws R_Acc T_Acc 2, w ∈ WS := by
  have e : u_ws R_Acc T_Acc 2 = [.laysFinal R_Acc "PaxosCommit$Acceptor" "promises" "[[I", .laysFinal R_Acc "PaxosCommit$Acceptor" "accepted" "[[I"] := by decide +kernel
  rw [e]
  intro w h
  simp only [List.mem_cons, List.not_mem_nil, or_false] at h
  rcases h with rfl | rfl
  · exact List.mem_filter.mpr ⟨List.mem_append_right _ (List.mem_of_getElem? (i := 148) (by decide +kernel)), by decide +kernel⟩
  · exact List.mem_filter.mpr ⟨List.mem_append_right _ (List.mem_of_getElem? (i := 150) (by decide +kernel)), by decide +kernel⟩
theorem i_Led : ∀ w ∈ u_ws R_Led T_Led 6, w ∈ WS := by
  have e : u_ws R_Led T_Led 6 = [.lays R_Led "PaxosCommit$Ledger" "ballot" "I", .lays R_Led "PaxosCommit$Ledger" "proposed" "Z", .lays R_Led "PaxosCommit$Ledger" "known" "I", .laysFinal R_Led "PaxosCommit$Ledger" "hasReply" "[Z", .laysFinal R_Led "PaxosCommit$Ledger" "replies" "[[I", .laysFinal R_Led "PaxosCommit$Ledger" "latest" "[[I"] := by decide +kernel
  rw [e]
  intro w h
  simp only [List.mem_cons, List.not_mem_nil, or_false] at h
  rcases h with rfl | rfl | rfl | rfl | rfl | rfl
  · exact List.mem_filter.mpr ⟨List.mem_append_right _ (List.mem_of_getElem? (i := 169) (by decide +kernel)), by decide +kernel⟩
  · exact List.mem_filter.mpr ⟨List.mem_append_right _ (List.mem_of_getElem? (i := 171) (by decide +kernel)), by decide +kernel⟩
  · exact List.mem_filter.mpr ⟨List.mem_append_right _ (List.mem_of_getElem? (i := 173) (by decide +kernel)), by decide +kernel⟩
  · exact List.mem_filter.mpr ⟨List.mem_append_right _ (List.mem_of_getElem? (i := 175) (by decide +kernel)), by decide +kernel⟩
  · exact List.mem_filter.mpr ⟨List.mem_append_right _ (List.mem_of_getElem? (i := 177) (by decide +kernel)), by decide +kernel⟩
  · exact List.mem_filter.mpr ⟨List.mem_append_right _ (List.mem_of_getElem? (i := 179) (by decide +kernel)), by decide +kernel⟩
theorem i_Msg : ∀ w ∈ u_ws R_Msg T_Msg 8, w ∈ WS := by
  have e : u_ws R_Msg T_Msg 8 = [.lays R_Msg "PaxosCommit$Message" "kind" "I", .lays R_Msg "PaxosCommit$Message" "transaction" "I", .lays R_Msg "PaxosCommit$Message" "store" "I", .lays R_Msg "PaxosCommit$Message" "acceptor" "I", .lays R_Msg "PaxosCommit$Message" "leader" "I", .lays R_Msg "PaxosCommit$Message" "ballot" "I", .lays R_Msg "PaxosCommit$Message" "vote" "I", .laysFinal R_Msg "PaxosCommit$Message" "replied" "[I"] := by decide +kernel
  rw [e]
  intro w h
  simp only [List.mem_cons, List.not_mem_nil, or_false] at h
  rcases h with rfl | rfl | rfl | rfl | rfl | rfl | rfl | rfl
  · exact List.mem_filter.mpr ⟨List.mem_append_right _ (List.mem_of_getElem? (i := 68) (by decide +kernel)), by decide +kernel⟩
  · exact List.mem_filter.mpr ⟨List.mem_append_right _ (List.mem_of_getElem? (i := 70) (by decide +kernel)), by decide +kernel⟩
  · exact List.mem_filter.mpr ⟨List.mem_append_right _ (List.mem_of_getElem? (i := 72) (by decide +kernel)), by decide +kernel⟩
  · exact List.mem_filter.mpr ⟨List.mem_append_right _ (List.mem_of_getElem? (i := 74) (by decide +kernel)), by decide +kernel⟩
  · exact List.mem_filter.mpr ⟨List.mem_append_right _ (List.mem_of_getElem? (i := 76) (by decide +kernel)), by decide +kernel⟩
  · exact List.mem_filter.mpr ⟨List.mem_append_right _ (List.mem_of_getElem? (i := 78) (by decide +kernel)), by decide +kernel⟩
  · exact List.mem_filter.mpr ⟨List.mem_append_right _ (List.mem_of_getElem? (i := 80) (by decide +kernel)), by decide +kernel⟩
  · exact List.mem_filter.mpr ⟨List.mem_append_right _ (List.mem_of_getElem? (i := 82) (by decide +kernel)), by decide +kernel⟩
theorem i_Net : ∀ w ∈ u_ws R_Net T_Net 5, w ∈ WS := by
  have e : u_ws R_Net T_Net 5 = [.laysFinal R_Net "PaxosCommit$Net" "row" "[LPaxosCommit$Message;", .lays R_Net "PaxosCommit$Net" "size" "I", .lays R_Net "PaxosCommit$Net" "overflowed" "I", .laysFinal R_Net "PaxosCommit$Net" "draft" "LPaxosCommit$Message;", .laysFinal R_Net "PaxosCommit$Net" "hand" "LPaxosCommit$Message;"] := by decide +kernel
  rw [e]
  intro w h
  simp only [List.mem_cons, List.not_mem_nil, or_false] at h
  rcases h with rfl | rfl | rfl | rfl | rfl
  · exact List.mem_filter.mpr ⟨List.mem_append_right _ (List.mem_of_getElem? (i := 94) (by decide +kernel)), by decide +kernel⟩
  · exact List.mem_filter.mpr ⟨List.mem_append_right _ (List.mem_of_getElem? (i := 96) (by decide +kernel)), by decide +kernel⟩
  · exact List.mem_filter.mpr ⟨List.mem_append_right _ (List.mem_of_getElem? (i := 98) (by decide +kernel)), by decide +kernel⟩
  · exact List.mem_filter.mpr ⟨List.mem_append_right _ (List.mem_of_getElem? (i := 100) (by decide +kernel)), by decide +kernel⟩
  · exact List.mem_filter.mpr ⟨List.mem_append_right _ (List.mem_of_getElem? (i := 102) (by decide +kernel)), by decide +kernel⟩
theorem i_Mo : ∀ w ∈ u_ws R_Mo T_Mo 27, w ∈ WS := by
  have e : u_ws R_Mo T_Mo 27 = [.lays R_Mo "PaxosCommitModel" "failed" "I", .laysFinal R_Mo "PaxosCommitModel" "n" "I", .laysFinal R_Mo "PaxosCommitModel" "storeDown" "[Z", .laysFinal R_Mo "PaxosCommitModel" "acceptorDown" "[Z", .laysFinal R_Mo "PaxosCommitModel" "leaderDown" "[Z", .laysFinal R_Mo "PaxosCommitModel" "value" "[I", .laysFinal R_Mo "PaxosCommitModel" "lock" "[I", .lays R_Mo "PaxosCommitModel" "transactions" "I", .laysFinal R_Mo "PaxosCommitModel" "members" "[I", .laysFinal R_Mo "PaxosCommitModel" "closed" "[Z", .laysFinal R_Mo "PaxosCommitModel" "state" "[I", .laysFinal R_Mo "PaxosCommitModel" "writes" "[I", .laysFinal R_Mo "PaxosCommitModel" "written" "[I", .laysFinal R_Mo "PaxosCommitModel" "promised" "[I", .laysFinal R_Mo "PaxosCommitModel" "takenBallot" "[I", .laysFinal R_Mo "PaxosCommitModel" "takenVote" "[I", .laysFinal R_Mo "PaxosCommitModel" "ballot" "[I", .laysFinal R_Mo "PaxosCommitModel" "proposed" "[Z", .laysFinal R_Mo "PaxosCommitModel" "known" "[I", .laysFinal R_Mo "PaxosCommitModel" "replied" "[Z", .laysFinal R_Mo "PaxosCommitModel" "replyBallot" "[I", .laysFinal R_Mo "PaxosCommitModel" "replyVote" "[I", .laysFinal R_Mo "PaxosCommitModel" "latestBallot" "[I", .laysFinal R_Mo "PaxosCommitModel" "latestVote" "[I", .laysFinal R_Mo "PaxosCommitModel" "net" "[I", .lays R_Mo "PaxosCommitModel" "size" "I", .lays R_Mo "PaxosCommitModel" "lost" "I"] := by decide +kernel
  rw [e]
  intro w h
  simp only [List.mem_cons, List.not_mem_nil, or_false] at h
  rcases h with rfl | rfl | rfl | rfl | rfl | rfl | rfl | rfl | rfl | rfl | rfl | rfl | rfl | rfl | rfl | rfl | rfl | rfl | rfl | rfl | rfl | rfl | rfl | rfl | rfl | rfl | rfl
  · exact List.mem_filter.mpr ⟨List.mem_append_right _ (List.mem_of_getElem? (i := 939) (by decide +kernel)), by decide +kernel⟩
  · exact List.mem_filter.mpr ⟨List.mem_append_right _ (List.mem_of_getElem? (i := 941) (by decide +kernel)), by decide +kernel⟩
  · exact List.mem_filter.mpr ⟨List.mem_append_right _ (List.mem_of_getElem? (i := 943) (by decide +kernel)), by decide +kernel⟩
  · exact List.mem_filter.mpr ⟨List.mem_append_right _ (List.mem_of_getElem? (i := 945) (by decide +kernel)), by decide +kernel⟩
  · exact List.mem_filter.mpr ⟨List.mem_append_right _ (List.mem_of_getElem? (i := 947) (by decide +kernel)), by decide +kernel⟩
  · exact List.mem_filter.mpr ⟨List.mem_append_right _ (List.mem_of_getElem? (i := 949) (by decide +kernel)), by decide +kernel⟩
  · exact List.mem_filter.mpr ⟨List.mem_append_right _ (List.mem_of_getElem? (i := 951) (by decide +kernel)), by decide +kernel⟩
  · exact List.mem_filter.mpr ⟨List.mem_append_right _ (List.mem_of_getElem? (i := 953) (by decide +kernel)), by decide +kernel⟩
  · exact List.mem_filter.mpr ⟨List.mem_append_right _ (List.mem_of_getElem? (i := 955) (by decide +kernel)), by decide +kernel⟩
  · exact List.mem_filter.mpr ⟨List.mem_append_right _ (List.mem_of_getElem? (i := 957) (by decide +kernel)), by decide +kernel⟩
  · exact List.mem_filter.mpr ⟨List.mem_append_right _ (List.mem_of_getElem? (i := 959) (by decide +kernel)), by decide +kernel⟩
  · exact List.mem_filter.mpr ⟨List.mem_append_right _ (List.mem_of_getElem? (i := 961) (by decide +kernel)), by decide +kernel⟩
  · exact List.mem_filter.mpr ⟨List.mem_append_right _ (List.mem_of_getElem? (i := 963) (by decide +kernel)), by decide +kernel⟩
  · exact List.mem_filter.mpr ⟨List.mem_append_right _ (List.mem_of_getElem? (i := 965) (by decide +kernel)), by decide +kernel⟩
  · exact List.mem_filter.mpr ⟨List.mem_append_right _ (List.mem_of_getElem? (i := 967) (by decide +kernel)), by decide +kernel⟩
  · exact List.mem_filter.mpr ⟨List.mem_append_right _ (List.mem_of_getElem? (i := 969) (by decide +kernel)), by decide +kernel⟩
  · exact List.mem_filter.mpr ⟨List.mem_append_right _ (List.mem_of_getElem? (i := 971) (by decide +kernel)), by decide +kernel⟩
  · exact List.mem_filter.mpr ⟨List.mem_append_right _ (List.mem_of_getElem? (i := 973) (by decide +kernel)), by decide +kernel⟩
  · exact List.mem_filter.mpr ⟨List.mem_append_right _ (List.mem_of_getElem? (i := 975) (by decide +kernel)), by decide +kernel⟩
  · exact List.mem_filter.mpr ⟨List.mem_append_right _ (List.mem_of_getElem? (i := 977) (by decide +kernel)), by decide +kernel⟩
  · exact List.mem_filter.mpr ⟨List.mem_append_right _ (List.mem_of_getElem? (i := 979) (by decide +kernel)), by decide +kernel⟩
  · exact List.mem_filter.mpr ⟨List.mem_append_right _ (List.mem_of_getElem? (i := 981) (by decide +kernel)), by decide +kernel⟩
  · exact List.mem_filter.mpr ⟨List.mem_append_right _ (List.mem_of_getElem? (i := 983) (by decide +kernel)), by decide +kernel⟩
  · exact List.mem_filter.mpr ⟨List.mem_append_right _ (List.mem_of_getElem? (i := 985) (by decide +kernel)), by decide +kernel⟩
  · exact List.mem_filter.mpr ⟨List.mem_append_right _ (List.mem_of_getElem? (i := 987) (by decide +kernel)), by decide +kernel⟩
  · exact List.mem_filter.mpr ⟨List.mem_append_right _ (List.mem_of_getElem? (i := 989) (by decide +kernel)), by decide +kernel⟩
  · exact List.mem_filter.mpr ⟨List.mem_append_right _ (List.mem_of_getElem? (i := 991) (by decide +kernel)), by decide +kernel⟩
theorem i_SB : ∀ w ∈ u_ws R_SB T_SB 4, w ∈ WS := by
  have e : u_ws R_SB T_SB 4 = [.lays R_SB "java/lang/AbstractStringBuilder" "value" "[B", .lays R_SB "java/lang/AbstractStringBuilder" "coder" "B", .lays R_SB "java/lang/AbstractStringBuilder" "maybeLatin1" "Z", .lays R_SB "java/lang/AbstractStringBuilder" "count" "I"] := by decide +kernel
  rw [e]
  intro w h
  simp only [List.mem_cons, List.not_mem_nil, or_false] at h
  rcases h with rfl | rfl | rfl | rfl
  · exact List.mem_filter.mpr ⟨List.mem_append_right _ (List.mem_of_getElem? (i := 674) (by decide +kernel)), by decide +kernel⟩
  · exact List.mem_filter.mpr ⟨List.mem_append_right _ (List.mem_of_getElem? (i := 676) (by decide +kernel)), by decide +kernel⟩
  · exact List.mem_filter.mpr ⟨List.mem_append_right _ (List.mem_of_getElem? (i := 678) (by decide +kernel)), by decide +kernel⟩
  · exact List.mem_filter.mpr ⟨List.mem_append_right _ (List.mem_of_getElem? (i := 680) (by decide +kernel)), by decide +kernel⟩
end
section
theorem d_AbstractStringBuilder_append_C_0 : decode b_AbstractStringBuilder_append_C 0 = .ok (.aload_n 0, 1) := by decide +kernel
theorem d_AbstractStringBuilder_append_C_1 : decode b_AbstractStringBuilder_append_C 1 = .ok (.aload_n 0, 1) := by decide +kernel
theorem d_AbstractStringBuilder_append_C_2 : decode b_AbstractStringBuilder_append_C 2 = .ok (.getfield 79, 3) := by decide +kernel
theorem d_AbstractStringBuilder_append_C_5 : decode b_AbstractStringBuilder_append_C 5 = .ok (.iconst 1, 1) := by decide +kernel
theorem d_AbstractStringBuilder_append_C_6 : decode b_AbstractStringBuilder_append_C 6 = .ok (.iadd, 1) := by decide +kernel
theorem d_AbstractStringBuilder_append_C_7 : decode b_AbstractStringBuilder_append_C 7 = .ok (.invokevirtual 100, 3) := by decide +kernel
theorem d_AbstractStringBuilder_append_C_10 : decode b_AbstractStringBuilder_append_C 10 = .ok (.aload_n 0, 1) := by decide +kernel
theorem d_AbstractStringBuilder_append_C_11 : decode b_AbstractStringBuilder_append_C 11 = .ok (.invokevirtual 83, 3) := by decide +kernel
theorem d_AbstractStringBuilder_append_C_14 : decode b_AbstractStringBuilder_append_C 14 = .ok (.ifCond .eq 31, 3) := by decide +kernel
theorem d_AbstractStringBuilder_append_C_17 : decode b_AbstractStringBuilder_append_C 17 = .ok (.iload_n 1, 1) := by decide +kernel
theorem d_AbstractStringBuilder_append_C_18 : decode b_AbstractStringBuilder_append_C 18 = .ok (.invokestatic 191, 3) := by decide +kernel
theorem d_AbstractStringBuilder_append_C_21 : decode b_AbstractStringBuilder_append_C 21 = .ok (.ifCond .eq 24, 3) := by decide +kernel
theorem d_AbstractStringBuilder_append_C_24 : decode b_AbstractStringBuilder_append_C 24 = .ok (.aload_n 0, 1) := by decide +kernel
theorem d_AbstractStringBuilder_append_C_25 : decode b_AbstractStringBuilder_append_C 25 = .ok (.getfield 15, 3) := by decide +kernel
theorem d_AbstractStringBuilder_append_C_28 : decode b_AbstractStringBuilder_append_C 28 = .ok (.aload_n 0, 1) := by decide +kernel
theorem d_AbstractStringBuilder_append_C_29 : decode b_AbstractStringBuilder_append_C 29 = .ok (.dup, 1) := by decide +kernel
theorem d_AbstractStringBuilder_append_C_30 : decode b_AbstractStringBuilder_append_C 30 = .ok (.getfield 79, 3) := by decide +kernel
theorem d_AbstractStringBuilder_append_C_33 : decode b_AbstractStringBuilder_append_C 33 = .ok (.dup_x1, 1) := by decide +kernel
theorem d_AbstractStringBuilder_append_C_34 : decode b_AbstractStringBuilder_append_C 34 = .ok (.iconst 1, 1) := by decide +kernel
theorem d_AbstractStringBuilder_append_C_35 : decode b_AbstractStringBuilder_append_C 35 = .ok (.iadd, 1) := by decide +kernel
theorem d_AbstractStringBuilder_append_C_36 : decode b_AbstractStringBuilder_append_C 36 = .ok (.putfield 79, 3) := by decide +kernel
theorem d_AbstractStringBuilder_append_C_39 : decode b_AbstractStringBuilder_append_C 39 = .ok (.iload_n 1, 1) := by decide +kernel
theorem d_AbstractStringBuilder_append_C_40 : decode b_AbstractStringBuilder_append_C 40 = .ok (.i2b, 1) := by decide +kernel
theorem d_AbstractStringBuilder_append_C_41 : decode b_AbstractStringBuilder_append_C 41 = .ok (.bastore, 1) := by decide +kernel
theorem d_AbstractStringBuilder_append_C_42 : decode b_AbstractStringBuilder_append_C 42 = .ok (.goto 33, 3) := by decide +kernel
theorem d_AbstractStringBuilder_append_C_45 : decode b_AbstractStringBuilder_append_C 45 = .ok (.aload_n 0, 1) := by decide +kernel
theorem d_AbstractStringBuilder_append_C_46 : decode b_AbstractStringBuilder_append_C 46 = .ok (.invokevirtual 83, 3) := by decide +kernel
theorem d_AbstractStringBuilder_append_C_49 : decode b_AbstractStringBuilder_append_C 49 = .ok (.ifCond .eq 7, 3) := by decide +kernel
theorem d_AbstractStringBuilder_append_C_52 : decode b_AbstractStringBuilder_append_C 52 = .ok (.aload_n 0, 1) := by decide +kernel
theorem d_AbstractStringBuilder_append_C_53 : decode b_AbstractStringBuilder_append_C 53 = .ok (.invokevirtual 195, 3) := by decide +kernel
theorem d_AbstractStringBuilder_append_C_56 : decode b_AbstractStringBuilder_append_C 56 = .ok (.aload_n 0, 1) := by decide +kernel
theorem d_AbstractStringBuilder_append_C_57 : decode b_AbstractStringBuilder_append_C 57 = .ok (.getfield 15, 3) := by decide +kernel
theorem d_AbstractStringBuilder_append_C_60 : decode b_AbstractStringBuilder_append_C 60 = .ok (.aload_n 0, 1) := by decide +kernel
theorem d_AbstractStringBuilder_append_C_61 : decode b_AbstractStringBuilder_append_C 61 = .ok (.dup, 1) := by decide +kernel
theorem d_AbstractStringBuilder_append_C_62 : decode b_AbstractStringBuilder_append_C 62 = .ok (.getfield 79, 3) := by decide +kernel
theorem d_AbstractStringBuilder_append_C_65 : decode b_AbstractStringBuilder_append_C 65 = .ok (.dup_x1, 1) := by decide +kernel
theorem d_AbstractStringBuilder_append_C_66 : decode b_AbstractStringBuilder_append_C 66 = .ok (.iconst 1, 1) := by decide +kernel
theorem d_AbstractStringBuilder_append_C_67 : decode b_AbstractStringBuilder_append_C 67 = .ok (.iadd, 1) := by decide +kernel
theorem d_AbstractStringBuilder_append_C_68 : decode b_AbstractStringBuilder_append_C 68 = .ok (.putfield 79, 3) := by decide +kernel
theorem d_AbstractStringBuilder_append_C_71 : decode b_AbstractStringBuilder_append_C 71 = .ok (.iload_n 1, 1) := by decide +kernel
theorem d_AbstractStringBuilder_append_C_72 : decode b_AbstractStringBuilder_append_C 72 = .ok (.invokestatic 197, 3) := by decide +kernel
theorem d_AbstractStringBuilder_append_C_75 : decode b_AbstractStringBuilder_append_C 75 = .ok (.aload_n 0, 1) := by decide +kernel
theorem d_AbstractStringBuilder_append_C_76 : decode b_AbstractStringBuilder_append_C 76 = .ok (.areturn, 1) := by decide +kernel
theorem d_AbstractStringBuilder_append_I_0 : decode b_AbstractStringBuilder_append_I 0 = .ok (.aload_n 0, 1) := by decide +kernel
theorem d_AbstractStringBuilder_append_I_1 : decode b_AbstractStringBuilder_append_I 1 = .ok (.getfield 79, 3) := by decide +kernel
theorem d_AbstractStringBuilder_append_I_4 : decode b_AbstractStringBuilder_append_I 4 = .ok (.istore_n 2, 1) := by decide +kernel
theorem d_AbstractStringBuilder_append_I_5 : decode b_AbstractStringBuilder_append_I 5 = .ok (.iload_n 2, 1) := by decide +kernel
theorem d_AbstractStringBuilder_append_I_6 : decode b_AbstractStringBuilder_append_I 6 = .ok (.iload_n 1, 1) := by decide +kernel
theorem d_AbstractStringBuilder_append_I_7 : decode b_AbstractStringBuilder_append_I 7 = .ok (.invokestatic 245, 3) := by decide +kernel
theorem d_AbstractStringBuilder_append_I_10 : decode b_AbstractStringBuilder_append_I 10 = .ok (.iadd, 1) := by decide +kernel
theorem d_AbstractStringBuilder_append_I_11 : decode b_AbstractStringBuilder_append_I 11 = .ok (.istore_n 3, 1) := by decide +kernel
theorem d_AbstractStringBuilder_append_I_12 : decode b_AbstractStringBuilder_append_I 12 = .ok (.aload_n 0, 1) := by decide +kernel
theorem d_AbstractStringBuilder_append_I_13 : decode b_AbstractStringBuilder_append_I 13 = .ok (.iload_n 3, 1) := by decide +kernel
theorem d_AbstractStringBuilder_append_I_14 : decode b_AbstractStringBuilder_append_I 14 = .ok (.invokevirtual 100, 3) := by decide +kernel
theorem d_AbstractStringBuilder_append_I_17 : decode b_AbstractStringBuilder_append_I 17 = .ok (.aload_n 0, 1) := by decide +kernel
theorem d_AbstractStringBuilder_append_I_18 : decode b_AbstractStringBuilder_append_I 18 = .ok (.invokevirtual 83, 3) := by decide +kernel
theorem d_AbstractStringBuilder_append_I_21 : decode b_AbstractStringBuilder_append_I 21 = .ok (.ifCond .eq 16, 3) := by decide +kernel
theorem d_AbstractStringBuilder_append_I_24 : decode b_AbstractStringBuilder_append_I 24 = .ok (.iload_n 1, 1) := by decide +kernel
theorem d_AbstractStringBuilder_append_I_25 : decode b_AbstractStringBuilder_append_I 25 = .ok (.iload_n 3, 1) := by decide +kernel
theorem d_AbstractStringBuilder_append_I_26 : decode b_AbstractStringBuilder_append_I 26 = .ok (.aload_n 0, 1) := by decide +kernel
theorem d_AbstractStringBuilder_append_I_27 : decode b_AbstractStringBuilder_append_I 27 = .ok (.getfield 15, 3) := by decide +kernel
theorem d_AbstractStringBuilder_append_I_30 : decode b_AbstractStringBuilder_append_I 30 = .ok (.invokestatic 248, 3) := by decide +kernel
theorem d_AbstractStringBuilder_append_I_33 : decode b_AbstractStringBuilder_append_I 33 = .ok (.pop, 1) := by decide +kernel
theorem d_AbstractStringBuilder_append_I_34 : decode b_AbstractStringBuilder_append_I 34 = .ok (.goto 14, 3) := by decide +kernel
theorem d_AbstractStringBuilder_append_I_37 : decode b_AbstractStringBuilder_append_I 37 = .ok (.iload_n 1, 1) := by decide +kernel
theorem d_AbstractStringBuilder_append_I_38 : decode b_AbstractStringBuilder_append_I 38 = .ok (.iload_n 2, 1) := by decide +kernel
theorem d_AbstractStringBuilder_append_I_39 : decode b_AbstractStringBuilder_append_I 39 = .ok (.iload_n 3, 1) := by decide +kernel
theorem d_AbstractStringBuilder_append_I_40 : decode b_AbstractStringBuilder_append_I 40 = .ok (.aload_n 0, 1) := by decide +kernel
theorem d_AbstractStringBuilder_append_I_41 : decode b_AbstractStringBuilder_append_I 41 = .ok (.getfield 15, 3) := by decide +kernel
theorem d_AbstractStringBuilder_append_I_44 : decode b_AbstractStringBuilder_append_I 44 = .ok (.invokestatic 251, 3) := by decide +kernel
theorem d_AbstractStringBuilder_append_I_47 : decode b_AbstractStringBuilder_append_I 47 = .ok (.pop, 1) := by decide +kernel
theorem d_AbstractStringBuilder_append_I_48 : decode b_AbstractStringBuilder_append_I 48 = .ok (.aload_n 0, 1) := by decide +kernel
theorem d_AbstractStringBuilder_append_I_49 : decode b_AbstractStringBuilder_append_I 49 = .ok (.iload_n 3, 1) := by decide +kernel
theorem d_AbstractStringBuilder_append_I_50 : decode b_AbstractStringBuilder_append_I 50 = .ok (.putfield 79, 3) := by decide +kernel
theorem d_AbstractStringBuilder_append_I_53 : decode b_AbstractStringBuilder_append_I 53 = .ok (.aload_n 0, 1) := by decide +kernel
theorem d_AbstractStringBuilder_append_I_54 : decode b_AbstractStringBuilder_append_I 54 = .ok (.areturn, 1) := by decide +kernel
theorem d_AbstractStringBuilder_charAt_0 : decode b_AbstractStringBuilder_charAt 0 = .ok (.aload_n 0, 1) := by decide +kernel
theorem d_AbstractStringBuilder_charAt_1 : decode b_AbstractStringBuilder_charAt 1 = .ok (.getfield 22, 3) := by decide +kernel
theorem d_AbstractStringBuilder_charAt_4 : decode b_AbstractStringBuilder_charAt 4 = .ok (.istore_n 2, 1) := by decide +kernel
theorem d_AbstractStringBuilder_charAt_5 : decode b_AbstractStringBuilder_charAt 5 = .ok (.aload_n 0, 1) := by decide +kernel
theorem d_AbstractStringBuilder_charAt_6 : decode b_AbstractStringBuilder_charAt 6 = .ok (.getfield 15, 3) := by decide +kernel
theorem d_AbstractStringBuilder_charAt_9 : decode b_AbstractStringBuilder_charAt 9 = .ok (.astore_n 3, 1) := by decide +kernel
theorem d_AbstractStringBuilder_charAt_10 : decode b_AbstractStringBuilder_charAt 10 = .ok (.aload_n 0, 1) := by decide +kernel
theorem d_AbstractStringBuilder_charAt_11 : decode b_AbstractStringBuilder_charAt 11 = .ok (.getfield 79, 3) := by decide +kernel
theorem d_AbstractStringBuilder_charAt_14 : decode b_AbstractStringBuilder_charAt 14 = .ok (.aload_n 3, 1) := by decide +kernel
theorem d_AbstractStringBuilder_charAt_15 : decode b_AbstractStringBuilder_charAt 15 = .ok (.arraylength, 1) := by decide +kernel
theorem d_AbstractStringBuilder_charAt_16 : decode b_AbstractStringBuilder_charAt 16 = .ok (.iload_n 2, 1) := by decide +kernel
theorem d_AbstractStringBuilder_charAt_17 : decode b_AbstractStringBuilder_charAt 17 = .ok (.ishr, 1) := by decide +kernel
theorem d_AbstractStringBuilder_charAt_18 : decode b_AbstractStringBuilder_charAt 18 = .ok (.invokestatic 138, 3) := by decide +kernel
theorem d_AbstractStringBuilder_charAt_21 : decode b_AbstractStringBuilder_charAt 21 = .ok (.istore 4, 2) := by decide +kernel
theorem d_AbstractStringBuilder_charAt_23 : decode b_AbstractStringBuilder_charAt 23 = .ok (.iload_n 1, 1) := by decide +kernel
theorem d_AbstractStringBuilder_charAt_24 : decode b_AbstractStringBuilder_charAt 24 = .ok (.iload 4, 2) := by decide +kernel
theorem d_AbstractStringBuilder_charAt_26 : decode b_AbstractStringBuilder_charAt 26 = .ok (.invokestatic 144, 3) := by decide +kernel
theorem d_AbstractStringBuilder_charAt_29 : decode b_AbstractStringBuilder_charAt 29 = .ok (.iload_n 2, 1) := by decide +kernel
theorem d_AbstractStringBuilder_charAt_30 : decode b_AbstractStringBuilder_charAt 30 = .ok (.ifCond .ne 12, 3) := by decide +kernel
theorem d_AbstractStringBuilder_charAt_33 : decode b_AbstractStringBuilder_charAt 33 = .ok (.aload_n 3, 1) := by decide +kernel
theorem d_AbstractStringBuilder_charAt_34 : decode b_AbstractStringBuilder_charAt 34 = .ok (.iload_n 1, 1) := by decide +kernel
theorem d_AbstractStringBuilder_charAt_35 : decode b_AbstractStringBuilder_charAt 35 = .ok (.baload, 1) := by decide +kernel
theorem d_AbstractStringBuilder_charAt_36 : decode b_AbstractStringBuilder_charAt 36 = .ok (.sipush 255, 3) := by decide +kernel
theorem d_AbstractStringBuilder_charAt_39 : decode b_AbstractStringBuilder_charAt 39 = .ok (.iand, 1) := by decide +kernel
theorem d_AbstractStringBuilder_charAt_40 : decode b_AbstractStringBuilder_charAt 40 = .ok (.i2c, 1) := by decide +kernel
theorem d_AbstractStringBuilder_charAt_41 : decode b_AbstractStringBuilder_charAt 41 = .ok (.ireturn, 1) := by decide +kernel
theorem d_AbstractStringBuilder_charAt_42 : decode b_AbstractStringBuilder_charAt 42 = .ok (.aload_n 3, 1) := by decide +kernel
theorem d_AbstractStringBuilder_charAt_43 : decode b_AbstractStringBuilder_charAt 43 = .ok (.iload_n 1, 1) := by decide +kernel
theorem d_AbstractStringBuilder_charAt_44 : decode b_AbstractStringBuilder_charAt 44 = .ok (.invokestatic 148, 3) := by decide +kernel
theorem d_AbstractStringBuilder_charAt_47 : decode b_AbstractStringBuilder_charAt 47 = .ok (.ireturn, 1) := by decide +kernel
theorem d_AbstractStringBuilder_ensureCapacityInternal_0 : decode b_AbstractStringBuilder_ensureCapacityInternal 0 = .ok (.aload_n 0, 1) := by decide +kernel
theorem d_AbstractStringBuilder_ensureCapacityInternal_1 : decode b_AbstractStringBuilder_ensureCapacityInternal 1 = .ok (.getfield 15, 3) := by decide +kernel
theorem d_AbstractStringBuilder_ensureCapacityInternal_4 : decode b_AbstractStringBuilder_ensureCapacityInternal 4 = .ok (.arraylength, 1) := by decide +kernel
theorem d_AbstractStringBuilder_ensureCapacityInternal_5 : decode b_AbstractStringBuilder_ensureCapacityInternal 5 = .ok (.aload_n 0, 1) := by decide +kernel
theorem d_AbstractStringBuilder_ensureCapacityInternal_6 : decode b_AbstractStringBuilder_ensureCapacityInternal 6 = .ok (.getfield 22, 3) := by decide +kernel
theorem d_AbstractStringBuilder_ensureCapacityInternal_9 : decode b_AbstractStringBuilder_ensureCapacityInternal 9 = .ok (.ishr, 1) := by decide +kernel
theorem d_AbstractStringBuilder_ensureCapacityInternal_10 : decode b_AbstractStringBuilder_ensureCapacityInternal 10 = .ok (.istore_n 2, 1) := by decide +kernel
theorem d_AbstractStringBuilder_ensureCapacityInternal_11 : decode b_AbstractStringBuilder_ensureCapacityInternal 11 = .ok (.iload_n 1, 1) := by decide +kernel
theorem d_AbstractStringBuilder_ensureCapacityInternal_12 : decode b_AbstractStringBuilder_ensureCapacityInternal 12 = .ok (.iload_n 2, 1) := by decide +kernel
theorem d_AbstractStringBuilder_ensureCapacityInternal_13 : decode b_AbstractStringBuilder_ensureCapacityInternal 13 = .ok (.isub, 1) := by decide +kernel
theorem d_AbstractStringBuilder_ensureCapacityInternal_14 : decode b_AbstractStringBuilder_ensureCapacityInternal 14 = .ok (.ifCond .le 24, 3) := by decide +kernel
theorem d_AbstractStringBuilder_ensureCapacityInternal_17 : decode b_AbstractStringBuilder_ensureCapacityInternal 17 = .ok (.aload_n 0, 1) := by decide +kernel
theorem d_AbstractStringBuilder_ensureCapacityInternal_18 : decode b_AbstractStringBuilder_ensureCapacityInternal 18 = .ok (.aload_n 0, 1) := by decide +kernel
theorem d_AbstractStringBuilder_ensureCapacityInternal_19 : decode b_AbstractStringBuilder_ensureCapacityInternal 19 = .ok (.getfield 15, 3) := by decide +kernel
theorem d_AbstractStringBuilder_ensureCapacityInternal_22 : decode b_AbstractStringBuilder_ensureCapacityInternal 22 = .ok (.aload_n 0, 1) := by decide +kernel
theorem d_AbstractStringBuilder_ensureCapacityInternal_23 : decode b_AbstractStringBuilder_ensureCapacityInternal 23 = .ok (.iload_n 1, 1) := by decide +kernel
theorem d_AbstractStringBuilder_ensureCapacityInternal_24 : decode b_AbstractStringBuilder_ensureCapacityInternal 24 = .ok (.invokevirtual 104, 3) := by decide +kernel
theorem d_AbstractStringBuilder_ensureCapacityInternal_27 : decode b_AbstractStringBuilder_ensureCapacityInternal 27 = .ok (.aload_n 0, 1) := by decide +kernel
theorem d_AbstractStringBuilder_ensureCapacityInternal_28 : decode b_AbstractStringBuilder_ensureCapacityInternal 28 = .ok (.getfield 22, 3) := by decide +kernel
theorem d_AbstractStringBuilder_ensureCapacityInternal_31 : decode b_AbstractStringBuilder_ensureCapacityInternal 31 = .ok (.ishl, 1) := by decide +kernel
theorem d_AbstractStringBuilder_ensureCapacityInternal_32 : decode b_AbstractStringBuilder_ensureCapacityInternal 32 = .ok (.invokestatic 108, 3) := by decide +kernel
theorem d_AbstractStringBuilder_ensureCapacityInternal_35 : decode b_AbstractStringBuilder_ensureCapacityInternal 35 = .ok (.putfield 15, 3) := by decide +kernel
theorem d_AbstractStringBuilder_ensureCapacityInternal_38 : decode b_AbstractStringBuilder_ensureCapacityInternal 38 = .ok (.return_, 1) := by decide +kernel
theorem d_AbstractStringBuilder_init_0 : decode b_AbstractStringBuilder_init 0 = .ok (.aload_n 0, 1) := by decide +kernel
theorem d_AbstractStringBuilder_init_1 : decode b_AbstractStringBuilder_init 1 = .ok (.invokespecial 3, 3) := by decide +kernel
theorem d_AbstractStringBuilder_init_4 : decode b_AbstractStringBuilder_init 4 = .ok (.getstatic 18, 3) := by decide +kernel
theorem d_AbstractStringBuilder_init_7 : decode b_AbstractStringBuilder_init 7 = .ok (.ifCond .eq 18, 3) := by decide +kernel
theorem d_AbstractStringBuilder_init_10 : decode b_AbstractStringBuilder_init 10 = .ok (.aload_n 0, 1) := by decide +kernel
theorem d_AbstractStringBuilder_init_11 : decode b_AbstractStringBuilder_init 11 = .ok (.iload_n 1, 1) := by decide +kernel
theorem d_AbstractStringBuilder_init_12 : decode b_AbstractStringBuilder_init 12 = .ok (.newarray .byte, 2) := by decide +kernel
theorem d_AbstractStringBuilder_init_14 : decode b_AbstractStringBuilder_init 14 = .ok (.putfield 15, 3) := by decide +kernel
theorem d_AbstractStringBuilder_init_17 : decode b_AbstractStringBuilder_init 17 = .ok (.aload_n 0, 1) := by decide +kernel
theorem d_AbstractStringBuilder_init_18 : decode b_AbstractStringBuilder_init 18 = .ok (.iconst 0, 1) := by decide +kernel
theorem d_AbstractStringBuilder_init_19 : decode b_AbstractStringBuilder_init 19 = .ok (.putfield 22, 3) := by decide +kernel
theorem d_AbstractStringBuilder_init_22 : decode b_AbstractStringBuilder_init 22 = .ok (.goto 16, 3) := by decide +kernel
theorem d_AbstractStringBuilder_init_25 : decode b_AbstractStringBuilder_init 25 = .ok (.aload_n 0, 1) := by decide +kernel
theorem d_AbstractStringBuilder_init_26 : decode b_AbstractStringBuilder_init 26 = .ok (.iload_n 1, 1) := by decide +kernel
theorem d_AbstractStringBuilder_init_27 : decode b_AbstractStringBuilder_init 27 = .ok (.invokestatic 26, 3) := by decide +kernel
theorem d_AbstractStringBuilder_init_30 : decode b_AbstractStringBuilder_init 30 = .ok (.putfield 15, 3) := by decide +kernel
theorem d_AbstractStringBuilder_init_33 : decode b_AbstractStringBuilder_init 33 = .ok (.aload_n 0, 1) := by decide +kernel
theorem d_AbstractStringBuilder_init_34 : decode b_AbstractStringBuilder_init 34 = .ok (.iconst 1, 1) := by decide +kernel
theorem d_AbstractStringBuilder_init_35 : decode b_AbstractStringBuilder_init 35 = .ok (.putfield 22, 3) := by decide +kernel
theorem d_AbstractStringBuilder_init_38 : decode b_AbstractStringBuilder_init 38 = .ok (.return_, 1) := by decide +kernel
theorem d_AbstractStringBuilder_isLatin1_0 : decode b_AbstractStringBuilder_isLatin1 0 = .ok (.getstatic 18, 3) := by decide +kernel
theorem d_AbstractStringBuilder_isLatin1_3 : decode b_AbstractStringBuilder_isLatin1 3 = .ok (.ifCond .eq 14, 3) := by decide +kernel
theorem d_AbstractStringBuilder_isLatin1_6 : decode b_AbstractStringBuilder_isLatin1 6 = .ok (.aload_n 0, 1) := by decide +kernel
theorem d_AbstractStringBuilder_isLatin1_7 : decode b_AbstractStringBuilder_isLatin1 7 = .ok (.getfield 22, 3) := by decide +kernel
theorem d_AbstractStringBuilder_isLatin1_10 : decode b_AbstractStringBuilder_isLatin1 10 = .ok (.ifCond .ne 7, 3) := by decide +kernel
theorem d_AbstractStringBuilder_isLatin1_13 : decode b_AbstractStringBuilder_isLatin1 13 = .ok (.iconst 1, 1) := by decide +kernel
theorem d_AbstractStringBuilder_isLatin1_14 : decode b_AbstractStringBuilder_isLatin1 14 = .ok (.goto 4, 3) := by decide +kernel
theorem d_AbstractStringBuilder_isLatin1_17 : decode b_AbstractStringBuilder_isLatin1 17 = .ok (.iconst 0, 1) := by decide +kernel
theorem d_AbstractStringBuilder_isLatin1_18 : decode b_AbstractStringBuilder_isLatin1 18 = .ok (.ireturn, 1) := by decide +kernel
theorem d_AbstractStringBuilder_length_0 : decode b_AbstractStringBuilder_length 0 = .ok (.aload_n 0, 1) := by decide +kernel
theorem d_AbstractStringBuilder_length_1 : decode b_AbstractStringBuilder_length 1 = .ok (.getfield 79, 3) := by decide +kernel
theorem d_AbstractStringBuilder_length_4 : decode b_AbstractStringBuilder_length 4 = .ok (.ireturn, 1) := by decide +kernel
theorem d_AbstractStringBuilder_newCapacity_0 : decode b_AbstractStringBuilder_newCapacity 0 = .ok (.aload_n 0, 1) := by decide +kernel
theorem d_AbstractStringBuilder_newCapacity_1 : decode b_AbstractStringBuilder_newCapacity 1 = .ok (.getfield 15, 3) := by decide +kernel
theorem d_AbstractStringBuilder_newCapacity_4 : decode b_AbstractStringBuilder_newCapacity 4 = .ok (.arraylength, 1) := by decide +kernel
theorem d_AbstractStringBuilder_newCapacity_5 : decode b_AbstractStringBuilder_newCapacity 5 = .ok (.istore_n 2, 1) := by decide +kernel
theorem d_AbstractStringBuilder_newCapacity_6 : decode b_AbstractStringBuilder_newCapacity 6 = .ok (.iload_n 1, 1) := by decide +kernel
theorem d_AbstractStringBuilder_newCapacity_7 : decode b_AbstractStringBuilder_newCapacity 7 = .ok (.aload_n 0, 1) := by decide +kernel
theorem d_AbstractStringBuilder_newCapacity_8 : decode b_AbstractStringBuilder_newCapacity 8 = .ok (.getfield 22, 3) := by decide +kernel
theorem d_AbstractStringBuilder_newCapacity_11 : decode b_AbstractStringBuilder_newCapacity 11 = .ok (.ishl, 1) := by decide +kernel
theorem d_AbstractStringBuilder_newCapacity_12 : decode b_AbstractStringBuilder_newCapacity 12 = .ok (.istore_n 3, 1) := by decide +kernel
theorem d_AbstractStringBuilder_newCapacity_13 : decode b_AbstractStringBuilder_newCapacity 13 = .ok (.iload_n 3, 1) := by decide +kernel
theorem d_AbstractStringBuilder_newCapacity_14 : decode b_AbstractStringBuilder_newCapacity 14 = .ok (.iload_n 2, 1) := by decide +kernel
theorem d_AbstractStringBuilder_newCapacity_15 : decode b_AbstractStringBuilder_newCapacity 15 = .ok (.isub, 1) := by decide +kernel
theorem d_AbstractStringBuilder_newCapacity_16 : decode b_AbstractStringBuilder_newCapacity 16 = .ok (.istore 4, 2) := by decide +kernel
theorem d_AbstractStringBuilder_newCapacity_18 : decode b_AbstractStringBuilder_newCapacity 18 = .ok (.iload_n 2, 1) := by decide +kernel
theorem d_AbstractStringBuilder_newCapacity_19 : decode b_AbstractStringBuilder_newCapacity 19 = .ok (.iload 4, 2) := by decide +kernel
theorem d_AbstractStringBuilder_newCapacity_21 : decode b_AbstractStringBuilder_newCapacity 21 = .ok (.iload_n 2, 1) := by decide +kernel
theorem d_AbstractStringBuilder_newCapacity_22 : decode b_AbstractStringBuilder_newCapacity 22 = .ok (.iconst 2, 1) := by decide +kernel
theorem d_AbstractStringBuilder_newCapacity_23 : decode b_AbstractStringBuilder_newCapacity 23 = .ok (.aload_n 0, 1) := by decide +kernel
theorem d_AbstractStringBuilder_newCapacity_24 : decode b_AbstractStringBuilder_newCapacity 24 = .ok (.getfield 22, 3) := by decide +kernel
theorem d_AbstractStringBuilder_newCapacity_27 : decode b_AbstractStringBuilder_newCapacity 27 = .ok (.ishl, 1) := by decide +kernel
theorem d_AbstractStringBuilder_newCapacity_28 : decode b_AbstractStringBuilder_newCapacity 28 = .ok (.iadd, 1) := by decide +kernel
theorem d_AbstractStringBuilder_newCapacity_29 : decode b_AbstractStringBuilder_newCapacity 29 = .ok (.invokestatic 114, 3) := by decide +kernel
theorem d_AbstractStringBuilder_newCapacity_32 : decode b_AbstractStringBuilder_newCapacity 32 = .ok (.istore 5, 2) := by decide +kernel
theorem d_AbstractStringBuilder_newCapacity_34 : decode b_AbstractStringBuilder_newCapacity 34 = .ok (.iload 5, 2) := by decide +kernel
theorem d_AbstractStringBuilder_newCapacity_36 : decode b_AbstractStringBuilder_newCapacity 36 = .ok (.ldc 39, 2) := by decide +kernel
theorem d_AbstractStringBuilder_newCapacity_38 : decode b_AbstractStringBuilder_newCapacity 38 = .ok (.if_icmp .ne 13, 3) := by decide +kernel
theorem d_AbstractStringBuilder_newCapacity_41 : decode b_AbstractStringBuilder_newCapacity 41 = .ok (.new 120, 3) := by decide +kernel
theorem d_AbstractStringBuilder_newCapacity_44 : decode b_AbstractStringBuilder_newCapacity 44 = .ok (.dup, 1) := by decide +kernel
theorem d_AbstractStringBuilder_newCapacity_45 : decode b_AbstractStringBuilder_newCapacity 45 = .ok (.ldc 122, 2) := by decide +kernel
theorem d_AbstractStringBuilder_newCapacity_47 : decode b_AbstractStringBuilder_newCapacity 47 = .ok (.invokespecial 124, 3) := by decide +kernel
theorem d_AbstractStringBuilder_newCapacity_50 : decode b_AbstractStringBuilder_newCapacity 50 = .ok (.athrow, 1) := by decide +kernel
theorem d_AbstractStringBuilder_newCapacity_51 : decode b_AbstractStringBuilder_newCapacity 51 = .ok (.iload 5, 2) := by decide +kernel
theorem d_AbstractStringBuilder_newCapacity_53 : decode b_AbstractStringBuilder_newCapacity 53 = .ok (.aload_n 0, 1) := by decide +kernel
theorem d_AbstractStringBuilder_newCapacity_54 : decode b_AbstractStringBuilder_newCapacity 54 = .ok (.getfield 22, 3) := by decide +kernel
theorem d_AbstractStringBuilder_newCapacity_57 : decode b_AbstractStringBuilder_newCapacity 57 = .ok (.ishr, 1) := by decide +kernel
theorem d_AbstractStringBuilder_newCapacity_58 : decode b_AbstractStringBuilder_newCapacity 58 = .ok (.ireturn, 1) := by decide +kernel
theorem d_Acc_accept_0 : decode b_Acc_accept 0 = .ok (.aload_n 0, 1) := by decide +kernel
theorem d_Acc_accept_1 : decode b_Acc_accept 1 = .ok (.getfield 11, 3) := by decide +kernel
theorem d_Acc_accept_4 : decode b_Acc_accept 4 = .ok (.iload_n 1, 1) := by decide +kernel
theorem d_Acc_accept_5 : decode b_Acc_accept 5 = .ok (.aaload, 1) := by decide +kernel
theorem d_Acc_accept_6 : decode b_Acc_accept 6 = .ok (.iload_n 2, 1) := by decide +kernel
theorem d_Acc_accept_7 : decode b_Acc_accept 7 = .ok (.iload_n 3, 1) := by decide +kernel
theorem d_Acc_accept_8 : decode b_Acc_accept 8 = .ok (.iastore, 1) := by decide +kernel
theorem d_Acc_accept_9 : decode b_Acc_accept 9 = .ok (.aload_n 0, 1) := by decide +kernel
theorem d_Acc_accept_10 : decode b_Acc_accept 10 = .ok (.getfield 16, 3) := by decide +kernel
theorem d_Acc_accept_13 : decode b_Acc_accept 13 = .ok (.iload_n 1, 1) := by decide +kernel
theorem d_Acc_accept_14 : decode b_Acc_accept 14 = .ok (.aaload, 1) := by decide +kernel
theorem d_Acc_accept_15 : decode b_Acc_accept 15 = .ok (.iload_n 2, 1) := by decide +kernel
theorem d_Acc_accept_16 : decode b_Acc_accept 16 = .ok (.iload_n 3, 1) := by decide +kernel
theorem d_Acc_accept_17 : decode b_Acc_accept 17 = .ok (.iload 4, 2) := by decide +kernel
theorem d_Acc_accept_19 : decode b_Acc_accept 19 = .ok (.invokestatic 29, 3) := by decide +kernel
theorem d_Acc_accept_22 : decode b_Acc_accept 22 = .ok (.iastore, 1) := by decide +kernel
theorem d_Acc_accept_23 : decode b_Acc_accept 23 = .ok (.return_, 1) := by decide +kernel
theorem d_Acc_hasPromisedAbove_0 : decode b_Acc_hasPromisedAbove 0 = .ok (.iconst 0, 1) := by decide +kernel
theorem d_Acc_hasPromisedAbove_1 : decode b_Acc_hasPromisedAbove 1 = .ok (.istore 4, 2) := by decide +kernel
theorem d_Acc_hasPromisedAbove_3 : decode b_Acc_hasPromisedAbove 3 = .ok (.iconst 0, 1) := by decide +kernel
theorem d_Acc_hasPromisedAbove_4 : decode b_Acc_hasPromisedAbove 4 = .ok (.istore 5, 2) := by decide +kernel
theorem d_Acc_hasPromisedAbove_6 : decode b_Acc_hasPromisedAbove 6 = .ok (.iload 5, 2) := by decide +kernel
theorem d_Acc_hasPromisedAbove_8 : decode b_Acc_hasPromisedAbove 8 = .ok (.iconst 3, 1) := by decide +kernel
theorem d_Acc_hasPromisedAbove_9 : decode b_Acc_hasPromisedAbove 9 = .ok (.if_icmp .ge 34, 3) := by decide +kernel
theorem d_Acc_hasPromisedAbove_12 : decode b_Acc_hasPromisedAbove 12 = .ok (.iload_n 2, 1) := by decide +kernel
theorem d_Acc_hasPromisedAbove_13 : decode b_Acc_hasPromisedAbove 13 = .ok (.iload 5, 2) := by decide +kernel
theorem d_Acc_hasPromisedAbove_15 : decode b_Acc_hasPromisedAbove 15 = .ok (.invokestatic 25, 3) := by decide +kernel
theorem d_Acc_hasPromisedAbove_18 : decode b_Acc_hasPromisedAbove 18 = .ok (.ifCond .eq 19, 3) := by decide +kernel
theorem d_Acc_hasPromisedAbove_21 : decode b_Acc_hasPromisedAbove 21 = .ok (.aload_n 0, 1) := by decide +kernel
theorem d_Acc_hasPromisedAbove_22 : decode b_Acc_hasPromisedAbove 22 = .ok (.getfield 11, 3) := by decide +kernel
theorem d_Acc_hasPromisedAbove_25 : decode b_Acc_hasPromisedAbove 25 = .ok (.iload_n 1, 1) := by decide +kernel
theorem d_Acc_hasPromisedAbove_26 : decode b_Acc_hasPromisedAbove 26 = .ok (.aaload, 1) := by decide +kernel
theorem d_Acc_hasPromisedAbove_27 : decode b_Acc_hasPromisedAbove 27 = .ok (.iload 5, 2) := by decide +kernel
theorem d_Acc_hasPromisedAbove_29 : decode b_Acc_hasPromisedAbove 29 = .ok (.iaload, 1) := by decide +kernel
theorem d_Acc_hasPromisedAbove_30 : decode b_Acc_hasPromisedAbove 30 = .ok (.iload_n 3, 1) := by decide +kernel
theorem d_Acc_hasPromisedAbove_31 : decode b_Acc_hasPromisedAbove 31 = .ok (.if_icmp .le 6, 3) := by decide +kernel
theorem d_Acc_hasPromisedAbove_34 : decode b_Acc_hasPromisedAbove 34 = .ok (.iconst 1, 1) := by decide +kernel
theorem d_Acc_hasPromisedAbove_35 : decode b_Acc_hasPromisedAbove 35 = .ok (.istore 4, 2) := by decide +kernel
theorem d_Acc_hasPromisedAbove_37 : decode b_Acc_hasPromisedAbove 37 = .ok (.iinc 5 1, 3) := by decide +kernel
theorem d_Acc_hasPromisedAbove_40 : decode b_Acc_hasPromisedAbove 40 = .ok (.goto (-34), 3) := by decide +kernel
theorem d_Acc_hasPromisedAbove_43 : decode b_Acc_hasPromisedAbove 43 = .ok (.iload 4, 2) := by decide +kernel
theorem d_Acc_hasPromisedAbove_45 : decode b_Acc_hasPromisedAbove 45 = .ok (.ireturn, 1) := by decide +kernel
theorem d_Acc_init_0 : decode b_Acc_init 0 = .ok (.aload_n 0, 1) := by decide +kernel
theorem d_Acc_init_1 : decode b_Acc_init 1 = .ok (.invokespecial 3, 3) := by decide +kernel
theorem d_Acc_init_4 : decode b_Acc_init 4 = .ok (.aload_n 0, 1) := by decide +kernel
theorem d_Acc_init_5 : decode b_Acc_init 5 = .ok (.bipush 8, 2) := by decide +kernel
theorem d_Acc_init_7 : decode b_Acc_init 7 = .ok (.iconst 3, 1) := by decide +kernel
theorem d_Acc_init_8 : decode b_Acc_init 8 = .ok (.multianewarray 9 2, 4) := by decide +kernel
theorem d_Acc_init_12 : decode b_Acc_init 12 = .ok (.putfield 11, 3) := by decide +kernel
theorem d_Acc_init_15 : decode b_Acc_init 15 = .ok (.aload_n 0, 1) := by decide +kernel
theorem d_Acc_init_16 : decode b_Acc_init 16 = .ok (.bipush 8, 2) := by decide +kernel
theorem d_Acc_init_18 : decode b_Acc_init 18 = .ok (.iconst 3, 1) := by decide +kernel
theorem d_Acc_init_19 : decode b_Acc_init 19 = .ok (.multianewarray 9 2, 4) := by decide +kernel
theorem d_Acc_init_23 : decode b_Acc_init 23 = .ok (.putfield 16, 3) := by decide +kernel
theorem d_Acc_init_26 : decode b_Acc_init 26 = .ok (.iconst 0, 1) := by decide +kernel
theorem d_Acc_init_27 : decode b_Acc_init 27 = .ok (.istore_n 1, 1) := by decide +kernel
theorem d_Acc_init_28 : decode b_Acc_init 28 = .ok (.iload_n 1, 1) := by decide +kernel
theorem d_Acc_init_29 : decode b_Acc_init 29 = .ok (.bipush 8, 2) := by decide +kernel
theorem d_Acc_init_31 : decode b_Acc_init 31 = .ok (.if_icmp .ge 19, 3) := by decide +kernel
theorem d_Acc_init_34 : decode b_Acc_init 34 = .ok (.aload_n 0, 1) := by decide +kernel
theorem d_Acc_init_35 : decode b_Acc_init 35 = .ok (.getfield 16, 3) := by decide +kernel
theorem d_Acc_init_38 : decode b_Acc_init 38 = .ok (.iload_n 1, 1) := by decide +kernel
theorem d_Acc_init_39 : decode b_Acc_init 39 = .ok (.aaload, 1) := by decide +kernel
theorem d_Acc_init_40 : decode b_Acc_init 40 = .ok (.iconst (-1), 1) := by decide +kernel
theorem d_Acc_init_41 : decode b_Acc_init 41 = .ok (.invokestatic 19, 3) := by decide +kernel
theorem d_Acc_init_44 : decode b_Acc_init 44 = .ok (.iinc 1 1, 3) := by decide +kernel
theorem d_Acc_init_47 : decode b_Acc_init 47 = .ok (.goto (-19), 3) := by decide +kernel
theorem d_Acc_init_50 : decode b_Acc_init 50 = .ok (.return_, 1) := by decide +kernel
theorem d_Acc_promise_0 : decode b_Acc_promise 0 = .ok (.iconst 0, 1) := by decide +kernel
theorem d_Acc_promise_1 : decode b_Acc_promise 1 = .ok (.istore 4, 2) := by decide +kernel
theorem d_Acc_promise_3 : decode b_Acc_promise 3 = .ok (.iload 4, 2) := by decide +kernel
theorem d_Acc_promise_5 : decode b_Acc_promise 5 = .ok (.iconst 3, 1) := by decide +kernel
theorem d_Acc_promise_6 : decode b_Acc_promise 6 = .ok (.if_icmp .ge 28, 3) := by decide +kernel
theorem d_Acc_promise_9 : decode b_Acc_promise 9 = .ok (.iload_n 2, 1) := by decide +kernel
theorem d_Acc_promise_10 : decode b_Acc_promise 10 = .ok (.iload 4, 2) := by decide +kernel
theorem d_Acc_promise_12 : decode b_Acc_promise 12 = .ok (.invokestatic 25, 3) := by decide +kernel
theorem d_Acc_promise_15 : decode b_Acc_promise 15 = .ok (.ifCond .eq 13, 3) := by decide +kernel
theorem d_Acc_promise_18 : decode b_Acc_promise 18 = .ok (.aload_n 0, 1) := by decide +kernel
theorem d_Acc_promise_19 : decode b_Acc_promise 19 = .ok (.getfield 11, 3) := by decide +kernel
theorem d_Acc_promise_22 : decode b_Acc_promise 22 = .ok (.iload_n 1, 1) := by decide +kernel
theorem d_Acc_promise_23 : decode b_Acc_promise 23 = .ok (.aaload, 1) := by decide +kernel
theorem d_Acc_promise_24 : decode b_Acc_promise 24 = .ok (.iload 4, 2) := by decide +kernel
theorem d_Acc_promise_26 : decode b_Acc_promise 26 = .ok (.iload_n 3, 1) := by decide +kernel
theorem d_Acc_promise_27 : decode b_Acc_promise 27 = .ok (.iastore, 1) := by decide +kernel
theorem d_Acc_promise_28 : decode b_Acc_promise 28 = .ok (.iinc 4 1, 3) := by decide +kernel
theorem d_Acc_promise_31 : decode b_Acc_promise 31 = .ok (.goto (-28), 3) := by decide +kernel
theorem d_Acc_promise_34 : decode b_Acc_promise 34 = .ok (.return_, 1) := by decide +kernel
theorem d_ArraysSupport_newLength_0 : decode b_ArraysSupport_newLength 0 = .ok (.iload_n 0, 1) := by decide +kernel
theorem d_ArraysSupport_newLength_1 : decode b_ArraysSupport_newLength 1 = .ok (.iload_n 1, 1) := by decide +kernel
theorem d_ArraysSupport_newLength_2 : decode b_ArraysSupport_newLength 2 = .ok (.iload_n 2, 1) := by decide +kernel
theorem d_ArraysSupport_newLength_3 : decode b_ArraysSupport_newLength 3 = .ok (.invokestatic 194, 3) := by decide +kernel
theorem d_ArraysSupport_newLength_6 : decode b_ArraysSupport_newLength 6 = .ok (.iadd, 1) := by decide +kernel
theorem d_ArraysSupport_newLength_7 : decode b_ArraysSupport_newLength 7 = .ok (.istore_n 3, 1) := by decide +kernel
theorem d_ArraysSupport_newLength_8 : decode b_ArraysSupport_newLength 8 = .ok (.iconst 0, 1) := by decide +kernel
theorem d_ArraysSupport_newLength_9 : decode b_ArraysSupport_newLength 9 = .ok (.iload_n 3, 1) := by decide +kernel
theorem d_ArraysSupport_newLength_10 : decode b_ArraysSupport_newLength 10 = .ok (.if_icmp .ge 11, 3) := by decide +kernel
theorem d_ArraysSupport_newLength_13 : decode b_ArraysSupport_newLength 13 = .ok (.iload_n 3, 1) := by decide +kernel
theorem d_ArraysSupport_newLength_14 : decode b_ArraysSupport_newLength 14 = .ok (.ldc 200, 2) := by decide +kernel
theorem d_ArraysSupport_newLength_16 : decode b_ArraysSupport_newLength 16 = .ok (.if_icmp .gt 5, 3) := by decide +kernel
theorem d_ArraysSupport_newLength_19 : decode b_ArraysSupport_newLength 19 = .ok (.iload_n 3, 1) := by decide +kernel
theorem d_ArraysSupport_newLength_20 : decode b_ArraysSupport_newLength 20 = .ok (.ireturn, 1) := by decide +kernel
theorem d_ArraysSupport_newLength_21 : decode b_ArraysSupport_newLength 21 = .ok (.iload_n 0, 1) := by decide +kernel
theorem d_ArraysSupport_newLength_22 : decode b_ArraysSupport_newLength 22 = .ok (.iload_n 1, 1) := by decide +kernel
theorem d_ArraysSupport_newLength_23 : decode b_ArraysSupport_newLength 23 = .ok (.invokestatic 201, 3) := by decide +kernel
theorem d_ArraysSupport_newLength_26 : decode b_ArraysSupport_newLength 26 = .ok (.ireturn, 1) := by decide +kernel
theorem d_Arrays_copyOf_0 : decode b_Arrays_copyOf 0 = .ok (.iload_n 1, 1) := by decide +kernel
theorem d_Arrays_copyOf_1 : decode b_Arrays_copyOf 1 = .ok (.aload_n 0, 1) := by decide +kernel
theorem d_Arrays_copyOf_2 : decode b_Arrays_copyOf 2 = .ok (.arraylength, 1) := by decide +kernel
theorem d_Arrays_copyOf_3 : decode b_Arrays_copyOf 3 = .ok (.if_icmp .ne 11, 3) := by decide +kernel
theorem d_Arrays_copyOf_6 : decode b_Arrays_copyOf 6 = .ok (.aload_n 0, 1) := by decide +kernel
theorem d_Arrays_copyOf_7 : decode b_Arrays_copyOf 7 = .ok (.invokevirtual 310, 3) := by decide +kernel
theorem d_Arrays_copyOf_10 : decode b_Arrays_copyOf 10 = .ok (.checkcast 311, 3) := by decide +kernel
theorem d_Arrays_copyOf_13 : decode b_Arrays_copyOf 13 = .ok (.areturn, 1) := by decide +kernel
theorem d_Arrays_copyOf_14 : decode b_Arrays_copyOf 14 = .ok (.iload_n 1, 1) := by decide +kernel
theorem d_Arrays_copyOf_15 : decode b_Arrays_copyOf 15 = .ok (.newarray .byte, 2) := by decide +kernel
theorem d_Arrays_copyOf_17 : decode b_Arrays_copyOf 17 = .ok (.astore_n 2, 1) := by decide +kernel
theorem d_Arrays_copyOf_18 : decode b_Arrays_copyOf 18 = .ok (.aload_n 0, 1) := by decide +kernel
theorem d_Arrays_copyOf_19 : decode b_Arrays_copyOf 19 = .ok (.iconst 0, 1) := by decide +kernel
theorem d_Arrays_copyOf_20 : decode b_Arrays_copyOf 20 = .ok (.aload_n 2, 1) := by decide +kernel
theorem d_Arrays_copyOf_21 : decode b_Arrays_copyOf 21 = .ok (.iconst 0, 1) := by decide +kernel
theorem d_Arrays_copyOf_22 : decode b_Arrays_copyOf 22 = .ok (.aload_n 0, 1) := by decide +kernel
theorem d_Arrays_copyOf_23 : decode b_Arrays_copyOf 23 = .ok (.arraylength, 1) := by decide +kernel
theorem d_Arrays_copyOf_24 : decode b_Arrays_copyOf 24 = .ok (.iload_n 1, 1) := by decide +kernel
theorem d_Arrays_copyOf_25 : decode b_Arrays_copyOf 25 = .ok (.invokestatic 304, 3) := by decide +kernel
theorem d_Arrays_copyOf_28 : decode b_Arrays_copyOf 28 = .ok (.invokestatic 150, 3) := by decide +kernel
theorem d_Arrays_copyOf_31 : decode b_Arrays_copyOf 31 = .ok (.aload_n 2, 1) := by decide +kernel
theorem d_Arrays_copyOf_32 : decode b_Arrays_copyOf 32 = .ok (.areturn, 1) := by decide +kernel
theorem d_Arrays_fill_0 : decode b_Arrays_fill 0 = .ok (.iconst 0, 1) := by decide +kernel
theorem d_Arrays_fill_1 : decode b_Arrays_fill 1 = .ok (.istore_n 2, 1) := by decide +kernel
theorem d_Arrays_fill_2 : decode b_Arrays_fill 2 = .ok (.aload_n 0, 1) := by decide +kernel
theorem d_Arrays_fill_3 : decode b_Arrays_fill 3 = .ok (.arraylength, 1) := by decide +kernel
theorem d_Arrays_fill_4 : decode b_Arrays_fill 4 = .ok (.istore_n 3, 1) := by decide +kernel
theorem d_Arrays_fill_5 : decode b_Arrays_fill 5 = .ok (.iload_n 2, 1) := by decide +kernel
theorem d_Arrays_fill_6 : decode b_Arrays_fill 6 = .ok (.iload_n 3, 1) := by decide +kernel
theorem d_Arrays_fill_7 : decode b_Arrays_fill 7 = .ok (.if_icmp .ge 13, 3) := by decide +kernel
theorem d_Arrays_fill_10 : decode b_Arrays_fill 10 = .ok (.aload_n 0, 1) := by decide +kernel
theorem d_Arrays_fill_11 : decode b_Arrays_fill 11 = .ok (.iload_n 2, 1) := by decide +kernel
theorem d_Arrays_fill_12 : decode b_Arrays_fill 12 = .ok (.iload_n 1, 1) := by decide +kernel
theorem d_Arrays_fill_13 : decode b_Arrays_fill 13 = .ok (.iastore, 1) := by decide +kernel
theorem d_Arrays_fill_14 : decode b_Arrays_fill 14 = .ok (.iinc 2 1, 3) := by decide +kernel
theorem d_Arrays_fill_17 : decode b_Arrays_fill 17 = .ok (.goto (-12), 3) := by decide +kernel
theorem d_Arrays_fill_20 : decode b_Arrays_fill 20 = .ok (.return_, 1) := by decide +kernel
theorem d_Integer_bitCount_0 : decode b_Integer_bitCount 0 = .ok (.iload_n 0, 1) := by decide +kernel
theorem d_Integer_bitCount_1 : decode b_Integer_bitCount 1 = .ok (.iload_n 0, 1) := by decide +kernel
theorem d_Integer_bitCount_2 : decode b_Integer_bitCount 2 = .ok (.iconst 1, 1) := by decide +kernel
theorem d_Integer_bitCount_3 : decode b_Integer_bitCount 3 = .ok (.iushr, 1) := by decide +kernel
theorem d_Integer_bitCount_4 : decode b_Integer_bitCount 4 = .ok (.ldc_w 265, 3) := by decide +kernel
theorem d_Integer_bitCount_7 : decode b_Integer_bitCount 7 = .ok (.iand, 1) := by decide +kernel
theorem d_Integer_bitCount_8 : decode b_Integer_bitCount 8 = .ok (.isub, 1) := by decide +kernel
theorem d_Integer_bitCount_9 : decode b_Integer_bitCount 9 = .ok (.istore_n 0, 1) := by decide +kernel
theorem d_Integer_bitCount_10 : decode b_Integer_bitCount 10 = .ok (.iload_n 0, 1) := by decide +kernel
theorem d_Integer_bitCount_11 : decode b_Integer_bitCount 11 = .ok (.ldc_w 266, 3) := by decide +kernel
theorem d_Integer_bitCount_14 : decode b_Integer_bitCount 14 = .ok (.iand, 1) := by decide +kernel
theorem d_Integer_bitCount_15 : decode b_Integer_bitCount 15 = .ok (.iload_n 0, 1) := by decide +kernel
theorem d_Integer_bitCount_16 : decode b_Integer_bitCount 16 = .ok (.iconst 2, 1) := by decide +kernel
theorem d_Integer_bitCount_17 : decode b_Integer_bitCount 17 = .ok (.iushr, 1) := by decide +kernel
theorem d_Integer_bitCount_18 : decode b_Integer_bitCount 18 = .ok (.ldc_w 266, 3) := by decide +kernel
theorem d_Integer_bitCount_21 : decode b_Integer_bitCount 21 = .ok (.iand, 1) := by decide +kernel
theorem d_Integer_bitCount_22 : decode b_Integer_bitCount 22 = .ok (.iadd, 1) := by decide +kernel
theorem d_Integer_bitCount_23 : decode b_Integer_bitCount 23 = .ok (.istore_n 0, 1) := by decide +kernel
theorem d_Integer_bitCount_24 : decode b_Integer_bitCount 24 = .ok (.iload_n 0, 1) := by decide +kernel
theorem d_Integer_bitCount_25 : decode b_Integer_bitCount 25 = .ok (.iload_n 0, 1) := by decide +kernel
theorem d_Integer_bitCount_26 : decode b_Integer_bitCount 26 = .ok (.iconst 4, 1) := by decide +kernel
theorem d_Integer_bitCount_27 : decode b_Integer_bitCount 27 = .ok (.iushr, 1) := by decide +kernel
theorem d_Integer_bitCount_28 : decode b_Integer_bitCount 28 = .ok (.iadd, 1) := by decide +kernel
theorem d_Integer_bitCount_29 : decode b_Integer_bitCount 29 = .ok (.ldc_w 267, 3) := by decide +kernel
theorem d_Integer_bitCount_32 : decode b_Integer_bitCount 32 = .ok (.iand, 1) := by decide +kernel
theorem d_Integer_bitCount_33 : decode b_Integer_bitCount 33 = .ok (.istore_n 0, 1) := by decide +kernel
theorem d_Integer_bitCount_34 : decode b_Integer_bitCount 34 = .ok (.iload_n 0, 1) := by decide +kernel
theorem d_Integer_bitCount_35 : decode b_Integer_bitCount 35 = .ok (.iload_n 0, 1) := by decide +kernel
theorem d_Integer_bitCount_36 : decode b_Integer_bitCount 36 = .ok (.bipush 8, 2) := by decide +kernel
theorem d_Integer_bitCount_38 : decode b_Integer_bitCount 38 = .ok (.iushr, 1) := by decide +kernel
theorem d_Integer_bitCount_39 : decode b_Integer_bitCount 39 = .ok (.iadd, 1) := by decide +kernel
theorem d_Integer_bitCount_40 : decode b_Integer_bitCount 40 = .ok (.istore_n 0, 1) := by decide +kernel
theorem d_Integer_bitCount_41 : decode b_Integer_bitCount 41 = .ok (.iload_n 0, 1) := by decide +kernel
theorem d_Integer_bitCount_42 : decode b_Integer_bitCount 42 = .ok (.iload_n 0, 1) := by decide +kernel
theorem d_Integer_bitCount_43 : decode b_Integer_bitCount 43 = .ok (.bipush 16, 2) := by decide +kernel
theorem d_Integer_bitCount_45 : decode b_Integer_bitCount 45 = .ok (.iushr, 1) := by decide +kernel
theorem d_Integer_bitCount_46 : decode b_Integer_bitCount 46 = .ok (.iadd, 1) := by decide +kernel
theorem d_Integer_bitCount_47 : decode b_Integer_bitCount 47 = .ok (.istore_n 0, 1) := by decide +kernel
theorem d_Integer_bitCount_48 : decode b_Integer_bitCount 48 = .ok (.iload_n 0, 1) := by decide +kernel
theorem d_Integer_bitCount_49 : decode b_Integer_bitCount 49 = .ok (.bipush 63, 2) := by decide +kernel
theorem d_Integer_bitCount_51 : decode b_Integer_bitCount 51 = .ok (.iand, 1) := by decide +kernel
theorem d_Integer_bitCount_52 : decode b_Integer_bitCount 52 = .ok (.ireturn, 1) := by decide +kernel
theorem d_Integer_getChars_0 : decode b_Integer_getChars 0 = .ok (.iload_n 1, 1) := by decide +kernel
theorem d_Integer_getChars_1 : decode b_Integer_getChars 1 = .ok (.istore 5, 2) := by decide +kernel
theorem d_Integer_getChars_3 : decode b_Integer_getChars 3 = .ok (.iload_n 0, 1) := by decide +kernel
theorem d_Integer_getChars_4 : decode b_Integer_getChars 4 = .ok (.ifCond .ge 7, 3) := by decide +kernel
theorem d_Integer_getChars_7 : decode b_Integer_getChars 7 = .ok (.iconst 1, 1) := by decide +kernel
theorem d_Integer_getChars_8 : decode b_Integer_getChars 8 = .ok (.goto 4, 3) := by decide +kernel
theorem d_Integer_getChars_11 : decode b_Integer_getChars 11 = .ok (.iconst 0, 1) := by decide +kernel
theorem d_Integer_getChars_12 : decode b_Integer_getChars 12 = .ok (.istore 6, 2) := by decide +kernel
theorem d_Integer_getChars_14 : decode b_Integer_getChars 14 = .ok (.iload 6, 2) := by decide +kernel
theorem d_Integer_getChars_16 : decode b_Integer_getChars 16 = .ok (.ifCond .ne 6, 3) := by decide +kernel
theorem d_Integer_getChars_19 : decode b_Integer_getChars 19 = .ok (.iload_n 0, 1) := by decide +kernel
theorem d_Integer_getChars_20 : decode b_Integer_getChars 20 = .ok (.ineg, 1) := by decide +kernel
theorem d_Integer_getChars_21 : decode b_Integer_getChars 21 = .ok (.istore_n 0, 1) := by decide +kernel
theorem d_Integer_getChars_22 : decode b_Integer_getChars 22 = .ok (.iload_n 0, 1) := by decide +kernel
theorem d_Integer_getChars_23 : decode b_Integer_getChars 23 = .ok (.bipush (-100), 2) := by decide +kernel
theorem d_Integer_getChars_25 : decode b_Integer_getChars 25 = .ok (.if_icmp .gt 47, 3) := by decide +kernel
theorem d_Integer_getChars_28 : decode b_Integer_getChars 28 = .ok (.iload_n 0, 1) := by decide +kernel
theorem d_Integer_getChars_29 : decode b_Integer_getChars 29 = .ok (.bipush 100, 2) := by decide +kernel
theorem d_Integer_getChars_31 : decode b_Integer_getChars 31 = .ok (.idiv, 1) := by decide +kernel
theorem d_Integer_getChars_32 : decode b_Integer_getChars 32 = .ok (.istore_n 3, 1) := by decide +kernel
theorem d_Integer_getChars_33 : decode b_Integer_getChars 33 = .ok (.iload_n 3, 1) := by decide +kernel
theorem d_Integer_getChars_34 : decode b_Integer_getChars 34 = .ok (.bipush 100, 2) := by decide +kernel
theorem d_Integer_getChars_36 : decode b_Integer_getChars 36 = .ok (.imul, 1) := by decide +kernel
theorem d_Integer_getChars_37 : decode b_Integer_getChars 37 = .ok (.iload_n 0, 1) := by decide +kernel
theorem d_Integer_getChars_38 : decode b_Integer_getChars 38 = .ok (.isub, 1) := by decide +kernel
theorem d_Integer_getChars_39 : decode b_Integer_getChars 39 = .ok (.istore 4, 2) := by decide +kernel
theorem d_Integer_getChars_41 : decode b_Integer_getChars 41 = .ok (.iload_n 3, 1) := by decide +kernel
theorem d_Integer_getChars_42 : decode b_Integer_getChars 42 = .ok (.istore_n 0, 1) := by decide +kernel
theorem d_Integer_getChars_43 : decode b_Integer_getChars 43 = .ok (.aload_n 2, 1) := by decide +kernel
theorem d_Integer_getChars_44 : decode b_Integer_getChars 44 = .ok (.iinc 5 (-1), 3) := by decide +kernel
theorem d_Integer_getChars_47 : decode b_Integer_getChars 47 = .ok (.iload 5, 2) := by decide +kernel
theorem d_Integer_getChars_49 : decode b_Integer_getChars 49 = .ok (.getstatic 83, 3) := by decide +kernel
theorem d_Integer_getChars_52 : decode b_Integer_getChars 52 = .ok (.iload 4, 2) := by decide +kernel
theorem d_Integer_getChars_54 : decode b_Integer_getChars 54 = .ok (.baload, 1) := by decide +kernel
theorem d_Integer_getChars_55 : decode b_Integer_getChars 55 = .ok (.bastore, 1) := by decide +kernel
theorem d_Integer_getChars_56 : decode b_Integer_getChars 56 = .ok (.aload_n 2, 1) := by decide +kernel
theorem d_Integer_getChars_57 : decode b_Integer_getChars 57 = .ok (.iinc 5 (-1), 3) := by decide +kernel
theorem d_Integer_getChars_60 : decode b_Integer_getChars 60 = .ok (.iload 5, 2) := by decide +kernel
theorem d_Integer_getChars_62 : decode b_Integer_getChars 62 = .ok (.getstatic 87, 3) := by decide +kernel
theorem d_Integer_getChars_65 : decode b_Integer_getChars 65 = .ok (.iload 4, 2) := by decide +kernel
theorem d_Integer_getChars_67 : decode b_Integer_getChars 67 = .ok (.baload, 1) := by decide +kernel
theorem d_Integer_getChars_68 : decode b_Integer_getChars 68 = .ok (.bastore, 1) := by decide +kernel
theorem d_Integer_getChars_69 : decode b_Integer_getChars 69 = .ok (.goto (-47), 3) := by decide +kernel
theorem d_Integer_getChars_72 : decode b_Integer_getChars 72 = .ok (.aload_n 2, 1) := by decide +kernel
theorem d_Integer_getChars_73 : decode b_Integer_getChars 73 = .ok (.iinc 5 (-1), 3) := by decide +kernel
theorem d_Integer_getChars_76 : decode b_Integer_getChars 76 = .ok (.iload 5, 2) := by decide +kernel
theorem d_Integer_getChars_78 : decode b_Integer_getChars 78 = .ok (.getstatic 83, 3) := by decide +kernel
theorem d_Integer_getChars_81 : decode b_Integer_getChars 81 = .ok (.iload_n 0, 1) := by decide +kernel
theorem d_Integer_getChars_82 : decode b_Integer_getChars 82 = .ok (.ineg, 1) := by decide +kernel
theorem d_Integer_getChars_83 : decode b_Integer_getChars 83 = .ok (.baload, 1) := by decide +kernel
theorem d_Integer_getChars_84 : decode b_Integer_getChars 84 = .ok (.bastore, 1) := by decide +kernel
theorem d_Integer_getChars_85 : decode b_Integer_getChars 85 = .ok (.iload_n 0, 1) := by decide +kernel
theorem d_Integer_getChars_86 : decode b_Integer_getChars 86 = .ok (.bipush (-9), 2) := by decide +kernel
theorem d_Integer_getChars_88 : decode b_Integer_getChars 88 = .ok (.if_icmp .ge 16, 3) := by decide +kernel
theorem d_Integer_getChars_91 : decode b_Integer_getChars 91 = .ok (.aload_n 2, 1) := by decide +kernel
theorem d_Integer_getChars_92 : decode b_Integer_getChars 92 = .ok (.iinc 5 (-1), 3) := by decide +kernel
theorem d_Integer_getChars_95 : decode b_Integer_getChars 95 = .ok (.iload 5, 2) := by decide +kernel
theorem d_Integer_getChars_97 : decode b_Integer_getChars 97 = .ok (.getstatic 87, 3) := by decide +kernel
theorem d_Integer_getChars_100 : decode b_Integer_getChars 100 = .ok (.iload_n 0, 1) := by decide +kernel
theorem d_Integer_getChars_101 : decode b_Integer_getChars 101 = .ok (.ineg, 1) := by decide +kernel
theorem d_Integer_getChars_102 : decode b_Integer_getChars 102 = .ok (.baload, 1) := by decide +kernel
theorem d_Integer_getChars_103 : decode b_Integer_getChars 103 = .ok (.bastore, 1) := by decide +kernel
theorem d_Integer_getChars_104 : decode b_Integer_getChars 104 = .ok (.iload 6, 2) := by decide +kernel
theorem d_Integer_getChars_106 : decode b_Integer_getChars 106 = .ok (.ifCond .eq 12, 3) := by decide +kernel
theorem d_Integer_getChars_109 : decode b_Integer_getChars 109 = .ok (.aload_n 2, 1) := by decide +kernel
theorem d_Integer_getChars_110 : decode b_Integer_getChars 110 = .ok (.iinc 5 (-1), 3) := by decide +kernel
theorem d_Integer_getChars_113 : decode b_Integer_getChars 113 = .ok (.iload 5, 2) := by decide +kernel
theorem d_Integer_getChars_115 : decode b_Integer_getChars 115 = .ok (.bipush 45, 2) := by decide +kernel
theorem d_Integer_getChars_117 : decode b_Integer_getChars 117 = .ok (.bastore, 1) := by decide +kernel
theorem d_Integer_getChars_118 : decode b_Integer_getChars 118 = .ok (.iload 5, 2) := by decide +kernel
theorem d_Integer_getChars_120 : decode b_Integer_getChars 120 = .ok (.ireturn, 1) := by decide +kernel
theorem d_Integer_stringSize_0 : decode b_Integer_stringSize 0 = .ok (.iconst 1, 1) := by decide +kernel
theorem d_Integer_stringSize_1 : decode b_Integer_stringSize 1 = .ok (.istore_n 1, 1) := by decide +kernel
theorem d_Integer_stringSize_2 : decode b_Integer_stringSize 2 = .ok (.iload_n 0, 1) := by decide +kernel
theorem d_Integer_stringSize_3 : decode b_Integer_stringSize 3 = .ok (.ifCond .lt 8, 3) := by decide +kernel
theorem d_Integer_stringSize_6 : decode b_Integer_stringSize 6 = .ok (.iconst 0, 1) := by decide +kernel
theorem d_Integer_stringSize_7 : decode b_Integer_stringSize 7 = .ok (.istore_n 1, 1) := by decide +kernel
theorem d_Integer_stringSize_8 : decode b_Integer_stringSize 8 = .ok (.iload_n 0, 1) := by decide +kernel
theorem d_Integer_stringSize_9 : decode b_Integer_stringSize 9 = .ok (.ineg, 1) := by decide +kernel
theorem d_Integer_stringSize_10 : decode b_Integer_stringSize 10 = .ok (.istore_n 0, 1) := by decide +kernel
theorem d_Integer_stringSize_11 : decode b_Integer_stringSize 11 = .ok (.bipush (-10), 2) := by decide +kernel
theorem d_Integer_stringSize_13 : decode b_Integer_stringSize 13 = .ok (.istore_n 2, 1) := by decide +kernel
theorem d_Integer_stringSize_14 : decode b_Integer_stringSize 14 = .ok (.iconst 1, 1) := by decide +kernel
theorem d_Integer_stringSize_15 : decode b_Integer_stringSize 15 = .ok (.istore_n 3, 1) := by decide +kernel
theorem d_Integer_stringSize_16 : decode b_Integer_stringSize 16 = .ok (.iload_n 3, 1) := by decide +kernel
theorem d_Integer_stringSize_17 : decode b_Integer_stringSize 17 = .ok (.bipush 10, 2) := by decide +kernel
theorem d_Integer_stringSize_19 : decode b_Integer_stringSize 19 = .ok (.if_icmp .ge 23, 3) := by decide +kernel
theorem d_Integer_stringSize_22 : decode b_Integer_stringSize 22 = .ok (.iload_n 0, 1) := by decide +kernel
theorem d_Integer_stringSize_23 : decode b_Integer_stringSize 23 = .ok (.iload_n 2, 1) := by decide +kernel
theorem d_Integer_stringSize_24 : decode b_Integer_stringSize 24 = .ok (.if_icmp .le 7, 3) := by decide +kernel
theorem d_Integer_stringSize_27 : decode b_Integer_stringSize 27 = .ok (.iload_n 3, 1) := by decide +kernel
theorem d_Integer_stringSize_28 : decode b_Integer_stringSize 28 = .ok (.iload_n 1, 1) := by decide +kernel
theorem d_Integer_stringSize_29 : decode b_Integer_stringSize 29 = .ok (.iadd, 1) := by decide +kernel
theorem d_Integer_stringSize_30 : decode b_Integer_stringSize 30 = .ok (.ireturn, 1) := by decide +kernel
theorem d_Integer_stringSize_31 : decode b_Integer_stringSize 31 = .ok (.bipush 10, 2) := by decide +kernel
theorem d_Integer_stringSize_33 : decode b_Integer_stringSize 33 = .ok (.iload_n 2, 1) := by decide +kernel
theorem d_Integer_stringSize_34 : decode b_Integer_stringSize 34 = .ok (.imul, 1) := by decide +kernel
theorem d_Integer_stringSize_35 : decode b_Integer_stringSize 35 = .ok (.istore_n 2, 1) := by decide +kernel
theorem d_Integer_stringSize_36 : decode b_Integer_stringSize 36 = .ok (.iinc 3 1, 3) := by decide +kernel
theorem d_Integer_stringSize_39 : decode b_Integer_stringSize 39 = .ok (.goto (-23), 3) := by decide +kernel
theorem d_Integer_stringSize_42 : decode b_Integer_stringSize 42 = .ok (.bipush 10, 2) := by decide +kernel
theorem d_Integer_stringSize_44 : decode b_Integer_stringSize 44 = .ok (.iload_n 1, 1) := by decide +kernel
theorem d_Integer_stringSize_45 : decode b_Integer_stringSize 45 = .ok (.iadd, 1) := by decide +kernel
theorem d_Integer_stringSize_46 : decode b_Integer_stringSize 46 = .ok (.ireturn, 1) := by decide +kernel
theorem d_Law_begin_0 : decode b_Law_begin 0 = .ok (.aload_n 1, 1) := by decide +kernel
theorem d_Law_begin_1 : decode b_Law_begin 1 = .ok (.iconst 0, 1) := by decide +kernel
theorem d_Law_begin_2 : decode b_Law_begin 2 = .ok (.aload_n 0, 1) := by decide +kernel
theorem d_Law_begin_3 : decode b_Law_begin 3 = .ok (.invokevirtual 7, 3) := by decide +kernel
theorem d_Law_begin_6 : decode b_Law_begin 6 = .ok (.i2l, 1) := by decide +kernel
theorem d_Law_begin_7 : decode b_Law_begin 7 = .ok (.lastore, 1) := by decide +kernel
theorem d_Law_begin_8 : decode b_Law_begin 8 = .ok (.goto 6, 3) := by decide +kernel
theorem d_Law_begin_11 : decode b_Law_begin 11 = .ok (.astore_n 2, 1) := by decide +kernel
theorem d_Law_begin_12 : decode b_Law_begin 12 = .ok (.iconst 1, 1) := by decide +kernel
theorem d_Law_begin_13 : decode b_Law_begin 13 = .ok (.ireturn, 1) := by decide +kernel
theorem d_Law_begin_14 : decode b_Law_begin 14 = .ok (.iconst 0, 1) := by decide +kernel
theorem d_Law_begin_15 : decode b_Law_begin 15 = .ok (.ireturn, 1) := by decide +kernel
theorem d_Law_cell_0 : decode b_Law_cell 0 = .ok (.iload_n 1, 1) := by decide +kernel
theorem d_Law_cell_1 : decode b_Law_cell 1 = .ok (.aload_n 0, 1) := by decide +kernel
theorem d_Law_cell_2 : decode b_Law_cell 2 = .ok (.arraylength, 1) := by decide +kernel
theorem d_Law_cell_3 : decode b_Law_cell 3 = .ok (.if_icmp .ge 9, 3) := by decide +kernel
theorem d_Law_cell_6 : decode b_Law_cell 6 = .ok (.aload_n 0, 1) := by decide +kernel
theorem d_Law_cell_7 : decode b_Law_cell 7 = .ok (.iload_n 1, 1) := by decide +kernel
theorem d_Law_cell_8 : decode b_Law_cell 8 = .ok (.iaload, 1) := by decide +kernel
theorem d_Law_cell_9 : decode b_Law_cell 9 = .ok (.goto 4, 3) := by decide +kernel
theorem d_Law_cell_12 : decode b_Law_cell 12 = .ok (.iconst 0, 1) := by decide +kernel
theorem d_Law_cell_13 : decode b_Law_cell 13 = .ok (.ireturn, 1) := by decide +kernel
theorem d_Law_count_0 : decode b_Law_count 0 = .ok (.aload_n 2, 1) := by decide +kernel
theorem d_Law_count_1 : decode b_Law_count 1 = .ok (.iconst 0, 1) := by decide +kernel
theorem d_Law_count_2 : decode b_Law_count 2 = .ok (.aload_n 0, 1) := by decide +kernel
theorem d_Law_count_3 : decode b_Law_count 3 = .ok (.iload_n 1, 1) := by decide +kernel
theorem d_Law_count_4 : decode b_Law_count 4 = .ok (.invokevirtual 68, 3) := by decide +kernel
theorem d_Law_count_7 : decode b_Law_count 7 = .ok (.i2l, 1) := by decide +kernel
theorem d_Law_count_8 : decode b_Law_count 8 = .ok (.lastore, 1) := by decide +kernel
theorem d_Law_count_9 : decode b_Law_count 9 = .ok (.goto 6, 3) := by decide +kernel
theorem d_Law_count_12 : decode b_Law_count 12 = .ok (.astore_n 3, 1) := by decide +kernel
theorem d_Law_count_13 : decode b_Law_count 13 = .ok (.iconst 1, 1) := by decide +kernel
theorem d_Law_count_14 : decode b_Law_count 14 = .ok (.ireturn, 1) := by decide +kernel
theorem d_Law_count_15 : decode b_Law_count 15 = .ok (.iconst 0, 1) := by decide +kernel
theorem d_Law_count_16 : decode b_Law_count 16 = .ok (.ireturn, 1) := by decide +kernel
theorem d_Law_deliver_0 : decode b_Law_deliver 0 = .ok (.aload_n 3, 1) := by decide +kernel
theorem d_Law_deliver_1 : decode b_Law_deliver 1 = .ok (.iconst 0, 1) := by decide +kernel
theorem d_Law_deliver_2 : decode b_Law_deliver 2 = .ok (.aload_n 0, 1) := by decide +kernel
theorem d_Law_deliver_3 : decode b_Law_deliver 3 = .ok (.iload_n 1, 1) := by decide +kernel
theorem d_Law_deliver_4 : decode b_Law_deliver 4 = .ok (.iload_n 2, 1) := by decide +kernel
theorem d_Law_deliver_5 : decode b_Law_deliver 5 = .ok (.invokevirtual 36, 3) := by decide +kernel
theorem d_Law_deliver_8 : decode b_Law_deliver 8 = .ok (.i2l, 1) := by decide +kernel
theorem d_Law_deliver_9 : decode b_Law_deliver 9 = .ok (.lastore, 1) := by decide +kernel
theorem d_Law_deliver_10 : decode b_Law_deliver 10 = .ok (.goto 7, 3) := by decide +kernel
theorem d_Law_deliver_13 : decode b_Law_deliver 13 = .ok (.astore 4, 2) := by decide +kernel
theorem d_Law_deliver_15 : decode b_Law_deliver 15 = .ok (.iconst 1, 1) := by decide +kernel
theorem d_Law_deliver_16 : decode b_Law_deliver 16 = .ok (.ireturn, 1) := by decide +kernel
theorem d_Law_deliver_17 : decode b_Law_deliver 17 = .ok (.iconst 0, 1) := by decide +kernel
theorem d_Law_deliver_18 : decode b_Law_deliver 18 = .ok (.ireturn, 1) := by decide +kernel
theorem d_Law_lock_0 : decode b_Law_lock 0 = .ok (.aload_n 3, 1) := by decide +kernel
theorem d_Law_lock_1 : decode b_Law_lock 1 = .ok (.iconst 0, 1) := by decide +kernel
theorem d_Law_lock_2 : decode b_Law_lock 2 = .ok (.aload_n 0, 1) := by decide +kernel
theorem d_Law_lock_3 : decode b_Law_lock 3 = .ok (.iload_n 1, 1) := by decide +kernel
theorem d_Law_lock_4 : decode b_Law_lock 4 = .ok (.iload_n 2, 1) := by decide +kernel
theorem d_Law_lock_5 : decode b_Law_lock 5 = .ok (.invokevirtual 55, 3) := by decide +kernel
theorem d_Law_lock_8 : decode b_Law_lock 8 = .ok (.i2l, 1) := by decide +kernel
theorem d_Law_lock_9 : decode b_Law_lock 9 = .ok (.lastore, 1) := by decide +kernel
theorem d_Law_lock_10 : decode b_Law_lock 10 = .ok (.goto 7, 3) := by decide +kernel
theorem d_Law_lock_13 : decode b_Law_lock 13 = .ok (.astore 4, 2) := by decide +kernel
theorem d_Law_lock_15 : decode b_Law_lock 15 = .ok (.iconst 1, 1) := by decide +kernel
theorem d_Law_lock_16 : decode b_Law_lock 16 = .ok (.ireturn, 1) := by decide +kernel
theorem d_Law_lock_17 : decode b_Law_lock 17 = .ok (.iconst 0, 1) := by decide +kernel
theorem d_Law_lock_18 : decode b_Law_lock 18 = .ok (.ireturn, 1) := by decide +kernel
theorem d_Law_lose_0 : decode b_Law_lose 0 = .ok (.aload_n 2, 1) := by decide +kernel
theorem d_Law_lose_1 : decode b_Law_lose 1 = .ok (.iconst 0, 1) := by decide +kernel
theorem d_Law_lose_2 : decode b_Law_lose 2 = .ok (.aload_n 0, 1) := by decide +kernel
theorem d_Law_lose_3 : decode b_Law_lose 3 = .ok (.iload_n 1, 1) := by decide +kernel
theorem d_Law_lose_4 : decode b_Law_lose 4 = .ok (.invokevirtual 42, 3) := by decide +kernel
theorem d_Law_lose_7 : decode b_Law_lose 7 = .ok (.i2l, 1) := by decide +kernel
theorem d_Law_lose_8 : decode b_Law_lose 8 = .ok (.lastore, 1) := by decide +kernel
theorem d_Law_lose_9 : decode b_Law_lose 9 = .ok (.goto 6, 3) := by decide +kernel
theorem d_Law_lose_12 : decode b_Law_lose 12 = .ok (.astore_n 3, 1) := by decide +kernel
theorem d_Law_lose_13 : decode b_Law_lose 13 = .ok (.iconst 1, 1) := by decide +kernel
theorem d_Law_lose_14 : decode b_Law_lose 14 = .ok (.ireturn, 1) := by decide +kernel
theorem d_Law_lose_15 : decode b_Law_lose 15 = .ok (.iconst 0, 1) := by decide +kernel
theorem d_Law_lose_16 : decode b_Law_lose 16 = .ok (.ireturn, 1) := by decide +kernel
theorem d_Law_outcome_0 : decode b_Law_outcome 0 = .ok (.aload_n 3, 1) := by decide +kernel
theorem d_Law_outcome_1 : decode b_Law_outcome 1 = .ok (.iconst 0, 1) := by decide +kernel
theorem d_Law_outcome_2 : decode b_Law_outcome 2 = .ok (.aload_n 0, 1) := by decide +kernel
theorem d_Law_outcome_3 : decode b_Law_outcome 3 = .ok (.iload_n 1, 1) := by decide +kernel
theorem d_Law_outcome_4 : decode b_Law_outcome 4 = .ok (.iload_n 2, 1) := by decide +kernel
theorem d_Law_outcome_5 : decode b_Law_outcome 5 = .ok (.invokevirtual 61, 3) := by decide +kernel
theorem d_Law_outcome_8 : decode b_Law_outcome 8 = .ok (.i2l, 1) := by decide +kernel
theorem d_Law_outcome_9 : decode b_Law_outcome 9 = .ok (.lastore, 1) := by decide +kernel
theorem d_Law_outcome_10 : decode b_Law_outcome 10 = .ok (.goto 15, 3) := by decide +kernel
theorem d_Law_outcome_13 : decode b_Law_outcome 13 = .ok (.astore 4, 2) := by decide +kernel
theorem d_Law_outcome_15 : decode b_Law_outcome 15 = .ok (.iconst 1, 1) := by decide +kernel
theorem d_Law_outcome_16 : decode b_Law_outcome 16 = .ok (.ireturn, 1) := by decide +kernel
theorem d_Law_outcome_17 : decode b_Law_outcome 17 = .ok (.astore 4, 2) := by decide +kernel
theorem d_Law_outcome_19 : decode b_Law_outcome 19 = .ok (.iconst 2, 1) := by decide +kernel
theorem d_Law_outcome_20 : decode b_Law_outcome 20 = .ok (.ireturn, 1) := by decide +kernel
theorem d_Law_outcome_21 : decode b_Law_outcome 21 = .ok (.astore 4, 2) := by decide +kernel
theorem d_Law_outcome_23 : decode b_Law_outcome 23 = .ok (.iconst 3, 1) := by decide +kernel
theorem d_Law_outcome_24 : decode b_Law_outcome 24 = .ok (.ireturn, 1) := by decide +kernel
theorem d_Law_outcome_25 : decode b_Law_outcome 25 = .ok (.iconst 0, 1) := by decide +kernel
theorem d_Law_outcome_26 : decode b_Law_outcome 26 = .ok (.ireturn, 1) := by decide +kernel
theorem d_Law_refuse_0 : decode b_Law_refuse 0 = .ok (.aload_n 3, 1) := by decide +kernel
theorem d_Law_refuse_1 : decode b_Law_refuse 1 = .ok (.iconst 0, 1) := by decide +kernel
theorem d_Law_refuse_2 : decode b_Law_refuse 2 = .ok (.aload_n 0, 1) := by decide +kernel
theorem d_Law_refuse_3 : decode b_Law_refuse 3 = .ok (.iload_n 1, 1) := by decide +kernel
theorem d_Law_refuse_4 : decode b_Law_refuse 4 = .ok (.iload_n 2, 1) := by decide +kernel
theorem d_Law_refuse_5 : decode b_Law_refuse 5 = .ok (.invokevirtual 29, 3) := by decide +kernel
theorem d_Law_refuse_8 : decode b_Law_refuse 8 = .ok (.i2l, 1) := by decide +kernel
theorem d_Law_refuse_9 : decode b_Law_refuse 9 = .ok (.lastore, 1) := by decide +kernel
theorem d_Law_refuse_10 : decode b_Law_refuse 10 = .ok (.goto 19, 3) := by decide +kernel
theorem d_Law_refuse_13 : decode b_Law_refuse 13 = .ok (.astore 4, 2) := by decide +kernel
theorem d_Law_refuse_15 : decode b_Law_refuse 15 = .ok (.iconst 1, 1) := by decide +kernel
theorem d_Law_refuse_16 : decode b_Law_refuse 16 = .ok (.ireturn, 1) := by decide +kernel
theorem d_Law_refuse_17 : decode b_Law_refuse 17 = .ok (.astore 4, 2) := by decide +kernel
theorem d_Law_refuse_19 : decode b_Law_refuse 19 = .ok (.iconst 2, 1) := by decide +kernel
theorem d_Law_refuse_20 : decode b_Law_refuse 20 = .ok (.ireturn, 1) := by decide +kernel
theorem d_Law_refuse_21 : decode b_Law_refuse 21 = .ok (.astore 4, 2) := by decide +kernel
theorem d_Law_refuse_23 : decode b_Law_refuse 23 = .ok (.iconst 3, 1) := by decide +kernel
theorem d_Law_refuse_24 : decode b_Law_refuse 24 = .ok (.ireturn, 1) := by decide +kernel
theorem d_Law_refuse_25 : decode b_Law_refuse 25 = .ok (.astore 4, 2) := by decide +kernel
theorem d_Law_refuse_27 : decode b_Law_refuse 27 = .ok (.iconst 4, 1) := by decide +kernel
theorem d_Law_refuse_28 : decode b_Law_refuse 28 = .ok (.ireturn, 1) := by decide +kernel
theorem d_Law_refuse_29 : decode b_Law_refuse 29 = .ok (.iconst 0, 1) := by decide +kernel
theorem d_Law_refuse_30 : decode b_Law_refuse 30 = .ok (.ireturn, 1) := by decide +kernel
theorem d_Law_request_0 : decode b_Law_request 0 = .ok (.aload_n 2, 1) := by decide +kernel
theorem d_Law_request_1 : decode b_Law_request 1 = .ok (.iconst 0, 1) := by decide +kernel
theorem d_Law_request_2 : decode b_Law_request 2 = .ok (.aload_n 0, 1) := by decide +kernel
theorem d_Law_request_3 : decode b_Law_request 3 = .ok (.iload_n 1, 1) := by decide +kernel
theorem d_Law_request_4 : decode b_Law_request 4 = .ok (.invokevirtual 25, 3) := by decide +kernel
theorem d_Law_request_7 : decode b_Law_request 7 = .ok (.i2l, 1) := by decide +kernel
theorem d_Law_request_8 : decode b_Law_request 8 = .ok (.lastore, 1) := by decide +kernel
theorem d_Law_request_9 : decode b_Law_request 9 = .ok (.goto 15, 3) := by decide +kernel
theorem d_Law_request_12 : decode b_Law_request 12 = .ok (.astore_n 3, 1) := by decide +kernel
theorem d_Law_request_13 : decode b_Law_request 13 = .ok (.iconst 1, 1) := by decide +kernel
theorem d_Law_request_14 : decode b_Law_request 14 = .ok (.ireturn, 1) := by decide +kernel
theorem d_Law_request_15 : decode b_Law_request 15 = .ok (.astore_n 3, 1) := by decide +kernel
theorem d_Law_request_16 : decode b_Law_request 16 = .ok (.iconst 2, 1) := by decide +kernel
theorem d_Law_request_17 : decode b_Law_request 17 = .ok (.ireturn, 1) := by decide +kernel
theorem d_Law_request_18 : decode b_Law_request 18 = .ok (.astore_n 3, 1) := by decide +kernel
theorem d_Law_request_19 : decode b_Law_request 19 = .ok (.iconst 3, 1) := by decide +kernel
theorem d_Law_request_20 : decode b_Law_request 20 = .ok (.ireturn, 1) := by decide +kernel
theorem d_Law_request_21 : decode b_Law_request 21 = .ok (.astore_n 3, 1) := by decide +kernel
theorem d_Law_request_22 : decode b_Law_request 22 = .ok (.iconst 4, 1) := by decide +kernel
theorem d_Law_request_23 : decode b_Law_request 23 = .ok (.ireturn, 1) := by decide +kernel
theorem d_Law_request_24 : decode b_Law_request 24 = .ok (.iconst 0, 1) := by decide +kernel
theorem d_Law_request_25 : decode b_Law_request 25 = .ok (.ireturn, 1) := by decide +kernel
theorem d_Law_state_0 : decode b_Law_state 0 = .ok (.aload_n 3, 1) := by decide +kernel
theorem d_Law_state_1 : decode b_Law_state 1 = .ok (.iconst 0, 1) := by decide +kernel
theorem d_Law_state_2 : decode b_Law_state 2 = .ok (.aload_n 0, 1) := by decide +kernel
theorem d_Law_state_3 : decode b_Law_state 3 = .ok (.iload_n 1, 1) := by decide +kernel
theorem d_Law_state_4 : decode b_Law_state 4 = .ok (.iload_n 2, 1) := by decide +kernel
theorem d_Law_state_5 : decode b_Law_state 5 = .ok (.invokevirtual 58, 3) := by decide +kernel
theorem d_Law_state_8 : decode b_Law_state 8 = .ok (.i2l, 1) := by decide +kernel
theorem d_Law_state_9 : decode b_Law_state 9 = .ok (.lastore, 1) := by decide +kernel
theorem d_Law_state_10 : decode b_Law_state 10 = .ok (.goto 11, 3) := by decide +kernel
theorem d_Law_state_13 : decode b_Law_state 13 = .ok (.astore 4, 2) := by decide +kernel
theorem d_Law_state_15 : decode b_Law_state 15 = .ok (.iconst 1, 1) := by decide +kernel
theorem d_Law_state_16 : decode b_Law_state 16 = .ok (.ireturn, 1) := by decide +kernel
theorem d_Law_state_17 : decode b_Law_state 17 = .ok (.astore 4, 2) := by decide +kernel
theorem d_Law_state_19 : decode b_Law_state 19 = .ok (.iconst 2, 1) := by decide +kernel
theorem d_Law_state_20 : decode b_Law_state 20 = .ok (.ireturn, 1) := by decide +kernel
theorem d_Law_state_21 : decode b_Law_state 21 = .ok (.iconst 0, 1) := by decide +kernel
theorem d_Law_state_22 : decode b_Law_state 22 = .ok (.ireturn, 1) := by decide +kernel
theorem d_Law_take_0 : decode b_Law_take 0 = .ok (.aload_n 3, 1) := by decide +kernel
theorem d_Law_take_1 : decode b_Law_take 1 = .ok (.iconst 0, 1) := by decide +kernel
theorem d_Law_take_2 : decode b_Law_take 2 = .ok (.aload_n 0, 1) := by decide +kernel
theorem d_Law_take_3 : decode b_Law_take 3 = .ok (.iload_n 1, 1) := by decide +kernel
theorem d_Law_take_4 : decode b_Law_take 4 = .ok (.iload_n 2, 1) := by decide +kernel
theorem d_Law_take_5 : decode b_Law_take 5 = .ok (.invokevirtual 33, 3) := by decide +kernel
theorem d_Law_take_8 : decode b_Law_take 8 = .ok (.i2l, 1) := by decide +kernel
theorem d_Law_take_9 : decode b_Law_take 9 = .ok (.lastore, 1) := by decide +kernel
theorem d_Law_take_10 : decode b_Law_take 10 = .ok (.goto 19, 3) := by decide +kernel
theorem d_Law_take_13 : decode b_Law_take 13 = .ok (.astore 4, 2) := by decide +kernel
theorem d_Law_take_15 : decode b_Law_take 15 = .ok (.iconst 1, 1) := by decide +kernel
theorem d_Law_take_16 : decode b_Law_take 16 = .ok (.ireturn, 1) := by decide +kernel
theorem d_Law_take_17 : decode b_Law_take 17 = .ok (.astore 4, 2) := by decide +kernel
theorem d_Law_take_19 : decode b_Law_take 19 = .ok (.iconst 2, 1) := by decide +kernel
theorem d_Law_take_20 : decode b_Law_take 20 = .ok (.ireturn, 1) := by decide +kernel
theorem d_Law_take_21 : decode b_Law_take 21 = .ok (.astore 4, 2) := by decide +kernel
theorem d_Law_take_23 : decode b_Law_take 23 = .ok (.iconst 3, 1) := by decide +kernel
theorem d_Law_take_24 : decode b_Law_take 24 = .ok (.ireturn, 1) := by decide +kernel
theorem d_Law_take_25 : decode b_Law_take 25 = .ok (.astore 4, 2) := by decide +kernel
theorem d_Law_take_27 : decode b_Law_take 27 = .ok (.iconst 4, 1) := by decide +kernel
theorem d_Law_take_28 : decode b_Law_take 28 = .ok (.ireturn, 1) := by decide +kernel
theorem d_Law_take_29 : decode b_Law_take 29 = .ok (.iconst 0, 1) := by decide +kernel
theorem d_Law_take_30 : decode b_Law_take 30 = .ok (.ireturn, 1) := by decide +kernel
theorem d_Law_taken_0 : decode b_Law_taken 0 = .ok (.aload 5, 2) := by decide +kernel
theorem d_Law_taken_2 : decode b_Law_taken 2 = .ok (.iconst 0, 1) := by decide +kernel
theorem d_Law_taken_3 : decode b_Law_taken 3 = .ok (.aload_n 0, 1) := by decide +kernel
theorem d_Law_taken_4 : decode b_Law_taken 4 = .ok (.iload_n 1, 1) := by decide +kernel
theorem d_Law_taken_5 : decode b_Law_taken 5 = .ok (.iload_n 2, 1) := by decide +kernel
theorem d_Law_taken_6 : decode b_Law_taken 6 = .ok (.iload_n 3, 1) := by decide +kernel
theorem d_Law_taken_7 : decode b_Law_taken 7 = .ok (.iload 4, 2) := by decide +kernel
theorem d_Law_taken_9 : decode b_Law_taken 9 = .ok (.invokevirtual 64, 3) := by decide +kernel
theorem d_Law_taken_12 : decode b_Law_taken 12 = .ok (.i2l, 1) := by decide +kernel
theorem d_Law_taken_13 : decode b_Law_taken 13 = .ok (.lastore, 1) := by decide +kernel
theorem d_Law_taken_14 : decode b_Law_taken 14 = .ok (.goto 11, 3) := by decide +kernel
theorem d_Law_taken_17 : decode b_Law_taken 17 = .ok (.astore 6, 2) := by decide +kernel
theorem d_Law_taken_19 : decode b_Law_taken 19 = .ok (.iconst 1, 1) := by decide +kernel
theorem d_Law_taken_20 : decode b_Law_taken 20 = .ok (.ireturn, 1) := by decide +kernel
theorem d_Law_taken_21 : decode b_Law_taken 21 = .ok (.astore 6, 2) := by decide +kernel
theorem d_Law_taken_23 : decode b_Law_taken 23 = .ok (.iconst 2, 1) := by decide +kernel
theorem d_Law_taken_24 : decode b_Law_taken 24 = .ok (.ireturn, 1) := by decide +kernel
theorem d_Law_taken_25 : decode b_Law_taken 25 = .ok (.iconst 0, 1) := by decide +kernel
theorem d_Law_taken_26 : decode b_Law_taken 26 = .ok (.ireturn, 1) := by decide +kernel
theorem d_Law_text_0 : decode b_Law_text 0 = .ok (.aload_n 3, 1) := by decide +kernel
theorem d_Law_text_1 : decode b_Law_text 1 = .ok (.iconst 0, 1) := by decide +kernel
theorem d_Law_text_2 : decode b_Law_text 2 = .ok (.aload_n 0, 1) := by decide +kernel
theorem d_Law_text_3 : decode b_Law_text 3 = .ok (.iload_n 1, 1) := by decide +kernel
theorem d_Law_text_4 : decode b_Law_text 4 = .ok (.iload_n 2, 1) := by decide +kernel
theorem d_Law_text_5 : decode b_Law_text 5 = .ok (.invokevirtual 49, 3) := by decide +kernel
theorem d_Law_text_8 : decode b_Law_text 8 = .ok (.i2l, 1) := by decide +kernel
theorem d_Law_text_9 : decode b_Law_text 9 = .ok (.lastore, 1) := by decide +kernel
theorem d_Law_text_10 : decode b_Law_text 10 = .ok (.goto 11, 3) := by decide +kernel
theorem d_Law_text_13 : decode b_Law_text 13 = .ok (.astore 4, 2) := by decide +kernel
theorem d_Law_text_15 : decode b_Law_text 15 = .ok (.iconst 1, 1) := by decide +kernel
theorem d_Law_text_16 : decode b_Law_text 16 = .ok (.ireturn, 1) := by decide +kernel
theorem d_Law_text_17 : decode b_Law_text 17 = .ok (.astore 4, 2) := by decide +kernel
theorem d_Law_text_19 : decode b_Law_text 19 = .ok (.iconst 2, 1) := by decide +kernel
theorem d_Law_text_20 : decode b_Law_text 20 = .ok (.ireturn, 1) := by decide +kernel
end
section
theorem d_Law_text_21 : decode b_Law_text 21 = .ok (.iconst 0, 1) := by decide +kernel
theorem d_Law_text_22 : decode b_Law_text 22 = .ok (.ireturn, 1) := by decide +kernel
theorem d_Law_up_0 : decode b_Law_up 0 = .ok (.aload 4, 2) := by decide +kernel
theorem d_Law_up_2 : decode b_Law_up 2 = .ok (.iconst 0, 1) := by decide +kernel
theorem d_Law_up_3 : decode b_Law_up 3 = .ok (.aload_n 0, 1) := by decide +kernel
theorem d_Law_up_4 : decode b_Law_up 4 = .ok (.iload_n 1, 1) := by decide +kernel
theorem d_Law_up_5 : decode b_Law_up 5 = .ok (.iload_n 2, 1) := by decide +kernel
theorem d_Law_up_6 : decode b_Law_up 6 = .ok (.iload_n 3, 1) := by decide +kernel
theorem d_Law_up_7 : decode b_Law_up 7 = .ok (.invokevirtual 45, 3) := by decide +kernel
theorem d_Law_up_10 : decode b_Law_up 10 = .ok (.ifCond .eq 7, 3) := by decide +kernel
theorem d_Law_up_13 : decode b_Law_up 13 = .ok (.lconst 1, 1) := by decide +kernel
theorem d_Law_up_14 : decode b_Law_up 14 = .ok (.goto 4, 3) := by decide +kernel
theorem d_Law_up_17 : decode b_Law_up 17 = .ok (.lconst 0, 1) := by decide +kernel
theorem d_Law_up_18 : decode b_Law_up 18 = .ok (.lastore, 1) := by decide +kernel
theorem d_Law_up_19 : decode b_Law_up 19 = .ok (.goto 7, 3) := by decide +kernel
theorem d_Law_up_22 : decode b_Law_up 22 = .ok (.astore 5, 2) := by decide +kernel
theorem d_Law_up_24 : decode b_Law_up 24 = .ok (.iconst 1, 1) := by decide +kernel
theorem d_Law_up_25 : decode b_Law_up 25 = .ok (.ireturn, 1) := by decide +kernel
theorem d_Law_up_26 : decode b_Law_up 26 = .ok (.iconst 0, 1) := by decide +kernel
theorem d_Law_up_27 : decode b_Law_up 27 = .ok (.ireturn, 1) := by decide +kernel
theorem d_Law_value_0 : decode b_Law_value 0 = .ok (.aload_n 3, 1) := by decide +kernel
theorem d_Law_value_1 : decode b_Law_value 1 = .ok (.iconst 0, 1) := by decide +kernel
theorem d_Law_value_2 : decode b_Law_value 2 = .ok (.aload_n 0, 1) := by decide +kernel
theorem d_Law_value_3 : decode b_Law_value 3 = .ok (.iload_n 1, 1) := by decide +kernel
theorem d_Law_value_4 : decode b_Law_value 4 = .ok (.iload_n 2, 1) := by decide +kernel
theorem d_Law_value_5 : decode b_Law_value 5 = .ok (.invokevirtual 52, 3) := by decide +kernel
theorem d_Law_value_8 : decode b_Law_value 8 = .ok (.i2l, 1) := by decide +kernel
theorem d_Law_value_9 : decode b_Law_value 9 = .ok (.lastore, 1) := by decide +kernel
theorem d_Law_value_10 : decode b_Law_value 10 = .ok (.goto 7, 3) := by decide +kernel
theorem d_Law_value_13 : decode b_Law_value 13 = .ok (.astore 4, 2) := by decide +kernel
theorem d_Law_value_15 : decode b_Law_value 15 = .ok (.iconst 1, 1) := by decide +kernel
theorem d_Law_value_16 : decode b_Law_value 16 = .ok (.ireturn, 1) := by decide +kernel
theorem d_Law_value_17 : decode b_Law_value 17 = .ok (.iconst 0, 1) := by decide +kernel
theorem d_Law_value_18 : decode b_Law_value 18 = .ok (.ireturn, 1) := by decide +kernel
theorem d_Law_write_0 : decode b_Law_write 0 = .ok (.aload 5, 2) := by decide +kernel
theorem d_Law_write_2 : decode b_Law_write 2 = .ok (.iconst 0, 1) := by decide +kernel
theorem d_Law_write_3 : decode b_Law_write 3 = .ok (.aload_n 0, 1) := by decide +kernel
theorem d_Law_write_4 : decode b_Law_write 4 = .ok (.iload_n 1, 1) := by decide +kernel
theorem d_Law_write_5 : decode b_Law_write 5 = .ok (.iload_n 2, 1) := by decide +kernel
theorem d_Law_write_6 : decode b_Law_write 6 = .ok (.iload_n 3, 1) := by decide +kernel
theorem d_Law_write_7 : decode b_Law_write 7 = .ok (.iload 4, 2) := by decide +kernel
theorem d_Law_write_9 : decode b_Law_write 9 = .ok (.invokevirtual 15, 3) := by decide +kernel
theorem d_Law_write_12 : decode b_Law_write 12 = .ok (.i2l, 1) := by decide +kernel
theorem d_Law_write_13 : decode b_Law_write 13 = .ok (.lastore, 1) := by decide +kernel
theorem d_Law_write_14 : decode b_Law_write 14 = .ok (.goto 19, 3) := by decide +kernel
theorem d_Law_write_17 : decode b_Law_write 17 = .ok (.astore 6, 2) := by decide +kernel
theorem d_Law_write_19 : decode b_Law_write 19 = .ok (.iconst 1, 1) := by decide +kernel
theorem d_Law_write_20 : decode b_Law_write 20 = .ok (.ireturn, 1) := by decide +kernel
theorem d_Law_write_21 : decode b_Law_write 21 = .ok (.astore 6, 2) := by decide +kernel
theorem d_Law_write_23 : decode b_Law_write 23 = .ok (.iconst 2, 1) := by decide +kernel
theorem d_Law_write_24 : decode b_Law_write 24 = .ok (.ireturn, 1) := by decide +kernel
theorem d_Law_write_25 : decode b_Law_write 25 = .ok (.astore 6, 2) := by decide +kernel
theorem d_Law_write_27 : decode b_Law_write 27 = .ok (.iconst 3, 1) := by decide +kernel
theorem d_Law_write_28 : decode b_Law_write 28 = .ok (.ireturn, 1) := by decide +kernel
theorem d_Law_write_29 : decode b_Law_write 29 = .ok (.astore 6, 2) := by decide +kernel
theorem d_Law_write_31 : decode b_Law_write 31 = .ok (.iconst 4, 1) := by decide +kernel
theorem d_Law_write_32 : decode b_Law_write 32 = .ok (.ireturn, 1) := by decide +kernel
theorem d_Law_write_33 : decode b_Law_write 33 = .ok (.iconst 0, 1) := by decide +kernel
theorem d_Law_write_34 : decode b_Law_write 34 = .ok (.ireturn, 1) := by decide +kernel
theorem d_Led_countReplies_0 : decode b_Led_countReplies 0 = .ok (.iconst 0, 1) := by decide +kernel
theorem d_Led_countReplies_1 : decode b_Led_countReplies 1 = .ok (.istore_n 1, 1) := by decide +kernel
theorem d_Led_countReplies_2 : decode b_Led_countReplies 2 = .ok (.iconst 0, 1) := by decide +kernel
theorem d_Led_countReplies_3 : decode b_Led_countReplies 3 = .ok (.istore_n 2, 1) := by decide +kernel
theorem d_Led_countReplies_4 : decode b_Led_countReplies 4 = .ok (.iload_n 2, 1) := by decide +kernel
theorem d_Led_countReplies_5 : decode b_Led_countReplies 5 = .ok (.aload_n 0, 1) := by decide +kernel
theorem d_Led_countReplies_6 : decode b_Led_countReplies 6 = .ok (.getfield 22, 3) := by decide +kernel
theorem d_Led_countReplies_9 : decode b_Led_countReplies 9 = .ok (.arraylength, 1) := by decide +kernel
theorem d_Led_countReplies_10 : decode b_Led_countReplies 10 = .ok (.if_icmp .ge 26, 3) := by decide +kernel
theorem d_Led_countReplies_13 : decode b_Led_countReplies 13 = .ok (.iload_n 1, 1) := by decide +kernel
theorem d_Led_countReplies_14 : decode b_Led_countReplies 14 = .ok (.aload_n 0, 1) := by decide +kernel
theorem d_Led_countReplies_15 : decode b_Led_countReplies 15 = .ok (.getfield 22, 3) := by decide +kernel
theorem d_Led_countReplies_18 : decode b_Led_countReplies 18 = .ok (.iload_n 2, 1) := by decide +kernel
theorem d_Led_countReplies_19 : decode b_Led_countReplies 19 = .ok (.baload, 1) := by decide +kernel
theorem d_Led_countReplies_20 : decode b_Led_countReplies 20 = .ok (.ifCond .eq 7, 3) := by decide +kernel
theorem d_Led_countReplies_23 : decode b_Led_countReplies 23 = .ok (.iconst 1, 1) := by decide +kernel
theorem d_Led_countReplies_24 : decode b_Led_countReplies 24 = .ok (.goto 4, 3) := by decide +kernel
theorem d_Led_countReplies_27 : decode b_Led_countReplies 27 = .ok (.iconst 0, 1) := by decide +kernel
theorem d_Led_countReplies_28 : decode b_Led_countReplies 28 = .ok (.iadd, 1) := by decide +kernel
theorem d_Led_countReplies_29 : decode b_Led_countReplies 29 = .ok (.istore_n 1, 1) := by decide +kernel
theorem d_Led_countReplies_30 : decode b_Led_countReplies 30 = .ok (.iinc 2 1, 3) := by decide +kernel
theorem d_Led_countReplies_33 : decode b_Led_countReplies 33 = .ok (.goto (-29), 3) := by decide +kernel
theorem d_Led_countReplies_36 : decode b_Led_countReplies 36 = .ok (.iload_n 1, 1) := by decide +kernel
theorem d_Led_countReplies_37 : decode b_Led_countReplies 37 = .ok (.ireturn, 1) := by decide +kernel
theorem d_Led_decidedVote_0 : decode b_Led_decidedVote 0 = .ok (.iconst 0, 1) := by decide +kernel
theorem d_Led_decidedVote_1 : decode b_Led_decidedVote 1 = .ok (.istore_n 3, 1) := by decide +kernel
theorem d_Led_decidedVote_2 : decode b_Led_decidedVote 2 = .ok (.iload_n 3, 1) := by decide +kernel
theorem d_Led_decidedVote_3 : decode b_Led_decidedVote 3 = .ok (.aload_n 0, 1) := by decide +kernel
theorem d_Led_decidedVote_4 : decode b_Led_decidedVote 4 = .ok (.getfield 31, 3) := by decide +kernel
theorem d_Led_decidedVote_7 : decode b_Led_decidedVote 7 = .ok (.arraylength, 1) := by decide +kernel
theorem d_Led_decidedVote_8 : decode b_Led_decidedVote 8 = .ok (.if_icmp .ge 83, 3) := by decide +kernel
theorem d_Led_decidedVote_11 : decode b_Led_decidedVote 11 = .ok (.aload_n 0, 1) := by decide +kernel
theorem d_Led_decidedVote_12 : decode b_Led_decidedVote 12 = .ok (.getfield 31, 3) := by decide +kernel
theorem d_Led_decidedVote_15 : decode b_Led_decidedVote 15 = .ok (.iload_n 3, 1) := by decide +kernel
theorem d_Led_decidedVote_16 : decode b_Led_decidedVote 16 = .ok (.aaload, 1) := by decide +kernel
theorem d_Led_decidedVote_17 : decode b_Led_decidedVote 17 = .ok (.iload_n 1, 1) := by decide +kernel
theorem d_Led_decidedVote_18 : decode b_Led_decidedVote 18 = .ok (.iaload, 1) := by decide +kernel
theorem d_Led_decidedVote_19 : decode b_Led_decidedVote 19 = .ok (.istore 4, 2) := by decide +kernel
theorem d_Led_decidedVote_21 : decode b_Led_decidedVote 21 = .ok (.iconst 0, 1) := by decide +kernel
theorem d_Led_decidedVote_22 : decode b_Led_decidedVote 22 = .ok (.istore 5, 2) := by decide +kernel
theorem d_Led_decidedVote_24 : decode b_Led_decidedVote 24 = .ok (.iconst 0, 1) := by decide +kernel
theorem d_Led_decidedVote_25 : decode b_Led_decidedVote 25 = .ok (.istore 6, 2) := by decide +kernel
theorem d_Led_decidedVote_27 : decode b_Led_decidedVote 27 = .ok (.iload 6, 2) := by decide +kernel
theorem d_Led_decidedVote_29 : decode b_Led_decidedVote 29 = .ok (.aload_n 0, 1) := by decide +kernel
theorem d_Led_decidedVote_30 : decode b_Led_decidedVote 30 = .ok (.getfield 31, 3) := by decide +kernel
theorem d_Led_decidedVote_33 : decode b_Led_decidedVote 33 = .ok (.arraylength, 1) := by decide +kernel
theorem d_Led_decidedVote_34 : decode b_Led_decidedVote 34 = .ok (.if_icmp .ge 33, 3) := by decide +kernel
theorem d_Led_decidedVote_37 : decode b_Led_decidedVote 37 = .ok (.iload 5, 2) := by decide +kernel
theorem d_Led_decidedVote_39 : decode b_Led_decidedVote 39 = .ok (.aload_n 0, 1) := by decide +kernel
theorem d_Led_decidedVote_40 : decode b_Led_decidedVote 40 = .ok (.getfield 31, 3) := by decide +kernel
theorem d_Led_decidedVote_43 : decode b_Led_decidedVote 43 = .ok (.iload 6, 2) := by decide +kernel
theorem d_Led_decidedVote_45 : decode b_Led_decidedVote 45 = .ok (.aaload, 1) := by decide +kernel
theorem d_Led_decidedVote_46 : decode b_Led_decidedVote 46 = .ok (.iload_n 1, 1) := by decide +kernel
theorem d_Led_decidedVote_47 : decode b_Led_decidedVote 47 = .ok (.iaload, 1) := by decide +kernel
theorem d_Led_decidedVote_48 : decode b_Led_decidedVote 48 = .ok (.iload 4, 2) := by decide +kernel
theorem d_Led_decidedVote_50 : decode b_Led_decidedVote 50 = .ok (.if_icmp .ne 7, 3) := by decide +kernel
theorem d_Led_decidedVote_53 : decode b_Led_decidedVote 53 = .ok (.iconst 1, 1) := by decide +kernel
theorem d_Led_decidedVote_54 : decode b_Led_decidedVote 54 = .ok (.goto 4, 3) := by decide +kernel
theorem d_Led_decidedVote_57 : decode b_Led_decidedVote 57 = .ok (.iconst 0, 1) := by decide +kernel
theorem d_Led_decidedVote_58 : decode b_Led_decidedVote 58 = .ok (.iadd, 1) := by decide +kernel
theorem d_Led_decidedVote_59 : decode b_Led_decidedVote 59 = .ok (.istore 5, 2) := by decide +kernel
theorem d_Led_decidedVote_61 : decode b_Led_decidedVote 61 = .ok (.iinc 6 1, 3) := by decide +kernel
theorem d_Led_decidedVote_64 : decode b_Led_decidedVote 64 = .ok (.goto (-37), 3) := by decide +kernel
theorem d_Led_decidedVote_67 : decode b_Led_decidedVote 67 = .ok (.iload 4, 2) := by decide +kernel
theorem d_Led_decidedVote_69 : decode b_Led_decidedVote 69 = .ok (.iconst (-1), 1) := by decide +kernel
theorem d_Led_decidedVote_70 : decode b_Led_decidedVote 70 = .ok (.if_icmp .eq 15, 3) := by decide +kernel
theorem d_Led_decidedVote_73 : decode b_Led_decidedVote 73 = .ok (.iload 5, 2) := by decide +kernel
theorem d_Led_decidedVote_75 : decode b_Led_decidedVote 75 = .ok (.iload_n 2, 1) := by decide +kernel
theorem d_Led_decidedVote_76 : decode b_Led_decidedVote 76 = .ok (.if_icmp .lt 9, 3) := by decide +kernel
theorem d_Led_decidedVote_79 : decode b_Led_decidedVote 79 = .ok (.iload 4, 2) := by decide +kernel
theorem d_Led_decidedVote_81 : decode b_Led_decidedVote 81 = .ok (.invokestatic 53, 3) := by decide +kernel
theorem d_Led_decidedVote_84 : decode b_Led_decidedVote 84 = .ok (.ireturn, 1) := by decide +kernel
theorem d_Led_decidedVote_85 : decode b_Led_decidedVote 85 = .ok (.iinc 3 1, 3) := by decide +kernel
theorem d_Led_decidedVote_88 : decode b_Led_decidedVote 88 = .ok (.goto (-86), 3) := by decide +kernel
theorem d_Led_decidedVote_91 : decode b_Led_decidedVote 91 = .ok (.iconst (-1), 1) := by decide +kernel
theorem d_Led_decidedVote_92 : decode b_Led_decidedVote 92 = .ok (.ireturn, 1) := by decide +kernel
theorem d_Led_dropReplies_0 : decode b_Led_dropReplies 0 = .ok (.iconst 0, 1) := by decide +kernel
theorem d_Led_dropReplies_1 : decode b_Led_dropReplies 1 = .ok (.istore_n 1, 1) := by decide +kernel
theorem d_Led_dropReplies_2 : decode b_Led_dropReplies 2 = .ok (.iload_n 1, 1) := by decide +kernel
theorem d_Led_dropReplies_3 : decode b_Led_dropReplies 3 = .ok (.aload_n 0, 1) := by decide +kernel
theorem d_Led_dropReplies_4 : decode b_Led_dropReplies 4 = .ok (.getfield 22, 3) := by decide +kernel
theorem d_Led_dropReplies_7 : decode b_Led_dropReplies 7 = .ok (.arraylength, 1) := by decide +kernel
theorem d_Led_dropReplies_8 : decode b_Led_dropReplies 8 = .ok (.if_icmp .ge 16, 3) := by decide +kernel
theorem d_Led_dropReplies_11 : decode b_Led_dropReplies 11 = .ok (.aload_n 0, 1) := by decide +kernel
theorem d_Led_dropReplies_12 : decode b_Led_dropReplies 12 = .ok (.getfield 22, 3) := by decide +kernel
theorem d_Led_dropReplies_15 : decode b_Led_dropReplies 15 = .ok (.iload_n 1, 1) := by decide +kernel
theorem d_Led_dropReplies_16 : decode b_Led_dropReplies 16 = .ok (.iconst 0, 1) := by decide +kernel
theorem d_Led_dropReplies_17 : decode b_Led_dropReplies 17 = .ok (.bastore, 1) := by decide +kernel
theorem d_Led_dropReplies_18 : decode b_Led_dropReplies 18 = .ok (.iinc 1 1, 3) := by decide +kernel
theorem d_Led_dropReplies_21 : decode b_Led_dropReplies 21 = .ok (.goto (-19), 3) := by decide +kernel
theorem d_Led_dropReplies_24 : decode b_Led_dropReplies 24 = .ok (.return_, 1) := by decide +kernel
theorem d_Led_forget_0 : decode b_Led_forget 0 = .ok (.aload_n 0, 1) := by decide +kernel
theorem d_Led_forget_1 : decode b_Led_forget 1 = .ok (.iconst 1, 1) := by decide +kernel
theorem d_Led_forget_2 : decode b_Led_forget 2 = .ok (.putfield 15, 3) := by decide +kernel
theorem d_Led_forget_5 : decode b_Led_forget 5 = .ok (.aload_n 0, 1) := by decide +kernel
theorem d_Led_forget_6 : decode b_Led_forget 6 = .ok (.iconst (-1), 1) := by decide +kernel
theorem d_Led_forget_7 : decode b_Led_forget 7 = .ok (.putfield 19, 3) := by decide +kernel
theorem d_Led_forget_10 : decode b_Led_forget 10 = .ok (.aload_n 0, 1) := by decide +kernel
theorem d_Led_forget_11 : decode b_Led_forget 11 = .ok (.invokevirtual 46, 3) := by decide +kernel
theorem d_Led_forget_14 : decode b_Led_forget 14 = .ok (.iconst 0, 1) := by decide +kernel
theorem d_Led_forget_15 : decode b_Led_forget 15 = .ok (.istore_n 1, 1) := by decide +kernel
theorem d_Led_forget_16 : decode b_Led_forget 16 = .ok (.iload_n 1, 1) := by decide +kernel
theorem d_Led_forget_17 : decode b_Led_forget 17 = .ok (.aload_n 0, 1) := by decide +kernel
theorem d_Led_forget_18 : decode b_Led_forget 18 = .ok (.getfield 31, 3) := by decide +kernel
theorem d_Led_forget_21 : decode b_Led_forget 21 = .ok (.arraylength, 1) := by decide +kernel
theorem d_Led_forget_22 : decode b_Led_forget 22 = .ok (.if_icmp .ge 19, 3) := by decide +kernel
theorem d_Led_forget_25 : decode b_Led_forget 25 = .ok (.aload_n 0, 1) := by decide +kernel
theorem d_Led_forget_26 : decode b_Led_forget 26 = .ok (.getfield 31, 3) := by decide +kernel
theorem d_Led_forget_29 : decode b_Led_forget 29 = .ok (.iload_n 1, 1) := by decide +kernel
theorem d_Led_forget_30 : decode b_Led_forget 30 = .ok (.aaload, 1) := by decide +kernel
theorem d_Led_forget_31 : decode b_Led_forget 31 = .ok (.iconst (-1), 1) := by decide +kernel
theorem d_Led_forget_32 : decode b_Led_forget 32 = .ok (.invokestatic 34, 3) := by decide +kernel
theorem d_Led_forget_35 : decode b_Led_forget 35 = .ok (.iinc 1 1, 3) := by decide +kernel
theorem d_Led_forget_38 : decode b_Led_forget 38 = .ok (.goto (-22), 3) := by decide +kernel
theorem d_Led_forget_41 : decode b_Led_forget 41 = .ok (.return_, 1) := by decide +kernel
theorem d_Led_hear_0 : decode b_Led_hear 0 = .ok (.aload_n 0, 1) := by decide +kernel
theorem d_Led_hear_1 : decode b_Led_hear 1 = .ok (.getfield 31, 3) := by decide +kernel
theorem d_Led_hear_4 : decode b_Led_hear 4 = .ok (.iload_n 1, 1) := by decide +kernel
theorem d_Led_hear_5 : decode b_Led_hear 5 = .ok (.aaload, 1) := by decide +kernel
theorem d_Led_hear_6 : decode b_Led_hear 6 = .ok (.iload_n 2, 1) := by decide +kernel
theorem d_Led_hear_7 : decode b_Led_hear 7 = .ok (.iaload, 1) := by decide +kernel
theorem d_Led_hear_8 : decode b_Led_hear 8 = .ok (.invokestatic 49, 3) := by decide +kernel
theorem d_Led_hear_11 : decode b_Led_hear 11 = .ok (.iload_n 3, 1) := by decide +kernel
theorem d_Led_hear_12 : decode b_Led_hear 12 = .ok (.if_icmp .ge 17, 3) := by decide +kernel
theorem d_Led_hear_15 : decode b_Led_hear 15 = .ok (.aload_n 0, 1) := by decide +kernel
theorem d_Led_hear_16 : decode b_Led_hear 16 = .ok (.getfield 31, 3) := by decide +kernel
theorem d_Led_hear_19 : decode b_Led_hear 19 = .ok (.iload_n 1, 1) := by decide +kernel
theorem d_Led_hear_20 : decode b_Led_hear 20 = .ok (.aaload, 1) := by decide +kernel
theorem d_Led_hear_21 : decode b_Led_hear 21 = .ok (.iload_n 2, 1) := by decide +kernel
theorem d_Led_hear_22 : decode b_Led_hear 22 = .ok (.iload_n 3, 1) := by decide +kernel
theorem d_Led_hear_23 : decode b_Led_hear 23 = .ok (.iload 4, 2) := by decide +kernel
theorem d_Led_hear_25 : decode b_Led_hear 25 = .ok (.invokestatic 56, 3) := by decide +kernel
theorem d_Led_hear_28 : decode b_Led_hear 28 = .ok (.iastore, 1) := by decide +kernel
theorem d_Led_hear_29 : decode b_Led_hear 29 = .ok (.return_, 1) := by decide +kernel
theorem d_Led_init_0 : decode b_Led_init 0 = .ok (.aload_n 0, 1) := by decide +kernel
theorem d_Led_init_1 : decode b_Led_init 1 = .ok (.invokespecial 3, 3) := by decide +kernel
theorem d_Led_init_4 : decode b_Led_init 4 = .ok (.aload_n 0, 1) := by decide +kernel
theorem d_Led_init_5 : decode b_Led_init 5 = .ok (.iconst 0, 1) := by decide +kernel
theorem d_Led_init_6 : decode b_Led_init 6 = .ok (.putfield 9, 3) := by decide +kernel
theorem d_Led_init_9 : decode b_Led_init 9 = .ok (.aload_n 0, 1) := by decide +kernel
theorem d_Led_init_10 : decode b_Led_init 10 = .ok (.iconst 0, 1) := by decide +kernel
theorem d_Led_init_11 : decode b_Led_init 11 = .ok (.putfield 15, 3) := by decide +kernel
theorem d_Led_init_14 : decode b_Led_init 14 = .ok (.aload_n 0, 1) := by decide +kernel
theorem d_Led_init_15 : decode b_Led_init 15 = .ok (.iconst (-1), 1) := by decide +kernel
theorem d_Led_init_16 : decode b_Led_init 16 = .ok (.putfield 19, 3) := by decide +kernel
theorem d_Led_init_19 : decode b_Led_init 19 = .ok (.aload_n 0, 1) := by decide +kernel
theorem d_Led_init_20 : decode b_Led_init 20 = .ok (.iload_n 1, 1) := by decide +kernel
theorem d_Led_init_21 : decode b_Led_init 21 = .ok (.newarray .boolean, 2) := by decide +kernel
theorem d_Led_init_23 : decode b_Led_init 23 = .ok (.putfield 22, 3) := by decide +kernel
theorem d_Led_init_26 : decode b_Led_init 26 = .ok (.aload_n 0, 1) := by decide +kernel
theorem d_Led_init_27 : decode b_Led_init 27 = .ok (.iload_n 1, 1) := by decide +kernel
theorem d_Led_init_28 : decode b_Led_init 28 = .ok (.iconst 3, 1) := by decide +kernel
theorem d_Led_init_29 : decode b_Led_init 29 = .ok (.multianewarray 26 2, 4) := by decide +kernel
theorem d_Led_init_33 : decode b_Led_init 33 = .ok (.putfield 28, 3) := by decide +kernel
theorem d_Led_init_36 : decode b_Led_init 36 = .ok (.aload_n 0, 1) := by decide +kernel
theorem d_Led_init_37 : decode b_Led_init 37 = .ok (.iload_n 1, 1) := by decide +kernel
theorem d_Led_init_38 : decode b_Led_init 38 = .ok (.iconst 3, 1) := by decide +kernel
theorem d_Led_init_39 : decode b_Led_init 39 = .ok (.multianewarray 26 2, 4) := by decide +kernel
theorem d_Led_init_43 : decode b_Led_init 43 = .ok (.putfield 31, 3) := by decide +kernel
theorem d_Led_init_46 : decode b_Led_init 46 = .ok (.iconst 0, 1) := by decide +kernel
theorem d_Led_init_47 : decode b_Led_init 47 = .ok (.istore_n 2, 1) := by decide +kernel
theorem d_Led_init_48 : decode b_Led_init 48 = .ok (.iload_n 2, 1) := by decide +kernel
theorem d_Led_init_49 : decode b_Led_init 49 = .ok (.iload_n 1, 1) := by decide +kernel
theorem d_Led_init_50 : decode b_Led_init 50 = .ok (.if_icmp .ge 19, 3) := by decide +kernel
theorem d_Led_init_53 : decode b_Led_init 53 = .ok (.aload_n 0, 1) := by decide +kernel
theorem d_Led_init_54 : decode b_Led_init 54 = .ok (.getfield 31, 3) := by decide +kernel
theorem d_Led_init_57 : decode b_Led_init 57 = .ok (.iload_n 2, 1) := by decide +kernel
theorem d_Led_init_58 : decode b_Led_init 58 = .ok (.aaload, 1) := by decide +kernel
theorem d_Led_init_59 : decode b_Led_init 59 = .ok (.iconst (-1), 1) := by decide +kernel
theorem d_Led_init_60 : decode b_Led_init 60 = .ok (.invokestatic 34, 3) := by decide +kernel
theorem d_Led_init_63 : decode b_Led_init 63 = .ok (.iinc 2 1, 3) := by decide +kernel
theorem d_Led_init_66 : decode b_Led_init 66 = .ok (.goto (-18), 3) := by decide +kernel
theorem d_Led_init_69 : decode b_Led_init 69 = .ok (.return_, 1) := by decide +kernel
theorem d_Led_judge_0 : decode b_Led_judge 0 = .ok (.iconst 1, 1) := by decide +kernel
theorem d_Led_judge_1 : decode b_Led_judge 1 = .ok (.istore_n 3, 1) := by decide +kernel
theorem d_Led_judge_2 : decode b_Led_judge 2 = .ok (.iconst 0, 1) := by decide +kernel
theorem d_Led_judge_3 : decode b_Led_judge 3 = .ok (.istore 4, 2) := by decide +kernel
theorem d_Led_judge_5 : decode b_Led_judge 5 = .ok (.iload 4, 2) := by decide +kernel
theorem d_Led_judge_7 : decode b_Led_judge 7 = .ok (.iconst 3, 1) := by decide +kernel
theorem d_Led_judge_8 : decode b_Led_judge 8 = .ok (.if_icmp .ge 42, 3) := by decide +kernel
theorem d_Led_judge_11 : decode b_Led_judge 11 = .ok (.iload_n 1, 1) := by decide +kernel
theorem d_Led_judge_12 : decode b_Led_judge 12 = .ok (.iload 4, 2) := by decide +kernel
theorem d_Led_judge_14 : decode b_Led_judge 14 = .ok (.invokestatic 59, 3) := by decide +kernel
theorem d_Led_judge_17 : decode b_Led_judge 17 = .ok (.ifCond .eq 27, 3) := by decide +kernel
theorem d_Led_judge_20 : decode b_Led_judge 20 = .ok (.aload_n 0, 1) := by decide +kernel
theorem d_Led_judge_21 : decode b_Led_judge 21 = .ok (.iload 4, 2) := by decide +kernel
theorem d_Led_judge_23 : decode b_Led_judge 23 = .ok (.iload_n 2, 1) := by decide +kernel
theorem d_Led_judge_24 : decode b_Led_judge 24 = .ok (.invokevirtual 63, 3) := by decide +kernel
theorem d_Led_judge_27 : decode b_Led_judge 27 = .ok (.istore 5, 2) := by decide +kernel
theorem d_Led_judge_29 : decode b_Led_judge 29 = .ok (.iload 5, 2) := by decide +kernel
theorem d_Led_judge_31 : decode b_Led_judge 31 = .ok (.ifCond .ne 5, 3) := by decide +kernel
theorem d_Led_judge_34 : decode b_Led_judge 34 = .ok (.iconst 0, 1) := by decide +kernel
theorem d_Led_judge_35 : decode b_Led_judge 35 = .ok (.ireturn, 1) := by decide +kernel
theorem d_Led_judge_36 : decode b_Led_judge 36 = .ok (.iload 5, 2) := by decide +kernel
theorem d_Led_judge_38 : decode b_Led_judge 38 = .ok (.iconst (-1), 1) := by decide +kernel
theorem d_Led_judge_39 : decode b_Led_judge 39 = .ok (.if_icmp .ne 5, 3) := by decide +kernel
theorem d_Led_judge_42 : decode b_Led_judge 42 = .ok (.iconst (-1), 1) := by decide +kernel
theorem d_Led_judge_43 : decode b_Led_judge 43 = .ok (.istore_n 3, 1) := by decide +kernel
theorem d_Led_judge_44 : decode b_Led_judge 44 = .ok (.iinc 4 1, 3) := by decide +kernel
theorem d_Led_judge_47 : decode b_Led_judge 47 = .ok (.goto (-42), 3) := by decide +kernel
theorem d_Led_judge_50 : decode b_Led_judge 50 = .ok (.iload_n 3, 1) := by decide +kernel
theorem d_Led_judge_51 : decode b_Led_judge 51 = .ok (.ireturn, 1) := by decide +kernel
theorem d_Led_keepReply_0 : decode b_Led_keepReply 0 = .ok (.aload_n 0, 1) := by decide +kernel
theorem d_Led_keepReply_1 : decode b_Led_keepReply 1 = .ok (.getfield 22, 3) := by decide +kernel
theorem d_Led_keepReply_4 : decode b_Led_keepReply 4 = .ok (.iload_n 1, 1) := by decide +kernel
theorem d_Led_keepReply_5 : decode b_Led_keepReply 5 = .ok (.iconst 1, 1) := by decide +kernel
theorem d_Led_keepReply_6 : decode b_Led_keepReply 6 = .ok (.bastore, 1) := by decide +kernel
theorem d_Led_keepReply_7 : decode b_Led_keepReply 7 = .ok (.iconst 0, 1) := by decide +kernel
theorem d_Led_keepReply_8 : decode b_Led_keepReply 8 = .ok (.istore_n 3, 1) := by decide +kernel
theorem d_Led_keepReply_9 : decode b_Led_keepReply 9 = .ok (.iload_n 3, 1) := by decide +kernel
theorem d_Led_keepReply_10 : decode b_Led_keepReply 10 = .ok (.iconst 3, 1) := by decide +kernel
theorem d_Led_keepReply_11 : decode b_Led_keepReply 11 = .ok (.if_icmp .ge 20, 3) := by decide +kernel
theorem d_Led_keepReply_14 : decode b_Led_keepReply 14 = .ok (.aload_n 0, 1) := by decide +kernel
theorem d_Led_keepReply_15 : decode b_Led_keepReply 15 = .ok (.getfield 28, 3) := by decide +kernel
theorem d_Led_keepReply_18 : decode b_Led_keepReply 18 = .ok (.iload_n 1, 1) := by decide +kernel
theorem d_Led_keepReply_19 : decode b_Led_keepReply 19 = .ok (.aaload, 1) := by decide +kernel
theorem d_Led_keepReply_20 : decode b_Led_keepReply 20 = .ok (.iload_n 3, 1) := by decide +kernel
theorem d_Led_keepReply_21 : decode b_Led_keepReply 21 = .ok (.aload_n 2, 1) := by decide +kernel
theorem d_Led_keepReply_22 : decode b_Led_keepReply 22 = .ok (.iload_n 3, 1) := by decide +kernel
theorem d_Led_keepReply_23 : decode b_Led_keepReply 23 = .ok (.iaload, 1) := by decide +kernel
theorem d_Led_keepReply_24 : decode b_Led_keepReply 24 = .ok (.iastore, 1) := by decide +kernel
theorem d_Led_keepReply_25 : decode b_Led_keepReply 25 = .ok (.iinc 3 1, 3) := by decide +kernel
theorem d_Led_keepReply_28 : decode b_Led_keepReply 28 = .ok (.goto (-19), 3) := by decide +kernel
theorem d_Led_keepReply_31 : decode b_Led_keepReply 31 = .ok (.return_, 1) := by decide +kernel
theorem d_Led_raiseBallot_0 : decode b_Led_raiseBallot 0 = .ok (.aload_n 0, 1) := by decide +kernel
theorem d_Led_raiseBallot_1 : decode b_Led_raiseBallot 1 = .ok (.dup, 1) := by decide +kernel
theorem d_Led_raiseBallot_2 : decode b_Led_raiseBallot 2 = .ok (.getfield 9, 3) := by decide +kernel
theorem d_Led_raiseBallot_5 : decode b_Led_raiseBallot 5 = .ok (.iconst 1, 1) := by decide +kernel
theorem d_Led_raiseBallot_6 : decode b_Led_raiseBallot 6 = .ok (.iadd, 1) := by decide +kernel
theorem d_Led_raiseBallot_7 : decode b_Led_raiseBallot 7 = .ok (.putfield 9, 3) := by decide +kernel
theorem d_Led_raiseBallot_10 : decode b_Led_raiseBallot 10 = .ok (.aload_n 0, 1) := by decide +kernel
theorem d_Led_raiseBallot_11 : decode b_Led_raiseBallot 11 = .ok (.getfield 9, 3) := by decide +kernel
theorem d_Led_raiseBallot_14 : decode b_Led_raiseBallot 14 = .ok (.iconst 2, 1) := by decide +kernel
theorem d_Led_raiseBallot_15 : decode b_Led_raiseBallot 15 = .ok (.invokestatic 40, 3) := by decide +kernel
theorem d_Led_raiseBallot_18 : decode b_Led_raiseBallot 18 = .ok (.iload_n 1, 1) := by decide +kernel
theorem d_Led_raiseBallot_19 : decode b_Led_raiseBallot 19 = .ok (.if_icmp .eq 13, 3) := by decide +kernel
theorem d_Led_raiseBallot_22 : decode b_Led_raiseBallot 22 = .ok (.aload_n 0, 1) := by decide +kernel
theorem d_Led_raiseBallot_23 : decode b_Led_raiseBallot 23 = .ok (.dup, 1) := by decide +kernel
theorem d_Led_raiseBallot_24 : decode b_Led_raiseBallot 24 = .ok (.getfield 9, 3) := by decide +kernel
theorem d_Led_raiseBallot_27 : decode b_Led_raiseBallot 27 = .ok (.iconst 1, 1) := by decide +kernel
theorem d_Led_raiseBallot_28 : decode b_Led_raiseBallot 28 = .ok (.iadd, 1) := by decide +kernel
theorem d_Led_raiseBallot_29 : decode b_Led_raiseBallot 29 = .ok (.putfield 9, 3) := by decide +kernel
theorem d_Led_raiseBallot_32 : decode b_Led_raiseBallot 32 = .ok (.aload_n 0, 1) := by decide +kernel
theorem d_Led_raiseBallot_33 : decode b_Led_raiseBallot 33 = .ok (.iconst 0, 1) := by decide +kernel
theorem d_Led_raiseBallot_34 : decode b_Led_raiseBallot 34 = .ok (.putfield 15, 3) := by decide +kernel
theorem d_Led_raiseBallot_37 : decode b_Led_raiseBallot 37 = .ok (.aload_n 0, 1) := by decide +kernel
theorem d_Led_raiseBallot_38 : decode b_Led_raiseBallot 38 = .ok (.invokevirtual 46, 3) := by decide +kernel
theorem d_Led_raiseBallot_41 : decode b_Led_raiseBallot 41 = .ok (.aload_n 0, 1) := by decide +kernel
theorem d_Led_raiseBallot_42 : decode b_Led_raiseBallot 42 = .ok (.getfield 9, 3) := by decide +kernel
theorem d_Led_raiseBallot_45 : decode b_Led_raiseBallot 45 = .ok (.ireturn, 1) := by decide +kernel
theorem d_Led_voteToPropose_0 : decode b_Led_voteToPropose 0 = .ok (.iconst (-1), 1) := by decide +kernel
theorem d_Led_voteToPropose_1 : decode b_Led_voteToPropose 1 = .ok (.istore_n 2, 1) := by decide +kernel
theorem d_Led_voteToPropose_2 : decode b_Led_voteToPropose 2 = .ok (.iconst 0, 1) := by decide +kernel
theorem d_Led_voteToPropose_3 : decode b_Led_voteToPropose 3 = .ok (.istore_n 3, 1) := by decide +kernel
theorem d_Led_voteToPropose_4 : decode b_Led_voteToPropose 4 = .ok (.iload_n 3, 1) := by decide +kernel
theorem d_Led_voteToPropose_5 : decode b_Led_voteToPropose 5 = .ok (.aload_n 0, 1) := by decide +kernel
theorem d_Led_voteToPropose_6 : decode b_Led_voteToPropose 6 = .ok (.getfield 22, 3) := by decide +kernel
theorem d_Led_voteToPropose_9 : decode b_Led_voteToPropose 9 = .ok (.arraylength, 1) := by decide +kernel
theorem d_Led_voteToPropose_10 : decode b_Led_voteToPropose 10 = .ok (.if_icmp .ge 45, 3) := by decide +kernel
theorem d_Led_voteToPropose_13 : decode b_Led_voteToPropose 13 = .ok (.aload_n 0, 1) := by decide +kernel
theorem d_Led_voteToPropose_14 : decode b_Led_voteToPropose 14 = .ok (.getfield 22, 3) := by decide +kernel
theorem d_Led_voteToPropose_17 : decode b_Led_voteToPropose 17 = .ok (.iload_n 3, 1) := by decide +kernel
theorem d_Led_voteToPropose_18 : decode b_Led_voteToPropose 18 = .ok (.baload, 1) := by decide +kernel
theorem d_Led_voteToPropose_19 : decode b_Led_voteToPropose 19 = .ok (.ifCond .eq 30, 3) := by decide +kernel
theorem d_Led_voteToPropose_22 : decode b_Led_voteToPropose 22 = .ok (.aload_n 0, 1) := by decide +kernel
theorem d_Led_voteToPropose_23 : decode b_Led_voteToPropose 23 = .ok (.getfield 28, 3) := by decide +kernel
theorem d_Led_voteToPropose_26 : decode b_Led_voteToPropose 26 = .ok (.iload_n 3, 1) := by decide +kernel
theorem d_Led_voteToPropose_27 : decode b_Led_voteToPropose 27 = .ok (.aaload, 1) := by decide +kernel
theorem d_Led_voteToPropose_28 : decode b_Led_voteToPropose 28 = .ok (.iload_n 1, 1) := by decide +kernel
theorem d_Led_voteToPropose_29 : decode b_Led_voteToPropose 29 = .ok (.iaload, 1) := by decide +kernel
theorem d_Led_voteToPropose_30 : decode b_Led_voteToPropose 30 = .ok (.invokestatic 49, 3) := by decide +kernel
theorem d_Led_voteToPropose_33 : decode b_Led_voteToPropose 33 = .ok (.iload_n 2, 1) := by decide +kernel
theorem d_Led_voteToPropose_34 : decode b_Led_voteToPropose 34 = .ok (.invokestatic 49, 3) := by decide +kernel
theorem d_Led_voteToPropose_37 : decode b_Led_voteToPropose 37 = .ok (.if_icmp .le 12, 3) := by decide +kernel
theorem d_Led_voteToPropose_40 : decode b_Led_voteToPropose 40 = .ok (.aload_n 0, 1) := by decide +kernel
theorem d_Led_voteToPropose_41 : decode b_Led_voteToPropose 41 = .ok (.getfield 28, 3) := by decide +kernel
theorem d_Led_voteToPropose_44 : decode b_Led_voteToPropose 44 = .ok (.iload_n 3, 1) := by decide +kernel
theorem d_Led_voteToPropose_45 : decode b_Led_voteToPropose 45 = .ok (.aaload, 1) := by decide +kernel
theorem d_Led_voteToPropose_46 : decode b_Led_voteToPropose 46 = .ok (.iload_n 1, 1) := by decide +kernel
theorem d_Led_voteToPropose_47 : decode b_Led_voteToPropose 47 = .ok (.iaload, 1) := by decide +kernel
theorem d_Led_voteToPropose_48 : decode b_Led_voteToPropose 48 = .ok (.istore_n 2, 1) := by decide +kernel
theorem d_Led_voteToPropose_49 : decode b_Led_voteToPropose 49 = .ok (.iinc 3 1, 3) := by decide +kernel
theorem d_Led_voteToPropose_52 : decode b_Led_voteToPropose 52 = .ok (.goto (-48), 3) := by decide +kernel
theorem d_Led_voteToPropose_55 : decode b_Led_voteToPropose 55 = .ok (.iload_n 2, 1) := by decide +kernel
theorem d_Led_voteToPropose_56 : decode b_Led_voteToPropose 56 = .ok (.iconst (-1), 1) := by decide +kernel
theorem d_Led_voteToPropose_57 : decode b_Led_voteToPropose 57 = .ok (.if_icmp .ne 7, 3) := by decide +kernel
theorem d_Led_voteToPropose_60 : decode b_Led_voteToPropose 60 = .ok (.iconst 0, 1) := by decide +kernel
theorem d_Led_voteToPropose_61 : decode b_Led_voteToPropose 61 = .ok (.goto 7, 3) := by decide +kernel
theorem d_Led_voteToPropose_64 : decode b_Led_voteToPropose 64 = .ok (.iload_n 2, 1) := by decide +kernel
theorem d_Led_voteToPropose_65 : decode b_Led_voteToPropose 65 = .ok (.invokestatic 53, 3) := by decide +kernel
theorem d_Led_voteToPropose_68 : decode b_Led_voteToPropose 68 = .ok (.ireturn, 1) := by decide +kernel
theorem d_Math_floorMod_0 : decode b_Math_floorMod 0 = .ok (.iload_n 0, 1) := by decide +kernel
theorem d_Math_floorMod_1 : decode b_Math_floorMod 1 = .ok (.iload_n 1, 1) := by decide +kernel
theorem d_Math_floorMod_2 : decode b_Math_floorMod 2 = .ok (.irem, 1) := by decide +kernel
theorem d_Math_floorMod_3 : decode b_Math_floorMod 3 = .ok (.istore_n 2, 1) := by decide +kernel
theorem d_Math_floorMod_4 : decode b_Math_floorMod 4 = .ok (.iload_n 0, 1) := by decide +kernel
theorem d_Math_floorMod_5 : decode b_Math_floorMod 5 = .ok (.iload_n 1, 1) := by decide +kernel
theorem d_Math_floorMod_6 : decode b_Math_floorMod 6 = .ok (.ixor, 1) := by decide +kernel
theorem d_Math_floorMod_7 : decode b_Math_floorMod 7 = .ok (.ifCond .ge 11, 3) := by decide +kernel
theorem d_Math_floorMod_10 : decode b_Math_floorMod 10 = .ok (.iload_n 2, 1) := by decide +kernel
theorem d_Math_floorMod_11 : decode b_Math_floorMod 11 = .ok (.ifCond .eq 7, 3) := by decide +kernel
theorem d_Math_floorMod_14 : decode b_Math_floorMod 14 = .ok (.iload_n 2, 1) := by decide +kernel
theorem d_Math_floorMod_15 : decode b_Math_floorMod 15 = .ok (.iload_n 1, 1) := by decide +kernel
theorem d_Math_floorMod_16 : decode b_Math_floorMod 16 = .ok (.iadd, 1) := by decide +kernel
theorem d_Math_floorMod_17 : decode b_Math_floorMod 17 = .ok (.ireturn, 1) := by decide +kernel
theorem d_Math_floorMod_18 : decode b_Math_floorMod 18 = .ok (.iload_n 2, 1) := by decide +kernel
theorem d_Math_floorMod_19 : decode b_Math_floorMod 19 = .ok (.ireturn, 1) := by decide +kernel
theorem d_Math_max_0 : decode b_Math_max 0 = .ok (.iload_n 0, 1) := by decide +kernel
theorem d_Math_max_1 : decode b_Math_max 1 = .ok (.iload_n 1, 1) := by decide +kernel
theorem d_Math_max_2 : decode b_Math_max 2 = .ok (.if_icmp .lt 7, 3) := by decide +kernel
theorem d_Math_max_5 : decode b_Math_max 5 = .ok (.iload_n 0, 1) := by decide +kernel
theorem d_Math_max_6 : decode b_Math_max 6 = .ok (.goto 4, 3) := by decide +kernel
theorem d_Math_max_9 : decode b_Math_max 9 = .ok (.iload_n 1, 1) := by decide +kernel
theorem d_Math_max_10 : decode b_Math_max 10 = .ok (.ireturn, 1) := by decide +kernel
theorem d_Math_min_0 : decode b_Math_min 0 = .ok (.iload_n 0, 1) := by decide +kernel
theorem d_Math_min_1 : decode b_Math_min 1 = .ok (.iload_n 1, 1) := by decide +kernel
theorem d_Math_min_2 : decode b_Math_min 2 = .ok (.if_icmp .gt 7, 3) := by decide +kernel
theorem d_Math_min_5 : decode b_Math_min 5 = .ok (.iload_n 0, 1) := by decide +kernel
theorem d_Math_min_6 : decode b_Math_min 6 = .ok (.goto 4, 3) := by decide +kernel
theorem d_Math_min_9 : decode b_Math_min 9 = .ok (.iload_n 1, 1) := by decide +kernel
theorem d_Math_min_10 : decode b_Math_min 10 = .ok (.ireturn, 1) := by decide +kernel
theorem d_Mo_abort_0 : decode b_Mo_abort 0 = .ok (.aload_n 0, 1) := by decide +kernel
theorem d_Mo_abort_1 : decode b_Mo_abort 1 = .ok (.getfield 32, 3) := by decide +kernel
theorem d_Mo_abort_4 : decode b_Mo_abort 4 = .ok (.iconst 3, 1) := by decide +kernel
theorem d_Mo_abort_5 : decode b_Mo_abort 5 = .ok (.iload_n 1, 1) := by decide +kernel
theorem d_Mo_abort_6 : decode b_Mo_abort 6 = .ok (.imul, 1) := by decide +kernel
theorem d_Mo_abort_7 : decode b_Mo_abort 7 = .ok (.iload_n 2, 1) := by decide +kernel
theorem d_Mo_abort_8 : decode b_Mo_abort 8 = .ok (.iadd, 1) := by decide +kernel
theorem d_Mo_abort_9 : decode b_Mo_abort 9 = .ok (.iconst 4, 1) := by decide +kernel
theorem d_Mo_abort_10 : decode b_Mo_abort 10 = .ok (.iastore, 1) := by decide +kernel
theorem d_Mo_abort_11 : decode b_Mo_abort 11 = .ok (.aload_n 0, 1) := by decide +kernel
theorem d_Mo_abort_12 : decode b_Mo_abort 12 = .ok (.iload_n 1, 1) := by decide +kernel
theorem d_Mo_abort_13 : decode b_Mo_abort 13 = .ok (.iload_n 2, 1) := by decide +kernel
theorem d_Mo_abort_14 : decode b_Mo_abort 14 = .ok (.invokevirtual 98, 3) := by decide +kernel
theorem d_Mo_abort_17 : decode b_Mo_abort 17 = .ok (.return_, 1) := by decide +kernel
theorem d_Mo_accept_0 : decode b_Mo_accept 0 = .ok (.bipush 24, 2) := by decide +kernel
theorem d_Mo_accept_2 : decode b_Mo_accept 2 = .ok (.iload_n 3, 1) := by decide +kernel
theorem d_Mo_accept_3 : decode b_Mo_accept 3 = .ok (.imul, 1) := by decide +kernel
theorem d_Mo_accept_4 : decode b_Mo_accept 4 = .ok (.iconst 3, 1) := by decide +kernel
theorem d_Mo_accept_5 : decode b_Mo_accept 5 = .ok (.iload_n 1, 1) := by decide +kernel
theorem d_Mo_accept_6 : decode b_Mo_accept 6 = .ok (.imul, 1) := by decide +kernel
theorem d_Mo_accept_7 : decode b_Mo_accept 7 = .ok (.iadd, 1) := by decide +kernel
theorem d_Mo_accept_8 : decode b_Mo_accept 8 = .ok (.iload_n 2, 1) := by decide +kernel
theorem d_Mo_accept_9 : decode b_Mo_accept 9 = .ok (.iadd, 1) := by decide +kernel
theorem d_Mo_accept_10 : decode b_Mo_accept 10 = .ok (.istore 6, 2) := by decide +kernel
theorem d_Mo_accept_12 : decode b_Mo_accept 12 = .ok (.aload_n 0, 1) := by decide +kernel
theorem d_Mo_accept_13 : decode b_Mo_accept 13 = .ok (.getfield 41, 3) := by decide +kernel
theorem d_Mo_accept_16 : decode b_Mo_accept 16 = .ok (.iload 6, 2) := by decide +kernel
theorem d_Mo_accept_18 : decode b_Mo_accept 18 = .ok (.iaload, 1) := by decide +kernel
theorem d_Mo_accept_19 : decode b_Mo_accept 19 = .ok (.iload 4, 2) := by decide +kernel
theorem d_Mo_accept_21 : decode b_Mo_accept 21 = .ok (.if_icmp .le 4, 3) := by decide +kernel
theorem d_Mo_accept_24 : decode b_Mo_accept 24 = .ok (.return_, 1) := by decide +kernel
theorem d_Mo_accept_25 : decode b_Mo_accept 25 = .ok (.aload_n 0, 1) := by decide +kernel
theorem d_Mo_accept_26 : decode b_Mo_accept 26 = .ok (.getfield 41, 3) := by decide +kernel
theorem d_Mo_accept_29 : decode b_Mo_accept 29 = .ok (.iload 6, 2) := by decide +kernel
theorem d_Mo_accept_31 : decode b_Mo_accept 31 = .ok (.iload 4, 2) := by decide +kernel
theorem d_Mo_accept_33 : decode b_Mo_accept 33 = .ok (.iastore, 1) := by decide +kernel
theorem d_Mo_accept_34 : decode b_Mo_accept 34 = .ok (.aload_n 0, 1) := by decide +kernel
theorem d_Mo_accept_35 : decode b_Mo_accept 35 = .ok (.getfield 44, 3) := by decide +kernel
theorem d_Mo_accept_38 : decode b_Mo_accept 38 = .ok (.iload 6, 2) := by decide +kernel
theorem d_Mo_accept_40 : decode b_Mo_accept 40 = .ok (.iload 4, 2) := by decide +kernel
theorem d_Mo_accept_42 : decode b_Mo_accept 42 = .ok (.iastore, 1) := by decide +kernel
theorem d_Mo_accept_43 : decode b_Mo_accept 43 = .ok (.aload_n 0, 1) := by decide +kernel
theorem d_Mo_accept_44 : decode b_Mo_accept 44 = .ok (.getfield 47, 3) := by decide +kernel
theorem d_Mo_accept_47 : decode b_Mo_accept 47 = .ok (.iload 6, 2) := by decide +kernel
theorem d_Mo_accept_49 : decode b_Mo_accept 49 = .ok (.iload 5, 2) := by decide +kernel
theorem d_Mo_accept_51 : decode b_Mo_accept 51 = .ok (.iastore, 1) := by decide +kernel
theorem d_Mo_accept_52 : decode b_Mo_accept 52 = .ok (.iconst 0, 1) := by decide +kernel
theorem d_Mo_accept_53 : decode b_Mo_accept 53 = .ok (.istore 7, 2) := by decide +kernel
theorem d_Mo_accept_55 : decode b_Mo_accept 55 = .ok (.iload 7, 2) := by decide +kernel
theorem d_Mo_accept_57 : decode b_Mo_accept 57 = .ok (.iconst 2, 1) := by decide +kernel
theorem d_Mo_accept_58 : decode b_Mo_accept 58 = .ok (.if_icmp .ge 26, 3) := by decide +kernel
theorem d_Mo_accept_61 : decode b_Mo_accept 61 = .ok (.aload_n 0, 1) := by decide +kernel
theorem d_Mo_accept_62 : decode b_Mo_accept 62 = .ok (.bipush 84, 2) := by decide +kernel
theorem d_Mo_accept_64 : decode b_Mo_accept 64 = .ok (.iload_n 1, 1) := by decide +kernel
theorem d_Mo_accept_65 : decode b_Mo_accept 65 = .ok (.iload_n 2, 1) := by decide +kernel
theorem d_Mo_accept_66 : decode b_Mo_accept 66 = .ok (.iload_n 3, 1) := by decide +kernel
theorem d_Mo_accept_67 : decode b_Mo_accept 67 = .ok (.iload 7, 2) := by decide +kernel
theorem d_Mo_accept_69 : decode b_Mo_accept 69 = .ok (.iload 4, 2) := by decide +kernel
theorem d_Mo_accept_71 : decode b_Mo_accept 71 = .ok (.iload 5, 2) := by decide +kernel
theorem d_Mo_accept_73 : decode b_Mo_accept 73 = .ok (.invokevirtual 94, 3) := by decide +kernel
theorem d_Mo_accept_76 : decode b_Mo_accept 76 = .ok (.istore 8, 2) := by decide +kernel
theorem d_Mo_accept_78 : decode b_Mo_accept 78 = .ok (.iinc 7 1, 3) := by decide +kernel
theorem d_Mo_accept_81 : decode b_Mo_accept 81 = .ok (.goto (-26), 3) := by decide +kernel
theorem d_Mo_accept_84 : decode b_Mo_accept 84 = .ok (.return_, 1) := by decide +kernel
theorem d_Mo_arrive_0 : decode b_Mo_arrive 0 = .ok (.aload_n 0, 1) := by decide +kernel
theorem d_Mo_arrive_1 : decode b_Mo_arrive 1 = .ok (.getfield 74, 3) := by decide +kernel
theorem d_Mo_arrive_4 : decode b_Mo_arrive 4 = .ok (.iload_n 1, 1) := by decide +kernel
theorem d_Mo_arrive_5 : decode b_Mo_arrive 5 = .ok (.iconst 1, 1) := by decide +kernel
theorem d_Mo_arrive_6 : decode b_Mo_arrive 6 = .ok (.iadd, 1) := by decide +kernel
theorem d_Mo_arrive_7 : decode b_Mo_arrive 7 = .ok (.iaload, 1) := by decide +kernel
theorem d_Mo_arrive_8 : decode b_Mo_arrive 8 = .ok (.istore_n 2, 1) := by decide +kernel
theorem d_Mo_arrive_9 : decode b_Mo_arrive 9 = .ok (.aload_n 0, 1) := by decide +kernel
theorem d_Mo_arrive_10 : decode b_Mo_arrive 10 = .ok (.getfield 74, 3) := by decide +kernel
theorem d_Mo_arrive_13 : decode b_Mo_arrive 13 = .ok (.iload_n 1, 1) := by decide +kernel
theorem d_Mo_arrive_14 : decode b_Mo_arrive 14 = .ok (.iconst 2, 1) := by decide +kernel
theorem d_Mo_arrive_15 : decode b_Mo_arrive 15 = .ok (.iadd, 1) := by decide +kernel
theorem d_Mo_arrive_16 : decode b_Mo_arrive 16 = .ok (.iaload, 1) := by decide +kernel
theorem d_Mo_arrive_17 : decode b_Mo_arrive 17 = .ok (.istore_n 3, 1) := by decide +kernel
theorem d_Mo_arrive_18 : decode b_Mo_arrive 18 = .ok (.aload_n 0, 1) := by decide +kernel
theorem d_Mo_arrive_19 : decode b_Mo_arrive 19 = .ok (.getfield 74, 3) := by decide +kernel
theorem d_Mo_arrive_22 : decode b_Mo_arrive 22 = .ok (.iload_n 1, 1) := by decide +kernel
theorem d_Mo_arrive_23 : decode b_Mo_arrive 23 = .ok (.iconst 3, 1) := by decide +kernel
theorem d_Mo_arrive_24 : decode b_Mo_arrive 24 = .ok (.iadd, 1) := by decide +kernel
theorem d_Mo_arrive_25 : decode b_Mo_arrive 25 = .ok (.iaload, 1) := by decide +kernel
theorem d_Mo_arrive_26 : decode b_Mo_arrive 26 = .ok (.istore 4, 2) := by decide +kernel
theorem d_Mo_arrive_28 : decode b_Mo_arrive 28 = .ok (.aload_n 0, 1) := by decide +kernel
theorem d_Mo_arrive_29 : decode b_Mo_arrive 29 = .ok (.getfield 74, 3) := by decide +kernel
theorem d_Mo_arrive_32 : decode b_Mo_arrive 32 = .ok (.iload_n 1, 1) := by decide +kernel
theorem d_Mo_arrive_33 : decode b_Mo_arrive 33 = .ok (.iconst 4, 1) := by decide +kernel
theorem d_Mo_arrive_34 : decode b_Mo_arrive 34 = .ok (.iadd, 1) := by decide +kernel
theorem d_Mo_arrive_35 : decode b_Mo_arrive 35 = .ok (.iaload, 1) := by decide +kernel
theorem d_Mo_arrive_36 : decode b_Mo_arrive 36 = .ok (.istore 5, 2) := by decide +kernel
theorem d_Mo_arrive_38 : decode b_Mo_arrive 38 = .ok (.aload_n 0, 1) := by decide +kernel
theorem d_Mo_arrive_39 : decode b_Mo_arrive 39 = .ok (.getfield 74, 3) := by decide +kernel
theorem d_Mo_arrive_42 : decode b_Mo_arrive 42 = .ok (.iload_n 1, 1) := by decide +kernel
theorem d_Mo_arrive_43 : decode b_Mo_arrive 43 = .ok (.iconst 5, 1) := by decide +kernel
theorem d_Mo_arrive_44 : decode b_Mo_arrive 44 = .ok (.iadd, 1) := by decide +kernel
theorem d_Mo_arrive_45 : decode b_Mo_arrive 45 = .ok (.iaload, 1) := by decide +kernel
theorem d_Mo_arrive_46 : decode b_Mo_arrive 46 = .ok (.istore 6, 2) := by decide +kernel
theorem d_Mo_arrive_48 : decode b_Mo_arrive 48 = .ok (.aload_n 0, 1) := by decide +kernel
theorem d_Mo_arrive_49 : decode b_Mo_arrive 49 = .ok (.getfield 74, 3) := by decide +kernel
theorem d_Mo_arrive_52 : decode b_Mo_arrive 52 = .ok (.iload_n 1, 1) := by decide +kernel
theorem d_Mo_arrive_53 : decode b_Mo_arrive 53 = .ok (.bipush 6, 2) := by decide +kernel
theorem d_Mo_arrive_55 : decode b_Mo_arrive 55 = .ok (.iadd, 1) := by decide +kernel
theorem d_Mo_arrive_56 : decode b_Mo_arrive 56 = .ok (.iaload, 1) := by decide +kernel
theorem d_Mo_arrive_57 : decode b_Mo_arrive 57 = .ok (.istore 7, 2) := by decide +kernel
theorem d_Mo_arrive_59 : decode b_Mo_arrive 59 = .ok (.aload_n 0, 1) := by decide +kernel
theorem d_Mo_arrive_60 : decode b_Mo_arrive 60 = .ok (.getfield 74, 3) := by decide +kernel
theorem d_Mo_arrive_63 : decode b_Mo_arrive 63 = .ok (.iload_n 1, 1) := by decide +kernel
theorem d_Mo_arrive_64 : decode b_Mo_arrive 64 = .ok (.iaload, 1) := by decide +kernel
theorem d_Mo_arrive_65 : decode b_Mo_arrive 65 = .ok (.lookupswitch 168 #[(65, 69), (80, 51), (82, 91), (84, 141), (86, 116)], 51) := by decide +kernel
theorem d_Mo_arrive_116 : decode b_Mo_arrive 116 = .ok (.aload_n 0, 1) := by decide +kernel
theorem d_Mo_arrive_117 : decode b_Mo_arrive 117 = .ok (.getfield 7, 3) := by decide +kernel
theorem d_Mo_arrive_120 : decode b_Mo_arrive 120 = .ok (.iload_n 3, 1) := by decide +kernel
theorem d_Mo_arrive_121 : decode b_Mo_arrive 121 = .ok (.baload, 1) := by decide +kernel
theorem d_Mo_arrive_122 : decode b_Mo_arrive 122 = .ok (.ifCond .ne 128, 3) := by decide +kernel
theorem d_Mo_arrive_125 : decode b_Mo_arrive 125 = .ok (.aload_n 0, 1) := by decide +kernel
theorem d_Mo_arrive_126 : decode b_Mo_arrive 126 = .ok (.iload_n 2, 1) := by decide +kernel
theorem d_Mo_arrive_127 : decode b_Mo_arrive 127 = .ok (.iload_n 3, 1) := by decide +kernel
theorem d_Mo_arrive_128 : decode b_Mo_arrive 128 = .ok (.invokevirtual 137, 3) := by decide +kernel
theorem d_Mo_arrive_131 : decode b_Mo_arrive 131 = .ok (.goto 119, 3) := by decide +kernel
theorem d_Mo_arrive_134 : decode b_Mo_arrive 134 = .ok (.aload_n 0, 1) := by decide +kernel
theorem d_Mo_arrive_135 : decode b_Mo_arrive 135 = .ok (.getfield 13, 3) := by decide +kernel
theorem d_Mo_arrive_138 : decode b_Mo_arrive 138 = .ok (.iload 4, 2) := by decide +kernel
theorem d_Mo_arrive_140 : decode b_Mo_arrive 140 = .ok (.baload, 1) := by decide +kernel
theorem d_Mo_arrive_141 : decode b_Mo_arrive 141 = .ok (.ifCond .ne 109, 3) := by decide +kernel
theorem d_Mo_arrive_144 : decode b_Mo_arrive 144 = .ok (.aload_n 0, 1) := by decide +kernel
theorem d_Mo_arrive_145 : decode b_Mo_arrive 145 = .ok (.iload_n 2, 1) := by decide +kernel
theorem d_Mo_arrive_146 : decode b_Mo_arrive 146 = .ok (.iload 4, 2) := by decide +kernel
theorem d_Mo_arrive_148 : decode b_Mo_arrive 148 = .ok (.iload 6, 2) := by decide +kernel
theorem d_Mo_arrive_150 : decode b_Mo_arrive 150 = .ok (.invokevirtual 140, 3) := by decide +kernel
theorem d_Mo_arrive_153 : decode b_Mo_arrive 153 = .ok (.goto 97, 3) := by decide +kernel
theorem d_Mo_arrive_156 : decode b_Mo_arrive 156 = .ok (.aload_n 0, 1) := by decide +kernel
theorem d_Mo_arrive_157 : decode b_Mo_arrive 157 = .ok (.getfield 16, 3) := by decide +kernel
theorem d_Mo_arrive_160 : decode b_Mo_arrive 160 = .ok (.iload 5, 2) := by decide +kernel
theorem d_Mo_arrive_162 : decode b_Mo_arrive 162 = .ok (.baload, 1) := by decide +kernel
theorem d_Mo_arrive_163 : decode b_Mo_arrive 163 = .ok (.ifCond .ne 87, 3) := by decide +kernel
theorem d_Mo_arrive_166 : decode b_Mo_arrive 166 = .ok (.aload_n 0, 1) := by decide +kernel
theorem d_Mo_arrive_167 : decode b_Mo_arrive 167 = .ok (.iload 5, 2) := by decide +kernel
theorem d_Mo_arrive_169 : decode b_Mo_arrive 169 = .ok (.iload_n 2, 1) := by decide +kernel
theorem d_Mo_arrive_170 : decode b_Mo_arrive 170 = .ok (.iload 4, 2) := by decide +kernel
theorem d_Mo_arrive_172 : decode b_Mo_arrive 172 = .ok (.iload 6, 2) := by decide +kernel
theorem d_Mo_arrive_174 : decode b_Mo_arrive 174 = .ok (.iload_n 1, 1) := by decide +kernel
theorem d_Mo_arrive_175 : decode b_Mo_arrive 175 = .ok (.invokevirtual 144, 3) := by decide +kernel
theorem d_Mo_arrive_178 : decode b_Mo_arrive 178 = .ok (.goto 72, 3) := by decide +kernel
theorem d_Mo_arrive_181 : decode b_Mo_arrive 181 = .ok (.aload_n 0, 1) := by decide +kernel
theorem d_Mo_arrive_182 : decode b_Mo_arrive 182 = .ok (.getfield 13, 3) := by decide +kernel
theorem d_Mo_arrive_185 : decode b_Mo_arrive 185 = .ok (.iload 4, 2) := by decide +kernel
theorem d_Mo_arrive_187 : decode b_Mo_arrive 187 = .ok (.baload, 1) := by decide +kernel
theorem d_Mo_arrive_188 : decode b_Mo_arrive 188 = .ok (.ifCond .ne 62, 3) := by decide +kernel
theorem d_Mo_arrive_191 : decode b_Mo_arrive 191 = .ok (.aload_n 0, 1) := by decide +kernel
theorem d_Mo_arrive_192 : decode b_Mo_arrive 192 = .ok (.iload_n 2, 1) := by decide +kernel
theorem d_Mo_arrive_193 : decode b_Mo_arrive 193 = .ok (.iload_n 3, 1) := by decide +kernel
theorem d_Mo_arrive_194 : decode b_Mo_arrive 194 = .ok (.iload 4, 2) := by decide +kernel
theorem d_Mo_arrive_196 : decode b_Mo_arrive 196 = .ok (.iload 6, 2) := by decide +kernel
theorem d_Mo_arrive_198 : decode b_Mo_arrive 198 = .ok (.iload 7, 2) := by decide +kernel
theorem d_Mo_arrive_200 : decode b_Mo_arrive 200 = .ok (.invokevirtual 148, 3) := by decide +kernel
theorem d_Mo_arrive_203 : decode b_Mo_arrive 203 = .ok (.goto 47, 3) := by decide +kernel
theorem d_Mo_arrive_206 : decode b_Mo_arrive 206 = .ok (.aload_n 0, 1) := by decide +kernel
theorem d_Mo_arrive_207 : decode b_Mo_arrive 207 = .ok (.getfield 16, 3) := by decide +kernel
theorem d_Mo_arrive_210 : decode b_Mo_arrive 210 = .ok (.iload 5, 2) := by decide +kernel
theorem d_Mo_arrive_212 : decode b_Mo_arrive 212 = .ok (.baload, 1) := by decide +kernel
theorem d_Mo_arrive_213 : decode b_Mo_arrive 213 = .ok (.ifCond .ne 37, 3) := by decide +kernel
theorem d_Mo_arrive_216 : decode b_Mo_arrive 216 = .ok (.aload_n 0, 1) := by decide +kernel
theorem d_Mo_arrive_217 : decode b_Mo_arrive 217 = .ok (.iload 5, 2) := by decide +kernel
theorem d_Mo_arrive_219 : decode b_Mo_arrive 219 = .ok (.iload_n 2, 1) := by decide +kernel
theorem d_Mo_arrive_220 : decode b_Mo_arrive 220 = .ok (.iload_n 3, 1) := by decide +kernel
theorem d_Mo_arrive_221 : decode b_Mo_arrive 221 = .ok (.iload 4, 2) := by decide +kernel
theorem d_Mo_arrive_223 : decode b_Mo_arrive 223 = .ok (.iload 6, 2) := by decide +kernel
theorem d_Mo_arrive_225 : decode b_Mo_arrive 225 = .ok (.iload 7, 2) := by decide +kernel
theorem d_Mo_arrive_227 : decode b_Mo_arrive 227 = .ok (.invokevirtual 151, 3) := by decide +kernel
theorem d_Mo_arrive_230 : decode b_Mo_arrive 230 = .ok (.goto 20, 3) := by decide +kernel
theorem d_Mo_arrive_233 : decode b_Mo_arrive 233 = .ok (.aload_n 0, 1) := by decide +kernel
theorem d_Mo_arrive_234 : decode b_Mo_arrive 234 = .ok (.getfield 7, 3) := by decide +kernel
theorem d_Mo_arrive_237 : decode b_Mo_arrive 237 = .ok (.iload_n 3, 1) := by decide +kernel
theorem d_Mo_arrive_238 : decode b_Mo_arrive 238 = .ok (.baload, 1) := by decide +kernel
theorem d_Mo_arrive_239 : decode b_Mo_arrive 239 = .ok (.ifCond .ne 11, 3) := by decide +kernel
theorem d_Mo_arrive_242 : decode b_Mo_arrive 242 = .ok (.aload_n 0, 1) := by decide +kernel
theorem d_Mo_arrive_243 : decode b_Mo_arrive 243 = .ok (.iload_n 2, 1) := by decide +kernel
theorem d_Mo_arrive_244 : decode b_Mo_arrive 244 = .ok (.iload_n 3, 1) := by decide +kernel
theorem d_Mo_arrive_245 : decode b_Mo_arrive 245 = .ok (.iload 7, 2) := by decide +kernel
theorem d_Mo_arrive_247 : decode b_Mo_arrive 247 = .ok (.invokevirtual 155, 3) := by decide +kernel
theorem d_Mo_arrive_250 : decode b_Mo_arrive 250 = .ok (.return_, 1) := by decide +kernel
theorem d_Mo_ask_0 : decode b_Mo_ask 0 = .ok (.iconst 0, 1) := by decide +kernel
theorem d_Mo_ask_1 : decode b_Mo_ask 1 = .ok (.istore 4, 2) := by decide +kernel
theorem d_Mo_ask_3 : decode b_Mo_ask 3 = .ok (.iload 4, 2) := by decide +kernel
theorem d_Mo_ask_5 : decode b_Mo_ask 5 = .ok (.iconst 3, 1) := by decide +kernel
theorem d_Mo_ask_6 : decode b_Mo_ask 6 = .ok (.if_icmp .ge 40, 3) := by decide +kernel
theorem d_Mo_ask_9 : decode b_Mo_ask 9 = .ok (.aload_n 0, 1) := by decide +kernel
theorem d_Mo_ask_10 : decode b_Mo_ask 10 = .ok (.iload_n 1, 1) := by decide +kernel
theorem d_Mo_ask_11 : decode b_Mo_ask 11 = .ok (.iload 4, 2) := by decide +kernel
theorem d_Mo_ask_13 : decode b_Mo_ask 13 = .ok (.invokevirtual 116, 3) := by decide +kernel
theorem d_Mo_ask_16 : decode b_Mo_ask 16 = .ok (.ifCond .eq 24, 3) := by decide +kernel
theorem d_Mo_ask_19 : decode b_Mo_ask 19 = .ok (.aload_n 0, 1) := by decide +kernel
theorem d_Mo_ask_20 : decode b_Mo_ask 20 = .ok (.getfield 41, 3) := by decide +kernel
theorem d_Mo_ask_23 : decode b_Mo_ask 23 = .ok (.bipush 24, 2) := by decide +kernel
theorem d_Mo_ask_25 : decode b_Mo_ask 25 = .ok (.iload_n 2, 1) := by decide +kernel
theorem d_Mo_ask_26 : decode b_Mo_ask 26 = .ok (.imul, 1) := by decide +kernel
theorem d_Mo_ask_27 : decode b_Mo_ask 27 = .ok (.iconst 3, 1) := by decide +kernel
theorem d_Mo_ask_28 : decode b_Mo_ask 28 = .ok (.iload_n 1, 1) := by decide +kernel
theorem d_Mo_ask_29 : decode b_Mo_ask 29 = .ok (.imul, 1) := by decide +kernel
theorem d_Mo_ask_30 : decode b_Mo_ask 30 = .ok (.iadd, 1) := by decide +kernel
theorem d_Mo_ask_31 : decode b_Mo_ask 31 = .ok (.iload 4, 2) := by decide +kernel
theorem d_Mo_ask_33 : decode b_Mo_ask 33 = .ok (.iadd, 1) := by decide +kernel
theorem d_Mo_ask_34 : decode b_Mo_ask 34 = .ok (.iaload, 1) := by decide +kernel
theorem d_Mo_ask_35 : decode b_Mo_ask 35 = .ok (.iload_n 3, 1) := by decide +kernel
theorem d_Mo_ask_36 : decode b_Mo_ask 36 = .ok (.if_icmp .le 4, 3) := by decide +kernel
theorem d_Mo_ask_39 : decode b_Mo_ask 39 = .ok (.return_, 1) := by decide +kernel
theorem d_Mo_ask_40 : decode b_Mo_ask 40 = .ok (.iinc 4 1, 3) := by decide +kernel
theorem d_Mo_ask_43 : decode b_Mo_ask 43 = .ok (.goto (-40), 3) := by decide +kernel
theorem d_Mo_ask_46 : decode b_Mo_ask 46 = .ok (.iconst 0, 1) := by decide +kernel
theorem d_Mo_ask_47 : decode b_Mo_ask 47 = .ok (.istore 4, 2) := by decide +kernel
theorem d_Mo_ask_49 : decode b_Mo_ask 49 = .ok (.iload 4, 2) := by decide +kernel
theorem d_Mo_ask_51 : decode b_Mo_ask 51 = .ok (.iconst 3, 1) := by decide +kernel
theorem d_Mo_ask_52 : decode b_Mo_ask 52 = .ok (.if_icmp .ge 36, 3) := by decide +kernel
theorem d_Mo_ask_55 : decode b_Mo_ask 55 = .ok (.aload_n 0, 1) := by decide +kernel
theorem d_Mo_ask_56 : decode b_Mo_ask 56 = .ok (.iload_n 1, 1) := by decide +kernel
theorem d_Mo_ask_57 : decode b_Mo_ask 57 = .ok (.iload 4, 2) := by decide +kernel
theorem d_Mo_ask_59 : decode b_Mo_ask 59 = .ok (.invokevirtual 116, 3) := by decide +kernel
theorem d_Mo_ask_62 : decode b_Mo_ask 62 = .ok (.ifCond .eq 20, 3) := by decide +kernel
theorem d_Mo_ask_65 : decode b_Mo_ask 65 = .ok (.aload_n 0, 1) := by decide +kernel
theorem d_Mo_ask_66 : decode b_Mo_ask 66 = .ok (.getfield 41, 3) := by decide +kernel
theorem d_Mo_ask_69 : decode b_Mo_ask 69 = .ok (.bipush 24, 2) := by decide +kernel
theorem d_Mo_ask_71 : decode b_Mo_ask 71 = .ok (.iload_n 2, 1) := by decide +kernel
theorem d_Mo_ask_72 : decode b_Mo_ask 72 = .ok (.imul, 1) := by decide +kernel
theorem d_Mo_ask_73 : decode b_Mo_ask 73 = .ok (.iconst 3, 1) := by decide +kernel
theorem d_Mo_ask_74 : decode b_Mo_ask 74 = .ok (.iload_n 1, 1) := by decide +kernel
theorem d_Mo_ask_75 : decode b_Mo_ask 75 = .ok (.imul, 1) := by decide +kernel
theorem d_Mo_ask_76 : decode b_Mo_ask 76 = .ok (.iadd, 1) := by decide +kernel
theorem d_Mo_ask_77 : decode b_Mo_ask 77 = .ok (.iload 4, 2) := by decide +kernel
theorem d_Mo_ask_79 : decode b_Mo_ask 79 = .ok (.iadd, 1) := by decide +kernel
theorem d_Mo_ask_80 : decode b_Mo_ask 80 = .ok (.iload_n 3, 1) := by decide +kernel
theorem d_Mo_ask_81 : decode b_Mo_ask 81 = .ok (.iastore, 1) := by decide +kernel
theorem d_Mo_ask_82 : decode b_Mo_ask 82 = .ok (.iinc 4 1, 3) := by decide +kernel
theorem d_Mo_ask_85 : decode b_Mo_ask 85 = .ok (.goto (-36), 3) := by decide +kernel
theorem d_Mo_ask_88 : decode b_Mo_ask 88 = .ok (.aload_n 0, 1) := by decide +kernel
theorem d_Mo_ask_89 : decode b_Mo_ask 89 = .ok (.bipush 82, 2) := by decide +kernel
theorem d_Mo_ask_91 : decode b_Mo_ask 91 = .ok (.iload_n 1, 1) := by decide +kernel
theorem d_Mo_ask_92 : decode b_Mo_ask 92 = .ok (.iconst (-1), 1) := by decide +kernel
theorem d_Mo_ask_93 : decode b_Mo_ask 93 = .ok (.iload_n 2, 1) := by decide +kernel
theorem d_Mo_ask_94 : decode b_Mo_ask 94 = .ok (.iload_n 3, 1) := by decide +kernel
theorem d_Mo_ask_95 : decode b_Mo_ask 95 = .ok (.iconst 2, 1) := by decide +kernel
theorem d_Mo_ask_96 : decode b_Mo_ask 96 = .ok (.irem, 1) := by decide +kernel
theorem d_Mo_ask_97 : decode b_Mo_ask 97 = .ok (.iload_n 3, 1) := by decide +kernel
theorem d_Mo_ask_98 : decode b_Mo_ask 98 = .ok (.iconst (-1), 1) := by decide +kernel
theorem d_Mo_ask_99 : decode b_Mo_ask 99 = .ok (.invokevirtual 94, 3) := by decide +kernel
theorem d_Mo_ask_102 : decode b_Mo_ask 102 = .ok (.ifCond .ne 4, 3) := by decide +kernel
theorem d_Mo_ask_105 : decode b_Mo_ask 105 = .ok (.return_, 1) := by decide +kernel
theorem d_Mo_ask_106 : decode b_Mo_ask 106 = .ok (.iconst 0, 1) := by decide +kernel
theorem d_Mo_ask_107 : decode b_Mo_ask 107 = .ok (.istore 4, 2) := by decide +kernel
theorem d_Mo_ask_109 : decode b_Mo_ask 109 = .ok (.iload 4, 2) := by decide +kernel
theorem d_Mo_ask_111 : decode b_Mo_ask 111 = .ok (.iconst 3, 1) := by decide +kernel
theorem d_Mo_ask_112 : decode b_Mo_ask 112 = .ok (.if_icmp .ge 85, 3) := by decide +kernel
theorem d_Mo_ask_115 : decode b_Mo_ask 115 = .ok (.bipush 24, 2) := by decide +kernel
theorem d_Mo_ask_117 : decode b_Mo_ask 117 = .ok (.iload_n 2, 1) := by decide +kernel
theorem d_Mo_ask_118 : decode b_Mo_ask 118 = .ok (.imul, 1) := by decide +kernel
theorem d_Mo_ask_119 : decode b_Mo_ask 119 = .ok (.iconst 3, 1) := by decide +kernel
theorem d_Mo_ask_120 : decode b_Mo_ask 120 = .ok (.iload_n 1, 1) := by decide +kernel
theorem d_Mo_ask_121 : decode b_Mo_ask 121 = .ok (.imul, 1) := by decide +kernel
theorem d_Mo_ask_122 : decode b_Mo_ask 122 = .ok (.iadd, 1) := by decide +kernel
theorem d_Mo_ask_123 : decode b_Mo_ask 123 = .ok (.iload 4, 2) := by decide +kernel
theorem d_Mo_ask_125 : decode b_Mo_ask 125 = .ok (.iadd, 1) := by decide +kernel
theorem d_Mo_ask_126 : decode b_Mo_ask 126 = .ok (.istore 5, 2) := by decide +kernel
theorem d_Mo_ask_128 : decode b_Mo_ask 128 = .ok (.aload_n 0, 1) := by decide +kernel
theorem d_Mo_ask_129 : decode b_Mo_ask 129 = .ok (.getfield 74, 3) := by decide +kernel
theorem d_Mo_ask_132 : decode b_Mo_ask 132 = .ok (.bipush 13, 2) := by decide +kernel
theorem d_Mo_ask_134 : decode b_Mo_ask 134 = .ok (.aload_n 0, 1) := by decide +kernel
theorem d_Mo_ask_135 : decode b_Mo_ask 135 = .ok (.getfield 88, 3) := by decide +kernel
theorem d_Mo_ask_138 : decode b_Mo_ask 138 = .ok (.imul, 1) := by decide +kernel
theorem d_Mo_ask_139 : decode b_Mo_ask 139 = .ok (.bipush 6, 2) := by decide +kernel
theorem d_Mo_ask_141 : decode b_Mo_ask 141 = .ok (.isub, 1) := by decide +kernel
theorem d_Mo_ask_142 : decode b_Mo_ask 142 = .ok (.iload 4, 2) := by decide +kernel
theorem d_Mo_ask_144 : decode b_Mo_ask 144 = .ok (.iadd, 1) := by decide +kernel
theorem d_Mo_ask_145 : decode b_Mo_ask 145 = .ok (.aload_n 0, 1) := by decide +kernel
theorem d_Mo_ask_146 : decode b_Mo_ask 146 = .ok (.iload_n 1, 1) := by decide +kernel
theorem d_Mo_ask_147 : decode b_Mo_ask 147 = .ok (.iload 4, 2) := by decide +kernel
theorem d_Mo_ask_149 : decode b_Mo_ask 149 = .ok (.invokevirtual 116, 3) := by decide +kernel
theorem d_Mo_ask_152 : decode b_Mo_ask 152 = .ok (.ifCond .eq 13, 3) := by decide +kernel
theorem d_Mo_ask_155 : decode b_Mo_ask 155 = .ok (.aload_n 0, 1) := by decide +kernel
theorem d_Mo_ask_156 : decode b_Mo_ask 156 = .ok (.getfield 44, 3) := by decide +kernel
theorem d_Mo_ask_159 : decode b_Mo_ask 159 = .ok (.iload 5, 2) := by decide +kernel
theorem d_Mo_ask_161 : decode b_Mo_ask 161 = .ok (.iaload, 1) := by decide +kernel
theorem d_Mo_ask_162 : decode b_Mo_ask 162 = .ok (.goto 4, 3) := by decide +kernel
theorem d_Mo_ask_165 : decode b_Mo_ask 165 = .ok (.iconst (-1), 1) := by decide +kernel
theorem d_Mo_ask_166 : decode b_Mo_ask 166 = .ok (.iastore, 1) := by decide +kernel
theorem d_Mo_ask_167 : decode b_Mo_ask 167 = .ok (.aload_n 0, 1) := by decide +kernel
theorem d_Mo_ask_168 : decode b_Mo_ask 168 = .ok (.getfield 74, 3) := by decide +kernel
theorem d_Mo_ask_171 : decode b_Mo_ask 171 = .ok (.bipush 13, 2) := by decide +kernel
theorem d_Mo_ask_173 : decode b_Mo_ask 173 = .ok (.aload_n 0, 1) := by decide +kernel
theorem d_Mo_ask_174 : decode b_Mo_ask 174 = .ok (.getfield 88, 3) := by decide +kernel
theorem d_Mo_ask_177 : decode b_Mo_ask 177 = .ok (.imul, 1) := by decide +kernel
theorem d_Mo_ask_178 : decode b_Mo_ask 178 = .ok (.iconst 3, 1) := by decide +kernel
theorem d_Mo_ask_179 : decode b_Mo_ask 179 = .ok (.isub, 1) := by decide +kernel
theorem d_Mo_ask_180 : decode b_Mo_ask 180 = .ok (.iload 4, 2) := by decide +kernel
theorem d_Mo_ask_182 : decode b_Mo_ask 182 = .ok (.iadd, 1) := by decide +kernel
theorem d_Mo_ask_183 : decode b_Mo_ask 183 = .ok (.aload_n 0, 1) := by decide +kernel
theorem d_Mo_ask_184 : decode b_Mo_ask 184 = .ok (.getfield 47, 3) := by decide +kernel
theorem d_Mo_ask_187 : decode b_Mo_ask 187 = .ok (.iload 5, 2) := by decide +kernel
theorem d_Mo_ask_189 : decode b_Mo_ask 189 = .ok (.iaload, 1) := by decide +kernel
theorem d_Mo_ask_190 : decode b_Mo_ask 190 = .ok (.iastore, 1) := by decide +kernel
theorem d_Mo_ask_191 : decode b_Mo_ask 191 = .ok (.iinc 4 1, 3) := by decide +kernel
theorem d_Mo_ask_194 : decode b_Mo_ask 194 = .ok (.goto (-85), 3) := by decide +kernel
theorem d_Mo_ask_197 : decode b_Mo_ask 197 = .ok (.return_, 1) := by decide +kernel
theorem d_Mo_begin_0 : decode b_Mo_begin 0 = .ok (.aload_n 0, 1) := by decide +kernel
theorem d_Mo_begin_1 : decode b_Mo_begin 1 = .ok (.iconst 0, 1) := by decide +kernel
theorem d_Mo_begin_2 : decode b_Mo_begin 2 = .ok (.putfield 85, 3) := by decide +kernel
theorem d_Mo_begin_5 : decode b_Mo_begin 5 = .ok (.aload_n 0, 1) := by decide +kernel
theorem d_Mo_begin_6 : decode b_Mo_begin 6 = .ok (.getfield 102, 3) := by decide +kernel
theorem d_Mo_begin_9 : decode b_Mo_begin 9 = .ok (.bipush 8, 2) := by decide +kernel
theorem d_Mo_begin_11 : decode b_Mo_begin 11 = .ok (.if_icmp .ne 9, 3) := by decide +kernel
theorem d_Mo_begin_14 : decode b_Mo_begin 14 = .ok (.aload_n 0, 1) := by decide +kernel
theorem d_Mo_begin_15 : decode b_Mo_begin 15 = .ok (.iconst 1, 1) := by decide +kernel
theorem d_Mo_begin_16 : decode b_Mo_begin 16 = .ok (.invokevirtual 105, 3) := by decide +kernel
theorem d_Mo_begin_19 : decode b_Mo_begin 19 = .ok (.ireturn, 1) := by decide +kernel
theorem d_Mo_begin_20 : decode b_Mo_begin 20 = .ok (.aload_n 0, 1) := by decide +kernel
theorem d_Mo_begin_21 : decode b_Mo_begin 21 = .ok (.dup, 1) := by decide +kernel
theorem d_Mo_begin_22 : decode b_Mo_begin 22 = .ok (.getfield 102, 3) := by decide +kernel
theorem d_Mo_begin_25 : decode b_Mo_begin 25 = .ok (.iconst 1, 1) := by decide +kernel
theorem d_Mo_begin_26 : decode b_Mo_begin 26 = .ok (.iadd, 1) := by decide +kernel
theorem d_Mo_begin_27 : decode b_Mo_begin 27 = .ok (.putfield 102, 3) := by decide +kernel
end
section
theorem d_Mo_begin_30 : decode b_Mo_begin 30 = .ok (.aload_n 0, 1) := by decide +kernel
theorem d_Mo_begin_31 : decode b_Mo_begin 31 = .ok (.getfield 102, 3) := by decide +kernel
theorem d_Mo_begin_34 : decode b_Mo_begin 34 = .ok (.iconst 1, 1) := by decide +kernel
theorem d_Mo_begin_35 : decode b_Mo_begin 35 = .ok (.isub, 1) := by decide +kernel
theorem d_Mo_begin_36 : decode b_Mo_begin 36 = .ok (.ireturn, 1) := by decide +kernel
theorem d_Mo_count_0 : decode b_Mo_count 0 = .ok (.aload_n 0, 1) := by decide +kernel
theorem d_Mo_count_1 : decode b_Mo_count 1 = .ok (.iconst 0, 1) := by decide +kernel
theorem d_Mo_count_2 : decode b_Mo_count 2 = .ok (.putfield 85, 3) := by decide +kernel
theorem d_Mo_count_5 : decode b_Mo_count 5 = .ok (.iload_n 1, 1) := by decide +kernel
theorem d_Mo_count_6 : decode b_Mo_count 6 = .ok (.tableswitch 95 0 6 #[42, 47, 52, 57, 62, 72, 85], 42) := by decide +kernel
theorem d_Mo_count_48 : decode b_Mo_count 48 = .ok (.aload_n 0, 1) := by decide +kernel
theorem d_Mo_count_49 : decode b_Mo_count 49 = .ok (.getfield 88, 3) := by decide +kernel
theorem d_Mo_count_52 : decode b_Mo_count 52 = .ok (.ireturn, 1) := by decide +kernel
theorem d_Mo_count_53 : decode b_Mo_count 53 = .ok (.aload_n 0, 1) := by decide +kernel
theorem d_Mo_count_54 : decode b_Mo_count 54 = .ok (.getfield 91, 3) := by decide +kernel
theorem d_Mo_count_57 : decode b_Mo_count 57 = .ok (.ireturn, 1) := by decide +kernel
theorem d_Mo_count_58 : decode b_Mo_count 58 = .ok (.aload_n 0, 1) := by decide +kernel
theorem d_Mo_count_59 : decode b_Mo_count 59 = .ok (.getfield 102, 3) := by decide +kernel
theorem d_Mo_count_62 : decode b_Mo_count 62 = .ok (.ireturn, 1) := by decide +kernel
theorem d_Mo_count_63 : decode b_Mo_count 63 = .ok (.aload_n 0, 1) := by decide +kernel
theorem d_Mo_count_64 : decode b_Mo_count 64 = .ok (.getfield 77, 3) := by decide +kernel
theorem d_Mo_count_67 : decode b_Mo_count 67 = .ok (.ireturn, 1) := by decide +kernel
theorem d_Mo_count_68 : decode b_Mo_count 68 = .ok (.aload_n 0, 1) := by decide +kernel
theorem d_Mo_count_69 : decode b_Mo_count 69 = .ok (.aload_n 0, 1) := by decide +kernel
theorem d_Mo_count_70 : decode b_Mo_count 70 = .ok (.getfield 7, 3) := by decide +kernel
theorem d_Mo_count_73 : decode b_Mo_count 73 = .ok (.iconst 3, 1) := by decide +kernel
theorem d_Mo_count_74 : decode b_Mo_count 74 = .ok (.invokevirtual 178, 3) := by decide +kernel
theorem d_Mo_count_77 : decode b_Mo_count 77 = .ok (.ireturn, 1) := by decide +kernel
theorem d_Mo_count_78 : decode b_Mo_count 78 = .ok (.aload_n 0, 1) := by decide +kernel
theorem d_Mo_count_79 : decode b_Mo_count 79 = .ok (.aload_n 0, 1) := by decide +kernel
theorem d_Mo_count_80 : decode b_Mo_count 80 = .ok (.getfield 13, 3) := by decide +kernel
theorem d_Mo_count_83 : decode b_Mo_count 83 = .ok (.aload_n 0, 1) := by decide +kernel
theorem d_Mo_count_84 : decode b_Mo_count 84 = .ok (.getfield 77, 3) := by decide +kernel
theorem d_Mo_count_87 : decode b_Mo_count 87 = .ok (.invokevirtual 178, 3) := by decide +kernel
theorem d_Mo_count_90 : decode b_Mo_count 90 = .ok (.ireturn, 1) := by decide +kernel
theorem d_Mo_count_91 : decode b_Mo_count 91 = .ok (.aload_n 0, 1) := by decide +kernel
theorem d_Mo_count_92 : decode b_Mo_count 92 = .ok (.aload_n 0, 1) := by decide +kernel
theorem d_Mo_count_93 : decode b_Mo_count 93 = .ok (.getfield 16, 3) := by decide +kernel
theorem d_Mo_count_96 : decode b_Mo_count 96 = .ok (.iconst 2, 1) := by decide +kernel
theorem d_Mo_count_97 : decode b_Mo_count 97 = .ok (.invokevirtual 178, 3) := by decide +kernel
theorem d_Mo_count_100 : decode b_Mo_count 100 = .ok (.ireturn, 1) := by decide +kernel
theorem d_Mo_count_101 : decode b_Mo_count 101 = .ok (.aload_n 0, 1) := by decide +kernel
theorem d_Mo_count_102 : decode b_Mo_count 102 = .ok (.iconst 1, 1) := by decide +kernel
theorem d_Mo_count_103 : decode b_Mo_count 103 = .ok (.invokevirtual 105, 3) := by decide +kernel
theorem d_Mo_count_106 : decode b_Mo_count 106 = .ok (.ireturn, 1) := by decide +kernel
theorem d_Mo_decided_0 : decode b_Mo_decided 0 = .ok (.iconst 0, 1) := by decide +kernel
theorem d_Mo_decided_1 : decode b_Mo_decided 1 = .ok (.istore_n 3, 1) := by decide +kernel
theorem d_Mo_decided_2 : decode b_Mo_decided 2 = .ok (.iload_n 3, 1) := by decide +kernel
theorem d_Mo_decided_3 : decode b_Mo_decided 3 = .ok (.iconst 3, 1) := by decide +kernel
theorem d_Mo_decided_4 : decode b_Mo_decided 4 = .ok (.if_icmp .ge 116, 3) := by decide +kernel
theorem d_Mo_decided_7 : decode b_Mo_decided 7 = .ok (.bipush 9, 2) := by decide +kernel
theorem d_Mo_decided_9 : decode b_Mo_decided 9 = .ok (.iload_n 1, 1) := by decide +kernel
theorem d_Mo_decided_10 : decode b_Mo_decided 10 = .ok (.imul, 1) := by decide +kernel
theorem d_Mo_decided_11 : decode b_Mo_decided 11 = .ok (.iconst 3, 1) := by decide +kernel
theorem d_Mo_decided_12 : decode b_Mo_decided 12 = .ok (.iload_n 3, 1) := by decide +kernel
theorem d_Mo_decided_13 : decode b_Mo_decided 13 = .ok (.imul, 1) := by decide +kernel
theorem d_Mo_decided_14 : decode b_Mo_decided 14 = .ok (.iadd, 1) := by decide +kernel
theorem d_Mo_decided_15 : decode b_Mo_decided 15 = .ok (.iload_n 2, 1) := by decide +kernel
theorem d_Mo_decided_16 : decode b_Mo_decided 16 = .ok (.iadd, 1) := by decide +kernel
theorem d_Mo_decided_17 : decode b_Mo_decided 17 = .ok (.istore 4, 2) := by decide +kernel
theorem d_Mo_decided_19 : decode b_Mo_decided 19 = .ok (.iconst 0, 1) := by decide +kernel
theorem d_Mo_decided_20 : decode b_Mo_decided 20 = .ok (.istore 5, 2) := by decide +kernel
theorem d_Mo_decided_22 : decode b_Mo_decided 22 = .ok (.iconst 0, 1) := by decide +kernel
theorem d_Mo_decided_23 : decode b_Mo_decided 23 = .ok (.istore 6, 2) := by decide +kernel
theorem d_Mo_decided_25 : decode b_Mo_decided 25 = .ok (.iload 6, 2) := by decide +kernel
theorem d_Mo_decided_27 : decode b_Mo_decided 27 = .ok (.iconst 3, 1) := by decide +kernel
theorem d_Mo_decided_28 : decode b_Mo_decided 28 = .ok (.if_icmp .ge 69, 3) := by decide +kernel
theorem d_Mo_decided_31 : decode b_Mo_decided 31 = .ok (.bipush 9, 2) := by decide +kernel
theorem d_Mo_decided_33 : decode b_Mo_decided 33 = .ok (.iload_n 1, 1) := by decide +kernel
theorem d_Mo_decided_34 : decode b_Mo_decided 34 = .ok (.imul, 1) := by decide +kernel
theorem d_Mo_decided_35 : decode b_Mo_decided 35 = .ok (.iconst 3, 1) := by decide +kernel
theorem d_Mo_decided_36 : decode b_Mo_decided 36 = .ok (.iload 6, 2) := by decide +kernel
theorem d_Mo_decided_38 : decode b_Mo_decided 38 = .ok (.imul, 1) := by decide +kernel
theorem d_Mo_decided_39 : decode b_Mo_decided 39 = .ok (.iadd, 1) := by decide +kernel
theorem d_Mo_decided_40 : decode b_Mo_decided 40 = .ok (.iload_n 2, 1) := by decide +kernel
theorem d_Mo_decided_41 : decode b_Mo_decided 41 = .ok (.iadd, 1) := by decide +kernel
theorem d_Mo_decided_42 : decode b_Mo_decided 42 = .ok (.istore 7, 2) := by decide +kernel
theorem d_Mo_decided_44 : decode b_Mo_decided 44 = .ok (.aload_n 0, 1) := by decide +kernel
theorem d_Mo_decided_45 : decode b_Mo_decided 45 = .ok (.getfield 68, 3) := by decide +kernel
theorem d_Mo_decided_48 : decode b_Mo_decided 48 = .ok (.iload 4, 2) := by decide +kernel
theorem d_Mo_decided_50 : decode b_Mo_decided 50 = .ok (.iaload, 1) := by decide +kernel
theorem d_Mo_decided_51 : decode b_Mo_decided 51 = .ok (.ifCond .lt 40, 3) := by decide +kernel
theorem d_Mo_decided_54 : decode b_Mo_decided 54 = .ok (.aload_n 0, 1) := by decide +kernel
theorem d_Mo_decided_55 : decode b_Mo_decided 55 = .ok (.getfield 68, 3) := by decide +kernel
theorem d_Mo_decided_58 : decode b_Mo_decided 58 = .ok (.iload 7, 2) := by decide +kernel
theorem d_Mo_decided_60 : decode b_Mo_decided 60 = .ok (.iaload, 1) := by decide +kernel
theorem d_Mo_decided_61 : decode b_Mo_decided 61 = .ok (.aload_n 0, 1) := by decide +kernel
theorem d_Mo_decided_62 : decode b_Mo_decided 62 = .ok (.getfield 68, 3) := by decide +kernel
theorem d_Mo_decided_65 : decode b_Mo_decided 65 = .ok (.iload 4, 2) := by decide +kernel
theorem d_Mo_decided_67 : decode b_Mo_decided 67 = .ok (.iaload, 1) := by decide +kernel
theorem d_Mo_decided_68 : decode b_Mo_decided 68 = .ok (.if_icmp .ne 23, 3) := by decide +kernel
theorem d_Mo_decided_71 : decode b_Mo_decided 71 = .ok (.aload_n 0, 1) := by decide +kernel
theorem d_Mo_decided_72 : decode b_Mo_decided 72 = .ok (.getfield 71, 3) := by decide +kernel
theorem d_Mo_decided_75 : decode b_Mo_decided 75 = .ok (.iload 7, 2) := by decide +kernel
theorem d_Mo_decided_77 : decode b_Mo_decided 77 = .ok (.iaload, 1) := by decide +kernel
theorem d_Mo_decided_78 : decode b_Mo_decided 78 = .ok (.aload_n 0, 1) := by decide +kernel
theorem d_Mo_decided_79 : decode b_Mo_decided 79 = .ok (.getfield 71, 3) := by decide +kernel
theorem d_Mo_decided_82 : decode b_Mo_decided 82 = .ok (.iload 4, 2) := by decide +kernel
theorem d_Mo_decided_84 : decode b_Mo_decided 84 = .ok (.iaload, 1) := by decide +kernel
theorem d_Mo_decided_85 : decode b_Mo_decided 85 = .ok (.if_icmp .ne 6, 3) := by decide +kernel
theorem d_Mo_decided_88 : decode b_Mo_decided 88 = .ok (.iinc 5 1, 3) := by decide +kernel
theorem d_Mo_decided_91 : decode b_Mo_decided 91 = .ok (.iinc 6 1, 3) := by decide +kernel
theorem d_Mo_decided_94 : decode b_Mo_decided 94 = .ok (.goto (-69), 3) := by decide +kernel
theorem d_Mo_decided_97 : decode b_Mo_decided 97 = .ok (.iload 5, 2) := by decide +kernel
theorem d_Mo_decided_99 : decode b_Mo_decided 99 = .ok (.aload_n 0, 1) := by decide +kernel
theorem d_Mo_decided_100 : decode b_Mo_decided 100 = .ok (.invokevirtual 126, 3) := by decide +kernel
theorem d_Mo_decided_103 : decode b_Mo_decided 103 = .ok (.if_icmp .lt 11, 3) := by decide +kernel
theorem d_Mo_decided_106 : decode b_Mo_decided 106 = .ok (.aload_n 0, 1) := by decide +kernel
theorem d_Mo_decided_107 : decode b_Mo_decided 107 = .ok (.getfield 71, 3) := by decide +kernel
theorem d_Mo_decided_110 : decode b_Mo_decided 110 = .ok (.iload 4, 2) := by decide +kernel
theorem d_Mo_decided_112 : decode b_Mo_decided 112 = .ok (.iaload, 1) := by decide +kernel
theorem d_Mo_decided_113 : decode b_Mo_decided 113 = .ok (.ireturn, 1) := by decide +kernel
theorem d_Mo_decided_114 : decode b_Mo_decided 114 = .ok (.iinc 3 1, 3) := by decide +kernel
theorem d_Mo_decided_117 : decode b_Mo_decided 117 = .ok (.goto (-115), 3) := by decide +kernel
theorem d_Mo_decided_120 : decode b_Mo_decided 120 = .ok (.iconst (-1), 1) := by decide +kernel
theorem d_Mo_decided_121 : decode b_Mo_decided 121 = .ok (.ireturn, 1) := by decide +kernel
theorem d_Mo_deliver_0 : decode b_Mo_deliver 0 = .ok (.aload_n 0, 1) := by decide +kernel
theorem d_Mo_deliver_1 : decode b_Mo_deliver 1 = .ok (.iconst 0, 1) := by decide +kernel
theorem d_Mo_deliver_2 : decode b_Mo_deliver 2 = .ok (.putfield 85, 3) := by decide +kernel
theorem d_Mo_deliver_5 : decode b_Mo_deliver 5 = .ok (.aload_n 0, 1) := by decide +kernel
theorem d_Mo_deliver_6 : decode b_Mo_deliver 6 = .ok (.iload_n 1, 1) := by decide +kernel
theorem d_Mo_deliver_7 : decode b_Mo_deliver 7 = .ok (.aload_n 0, 1) := by decide +kernel
theorem d_Mo_deliver_8 : decode b_Mo_deliver 8 = .ok (.getfield 88, 3) := by decide +kernel
theorem d_Mo_deliver_11 : decode b_Mo_deliver 11 = .ok (.invokevirtual 109, 3) := by decide +kernel
theorem d_Mo_deliver_14 : decode b_Mo_deliver 14 = .ok (.ifCond .eq 9, 3) := by decide +kernel
theorem d_Mo_deliver_17 : decode b_Mo_deliver 17 = .ok (.aload_n 0, 1) := by decide +kernel
theorem d_Mo_deliver_18 : decode b_Mo_deliver 18 = .ok (.iconst 1, 1) := by decide +kernel
theorem d_Mo_deliver_19 : decode b_Mo_deliver 19 = .ok (.invokevirtual 105, 3) := by decide +kernel
theorem d_Mo_deliver_22 : decode b_Mo_deliver 22 = .ok (.ireturn, 1) := by decide +kernel
theorem d_Mo_deliver_23 : decode b_Mo_deliver 23 = .ok (.aload_n 0, 1) := by decide +kernel
theorem d_Mo_deliver_24 : decode b_Mo_deliver 24 = .ok (.iload_n 1, 1) := by decide +kernel
theorem d_Mo_deliver_25 : decode b_Mo_deliver 25 = .ok (.iload_n 2, 1) := by decide +kernel
theorem d_Mo_deliver_26 : decode b_Mo_deliver 26 = .ok (.invokevirtual 158, 3) := by decide +kernel
theorem d_Mo_deliver_29 : decode b_Mo_deliver 29 = .ok (.aload_n 0, 1) := by decide +kernel
theorem d_Mo_deliver_30 : decode b_Mo_deliver 30 = .ok (.sipush 780, 3) := by decide +kernel
theorem d_Mo_deliver_33 : decode b_Mo_deliver 33 = .ok (.invokevirtual 162, 3) := by decide +kernel
theorem d_Mo_deliver_36 : decode b_Mo_deliver 36 = .ok (.aload_n 0, 1) := by decide +kernel
theorem d_Mo_deliver_37 : decode b_Mo_deliver 37 = .ok (.getfield 88, 3) := by decide +kernel
theorem d_Mo_deliver_40 : decode b_Mo_deliver 40 = .ok (.ireturn, 1) := by decide +kernel
theorem d_Mo_fail_0 : decode b_Mo_fail 0 = .ok (.aload_n 0, 1) := by decide +kernel
theorem d_Mo_fail_1 : decode b_Mo_fail 1 = .ok (.iload_n 1, 1) := by decide +kernel
theorem d_Mo_fail_2 : decode b_Mo_fail 2 = .ok (.putfield 85, 3) := by decide +kernel
theorem d_Mo_fail_5 : decode b_Mo_fail 5 = .ok (.iconst 0, 1) := by decide +kernel
theorem d_Mo_fail_6 : decode b_Mo_fail 6 = .ok (.ireturn, 1) := by decide +kernel
theorem d_Mo_finish_0 : decode b_Mo_finish 0 = .ok (.iconst 3, 1) := by decide +kernel
theorem d_Mo_finish_1 : decode b_Mo_finish 1 = .ok (.iload_n 1, 1) := by decide +kernel
theorem d_Mo_finish_2 : decode b_Mo_finish 2 = .ok (.imul, 1) := by decide +kernel
theorem d_Mo_finish_3 : decode b_Mo_finish 3 = .ok (.iload_n 2, 1) := by decide +kernel
theorem d_Mo_finish_4 : decode b_Mo_finish 4 = .ok (.iadd, 1) := by decide +kernel
theorem d_Mo_finish_5 : decode b_Mo_finish 5 = .ok (.istore 4, 2) := by decide +kernel
theorem d_Mo_finish_7 : decode b_Mo_finish 7 = .ok (.aload_n 0, 1) := by decide +kernel
theorem d_Mo_finish_8 : decode b_Mo_finish 8 = .ok (.getfield 32, 3) := by decide +kernel
theorem d_Mo_finish_11 : decode b_Mo_finish 11 = .ok (.iload 4, 2) := by decide +kernel
theorem d_Mo_finish_13 : decode b_Mo_finish 13 = .ok (.iaload, 1) := by decide +kernel
theorem d_Mo_finish_14 : decode b_Mo_finish 14 = .ok (.istore 5, 2) := by decide +kernel
theorem d_Mo_finish_16 : decode b_Mo_finish 16 = .ok (.iload 5, 2) := by decide +kernel
theorem d_Mo_finish_18 : decode b_Mo_finish 18 = .ok (.iconst 2, 1) := by decide +kernel
theorem d_Mo_finish_19 : decode b_Mo_finish 19 = .ok (.if_icmp .ne 78, 3) := by decide +kernel
theorem d_Mo_finish_22 : decode b_Mo_finish 22 = .ok (.iload_n 3, 1) := by decide +kernel
theorem d_Mo_finish_23 : decode b_Mo_finish 23 = .ok (.iconst 1, 1) := by decide +kernel
theorem d_Mo_finish_24 : decode b_Mo_finish 24 = .ok (.if_icmp .ne 73, 3) := by decide +kernel
theorem d_Mo_finish_27 : decode b_Mo_finish 27 = .ok (.iconst 0, 1) := by decide +kernel
theorem d_Mo_finish_28 : decode b_Mo_finish 28 = .ok (.istore 6, 2) := by decide +kernel
theorem d_Mo_finish_30 : decode b_Mo_finish 30 = .ok (.iload 6, 2) := by decide +kernel
theorem d_Mo_finish_32 : decode b_Mo_finish 32 = .ok (.iconst 4, 1) := by decide +kernel
theorem d_Mo_finish_33 : decode b_Mo_finish 33 = .ok (.if_icmp .ge 47, 3) := by decide +kernel
theorem d_Mo_finish_36 : decode b_Mo_finish 36 = .ok (.aload_n 0, 1) := by decide +kernel
theorem d_Mo_finish_37 : decode b_Mo_finish 37 = .ok (.getfield 35, 3) := by decide +kernel
theorem d_Mo_finish_40 : decode b_Mo_finish 40 = .ok (.iload 4, 2) := by decide +kernel
theorem d_Mo_finish_42 : decode b_Mo_finish 42 = .ok (.iaload, 1) := by decide +kernel
theorem d_Mo_finish_43 : decode b_Mo_finish 43 = .ok (.iload 6, 2) := by decide +kernel
theorem d_Mo_finish_45 : decode b_Mo_finish 45 = .ok (.ishr, 1) := by decide +kernel
theorem d_Mo_finish_46 : decode b_Mo_finish 46 = .ok (.iconst 1, 1) := by decide +kernel
theorem d_Mo_finish_47 : decode b_Mo_finish 47 = .ok (.iand, 1) := by decide +kernel
theorem d_Mo_finish_48 : decode b_Mo_finish 48 = .ok (.ifCond .eq 26, 3) := by decide +kernel
theorem d_Mo_finish_51 : decode b_Mo_finish 51 = .ok (.aload_n 0, 1) := by decide +kernel
theorem d_Mo_finish_52 : decode b_Mo_finish 52 = .ok (.getfield 19, 3) := by decide +kernel
theorem d_Mo_finish_55 : decode b_Mo_finish 55 = .ok (.iconst 4, 1) := by decide +kernel
theorem d_Mo_finish_56 : decode b_Mo_finish 56 = .ok (.iload_n 2, 1) := by decide +kernel
theorem d_Mo_finish_57 : decode b_Mo_finish 57 = .ok (.imul, 1) := by decide +kernel
theorem d_Mo_finish_58 : decode b_Mo_finish 58 = .ok (.iload 6, 2) := by decide +kernel
theorem d_Mo_finish_60 : decode b_Mo_finish 60 = .ok (.iadd, 1) := by decide +kernel
theorem d_Mo_finish_61 : decode b_Mo_finish 61 = .ok (.aload_n 0, 1) := by decide +kernel
theorem d_Mo_finish_62 : decode b_Mo_finish 62 = .ok (.getfield 38, 3) := by decide +kernel
theorem d_Mo_finish_65 : decode b_Mo_finish 65 = .ok (.iconst 4, 1) := by decide +kernel
theorem d_Mo_finish_66 : decode b_Mo_finish 66 = .ok (.iload 4, 2) := by decide +kernel
theorem d_Mo_finish_68 : decode b_Mo_finish 68 = .ok (.imul, 1) := by decide +kernel
theorem d_Mo_finish_69 : decode b_Mo_finish 69 = .ok (.iload 6, 2) := by decide +kernel
theorem d_Mo_finish_71 : decode b_Mo_finish 71 = .ok (.iadd, 1) := by decide +kernel
theorem d_Mo_finish_72 : decode b_Mo_finish 72 = .ok (.iaload, 1) := by decide +kernel
theorem d_Mo_finish_73 : decode b_Mo_finish 73 = .ok (.iastore, 1) := by decide +kernel
theorem d_Mo_finish_74 : decode b_Mo_finish 74 = .ok (.iinc 6 1, 3) := by decide +kernel
theorem d_Mo_finish_77 : decode b_Mo_finish 77 = .ok (.goto (-47), 3) := by decide +kernel
theorem d_Mo_finish_80 : decode b_Mo_finish 80 = .ok (.aload_n 0, 1) := by decide +kernel
theorem d_Mo_finish_81 : decode b_Mo_finish 81 = .ok (.getfield 32, 3) := by decide +kernel
theorem d_Mo_finish_84 : decode b_Mo_finish 84 = .ok (.iload 4, 2) := by decide +kernel
theorem d_Mo_finish_86 : decode b_Mo_finish 86 = .ok (.iconst 3, 1) := by decide +kernel
theorem d_Mo_finish_87 : decode b_Mo_finish 87 = .ok (.iastore, 1) := by decide +kernel
theorem d_Mo_finish_88 : decode b_Mo_finish 88 = .ok (.aload_n 0, 1) := by decide +kernel
theorem d_Mo_finish_89 : decode b_Mo_finish 89 = .ok (.iload_n 1, 1) := by decide +kernel
theorem d_Mo_finish_90 : decode b_Mo_finish 90 = .ok (.iload_n 2, 1) := by decide +kernel
theorem d_Mo_finish_91 : decode b_Mo_finish 91 = .ok (.invokevirtual 98, 3) := by decide +kernel
theorem d_Mo_finish_94 : decode b_Mo_finish 94 = .ok (.goto 19, 3) := by decide +kernel
theorem d_Mo_finish_97 : decode b_Mo_finish 97 = .ok (.iload 5, 2) := by decide +kernel
theorem d_Mo_finish_99 : decode b_Mo_finish 99 = .ok (.iconst 2, 1) := by decide +kernel
theorem d_Mo_finish_100 : decode b_Mo_finish 100 = .ok (.if_icmp .gt 13, 3) := by decide +kernel
theorem d_Mo_finish_103 : decode b_Mo_finish 103 = .ok (.iload_n 3, 1) := by decide +kernel
theorem d_Mo_finish_104 : decode b_Mo_finish 104 = .ok (.ifCond .ne 9, 3) := by decide +kernel
theorem d_Mo_finish_107 : decode b_Mo_finish 107 = .ok (.aload_n 0, 1) := by decide +kernel
theorem d_Mo_finish_108 : decode b_Mo_finish 108 = .ok (.iload_n 1, 1) := by decide +kernel
theorem d_Mo_finish_109 : decode b_Mo_finish 109 = .ok (.iload_n 2, 1) := by decide +kernel
theorem d_Mo_finish_110 : decode b_Mo_finish 110 = .ok (.invokevirtual 119, 3) := by decide +kernel
theorem d_Mo_finish_113 : decode b_Mo_finish 113 = .ok (.return_, 1) := by decide +kernel
theorem d_Mo_forget_0 : decode b_Mo_forget 0 = .ok (.iconst 0, 1) := by decide +kernel
theorem d_Mo_forget_1 : decode b_Mo_forget 1 = .ok (.istore_n 2, 1) := by decide +kernel
theorem d_Mo_forget_2 : decode b_Mo_forget 2 = .ok (.iload_n 2, 1) := by decide +kernel
theorem d_Mo_forget_3 : decode b_Mo_forget 3 = .ok (.bipush 8, 2) := by decide +kernel
theorem d_Mo_forget_5 : decode b_Mo_forget 5 = .ok (.if_icmp .ge 33, 3) := by decide +kernel
theorem d_Mo_forget_8 : decode b_Mo_forget 8 = .ok (.aload_n 0, 1) := by decide +kernel
theorem d_Mo_forget_9 : decode b_Mo_forget 9 = .ok (.getfield 53, 3) := by decide +kernel
theorem d_Mo_forget_12 : decode b_Mo_forget 12 = .ok (.bipush 8, 2) := by decide +kernel
theorem d_Mo_forget_14 : decode b_Mo_forget 14 = .ok (.iload_n 1, 1) := by decide +kernel
theorem d_Mo_forget_15 : decode b_Mo_forget 15 = .ok (.imul, 1) := by decide +kernel
theorem d_Mo_forget_16 : decode b_Mo_forget 16 = .ok (.iload_n 2, 1) := by decide +kernel
theorem d_Mo_forget_17 : decode b_Mo_forget 17 = .ok (.iadd, 1) := by decide +kernel
theorem d_Mo_forget_18 : decode b_Mo_forget 18 = .ok (.iconst 1, 1) := by decide +kernel
theorem d_Mo_forget_19 : decode b_Mo_forget 19 = .ok (.bastore, 1) := by decide +kernel
theorem d_Mo_forget_20 : decode b_Mo_forget 20 = .ok (.aload_n 0, 1) := by decide +kernel
theorem d_Mo_forget_21 : decode b_Mo_forget 21 = .ok (.getfield 56, 3) := by decide +kernel
theorem d_Mo_forget_24 : decode b_Mo_forget 24 = .ok (.bipush 8, 2) := by decide +kernel
theorem d_Mo_forget_26 : decode b_Mo_forget 26 = .ok (.iload_n 1, 1) := by decide +kernel
theorem d_Mo_forget_27 : decode b_Mo_forget 27 = .ok (.imul, 1) := by decide +kernel
theorem d_Mo_forget_28 : decode b_Mo_forget 28 = .ok (.iload_n 2, 1) := by decide +kernel
theorem d_Mo_forget_29 : decode b_Mo_forget 29 = .ok (.iadd, 1) := by decide +kernel
theorem d_Mo_forget_30 : decode b_Mo_forget 30 = .ok (.iconst (-1), 1) := by decide +kernel
theorem d_Mo_forget_31 : decode b_Mo_forget 31 = .ok (.iastore, 1) := by decide +kernel
theorem d_Mo_forget_32 : decode b_Mo_forget 32 = .ok (.iinc 2 1, 3) := by decide +kernel
theorem d_Mo_forget_35 : decode b_Mo_forget 35 = .ok (.goto (-33), 3) := by decide +kernel
theorem d_Mo_forget_38 : decode b_Mo_forget 38 = .ok (.bipush 24, 2) := by decide +kernel
theorem d_Mo_forget_40 : decode b_Mo_forget 40 = .ok (.iload_n 1, 1) := by decide +kernel
theorem d_Mo_forget_41 : decode b_Mo_forget 41 = .ok (.imul, 1) := by decide +kernel
theorem d_Mo_forget_42 : decode b_Mo_forget 42 = .ok (.istore_n 2, 1) := by decide +kernel
theorem d_Mo_forget_43 : decode b_Mo_forget 43 = .ok (.iload_n 2, 1) := by decide +kernel
theorem d_Mo_forget_44 : decode b_Mo_forget 44 = .ok (.bipush 24, 2) := by decide +kernel
theorem d_Mo_forget_46 : decode b_Mo_forget 46 = .ok (.iload_n 1, 1) := by decide +kernel
theorem d_Mo_forget_47 : decode b_Mo_forget 47 = .ok (.imul, 1) := by decide +kernel
theorem d_Mo_forget_48 : decode b_Mo_forget 48 = .ok (.bipush 24, 2) := by decide +kernel
theorem d_Mo_forget_50 : decode b_Mo_forget 50 = .ok (.iadd, 1) := by decide +kernel
theorem d_Mo_forget_51 : decode b_Mo_forget 51 = .ok (.if_icmp .ge 16, 3) := by decide +kernel
theorem d_Mo_forget_54 : decode b_Mo_forget 54 = .ok (.aload_n 0, 1) := by decide +kernel
theorem d_Mo_forget_55 : decode b_Mo_forget 55 = .ok (.getfield 59, 3) := by decide +kernel
theorem d_Mo_forget_58 : decode b_Mo_forget 58 = .ok (.iload_n 2, 1) := by decide +kernel
theorem d_Mo_forget_59 : decode b_Mo_forget 59 = .ok (.iconst 0, 1) := by decide +kernel
theorem d_Mo_forget_60 : decode b_Mo_forget 60 = .ok (.bastore, 1) := by decide +kernel
theorem d_Mo_forget_61 : decode b_Mo_forget 61 = .ok (.iinc 2 1, 3) := by decide +kernel
theorem d_Mo_forget_64 : decode b_Mo_forget 64 = .ok (.goto (-21), 3) := by decide +kernel
theorem d_Mo_forget_67 : decode b_Mo_forget 67 = .ok (.bipush 72, 2) := by decide +kernel
theorem d_Mo_forget_69 : decode b_Mo_forget 69 = .ok (.iload_n 1, 1) := by decide +kernel
theorem d_Mo_forget_70 : decode b_Mo_forget 70 = .ok (.imul, 1) := by decide +kernel
theorem d_Mo_forget_71 : decode b_Mo_forget 71 = .ok (.istore_n 2, 1) := by decide +kernel
theorem d_Mo_forget_72 : decode b_Mo_forget 72 = .ok (.iload_n 2, 1) := by decide +kernel
theorem d_Mo_forget_73 : decode b_Mo_forget 73 = .ok (.bipush 72, 2) := by decide +kernel
theorem d_Mo_forget_75 : decode b_Mo_forget 75 = .ok (.iload_n 1, 1) := by decide +kernel
theorem d_Mo_forget_76 : decode b_Mo_forget 76 = .ok (.imul, 1) := by decide +kernel
theorem d_Mo_forget_77 : decode b_Mo_forget 77 = .ok (.bipush 72, 2) := by decide +kernel
theorem d_Mo_forget_79 : decode b_Mo_forget 79 = .ok (.iadd, 1) := by decide +kernel
theorem d_Mo_forget_80 : decode b_Mo_forget 80 = .ok (.if_icmp .ge 16, 3) := by decide +kernel
theorem d_Mo_forget_83 : decode b_Mo_forget 83 = .ok (.aload_n 0, 1) := by decide +kernel
theorem d_Mo_forget_84 : decode b_Mo_forget 84 = .ok (.getfield 68, 3) := by decide +kernel
theorem d_Mo_forget_87 : decode b_Mo_forget 87 = .ok (.iload_n 2, 1) := by decide +kernel
theorem d_Mo_forget_88 : decode b_Mo_forget 88 = .ok (.iconst (-1), 1) := by decide +kernel
theorem d_Mo_forget_89 : decode b_Mo_forget 89 = .ok (.iastore, 1) := by decide +kernel
theorem d_Mo_forget_90 : decode b_Mo_forget 90 = .ok (.iinc 2 1, 3) := by decide +kernel
theorem d_Mo_forget_93 : decode b_Mo_forget 93 = .ok (.goto (-21), 3) := by decide +kernel
theorem d_Mo_forget_96 : decode b_Mo_forget 96 = .ok (.return_, 1) := by decide +kernel
theorem d_Mo_init_0 : decode b_Mo_init 0 = .ok (.aload_n 0, 1) := by decide +kernel
theorem d_Mo_init_1 : decode b_Mo_init 1 = .ok (.invokespecial 1, 3) := by decide +kernel
theorem d_Mo_init_4 : decode b_Mo_init 4 = .ok (.aload_n 0, 1) := by decide +kernel
theorem d_Mo_init_5 : decode b_Mo_init 5 = .ok (.iconst 3, 1) := by decide +kernel
theorem d_Mo_init_6 : decode b_Mo_init 6 = .ok (.newarray .boolean, 2) := by decide +kernel
theorem d_Mo_init_8 : decode b_Mo_init 8 = .ok (.putfield 7, 3) := by decide +kernel
theorem d_Mo_init_11 : decode b_Mo_init 11 = .ok (.aload_n 0, 1) := by decide +kernel
theorem d_Mo_init_12 : decode b_Mo_init 12 = .ok (.iconst 3, 1) := by decide +kernel
theorem d_Mo_init_13 : decode b_Mo_init 13 = .ok (.newarray .boolean, 2) := by decide +kernel
theorem d_Mo_init_15 : decode b_Mo_init 15 = .ok (.putfield 13, 3) := by decide +kernel
theorem d_Mo_init_18 : decode b_Mo_init 18 = .ok (.aload_n 0, 1) := by decide +kernel
theorem d_Mo_init_19 : decode b_Mo_init 19 = .ok (.iconst 2, 1) := by decide +kernel
theorem d_Mo_init_20 : decode b_Mo_init 20 = .ok (.newarray .boolean, 2) := by decide +kernel
theorem d_Mo_init_22 : decode b_Mo_init 22 = .ok (.putfield 16, 3) := by decide +kernel
theorem d_Mo_init_25 : decode b_Mo_init 25 = .ok (.aload_n 0, 1) := by decide +kernel
theorem d_Mo_init_26 : decode b_Mo_init 26 = .ok (.bipush 12, 2) := by decide +kernel
theorem d_Mo_init_28 : decode b_Mo_init 28 = .ok (.newarray .int, 2) := by decide +kernel
theorem d_Mo_init_30 : decode b_Mo_init 30 = .ok (.putfield 19, 3) := by decide +kernel
theorem d_Mo_init_33 : decode b_Mo_init 33 = .ok (.aload_n 0, 1) := by decide +kernel
theorem d_Mo_init_34 : decode b_Mo_init 34 = .ok (.bipush 12, 2) := by decide +kernel
theorem d_Mo_init_36 : decode b_Mo_init 36 = .ok (.newarray .int, 2) := by decide +kernel
theorem d_Mo_init_38 : decode b_Mo_init 38 = .ok (.putfield 23, 3) := by decide +kernel
theorem d_Mo_init_41 : decode b_Mo_init 41 = .ok (.aload_n 0, 1) := by decide +kernel
theorem d_Mo_init_42 : decode b_Mo_init 42 = .ok (.bipush 8, 2) := by decide +kernel
theorem d_Mo_init_44 : decode b_Mo_init 44 = .ok (.newarray .int, 2) := by decide +kernel
theorem d_Mo_init_46 : decode b_Mo_init 46 = .ok (.putfield 26, 3) := by decide +kernel
theorem d_Mo_init_49 : decode b_Mo_init 49 = .ok (.aload_n 0, 1) := by decide +kernel
theorem d_Mo_init_50 : decode b_Mo_init 50 = .ok (.bipush 8, 2) := by decide +kernel
theorem d_Mo_init_52 : decode b_Mo_init 52 = .ok (.newarray .boolean, 2) := by decide +kernel
theorem d_Mo_init_54 : decode b_Mo_init 54 = .ok (.putfield 29, 3) := by decide +kernel
theorem d_Mo_init_57 : decode b_Mo_init 57 = .ok (.aload_n 0, 1) := by decide +kernel
theorem d_Mo_init_58 : decode b_Mo_init 58 = .ok (.bipush 24, 2) := by decide +kernel
theorem d_Mo_init_60 : decode b_Mo_init 60 = .ok (.newarray .int, 2) := by decide +kernel
theorem d_Mo_init_62 : decode b_Mo_init 62 = .ok (.putfield 32, 3) := by decide +kernel
theorem d_Mo_init_65 : decode b_Mo_init 65 = .ok (.aload_n 0, 1) := by decide +kernel
theorem d_Mo_init_66 : decode b_Mo_init 66 = .ok (.bipush 24, 2) := by decide +kernel
theorem d_Mo_init_68 : decode b_Mo_init 68 = .ok (.newarray .int, 2) := by decide +kernel
theorem d_Mo_init_70 : decode b_Mo_init 70 = .ok (.putfield 35, 3) := by decide +kernel
theorem d_Mo_init_73 : decode b_Mo_init 73 = .ok (.aload_n 0, 1) := by decide +kernel
theorem d_Mo_init_74 : decode b_Mo_init 74 = .ok (.bipush 96, 2) := by decide +kernel
theorem d_Mo_init_76 : decode b_Mo_init 76 = .ok (.newarray .int, 2) := by decide +kernel
theorem d_Mo_init_78 : decode b_Mo_init 78 = .ok (.putfield 38, 3) := by decide +kernel
theorem d_Mo_init_81 : decode b_Mo_init 81 = .ok (.aload_n 0, 1) := by decide +kernel
theorem d_Mo_init_82 : decode b_Mo_init 82 = .ok (.bipush 72, 2) := by decide +kernel
theorem d_Mo_init_84 : decode b_Mo_init 84 = .ok (.newarray .int, 2) := by decide +kernel
theorem d_Mo_init_86 : decode b_Mo_init 86 = .ok (.putfield 41, 3) := by decide +kernel
theorem d_Mo_init_89 : decode b_Mo_init 89 = .ok (.aload_n 0, 1) := by decide +kernel
theorem d_Mo_init_90 : decode b_Mo_init 90 = .ok (.bipush 72, 2) := by decide +kernel
theorem d_Mo_init_92 : decode b_Mo_init 92 = .ok (.newarray .int, 2) := by decide +kernel
theorem d_Mo_init_94 : decode b_Mo_init 94 = .ok (.putfield 44, 3) := by decide +kernel
theorem d_Mo_init_97 : decode b_Mo_init 97 = .ok (.aload_n 0, 1) := by decide +kernel
theorem d_Mo_init_98 : decode b_Mo_init 98 = .ok (.bipush 72, 2) := by decide +kernel
theorem d_Mo_init_100 : decode b_Mo_init 100 = .ok (.newarray .int, 2) := by decide +kernel
theorem d_Mo_init_102 : decode b_Mo_init 102 = .ok (.putfield 47, 3) := by decide +kernel
theorem d_Mo_init_105 : decode b_Mo_init 105 = .ok (.aload_n 0, 1) := by decide +kernel
theorem d_Mo_init_106 : decode b_Mo_init 106 = .ok (.bipush 16, 2) := by decide +kernel
theorem d_Mo_init_108 : decode b_Mo_init 108 = .ok (.newarray .int, 2) := by decide +kernel
theorem d_Mo_init_110 : decode b_Mo_init 110 = .ok (.putfield 50, 3) := by decide +kernel
theorem d_Mo_init_113 : decode b_Mo_init 113 = .ok (.aload_n 0, 1) := by decide +kernel
theorem d_Mo_init_114 : decode b_Mo_init 114 = .ok (.bipush 16, 2) := by decide +kernel
theorem d_Mo_init_116 : decode b_Mo_init 116 = .ok (.newarray .boolean, 2) := by decide +kernel
theorem d_Mo_init_118 : decode b_Mo_init 118 = .ok (.putfield 53, 3) := by decide +kernel
theorem d_Mo_init_121 : decode b_Mo_init 121 = .ok (.aload_n 0, 1) := by decide +kernel
theorem d_Mo_init_122 : decode b_Mo_init 122 = .ok (.bipush 16, 2) := by decide +kernel
theorem d_Mo_init_124 : decode b_Mo_init 124 = .ok (.newarray .int, 2) := by decide +kernel
theorem d_Mo_init_126 : decode b_Mo_init 126 = .ok (.putfield 56, 3) := by decide +kernel
theorem d_Mo_init_129 : decode b_Mo_init 129 = .ok (.aload_n 0, 1) := by decide +kernel
theorem d_Mo_init_130 : decode b_Mo_init 130 = .ok (.bipush 48, 2) := by decide +kernel
theorem d_Mo_init_132 : decode b_Mo_init 132 = .ok (.newarray .boolean, 2) := by decide +kernel
theorem d_Mo_init_134 : decode b_Mo_init 134 = .ok (.putfield 59, 3) := by decide +kernel
theorem d_Mo_init_137 : decode b_Mo_init 137 = .ok (.aload_n 0, 1) := by decide +kernel
theorem d_Mo_init_138 : decode b_Mo_init 138 = .ok (.sipush 144, 3) := by decide +kernel
theorem d_Mo_init_141 : decode b_Mo_init 141 = .ok (.newarray .int, 2) := by decide +kernel
theorem d_Mo_init_143 : decode b_Mo_init 143 = .ok (.putfield 62, 3) := by decide +kernel
theorem d_Mo_init_146 : decode b_Mo_init 146 = .ok (.aload_n 0, 1) := by decide +kernel
theorem d_Mo_init_147 : decode b_Mo_init 147 = .ok (.sipush 144, 3) := by decide +kernel
theorem d_Mo_init_150 : decode b_Mo_init 150 = .ok (.newarray .int, 2) := by decide +kernel
theorem d_Mo_init_152 : decode b_Mo_init 152 = .ok (.putfield 65, 3) := by decide +kernel
theorem d_Mo_init_155 : decode b_Mo_init 155 = .ok (.aload_n 0, 1) := by decide +kernel
theorem d_Mo_init_156 : decode b_Mo_init 156 = .ok (.sipush 144, 3) := by decide +kernel
theorem d_Mo_init_159 : decode b_Mo_init 159 = .ok (.newarray .int, 2) := by decide +kernel
theorem d_Mo_init_161 : decode b_Mo_init 161 = .ok (.putfield 68, 3) := by decide +kernel
theorem d_Mo_init_164 : decode b_Mo_init 164 = .ok (.aload_n 0, 1) := by decide +kernel
theorem d_Mo_init_165 : decode b_Mo_init 165 = .ok (.sipush 144, 3) := by decide +kernel
theorem d_Mo_init_168 : decode b_Mo_init 168 = .ok (.newarray .int, 2) := by decide +kernel
theorem d_Mo_init_170 : decode b_Mo_init 170 = .ok (.putfield 71, 3) := by decide +kernel
theorem d_Mo_init_173 : decode b_Mo_init 173 = .ok (.aload_n 0, 1) := by decide +kernel
theorem d_Mo_init_174 : decode b_Mo_init 174 = .ok (.sipush 793, 3) := by decide +kernel
theorem d_Mo_init_177 : decode b_Mo_init 177 = .ok (.newarray .int, 2) := by decide +kernel
theorem d_Mo_init_179 : decode b_Mo_init 179 = .ok (.putfield 74, 3) := by decide +kernel
theorem d_Mo_init_182 : decode b_Mo_init 182 = .ok (.aload_n 0, 1) := by decide +kernel
theorem d_Mo_init_183 : decode b_Mo_init 183 = .ok (.iload_n 1, 1) := by decide +kernel
theorem d_Mo_init_184 : decode b_Mo_init 184 = .ok (.ifCond .ne 7, 3) := by decide +kernel
theorem d_Mo_init_187 : decode b_Mo_init 187 = .ok (.iconst 1, 1) := by decide +kernel
theorem d_Mo_init_188 : decode b_Mo_init 188 = .ok (.goto 4, 3) := by decide +kernel
theorem d_Mo_init_191 : decode b_Mo_init 191 = .ok (.iconst 3, 1) := by decide +kernel
theorem d_Mo_init_192 : decode b_Mo_init 192 = .ok (.putfield 77, 3) := by decide +kernel
theorem d_Mo_init_195 : decode b_Mo_init 195 = .ok (.iconst 0, 1) := by decide +kernel
theorem d_Mo_init_196 : decode b_Mo_init 196 = .ok (.istore_n 2, 1) := by decide +kernel
theorem d_Mo_init_197 : decode b_Mo_init 197 = .ok (.iload_n 2, 1) := by decide +kernel
theorem d_Mo_init_198 : decode b_Mo_init 198 = .ok (.bipush 12, 2) := by decide +kernel
theorem d_Mo_init_200 : decode b_Mo_init 200 = .ok (.if_icmp .ge 16, 3) := by decide +kernel
theorem d_Mo_init_203 : decode b_Mo_init 203 = .ok (.aload_n 0, 1) := by decide +kernel
theorem d_Mo_init_204 : decode b_Mo_init 204 = .ok (.getfield 23, 3) := by decide +kernel
theorem d_Mo_init_207 : decode b_Mo_init 207 = .ok (.iload_n 2, 1) := by decide +kernel
theorem d_Mo_init_208 : decode b_Mo_init 208 = .ok (.iconst (-1), 1) := by decide +kernel
theorem d_Mo_init_209 : decode b_Mo_init 209 = .ok (.iastore, 1) := by decide +kernel
theorem d_Mo_init_210 : decode b_Mo_init 210 = .ok (.iinc 2 1, 3) := by decide +kernel
theorem d_Mo_init_213 : decode b_Mo_init 213 = .ok (.goto (-16), 3) := by decide +kernel
theorem d_Mo_init_216 : decode b_Mo_init 216 = .ok (.iconst 0, 1) := by decide +kernel
theorem d_Mo_init_217 : decode b_Mo_init 217 = .ok (.istore_n 2, 1) := by decide +kernel
theorem d_Mo_init_218 : decode b_Mo_init 218 = .ok (.iload_n 2, 1) := by decide +kernel
theorem d_Mo_init_219 : decode b_Mo_init 219 = .ok (.bipush 72, 2) := by decide +kernel
theorem d_Mo_init_221 : decode b_Mo_init 221 = .ok (.if_icmp .ge 16, 3) := by decide +kernel
theorem d_Mo_init_224 : decode b_Mo_init 224 = .ok (.aload_n 0, 1) := by decide +kernel
theorem d_Mo_init_225 : decode b_Mo_init 225 = .ok (.getfield 44, 3) := by decide +kernel
theorem d_Mo_init_228 : decode b_Mo_init 228 = .ok (.iload_n 2, 1) := by decide +kernel
theorem d_Mo_init_229 : decode b_Mo_init 229 = .ok (.iconst (-1), 1) := by decide +kernel
theorem d_Mo_init_230 : decode b_Mo_init 230 = .ok (.iastore, 1) := by decide +kernel
theorem d_Mo_init_231 : decode b_Mo_init 231 = .ok (.iinc 2 1, 3) := by decide +kernel
theorem d_Mo_init_234 : decode b_Mo_init 234 = .ok (.goto (-16), 3) := by decide +kernel
theorem d_Mo_init_237 : decode b_Mo_init 237 = .ok (.iconst 0, 1) := by decide +kernel
theorem d_Mo_init_238 : decode b_Mo_init 238 = .ok (.istore_n 2, 1) := by decide +kernel
theorem d_Mo_init_239 : decode b_Mo_init 239 = .ok (.iload_n 2, 1) := by decide +kernel
theorem d_Mo_init_240 : decode b_Mo_init 240 = .ok (.iconst 2, 1) := by decide +kernel
theorem d_Mo_init_241 : decode b_Mo_init 241 = .ok (.if_icmp .ge 14, 3) := by decide +kernel
theorem d_Mo_init_244 : decode b_Mo_init 244 = .ok (.aload_n 0, 1) := by decide +kernel
theorem d_Mo_init_245 : decode b_Mo_init 245 = .ok (.iload_n 2, 1) := by decide +kernel
theorem d_Mo_init_246 : decode b_Mo_init 246 = .ok (.invokevirtual 81, 3) := by decide +kernel
theorem d_Mo_init_249 : decode b_Mo_init 249 = .ok (.iinc 2 1, 3) := by decide +kernel
theorem d_Mo_init_252 : decode b_Mo_init 252 = .ok (.goto (-13), 3) := by decide +kernel
theorem d_Mo_init_255 : decode b_Mo_init 255 = .ok (.return_, 1) := by decide +kernel
theorem d_Mo_lock_0 : decode b_Mo_lock 0 = .ok (.aload_n 0, 1) := by decide +kernel
theorem d_Mo_lock_1 : decode b_Mo_lock 1 = .ok (.iconst 0, 1) := by decide +kernel
theorem d_Mo_lock_2 : decode b_Mo_lock 2 = .ok (.putfield 85, 3) := by decide +kernel
theorem d_Mo_lock_5 : decode b_Mo_lock 5 = .ok (.aload_n 0, 1) := by decide +kernel
theorem d_Mo_lock_6 : decode b_Mo_lock 6 = .ok (.iload_n 1, 1) := by decide +kernel
theorem d_Mo_lock_7 : decode b_Mo_lock 7 = .ok (.iconst 3, 1) := by decide +kernel
theorem d_Mo_lock_8 : decode b_Mo_lock 8 = .ok (.invokevirtual 109, 3) := by decide +kernel
theorem d_Mo_lock_11 : decode b_Mo_lock 11 = .ok (.ifCond .ne 12, 3) := by decide +kernel
theorem d_Mo_lock_14 : decode b_Mo_lock 14 = .ok (.aload_n 0, 1) := by decide +kernel
theorem d_Mo_lock_15 : decode b_Mo_lock 15 = .ok (.iload_n 2, 1) := by decide +kernel
theorem d_Mo_lock_16 : decode b_Mo_lock 16 = .ok (.iconst 4, 1) := by decide +kernel
theorem d_Mo_lock_17 : decode b_Mo_lock 17 = .ok (.invokevirtual 109, 3) := by decide +kernel
theorem d_Mo_lock_20 : decode b_Mo_lock 20 = .ok (.ifCond .eq 11, 3) := by decide +kernel
theorem d_Mo_lock_23 : decode b_Mo_lock 23 = .ok (.aload_n 0, 1) := by decide +kernel
theorem d_Mo_lock_24 : decode b_Mo_lock 24 = .ok (.iconst 1, 1) := by decide +kernel
theorem d_Mo_lock_25 : decode b_Mo_lock 25 = .ok (.invokevirtual 105, 3) := by decide +kernel
theorem d_Mo_lock_28 : decode b_Mo_lock 28 = .ok (.goto 13, 3) := by decide +kernel
theorem d_Mo_lock_31 : decode b_Mo_lock 31 = .ok (.aload_n 0, 1) := by decide +kernel
theorem d_Mo_lock_32 : decode b_Mo_lock 32 = .ok (.getfield 23, 3) := by decide +kernel
theorem d_Mo_lock_35 : decode b_Mo_lock 35 = .ok (.iconst 4, 1) := by decide +kernel
theorem d_Mo_lock_36 : decode b_Mo_lock 36 = .ok (.iload_n 1, 1) := by decide +kernel
theorem d_Mo_lock_37 : decode b_Mo_lock 37 = .ok (.imul, 1) := by decide +kernel
theorem d_Mo_lock_38 : decode b_Mo_lock 38 = .ok (.iload_n 2, 1) := by decide +kernel
theorem d_Mo_lock_39 : decode b_Mo_lock 39 = .ok (.iadd, 1) := by decide +kernel
theorem d_Mo_lock_40 : decode b_Mo_lock 40 = .ok (.iaload, 1) := by decide +kernel
theorem d_Mo_lock_41 : decode b_Mo_lock 41 = .ok (.ireturn, 1) := by decide +kernel
theorem d_Mo_lose_0 : decode b_Mo_lose 0 = .ok (.aload_n 0, 1) := by decide +kernel
theorem d_Mo_lose_1 : decode b_Mo_lose 1 = .ok (.iconst 0, 1) := by decide +kernel
theorem d_Mo_lose_2 : decode b_Mo_lose 2 = .ok (.putfield 85, 3) := by decide +kernel
theorem d_Mo_lose_5 : decode b_Mo_lose 5 = .ok (.aload_n 0, 1) := by decide +kernel
theorem d_Mo_lose_6 : decode b_Mo_lose 6 = .ok (.iload_n 1, 1) := by decide +kernel
theorem d_Mo_lose_7 : decode b_Mo_lose 7 = .ok (.aload_n 0, 1) := by decide +kernel
theorem d_Mo_lose_8 : decode b_Mo_lose 8 = .ok (.getfield 88, 3) := by decide +kernel
theorem d_Mo_lose_11 : decode b_Mo_lose 11 = .ok (.invokevirtual 109, 3) := by decide +kernel
theorem d_Mo_lose_14 : decode b_Mo_lose 14 = .ok (.ifCond .eq 9, 3) := by decide +kernel
theorem d_Mo_lose_17 : decode b_Mo_lose 17 = .ok (.aload_n 0, 1) := by decide +kernel
theorem d_Mo_lose_18 : decode b_Mo_lose 18 = .ok (.iconst 1, 1) := by decide +kernel
theorem d_Mo_lose_19 : decode b_Mo_lose 19 = .ok (.invokevirtual 105, 3) := by decide +kernel
theorem d_Mo_lose_22 : decode b_Mo_lose 22 = .ok (.ireturn, 1) := by decide +kernel
theorem d_Mo_lose_23 : decode b_Mo_lose 23 = .ok (.aload_n 0, 1) := by decide +kernel
theorem d_Mo_lose_24 : decode b_Mo_lose 24 = .ok (.iload_n 1, 1) := by decide +kernel
theorem d_Mo_lose_25 : decode b_Mo_lose 25 = .ok (.iconst 0, 1) := by decide +kernel
theorem d_Mo_lose_26 : decode b_Mo_lose 26 = .ok (.invokevirtual 158, 3) := by decide +kernel
theorem d_Mo_lose_29 : decode b_Mo_lose 29 = .ok (.aload_n 0, 1) := by decide +kernel
theorem d_Mo_lose_30 : decode b_Mo_lose 30 = .ok (.getfield 88, 3) := by decide +kernel
theorem d_Mo_lose_33 : decode b_Mo_lose 33 = .ok (.ireturn, 1) := by decide +kernel
theorem d_Mo_member_0 : decode b_Mo_member 0 = .ok (.aload_n 0, 1) := by decide +kernel
theorem d_Mo_member_1 : decode b_Mo_member 1 = .ok (.getfield 26, 3) := by decide +kernel
theorem d_Mo_member_4 : decode b_Mo_member 4 = .ok (.iload_n 1, 1) := by decide +kernel
theorem d_Mo_member_5 : decode b_Mo_member 5 = .ok (.iaload, 1) := by decide +kernel
theorem d_Mo_member_6 : decode b_Mo_member 6 = .ok (.iload_n 2, 1) := by decide +kernel
theorem d_Mo_member_7 : decode b_Mo_member 7 = .ok (.ishr, 1) := by decide +kernel
theorem d_Mo_member_8 : decode b_Mo_member 8 = .ok (.iconst 1, 1) := by decide +kernel
theorem d_Mo_member_9 : decode b_Mo_member 9 = .ok (.iand, 1) := by decide +kernel
theorem d_Mo_member_10 : decode b_Mo_member 10 = .ok (.ifCond .eq 7, 3) := by decide +kernel
theorem d_Mo_member_13 : decode b_Mo_member 13 = .ok (.iconst 1, 1) := by decide +kernel
theorem d_Mo_member_14 : decode b_Mo_member 14 = .ok (.goto 4, 3) := by decide +kernel
theorem d_Mo_member_17 : decode b_Mo_member 17 = .ok (.iconst 0, 1) := by decide +kernel
theorem d_Mo_member_18 : decode b_Mo_member 18 = .ok (.ireturn, 1) := by decide +kernel
theorem d_Mo_most_0 : decode b_Mo_most 0 = .ok (.aload_n 0, 1) := by decide +kernel
theorem d_Mo_most_1 : decode b_Mo_most 1 = .ok (.getfield 77, 3) := by decide +kernel
theorem d_Mo_most_4 : decode b_Mo_most 4 = .ok (.iconst 1, 1) := by decide +kernel
theorem d_Mo_most_5 : decode b_Mo_most 5 = .ok (.if_icmp .ne 7, 3) := by decide +kernel
theorem d_Mo_most_8 : decode b_Mo_most 8 = .ok (.iconst 1, 1) := by decide +kernel
theorem d_Mo_most_9 : decode b_Mo_most 9 = .ok (.goto 4, 3) := by decide +kernel
theorem d_Mo_most_12 : decode b_Mo_most 12 = .ok (.iconst 2, 1) := by decide +kernel
theorem d_Mo_most_13 : decode b_Mo_most 13 = .ok (.ireturn, 1) := by decide +kernel
theorem d_Mo_ones_0 : decode b_Mo_ones 0 = .ok (.iconst 0, 1) := by decide +kernel
theorem d_Mo_ones_1 : decode b_Mo_ones 1 = .ok (.istore_n 2, 1) := by decide +kernel
theorem d_Mo_ones_2 : decode b_Mo_ones 2 = .ok (.iconst 0, 1) := by decide +kernel
theorem d_Mo_ones_3 : decode b_Mo_ones 3 = .ok (.istore_n 3, 1) := by decide +kernel
theorem d_Mo_ones_4 : decode b_Mo_ones 4 = .ok (.iload_n 3, 1) := by decide +kernel
theorem d_Mo_ones_5 : decode b_Mo_ones 5 = .ok (.iconst 4, 1) := by decide +kernel
theorem d_Mo_ones_6 : decode b_Mo_ones 6 = .ok (.if_icmp .ge 17, 3) := by decide +kernel
theorem d_Mo_ones_9 : decode b_Mo_ones 9 = .ok (.iload_n 2, 1) := by decide +kernel
theorem d_Mo_ones_10 : decode b_Mo_ones 10 = .ok (.iload_n 1, 1) := by decide +kernel
theorem d_Mo_ones_11 : decode b_Mo_ones 11 = .ok (.iload_n 3, 1) := by decide +kernel
theorem d_Mo_ones_12 : decode b_Mo_ones 12 = .ok (.ishr, 1) := by decide +kernel
theorem d_Mo_ones_13 : decode b_Mo_ones 13 = .ok (.iconst 1, 1) := by decide +kernel
theorem d_Mo_ones_14 : decode b_Mo_ones 14 = .ok (.iand, 1) := by decide +kernel
theorem d_Mo_ones_15 : decode b_Mo_ones 15 = .ok (.iadd, 1) := by decide +kernel
theorem d_Mo_ones_16 : decode b_Mo_ones 16 = .ok (.istore_n 2, 1) := by decide +kernel
theorem d_Mo_ones_17 : decode b_Mo_ones 17 = .ok (.iinc 3 1, 3) := by decide +kernel
theorem d_Mo_ones_20 : decode b_Mo_ones 20 = .ok (.goto (-16), 3) := by decide +kernel
theorem d_Mo_ones_23 : decode b_Mo_ones 23 = .ok (.iload_n 2, 1) := by decide +kernel
theorem d_Mo_ones_24 : decode b_Mo_ones 24 = .ok (.ireturn, 1) := by decide +kernel
theorem d_Mo_out_0 : decode b_Mo_out 0 = .ok (.iload_n 1, 1) := by decide +kernel
theorem d_Mo_out_1 : decode b_Mo_out 1 = .ok (.ifCond .lt 8, 3) := by decide +kernel
theorem d_Mo_out_4 : decode b_Mo_out 4 = .ok (.iload_n 1, 1) := by decide +kernel
theorem d_Mo_out_5 : decode b_Mo_out 5 = .ok (.iload_n 2, 1) := by decide +kernel
theorem d_Mo_out_6 : decode b_Mo_out 6 = .ok (.if_icmp .lt 7, 3) := by decide +kernel
theorem d_Mo_out_9 : decode b_Mo_out 9 = .ok (.iconst 1, 1) := by decide +kernel
theorem d_Mo_out_10 : decode b_Mo_out 10 = .ok (.goto 4, 3) := by decide +kernel
theorem d_Mo_out_13 : decode b_Mo_out 13 = .ok (.iconst 0, 1) := by decide +kernel
theorem d_Mo_out_14 : decode b_Mo_out 14 = .ok (.ireturn, 1) := by decide +kernel
theorem d_Mo_outcome_0 : decode b_Mo_outcome 0 = .ok (.aload_n 0, 1) := by decide +kernel
theorem d_Mo_outcome_1 : decode b_Mo_outcome 1 = .ok (.iconst 0, 1) := by decide +kernel
theorem d_Mo_outcome_2 : decode b_Mo_outcome 2 = .ok (.putfield 85, 3) := by decide +kernel
theorem d_Mo_outcome_5 : decode b_Mo_outcome 5 = .ok (.aload_n 0, 1) := by decide +kernel
theorem d_Mo_outcome_6 : decode b_Mo_outcome 6 = .ok (.iload_n 1, 1) := by decide +kernel
theorem d_Mo_outcome_7 : decode b_Mo_outcome 7 = .ok (.iconst 2, 1) := by decide +kernel
theorem d_Mo_outcome_8 : decode b_Mo_outcome 8 = .ok (.invokevirtual 109, 3) := by decide +kernel
theorem d_Mo_outcome_11 : decode b_Mo_outcome 11 = .ok (.ifCond .ne 13, 3) := by decide +kernel
theorem d_Mo_outcome_14 : decode b_Mo_outcome 14 = .ok (.aload_n 0, 1) := by decide +kernel
theorem d_Mo_outcome_15 : decode b_Mo_outcome 15 = .ok (.iload_n 2, 1) := by decide +kernel
theorem d_Mo_outcome_16 : decode b_Mo_outcome 16 = .ok (.bipush 8, 2) := by decide +kernel
theorem d_Mo_outcome_18 : decode b_Mo_outcome 18 = .ok (.invokevirtual 109, 3) := by decide +kernel
theorem d_Mo_outcome_21 : decode b_Mo_outcome 21 = .ok (.ifCond .eq 9, 3) := by decide +kernel
theorem d_Mo_outcome_24 : decode b_Mo_outcome 24 = .ok (.aload_n 0, 1) := by decide +kernel
theorem d_Mo_outcome_25 : decode b_Mo_outcome 25 = .ok (.iconst 1, 1) := by decide +kernel
theorem d_Mo_outcome_26 : decode b_Mo_outcome 26 = .ok (.invokevirtual 105, 3) := by decide +kernel
theorem d_Mo_outcome_29 : decode b_Mo_outcome 29 = .ok (.ireturn, 1) := by decide +kernel
theorem d_Mo_outcome_30 : decode b_Mo_outcome 30 = .ok (.iload_n 2, 1) := by decide +kernel
theorem d_Mo_outcome_31 : decode b_Mo_outcome 31 = .ok (.aload_n 0, 1) := by decide +kernel
theorem d_Mo_outcome_32 : decode b_Mo_outcome 32 = .ok (.getfield 102, 3) := by decide +kernel
theorem d_Mo_outcome_35 : decode b_Mo_outcome 35 = .ok (.if_icmp .lt 9, 3) := by decide +kernel
theorem d_Mo_outcome_38 : decode b_Mo_outcome 38 = .ok (.aload_n 0, 1) := by decide +kernel
theorem d_Mo_outcome_39 : decode b_Mo_outcome 39 = .ok (.iconst 2, 1) := by decide +kernel
theorem d_Mo_outcome_40 : decode b_Mo_outcome 40 = .ok (.invokevirtual 105, 3) := by decide +kernel
theorem d_Mo_outcome_43 : decode b_Mo_outcome 43 = .ok (.ireturn, 1) := by decide +kernel
theorem d_Mo_outcome_44 : decode b_Mo_outcome 44 = .ok (.aload_n 0, 1) := by decide +kernel
theorem d_Mo_outcome_45 : decode b_Mo_outcome 45 = .ok (.getfield 56, 3) := by decide +kernel
theorem d_Mo_outcome_48 : decode b_Mo_outcome 48 = .ok (.bipush 8, 2) := by decide +kernel
theorem d_Mo_outcome_50 : decode b_Mo_outcome 50 = .ok (.iload_n 1, 1) := by decide +kernel
theorem d_Mo_outcome_51 : decode b_Mo_outcome 51 = .ok (.imul, 1) := by decide +kernel
theorem d_Mo_outcome_52 : decode b_Mo_outcome 52 = .ok (.iload_n 2, 1) := by decide +kernel
theorem d_Mo_outcome_53 : decode b_Mo_outcome 53 = .ok (.iadd, 1) := by decide +kernel
theorem d_Mo_outcome_54 : decode b_Mo_outcome 54 = .ok (.iaload, 1) := by decide +kernel
theorem d_Mo_outcome_55 : decode b_Mo_outcome 55 = .ok (.istore_n 3, 1) := by decide +kernel
theorem d_Mo_outcome_56 : decode b_Mo_outcome 56 = .ok (.iload_n 3, 1) := by decide +kernel
theorem d_Mo_outcome_57 : decode b_Mo_outcome 57 = .ok (.ifCond .ge 11, 3) := by decide +kernel
theorem d_Mo_outcome_60 : decode b_Mo_outcome 60 = .ok (.aload_n 0, 1) := by decide +kernel
theorem d_Mo_outcome_61 : decode b_Mo_outcome 61 = .ok (.iconst 3, 1) := by decide +kernel
theorem d_Mo_outcome_62 : decode b_Mo_outcome 62 = .ok (.invokevirtual 105, 3) := by decide +kernel
theorem d_Mo_outcome_65 : decode b_Mo_outcome 65 = .ok (.goto 4, 3) := by decide +kernel
theorem d_Mo_outcome_68 : decode b_Mo_outcome 68 = .ok (.iload_n 3, 1) := by decide +kernel
theorem d_Mo_outcome_69 : decode b_Mo_outcome 69 = .ok (.ireturn, 1) := by decide +kernel
theorem d_Mo_pass_0 : decode b_Mo_pass 0 = .ok (.iload_n 1, 1) := by decide +kernel
theorem d_Mo_pass_1 : decode b_Mo_pass 1 = .ok (.ifCond .ge 7, 3) := by decide +kernel
theorem d_Mo_pass_4 : decode b_Mo_pass 4 = .ok (.iload_n 1, 1) := by decide +kernel
theorem d_Mo_pass_5 : decode b_Mo_pass 5 = .ok (.goto 17, 3) := by decide +kernel
theorem d_Mo_pass_8 : decode b_Mo_pass 8 = .ok (.iload_n 1, 1) := by decide +kernel
theorem d_Mo_pass_9 : decode b_Mo_pass 9 = .ok (.ifCond .ne 10, 3) := by decide +kernel
theorem d_Mo_pass_12 : decode b_Mo_pass 12 = .ok (.iload_n 2, 1) := by decide +kernel
theorem d_Mo_pass_13 : decode b_Mo_pass 13 = .ok (.ineg, 1) := by decide +kernel
theorem d_Mo_pass_14 : decode b_Mo_pass 14 = .ok (.iconst 1, 1) := by decide +kernel
theorem d_Mo_pass_15 : decode b_Mo_pass 15 = .ok (.isub, 1) := by decide +kernel
theorem d_Mo_pass_16 : decode b_Mo_pass 16 = .ok (.goto 6, 3) := by decide +kernel
theorem d_Mo_pass_19 : decode b_Mo_pass 19 = .ok (.iload_n 1, 1) := by decide +kernel
theorem d_Mo_pass_20 : decode b_Mo_pass 20 = .ok (.iconst 1, 1) := by decide +kernel
theorem d_Mo_pass_21 : decode b_Mo_pass 21 = .ok (.isub, 1) := by decide +kernel
theorem d_Mo_pass_22 : decode b_Mo_pass 22 = .ok (.ireturn, 1) := by decide +kernel
theorem d_Mo_passNumber_0 : decode b_Mo_passNumber 0 = .ok (.iconst 1, 1) := by decide +kernel
theorem d_Mo_passNumber_1 : decode b_Mo_passNumber 1 = .ok (.istore_n 3, 1) := by decide +kernel
theorem d_Mo_passNumber_2 : decode b_Mo_passNumber 2 = .ok (.iload_n 2, 1) := by decide +kernel
theorem d_Mo_passNumber_3 : decode b_Mo_passNumber 3 = .ok (.iload_n 3, 1) := by decide +kernel
theorem d_Mo_passNumber_4 : decode b_Mo_passNumber 4 = .ok (.idiv, 1) := by decide +kernel
theorem d_Mo_passNumber_5 : decode b_Mo_passNumber 5 = .ok (.bipush 10, 2) := by decide +kernel
theorem d_Mo_passNumber_7 : decode b_Mo_passNumber 7 = .ok (.if_icmp .lt 11, 3) := by decide +kernel
theorem d_Mo_passNumber_10 : decode b_Mo_passNumber 10 = .ok (.iload_n 3, 1) := by decide +kernel
theorem d_Mo_passNumber_11 : decode b_Mo_passNumber 11 = .ok (.bipush 10, 2) := by decide +kernel
theorem d_Mo_passNumber_13 : decode b_Mo_passNumber 13 = .ok (.imul, 1) := by decide +kernel
theorem d_Mo_passNumber_14 : decode b_Mo_passNumber 14 = .ok (.istore_n 3, 1) := by decide +kernel
theorem d_Mo_passNumber_15 : decode b_Mo_passNumber 15 = .ok (.goto (-13), 3) := by decide +kernel
theorem d_Mo_passNumber_18 : decode b_Mo_passNumber 18 = .ok (.iload_n 1, 1) := by decide +kernel
theorem d_Mo_passNumber_19 : decode b_Mo_passNumber 19 = .ok (.istore 4, 2) := by decide +kernel
theorem d_Mo_passNumber_21 : decode b_Mo_passNumber 21 = .ok (.iload_n 3, 1) := by decide +kernel
theorem d_Mo_passNumber_22 : decode b_Mo_passNumber 22 = .ok (.ifCond .le 28, 3) := by decide +kernel
theorem d_Mo_passNumber_25 : decode b_Mo_passNumber 25 = .ok (.aload_n 0, 1) := by decide +kernel
theorem d_Mo_passNumber_26 : decode b_Mo_passNumber 26 = .ok (.iload 4, 2) := by decide +kernel
theorem d_Mo_passNumber_28 : decode b_Mo_passNumber 28 = .ok (.bipush 48, 2) := by decide +kernel
theorem d_Mo_passNumber_30 : decode b_Mo_passNumber 30 = .ok (.iload_n 2, 1) := by decide +kernel
theorem d_Mo_passNumber_31 : decode b_Mo_passNumber 31 = .ok (.iload_n 3, 1) := by decide +kernel
theorem d_Mo_passNumber_32 : decode b_Mo_passNumber 32 = .ok (.idiv, 1) := by decide +kernel
theorem d_Mo_passNumber_33 : decode b_Mo_passNumber 33 = .ok (.bipush 10, 2) := by decide +kernel
theorem d_Mo_passNumber_35 : decode b_Mo_passNumber 35 = .ok (.irem, 1) := by decide +kernel
theorem d_Mo_passNumber_36 : decode b_Mo_passNumber 36 = .ok (.iadd, 1) := by decide +kernel
theorem d_Mo_passNumber_37 : decode b_Mo_passNumber 37 = .ok (.invokevirtual 165, 3) := by decide +kernel
theorem d_Mo_passNumber_40 : decode b_Mo_passNumber 40 = .ok (.istore 4, 2) := by decide +kernel
theorem d_Mo_passNumber_42 : decode b_Mo_passNumber 42 = .ok (.iload_n 3, 1) := by decide +kernel
theorem d_Mo_passNumber_43 : decode b_Mo_passNumber 43 = .ok (.bipush 10, 2) := by decide +kernel
theorem d_Mo_passNumber_45 : decode b_Mo_passNumber 45 = .ok (.idiv, 1) := by decide +kernel
theorem d_Mo_passNumber_46 : decode b_Mo_passNumber 46 = .ok (.istore_n 3, 1) := by decide +kernel
theorem d_Mo_passNumber_47 : decode b_Mo_passNumber 47 = .ok (.goto (-26), 3) := by decide +kernel
theorem d_Mo_passNumber_50 : decode b_Mo_passNumber 50 = .ok (.iload 4, 2) := by decide +kernel
theorem d_Mo_passNumber_52 : decode b_Mo_passNumber 52 = .ok (.ireturn, 1) := by decide +kernel
theorem d_Mo_passPart_0 : decode b_Mo_passPart 0 = .ok (.iload_n 3, 1) := by decide +kernel
theorem d_Mo_passPart_1 : decode b_Mo_passPart 1 = .ok (.ifCond .ge 7, 3) := by decide +kernel
theorem d_Mo_passPart_4 : decode b_Mo_passPart 4 = .ok (.iload_n 1, 1) := by decide +kernel
theorem d_Mo_passPart_5 : decode b_Mo_passPart 5 = .ok (.goto 14, 3) := by decide +kernel
theorem d_Mo_passPart_8 : decode b_Mo_passPart 8 = .ok (.aload_n 0, 1) := by decide +kernel
theorem d_Mo_passPart_9 : decode b_Mo_passPart 9 = .ok (.aload_n 0, 1) := by decide +kernel
theorem d_Mo_passPart_10 : decode b_Mo_passPart 10 = .ok (.iload_n 1, 1) := by decide +kernel
theorem d_Mo_passPart_11 : decode b_Mo_passPart 11 = .ok (.iload_n 2, 1) := by decide +kernel
theorem d_Mo_passPart_12 : decode b_Mo_passPart 12 = .ok (.invokevirtual 165, 3) := by decide +kernel
theorem d_Mo_passPart_15 : decode b_Mo_passPart 15 = .ok (.iload_n 3, 1) := by decide +kernel
theorem d_Mo_passPart_16 : decode b_Mo_passPart 16 = .ok (.invokevirtual 168, 3) := by decide +kernel
theorem d_Mo_passPart_19 : decode b_Mo_passPart 19 = .ok (.ireturn, 1) := by decide +kernel
theorem d_Mo_passVote_0 : decode b_Mo_passVote 0 = .ok (.iload_n 2, 1) := by decide +kernel
theorem d_Mo_passVote_1 : decode b_Mo_passVote 1 = .ok (.ifCond .ge 7, 3) := by decide +kernel
theorem d_Mo_passVote_4 : decode b_Mo_passVote 4 = .ok (.iload_n 1, 1) := by decide +kernel
theorem d_Mo_passVote_5 : decode b_Mo_passVote 5 = .ok (.goto 20, 3) := by decide +kernel
theorem d_Mo_passVote_8 : decode b_Mo_passVote 8 = .ok (.aload_n 0, 1) := by decide +kernel
theorem d_Mo_passVote_9 : decode b_Mo_passVote 9 = .ok (.iload_n 1, 1) := by decide +kernel
theorem d_Mo_passVote_10 : decode b_Mo_passVote 10 = .ok (.iload_n 2, 1) := by decide +kernel
theorem d_Mo_passVote_11 : decode b_Mo_passVote 11 = .ok (.iconst 1, 1) := by decide +kernel
theorem d_Mo_passVote_12 : decode b_Mo_passVote 12 = .ok (.if_icmp .ne 8, 3) := by decide +kernel
theorem d_Mo_passVote_15 : decode b_Mo_passVote 15 = .ok (.bipush 89, 2) := by decide +kernel
theorem d_Mo_passVote_17 : decode b_Mo_passVote 17 = .ok (.goto 5, 3) := by decide +kernel
theorem d_Mo_passVote_20 : decode b_Mo_passVote 20 = .ok (.bipush 78, 2) := by decide +kernel
theorem d_Mo_passVote_22 : decode b_Mo_passVote 22 = .ok (.invokevirtual 165, 3) := by decide +kernel
theorem d_Mo_passVote_25 : decode b_Mo_passVote 25 = .ok (.ireturn, 1) := by decide +kernel
theorem d_Mo_prepare_0 : decode b_Mo_prepare 0 = .ok (.aload_n 0, 1) := by decide +kernel
theorem d_Mo_prepare_1 : decode b_Mo_prepare 1 = .ok (.getfield 32, 3) := by decide +kernel
theorem d_Mo_prepare_4 : decode b_Mo_prepare 4 = .ok (.iconst 3, 1) := by decide +kernel
theorem d_Mo_prepare_5 : decode b_Mo_prepare 5 = .ok (.iload_n 1, 1) := by decide +kernel
theorem d_Mo_prepare_6 : decode b_Mo_prepare 6 = .ok (.imul, 1) := by decide +kernel
theorem d_Mo_prepare_7 : decode b_Mo_prepare 7 = .ok (.iload_n 2, 1) := by decide +kernel
theorem d_Mo_prepare_8 : decode b_Mo_prepare 8 = .ok (.iadd, 1) := by decide +kernel
theorem d_Mo_prepare_9 : decode b_Mo_prepare 9 = .ok (.iaload, 1) := by decide +kernel
theorem d_Mo_prepare_10 : decode b_Mo_prepare 10 = .ok (.istore_n 3, 1) := by decide +kernel
theorem d_Mo_prepare_11 : decode b_Mo_prepare 11 = .ok (.iload_n 3, 1) := by decide +kernel
theorem d_Mo_prepare_12 : decode b_Mo_prepare 12 = .ok (.iconst 1, 1) := by decide +kernel
theorem d_Mo_prepare_13 : decode b_Mo_prepare 13 = .ok (.if_icmp .ne 25, 3) := by decide +kernel
theorem d_Mo_prepare_16 : decode b_Mo_prepare 16 = .ok (.aload_n 0, 1) := by decide +kernel
theorem d_Mo_prepare_17 : decode b_Mo_prepare 17 = .ok (.getfield 32, 3) := by decide +kernel
theorem d_Mo_prepare_20 : decode b_Mo_prepare 20 = .ok (.iconst 3, 1) := by decide +kernel
theorem d_Mo_prepare_21 : decode b_Mo_prepare 21 = .ok (.iload_n 1, 1) := by decide +kernel
theorem d_Mo_prepare_22 : decode b_Mo_prepare 22 = .ok (.imul, 1) := by decide +kernel
theorem d_Mo_prepare_23 : decode b_Mo_prepare 23 = .ok (.iload_n 2, 1) := by decide +kernel
theorem d_Mo_prepare_24 : decode b_Mo_prepare 24 = .ok (.iadd, 1) := by decide +kernel
theorem d_Mo_prepare_25 : decode b_Mo_prepare 25 = .ok (.iconst 2, 1) := by decide +kernel
theorem d_Mo_prepare_26 : decode b_Mo_prepare 26 = .ok (.iastore, 1) := by decide +kernel
theorem d_Mo_prepare_27 : decode b_Mo_prepare 27 = .ok (.aload_n 0, 1) := by decide +kernel
theorem d_Mo_prepare_28 : decode b_Mo_prepare 28 = .ok (.iload_n 1, 1) := by decide +kernel
theorem d_Mo_prepare_29 : decode b_Mo_prepare 29 = .ok (.iload_n 2, 1) := by decide +kernel
theorem d_Mo_prepare_30 : decode b_Mo_prepare 30 = .ok (.iconst 0, 1) := by decide +kernel
theorem d_Mo_prepare_31 : decode b_Mo_prepare 31 = .ok (.iconst 1, 1) := by decide +kernel
theorem d_Mo_prepare_32 : decode b_Mo_prepare 32 = .ok (.invokevirtual 122, 3) := by decide +kernel
theorem d_Mo_prepare_35 : decode b_Mo_prepare 35 = .ok (.goto 26, 3) := by decide +kernel
theorem d_Mo_prepare_38 : decode b_Mo_prepare 38 = .ok (.iload_n 3, 1) := by decide +kernel
theorem d_Mo_prepare_39 : decode b_Mo_prepare 39 = .ok (.ifCond .eq 8, 3) := by decide +kernel
theorem d_Mo_prepare_42 : decode b_Mo_prepare 42 = .ok (.iload_n 3, 1) := by decide +kernel
theorem d_Mo_prepare_43 : decode b_Mo_prepare 43 = .ok (.iconst 4, 1) := by decide +kernel
theorem d_Mo_prepare_44 : decode b_Mo_prepare 44 = .ok (.if_icmp .ne 17, 3) := by decide +kernel
theorem d_Mo_prepare_47 : decode b_Mo_prepare 47 = .ok (.aload_n 0, 1) := by decide +kernel
theorem d_Mo_prepare_48 : decode b_Mo_prepare 48 = .ok (.iload_n 1, 1) := by decide +kernel
theorem d_Mo_prepare_49 : decode b_Mo_prepare 49 = .ok (.iload_n 2, 1) := by decide +kernel
theorem d_Mo_prepare_50 : decode b_Mo_prepare 50 = .ok (.invokevirtual 119, 3) := by decide +kernel
theorem d_Mo_prepare_53 : decode b_Mo_prepare 53 = .ok (.aload_n 0, 1) := by decide +kernel
theorem d_Mo_prepare_54 : decode b_Mo_prepare 54 = .ok (.iload_n 1, 1) := by decide +kernel
theorem d_Mo_prepare_55 : decode b_Mo_prepare 55 = .ok (.iload_n 2, 1) := by decide +kernel
theorem d_Mo_prepare_56 : decode b_Mo_prepare 56 = .ok (.iconst 0, 1) := by decide +kernel
theorem d_Mo_prepare_57 : decode b_Mo_prepare 57 = .ok (.iconst 0, 1) := by decide +kernel
theorem d_Mo_prepare_58 : decode b_Mo_prepare 58 = .ok (.invokevirtual 122, 3) := by decide +kernel
theorem d_Mo_prepare_61 : decode b_Mo_prepare 61 = .ok (.return_, 1) := by decide +kernel
theorem d_Mo_proposal_0 : decode b_Mo_proposal 0 = .ok (.iconst (-1), 1) := by decide +kernel
theorem d_Mo_proposal_1 : decode b_Mo_proposal 1 = .ok (.istore_n 3, 1) := by decide +kernel
theorem d_Mo_proposal_2 : decode b_Mo_proposal 2 = .ok (.iconst 0, 1) := by decide +kernel
theorem d_Mo_proposal_3 : decode b_Mo_proposal 3 = .ok (.istore 4, 2) := by decide +kernel
theorem d_Mo_proposal_5 : decode b_Mo_proposal 5 = .ok (.iconst 0, 1) := by decide +kernel
theorem d_Mo_proposal_6 : decode b_Mo_proposal 6 = .ok (.istore 5, 2) := by decide +kernel
theorem d_Mo_proposal_8 : decode b_Mo_proposal 8 = .ok (.iload 5, 2) := by decide +kernel
theorem d_Mo_proposal_10 : decode b_Mo_proposal 10 = .ok (.iconst 3, 1) := by decide +kernel
theorem d_Mo_proposal_11 : decode b_Mo_proposal 11 = .ok (.if_icmp .ge 67, 3) := by decide +kernel
theorem d_Mo_proposal_14 : decode b_Mo_proposal 14 = .ok (.bipush 9, 2) := by decide +kernel
theorem d_Mo_proposal_16 : decode b_Mo_proposal 16 = .ok (.iload_n 1, 1) := by decide +kernel
theorem d_Mo_proposal_17 : decode b_Mo_proposal 17 = .ok (.imul, 1) := by decide +kernel
theorem d_Mo_proposal_18 : decode b_Mo_proposal 18 = .ok (.iconst 3, 1) := by decide +kernel
theorem d_Mo_proposal_19 : decode b_Mo_proposal 19 = .ok (.iload 5, 2) := by decide +kernel
theorem d_Mo_proposal_21 : decode b_Mo_proposal 21 = .ok (.imul, 1) := by decide +kernel
theorem d_Mo_proposal_22 : decode b_Mo_proposal 22 = .ok (.iadd, 1) := by decide +kernel
theorem d_Mo_proposal_23 : decode b_Mo_proposal 23 = .ok (.iload_n 2, 1) := by decide +kernel
theorem d_Mo_proposal_24 : decode b_Mo_proposal 24 = .ok (.iadd, 1) := by decide +kernel
theorem d_Mo_proposal_25 : decode b_Mo_proposal 25 = .ok (.istore 6, 2) := by decide +kernel
theorem d_Mo_proposal_27 : decode b_Mo_proposal 27 = .ok (.aload_n 0, 1) := by decide +kernel
theorem d_Mo_proposal_28 : decode b_Mo_proposal 28 = .ok (.getfield 59, 3) := by decide +kernel
theorem d_Mo_proposal_31 : decode b_Mo_proposal 31 = .ok (.iconst 3, 1) := by decide +kernel
theorem d_Mo_proposal_32 : decode b_Mo_proposal 32 = .ok (.iload_n 1, 1) := by decide +kernel
theorem d_Mo_proposal_33 : decode b_Mo_proposal 33 = .ok (.imul, 1) := by decide +kernel
theorem d_Mo_proposal_34 : decode b_Mo_proposal 34 = .ok (.iload 5, 2) := by decide +kernel
theorem d_Mo_proposal_36 : decode b_Mo_proposal 36 = .ok (.iadd, 1) := by decide +kernel
theorem d_Mo_proposal_37 : decode b_Mo_proposal 37 = .ok (.baload, 1) := by decide +kernel
theorem d_Mo_proposal_38 : decode b_Mo_proposal 38 = .ok (.ifCond .eq 34, 3) := by decide +kernel
theorem d_Mo_proposal_41 : decode b_Mo_proposal 41 = .ok (.aload_n 0, 1) := by decide +kernel
theorem d_Mo_proposal_42 : decode b_Mo_proposal 42 = .ok (.getfield 62, 3) := by decide +kernel
theorem d_Mo_proposal_45 : decode b_Mo_proposal 45 = .ok (.iload 6, 2) := by decide +kernel
theorem d_Mo_proposal_47 : decode b_Mo_proposal 47 = .ok (.iaload, 1) := by decide +kernel
theorem d_Mo_proposal_48 : decode b_Mo_proposal 48 = .ok (.iload_n 3, 1) := by decide +kernel
theorem d_Mo_proposal_49 : decode b_Mo_proposal 49 = .ok (.if_icmp .gt 6, 3) := by decide +kernel
theorem d_Mo_proposal_52 : decode b_Mo_proposal 52 = .ok (.goto 20, 3) := by decide +kernel
theorem d_Mo_proposal_55 : decode b_Mo_proposal 55 = .ok (.aload_n 0, 1) := by decide +kernel
theorem d_Mo_proposal_56 : decode b_Mo_proposal 56 = .ok (.getfield 62, 3) := by decide +kernel
end
section
theorem d_Mo_proposal_59 : decode b_Mo_proposal 59 = .ok (.iload 6, 2) := by decide +kernel
theorem d_Mo_proposal_61 : decode b_Mo_proposal 61 = .ok (.iaload, 1) := by decide +kernel
theorem d_Mo_proposal_62 : decode b_Mo_proposal 62 = .ok (.istore_n 3, 1) := by decide +kernel
theorem d_Mo_proposal_63 : decode b_Mo_proposal 63 = .ok (.aload_n 0, 1) := by decide +kernel
theorem d_Mo_proposal_64 : decode b_Mo_proposal 64 = .ok (.getfield 65, 3) := by decide +kernel
theorem d_Mo_proposal_67 : decode b_Mo_proposal 67 = .ok (.iload 6, 2) := by decide +kernel
theorem d_Mo_proposal_69 : decode b_Mo_proposal 69 = .ok (.iaload, 1) := by decide +kernel
theorem d_Mo_proposal_70 : decode b_Mo_proposal 70 = .ok (.istore 4, 2) := by decide +kernel
theorem d_Mo_proposal_72 : decode b_Mo_proposal 72 = .ok (.iinc 5 1, 3) := by decide +kernel
theorem d_Mo_proposal_75 : decode b_Mo_proposal 75 = .ok (.goto (-67), 3) := by decide +kernel
theorem d_Mo_proposal_78 : decode b_Mo_proposal 78 = .ok (.iload 4, 2) := by decide +kernel
theorem d_Mo_proposal_80 : decode b_Mo_proposal 80 = .ok (.ireturn, 1) := by decide +kernel
theorem d_Mo_refuse_0 : decode b_Mo_refuse 0 = .ok (.aload_n 0, 1) := by decide +kernel
theorem d_Mo_refuse_1 : decode b_Mo_refuse 1 = .ok (.iconst 0, 1) := by decide +kernel
theorem d_Mo_refuse_2 : decode b_Mo_refuse 2 = .ok (.putfield 85, 3) := by decide +kernel
theorem d_Mo_refuse_5 : decode b_Mo_refuse 5 = .ok (.aload_n 0, 1) := by decide +kernel
theorem d_Mo_refuse_6 : decode b_Mo_refuse 6 = .ok (.iload_n 1, 1) := by decide +kernel
theorem d_Mo_refuse_7 : decode b_Mo_refuse 7 = .ok (.bipush 8, 2) := by decide +kernel
theorem d_Mo_refuse_9 : decode b_Mo_refuse 9 = .ok (.invokevirtual 109, 3) := by decide +kernel
theorem d_Mo_refuse_12 : decode b_Mo_refuse 12 = .ok (.ifCond .ne 12, 3) := by decide +kernel
theorem d_Mo_refuse_15 : decode b_Mo_refuse 15 = .ok (.aload_n 0, 1) := by decide +kernel
theorem d_Mo_refuse_16 : decode b_Mo_refuse 16 = .ok (.iload_n 2, 1) := by decide +kernel
theorem d_Mo_refuse_17 : decode b_Mo_refuse 17 = .ok (.iconst 3, 1) := by decide +kernel
theorem d_Mo_refuse_18 : decode b_Mo_refuse 18 = .ok (.invokevirtual 109, 3) := by decide +kernel
theorem d_Mo_refuse_21 : decode b_Mo_refuse 21 = .ok (.ifCond .eq 9, 3) := by decide +kernel
theorem d_Mo_refuse_24 : decode b_Mo_refuse 24 = .ok (.aload_n 0, 1) := by decide +kernel
theorem d_Mo_refuse_25 : decode b_Mo_refuse 25 = .ok (.iconst 1, 1) := by decide +kernel
theorem d_Mo_refuse_26 : decode b_Mo_refuse 26 = .ok (.invokevirtual 105, 3) := by decide +kernel
theorem d_Mo_refuse_29 : decode b_Mo_refuse 29 = .ok (.ireturn, 1) := by decide +kernel
theorem d_Mo_refuse_30 : decode b_Mo_refuse 30 = .ok (.iload_n 1, 1) := by decide +kernel
theorem d_Mo_refuse_31 : decode b_Mo_refuse 31 = .ok (.aload_n 0, 1) := by decide +kernel
theorem d_Mo_refuse_32 : decode b_Mo_refuse 32 = .ok (.getfield 102, 3) := by decide +kernel
theorem d_Mo_refuse_35 : decode b_Mo_refuse 35 = .ok (.if_icmp .lt 9, 3) := by decide +kernel
theorem d_Mo_refuse_38 : decode b_Mo_refuse 38 = .ok (.aload_n 0, 1) := by decide +kernel
theorem d_Mo_refuse_39 : decode b_Mo_refuse 39 = .ok (.iconst 2, 1) := by decide +kernel
theorem d_Mo_refuse_40 : decode b_Mo_refuse 40 = .ok (.invokevirtual 105, 3) := by decide +kernel
theorem d_Mo_refuse_43 : decode b_Mo_refuse 43 = .ok (.ireturn, 1) := by decide +kernel
theorem d_Mo_refuse_44 : decode b_Mo_refuse 44 = .ok (.aload_n 0, 1) := by decide +kernel
theorem d_Mo_refuse_45 : decode b_Mo_refuse 45 = .ok (.getfield 7, 3) := by decide +kernel
theorem d_Mo_refuse_48 : decode b_Mo_refuse 48 = .ok (.iload_n 2, 1) := by decide +kernel
theorem d_Mo_refuse_49 : decode b_Mo_refuse 49 = .ok (.baload, 1) := by decide +kernel
theorem d_Mo_refuse_50 : decode b_Mo_refuse 50 = .ok (.ifCond .eq 9, 3) := by decide +kernel
theorem d_Mo_refuse_53 : decode b_Mo_refuse 53 = .ok (.aload_n 0, 1) := by decide +kernel
theorem d_Mo_refuse_54 : decode b_Mo_refuse 54 = .ok (.iconst 3, 1) := by decide +kernel
theorem d_Mo_refuse_55 : decode b_Mo_refuse 55 = .ok (.invokevirtual 105, 3) := by decide +kernel
theorem d_Mo_refuse_58 : decode b_Mo_refuse 58 = .ok (.ireturn, 1) := by decide +kernel
theorem d_Mo_refuse_59 : decode b_Mo_refuse 59 = .ok (.aload_n 0, 1) := by decide +kernel
theorem d_Mo_refuse_60 : decode b_Mo_refuse 60 = .ok (.getfield 32, 3) := by decide +kernel
theorem d_Mo_refuse_63 : decode b_Mo_refuse 63 = .ok (.iconst 3, 1) := by decide +kernel
theorem d_Mo_refuse_64 : decode b_Mo_refuse 64 = .ok (.iload_n 1, 1) := by decide +kernel
theorem d_Mo_refuse_65 : decode b_Mo_refuse 65 = .ok (.imul, 1) := by decide +kernel
theorem d_Mo_refuse_66 : decode b_Mo_refuse 66 = .ok (.iload_n 2, 1) := by decide +kernel
theorem d_Mo_refuse_67 : decode b_Mo_refuse 67 = .ok (.iadd, 1) := by decide +kernel
theorem d_Mo_refuse_68 : decode b_Mo_refuse 68 = .ok (.iaload, 1) := by decide +kernel
theorem d_Mo_refuse_69 : decode b_Mo_refuse 69 = .ok (.iconst 1, 1) := by decide +kernel
theorem d_Mo_refuse_70 : decode b_Mo_refuse 70 = .ok (.if_icmp .eq 9, 3) := by decide +kernel
theorem d_Mo_refuse_73 : decode b_Mo_refuse 73 = .ok (.aload_n 0, 1) := by decide +kernel
theorem d_Mo_refuse_74 : decode b_Mo_refuse 74 = .ok (.iconst 4, 1) := by decide +kernel
theorem d_Mo_refuse_75 : decode b_Mo_refuse 75 = .ok (.invokevirtual 105, 3) := by decide +kernel
theorem d_Mo_refuse_78 : decode b_Mo_refuse 78 = .ok (.ireturn, 1) := by decide +kernel
theorem d_Mo_refuse_79 : decode b_Mo_refuse 79 = .ok (.aload_n 0, 1) := by decide +kernel
theorem d_Mo_refuse_80 : decode b_Mo_refuse 80 = .ok (.iload_n 1, 1) := by decide +kernel
theorem d_Mo_refuse_81 : decode b_Mo_refuse 81 = .ok (.iload_n 2, 1) := by decide +kernel
theorem d_Mo_refuse_82 : decode b_Mo_refuse 82 = .ok (.invokevirtual 119, 3) := by decide +kernel
theorem d_Mo_refuse_85 : decode b_Mo_refuse 85 = .ok (.aload_n 0, 1) := by decide +kernel
theorem d_Mo_refuse_86 : decode b_Mo_refuse 86 = .ok (.iload_n 1, 1) := by decide +kernel
theorem d_Mo_refuse_87 : decode b_Mo_refuse 87 = .ok (.iload_n 2, 1) := by decide +kernel
theorem d_Mo_refuse_88 : decode b_Mo_refuse 88 = .ok (.iconst 0, 1) := by decide +kernel
theorem d_Mo_refuse_89 : decode b_Mo_refuse 89 = .ok (.iconst 0, 1) := by decide +kernel
theorem d_Mo_refuse_90 : decode b_Mo_refuse 90 = .ok (.invokevirtual 122, 3) := by decide +kernel
theorem d_Mo_refuse_93 : decode b_Mo_refuse 93 = .ok (.aload_n 0, 1) := by decide +kernel
theorem d_Mo_refuse_94 : decode b_Mo_refuse 94 = .ok (.aload_n 0, 1) := by decide +kernel
theorem d_Mo_refuse_95 : decode b_Mo_refuse 95 = .ok (.getfield 35, 3) := by decide +kernel
theorem d_Mo_refuse_98 : decode b_Mo_refuse 98 = .ok (.iconst 3, 1) := by decide +kernel
theorem d_Mo_refuse_99 : decode b_Mo_refuse 99 = .ok (.iload_n 1, 1) := by decide +kernel
theorem d_Mo_refuse_100 : decode b_Mo_refuse 100 = .ok (.imul, 1) := by decide +kernel
theorem d_Mo_refuse_101 : decode b_Mo_refuse 101 = .ok (.iload_n 2, 1) := by decide +kernel
theorem d_Mo_refuse_102 : decode b_Mo_refuse 102 = .ok (.iadd, 1) := by decide +kernel
theorem d_Mo_refuse_103 : decode b_Mo_refuse 103 = .ok (.iaload, 1) := by decide +kernel
theorem d_Mo_refuse_104 : decode b_Mo_refuse 104 = .ok (.invokevirtual 113, 3) := by decide +kernel
theorem d_Mo_refuse_107 : decode b_Mo_refuse 107 = .ok (.ireturn, 1) := by decide +kernel
theorem d_Mo_reply_0 : decode b_Mo_reply 0 = .ok (.bipush 8, 2) := by decide +kernel
theorem d_Mo_reply_2 : decode b_Mo_reply 2 = .ok (.iload_n 1, 1) := by decide +kernel
theorem d_Mo_reply_3 : decode b_Mo_reply 3 = .ok (.imul, 1) := by decide +kernel
theorem d_Mo_reply_4 : decode b_Mo_reply 4 = .ok (.iload_n 2, 1) := by decide +kernel
theorem d_Mo_reply_5 : decode b_Mo_reply 5 = .ok (.iadd, 1) := by decide +kernel
theorem d_Mo_reply_6 : decode b_Mo_reply 6 = .ok (.istore 6, 2) := by decide +kernel
theorem d_Mo_reply_8 : decode b_Mo_reply 8 = .ok (.aload_n 0, 1) := by decide +kernel
theorem d_Mo_reply_9 : decode b_Mo_reply 9 = .ok (.getfield 50, 3) := by decide +kernel
theorem d_Mo_reply_12 : decode b_Mo_reply 12 = .ok (.iload 6, 2) := by decide +kernel
theorem d_Mo_reply_14 : decode b_Mo_reply 14 = .ok (.iaload, 1) := by decide +kernel
theorem d_Mo_reply_15 : decode b_Mo_reply 15 = .ok (.iload 4, 2) := by decide +kernel
theorem d_Mo_reply_17 : decode b_Mo_reply 17 = .ok (.if_icmp .ne 13, 3) := by decide +kernel
theorem d_Mo_reply_20 : decode b_Mo_reply 20 = .ok (.aload_n 0, 1) := by decide +kernel
theorem d_Mo_reply_21 : decode b_Mo_reply 21 = .ok (.getfield 53, 3) := by decide +kernel
theorem d_Mo_reply_24 : decode b_Mo_reply 24 = .ok (.iload 6, 2) := by decide +kernel
theorem d_Mo_reply_26 : decode b_Mo_reply 26 = .ok (.baload, 1) := by decide +kernel
theorem d_Mo_reply_27 : decode b_Mo_reply 27 = .ok (.ifCond .eq 4, 3) := by decide +kernel
theorem d_Mo_reply_30 : decode b_Mo_reply 30 = .ok (.return_, 1) := by decide +kernel
theorem d_Mo_reply_31 : decode b_Mo_reply 31 = .ok (.aload_n 0, 1) := by decide +kernel
theorem d_Mo_reply_32 : decode b_Mo_reply 32 = .ok (.getfield 59, 3) := by decide +kernel
theorem d_Mo_reply_35 : decode b_Mo_reply 35 = .ok (.iconst 3, 1) := by decide +kernel
theorem d_Mo_reply_36 : decode b_Mo_reply 36 = .ok (.iload 6, 2) := by decide +kernel
theorem d_Mo_reply_38 : decode b_Mo_reply 38 = .ok (.imul, 1) := by decide +kernel
theorem d_Mo_reply_39 : decode b_Mo_reply 39 = .ok (.iload_n 3, 1) := by decide +kernel
theorem d_Mo_reply_40 : decode b_Mo_reply 40 = .ok (.iadd, 1) := by decide +kernel
theorem d_Mo_reply_41 : decode b_Mo_reply 41 = .ok (.iconst 1, 1) := by decide +kernel
theorem d_Mo_reply_42 : decode b_Mo_reply 42 = .ok (.bastore, 1) := by decide +kernel
theorem d_Mo_reply_43 : decode b_Mo_reply 43 = .ok (.iconst 0, 1) := by decide +kernel
theorem d_Mo_reply_44 : decode b_Mo_reply 44 = .ok (.istore 7, 2) := by decide +kernel
theorem d_Mo_reply_46 : decode b_Mo_reply 46 = .ok (.iconst 0, 1) := by decide +kernel
theorem d_Mo_reply_47 : decode b_Mo_reply 47 = .ok (.istore 8, 2) := by decide +kernel
theorem d_Mo_reply_49 : decode b_Mo_reply 49 = .ok (.iload 8, 2) := by decide +kernel
theorem d_Mo_reply_51 : decode b_Mo_reply 51 = .ok (.iconst 3, 1) := by decide +kernel
theorem d_Mo_reply_52 : decode b_Mo_reply 52 = .ok (.if_icmp .ge 94, 3) := by decide +kernel
theorem d_Mo_reply_55 : decode b_Mo_reply 55 = .ok (.aload_n 0, 1) := by decide +kernel
theorem d_Mo_reply_56 : decode b_Mo_reply 56 = .ok (.getfield 62, 3) := by decide +kernel
theorem d_Mo_reply_59 : decode b_Mo_reply 59 = .ok (.bipush 9, 2) := by decide +kernel
theorem d_Mo_reply_61 : decode b_Mo_reply 61 = .ok (.iload 6, 2) := by decide +kernel
theorem d_Mo_reply_63 : decode b_Mo_reply 63 = .ok (.imul, 1) := by decide +kernel
theorem d_Mo_reply_64 : decode b_Mo_reply 64 = .ok (.iconst 3, 1) := by decide +kernel
theorem d_Mo_reply_65 : decode b_Mo_reply 65 = .ok (.iload_n 3, 1) := by decide +kernel
theorem d_Mo_reply_66 : decode b_Mo_reply 66 = .ok (.imul, 1) := by decide +kernel
theorem d_Mo_reply_67 : decode b_Mo_reply 67 = .ok (.iadd, 1) := by decide +kernel
theorem d_Mo_reply_68 : decode b_Mo_reply 68 = .ok (.iload 8, 2) := by decide +kernel
theorem d_Mo_reply_70 : decode b_Mo_reply 70 = .ok (.iadd, 1) := by decide +kernel
theorem d_Mo_reply_71 : decode b_Mo_reply 71 = .ok (.aload_n 0, 1) := by decide +kernel
theorem d_Mo_reply_72 : decode b_Mo_reply 72 = .ok (.getfield 74, 3) := by decide +kernel
theorem d_Mo_reply_75 : decode b_Mo_reply 75 = .ok (.iload 5, 2) := by decide +kernel
theorem d_Mo_reply_77 : decode b_Mo_reply 77 = .ok (.bipush 7, 2) := by decide +kernel
theorem d_Mo_reply_79 : decode b_Mo_reply 79 = .ok (.iadd, 1) := by decide +kernel
theorem d_Mo_reply_80 : decode b_Mo_reply 80 = .ok (.iload 8, 2) := by decide +kernel
theorem d_Mo_reply_82 : decode b_Mo_reply 82 = .ok (.iadd, 1) := by decide +kernel
theorem d_Mo_reply_83 : decode b_Mo_reply 83 = .ok (.iaload, 1) := by decide +kernel
theorem d_Mo_reply_84 : decode b_Mo_reply 84 = .ok (.iastore, 1) := by decide +kernel
theorem d_Mo_reply_85 : decode b_Mo_reply 85 = .ok (.aload_n 0, 1) := by decide +kernel
theorem d_Mo_reply_86 : decode b_Mo_reply 86 = .ok (.getfield 65, 3) := by decide +kernel
theorem d_Mo_reply_89 : decode b_Mo_reply 89 = .ok (.bipush 9, 2) := by decide +kernel
theorem d_Mo_reply_91 : decode b_Mo_reply 91 = .ok (.iload 6, 2) := by decide +kernel
theorem d_Mo_reply_93 : decode b_Mo_reply 93 = .ok (.imul, 1) := by decide +kernel
theorem d_Mo_reply_94 : decode b_Mo_reply 94 = .ok (.iconst 3, 1) := by decide +kernel
theorem d_Mo_reply_95 : decode b_Mo_reply 95 = .ok (.iload_n 3, 1) := by decide +kernel
theorem d_Mo_reply_96 : decode b_Mo_reply 96 = .ok (.imul, 1) := by decide +kernel
theorem d_Mo_reply_97 : decode b_Mo_reply 97 = .ok (.iadd, 1) := by decide +kernel
theorem d_Mo_reply_98 : decode b_Mo_reply 98 = .ok (.iload 8, 2) := by decide +kernel
theorem d_Mo_reply_100 : decode b_Mo_reply 100 = .ok (.iadd, 1) := by decide +kernel
theorem d_Mo_reply_101 : decode b_Mo_reply 101 = .ok (.aload_n 0, 1) := by decide +kernel
theorem d_Mo_reply_102 : decode b_Mo_reply 102 = .ok (.getfield 74, 3) := by decide +kernel
theorem d_Mo_reply_105 : decode b_Mo_reply 105 = .ok (.iload 5, 2) := by decide +kernel
theorem d_Mo_reply_107 : decode b_Mo_reply 107 = .ok (.bipush 10, 2) := by decide +kernel
theorem d_Mo_reply_109 : decode b_Mo_reply 109 = .ok (.iadd, 1) := by decide +kernel
theorem d_Mo_reply_110 : decode b_Mo_reply 110 = .ok (.iload 8, 2) := by decide +kernel
theorem d_Mo_reply_112 : decode b_Mo_reply 112 = .ok (.iadd, 1) := by decide +kernel
theorem d_Mo_reply_113 : decode b_Mo_reply 113 = .ok (.iaload, 1) := by decide +kernel
theorem d_Mo_reply_114 : decode b_Mo_reply 114 = .ok (.iastore, 1) := by decide +kernel
theorem d_Mo_reply_115 : decode b_Mo_reply 115 = .ok (.iload 7, 2) := by decide +kernel
theorem d_Mo_reply_117 : decode b_Mo_reply 117 = .ok (.aload_n 0, 1) := by decide +kernel
theorem d_Mo_reply_118 : decode b_Mo_reply 118 = .ok (.getfield 59, 3) := by decide +kernel
theorem d_Mo_reply_121 : decode b_Mo_reply 121 = .ok (.iconst 3, 1) := by decide +kernel
theorem d_Mo_reply_122 : decode b_Mo_reply 122 = .ok (.iload 6, 2) := by decide +kernel
theorem d_Mo_reply_124 : decode b_Mo_reply 124 = .ok (.imul, 1) := by decide +kernel
theorem d_Mo_reply_125 : decode b_Mo_reply 125 = .ok (.iload 8, 2) := by decide +kernel
theorem d_Mo_reply_127 : decode b_Mo_reply 127 = .ok (.iadd, 1) := by decide +kernel
theorem d_Mo_reply_128 : decode b_Mo_reply 128 = .ok (.baload, 1) := by decide +kernel
theorem d_Mo_reply_129 : decode b_Mo_reply 129 = .ok (.ifCond .eq 7, 3) := by decide +kernel
theorem d_Mo_reply_132 : decode b_Mo_reply 132 = .ok (.iconst 1, 1) := by decide +kernel
theorem d_Mo_reply_133 : decode b_Mo_reply 133 = .ok (.goto 4, 3) := by decide +kernel
theorem d_Mo_reply_136 : decode b_Mo_reply 136 = .ok (.iconst 0, 1) := by decide +kernel
theorem d_Mo_reply_137 : decode b_Mo_reply 137 = .ok (.iadd, 1) := by decide +kernel
theorem d_Mo_reply_138 : decode b_Mo_reply 138 = .ok (.istore 7, 2) := by decide +kernel
theorem d_Mo_reply_140 : decode b_Mo_reply 140 = .ok (.iinc 8 1, 3) := by decide +kernel
theorem d_Mo_reply_143 : decode b_Mo_reply 143 = .ok (.goto (-94), 3) := by decide +kernel
theorem d_Mo_reply_146 : decode b_Mo_reply 146 = .ok (.iload 7, 2) := by decide +kernel
theorem d_Mo_reply_148 : decode b_Mo_reply 148 = .ok (.aload_n 0, 1) := by decide +kernel
theorem d_Mo_reply_149 : decode b_Mo_reply 149 = .ok (.invokevirtual 126, 3) := by decide +kernel
theorem d_Mo_reply_152 : decode b_Mo_reply 152 = .ok (.if_icmp .ge 4, 3) := by decide +kernel
theorem d_Mo_reply_155 : decode b_Mo_reply 155 = .ok (.return_, 1) := by decide +kernel
theorem d_Mo_reply_156 : decode b_Mo_reply 156 = .ok (.aload_n 0, 1) := by decide +kernel
theorem d_Mo_reply_157 : decode b_Mo_reply 157 = .ok (.getfield 53, 3) := by decide +kernel
theorem d_Mo_reply_160 : decode b_Mo_reply 160 = .ok (.iload 6, 2) := by decide +kernel
theorem d_Mo_reply_162 : decode b_Mo_reply 162 = .ok (.iconst 1, 1) := by decide +kernel
theorem d_Mo_reply_163 : decode b_Mo_reply 163 = .ok (.bastore, 1) := by decide +kernel
theorem d_Mo_reply_164 : decode b_Mo_reply 164 = .ok (.iconst 0, 1) := by decide +kernel
theorem d_Mo_reply_165 : decode b_Mo_reply 165 = .ok (.istore 8, 2) := by decide +kernel
theorem d_Mo_reply_167 : decode b_Mo_reply 167 = .ok (.iload 8, 2) := by decide +kernel
theorem d_Mo_reply_169 : decode b_Mo_reply 169 = .ok (.iconst 3, 1) := by decide +kernel
theorem d_Mo_reply_170 : decode b_Mo_reply 170 = .ok (.if_icmp .ge 36, 3) := by decide +kernel
theorem d_Mo_reply_173 : decode b_Mo_reply 173 = .ok (.aload_n 0, 1) := by decide +kernel
theorem d_Mo_reply_174 : decode b_Mo_reply 174 = .ok (.iload_n 2, 1) := by decide +kernel
theorem d_Mo_reply_175 : decode b_Mo_reply 175 = .ok (.iload 8, 2) := by decide +kernel
theorem d_Mo_reply_177 : decode b_Mo_reply 177 = .ok (.invokevirtual 116, 3) := by decide +kernel
theorem d_Mo_reply_180 : decode b_Mo_reply 180 = .ok (.ifCond .eq 20, 3) := by decide +kernel
theorem d_Mo_reply_183 : decode b_Mo_reply 183 = .ok (.aload_n 0, 1) := by decide +kernel
theorem d_Mo_reply_184 : decode b_Mo_reply 184 = .ok (.iload_n 2, 1) := by decide +kernel
theorem d_Mo_reply_185 : decode b_Mo_reply 185 = .ok (.iload 8, 2) := by decide +kernel
theorem d_Mo_reply_187 : decode b_Mo_reply 187 = .ok (.iload 4, 2) := by decide +kernel
theorem d_Mo_reply_189 : decode b_Mo_reply 189 = .ok (.aload_n 0, 1) := by decide +kernel
theorem d_Mo_reply_190 : decode b_Mo_reply 190 = .ok (.iload 6, 2) := by decide +kernel
theorem d_Mo_reply_192 : decode b_Mo_reply 192 = .ok (.iload 8, 2) := by decide +kernel
theorem d_Mo_reply_194 : decode b_Mo_reply 194 = .ok (.invokevirtual 130, 3) := by decide +kernel
theorem d_Mo_reply_197 : decode b_Mo_reply 197 = .ok (.invokevirtual 122, 3) := by decide +kernel
theorem d_Mo_reply_200 : decode b_Mo_reply 200 = .ok (.iinc 8 1, 3) := by decide +kernel
theorem d_Mo_reply_203 : decode b_Mo_reply 203 = .ok (.goto (-36), 3) := by decide +kernel
theorem d_Mo_reply_206 : decode b_Mo_reply 206 = .ok (.return_, 1) := by decide +kernel
theorem d_Mo_request_0 : decode b_Mo_request 0 = .ok (.aload_n 0, 1) := by decide +kernel
theorem d_Mo_request_1 : decode b_Mo_request 1 = .ok (.iconst 0, 1) := by decide +kernel
theorem d_Mo_request_2 : decode b_Mo_request 2 = .ok (.putfield 85, 3) := by decide +kernel
theorem d_Mo_request_5 : decode b_Mo_request 5 = .ok (.aload_n 0, 1) := by decide +kernel
theorem d_Mo_request_6 : decode b_Mo_request 6 = .ok (.iload_n 1, 1) := by decide +kernel
theorem d_Mo_request_7 : decode b_Mo_request 7 = .ok (.bipush 8, 2) := by decide +kernel
theorem d_Mo_request_9 : decode b_Mo_request 9 = .ok (.invokevirtual 109, 3) := by decide +kernel
theorem d_Mo_request_12 : decode b_Mo_request 12 = .ok (.ifCond .eq 9, 3) := by decide +kernel
theorem d_Mo_request_15 : decode b_Mo_request 15 = .ok (.aload_n 0, 1) := by decide +kernel
theorem d_Mo_request_16 : decode b_Mo_request 16 = .ok (.iconst 1, 1) := by decide +kernel
theorem d_Mo_request_17 : decode b_Mo_request 17 = .ok (.invokevirtual 105, 3) := by decide +kernel
theorem d_Mo_request_20 : decode b_Mo_request 20 = .ok (.ireturn, 1) := by decide +kernel
theorem d_Mo_request_21 : decode b_Mo_request 21 = .ok (.iload_n 1, 1) := by decide +kernel
theorem d_Mo_request_22 : decode b_Mo_request 22 = .ok (.aload_n 0, 1) := by decide +kernel
theorem d_Mo_request_23 : decode b_Mo_request 23 = .ok (.getfield 102, 3) := by decide +kernel
theorem d_Mo_request_26 : decode b_Mo_request 26 = .ok (.if_icmp .lt 9, 3) := by decide +kernel
theorem d_Mo_request_29 : decode b_Mo_request 29 = .ok (.aload_n 0, 1) := by decide +kernel
theorem d_Mo_request_30 : decode b_Mo_request 30 = .ok (.iconst 2, 1) := by decide +kernel
theorem d_Mo_request_31 : decode b_Mo_request 31 = .ok (.invokevirtual 105, 3) := by decide +kernel
theorem d_Mo_request_34 : decode b_Mo_request 34 = .ok (.ireturn, 1) := by decide +kernel
theorem d_Mo_request_35 : decode b_Mo_request 35 = .ok (.aload_n 0, 1) := by decide +kernel
theorem d_Mo_request_36 : decode b_Mo_request 36 = .ok (.getfield 26, 3) := by decide +kernel
theorem d_Mo_request_39 : decode b_Mo_request 39 = .ok (.iload_n 1, 1) := by decide +kernel
theorem d_Mo_request_40 : decode b_Mo_request 40 = .ok (.iaload, 1) := by decide +kernel
theorem d_Mo_request_41 : decode b_Mo_request 41 = .ok (.ifCond .ne 9, 3) := by decide +kernel
theorem d_Mo_request_44 : decode b_Mo_request 44 = .ok (.aload_n 0, 1) := by decide +kernel
theorem d_Mo_request_45 : decode b_Mo_request 45 = .ok (.iconst 3, 1) := by decide +kernel
theorem d_Mo_request_46 : decode b_Mo_request 46 = .ok (.invokevirtual 105, 3) := by decide +kernel
theorem d_Mo_request_49 : decode b_Mo_request 49 = .ok (.ireturn, 1) := by decide +kernel
theorem d_Mo_request_50 : decode b_Mo_request 50 = .ok (.aload_n 0, 1) := by decide +kernel
theorem d_Mo_request_51 : decode b_Mo_request 51 = .ok (.getfield 29, 3) := by decide +kernel
theorem d_Mo_request_54 : decode b_Mo_request 54 = .ok (.iload_n 1, 1) := by decide +kernel
theorem d_Mo_request_55 : decode b_Mo_request 55 = .ok (.baload, 1) := by decide +kernel
theorem d_Mo_request_56 : decode b_Mo_request 56 = .ok (.ifCond .eq 9, 3) := by decide +kernel
theorem d_Mo_request_59 : decode b_Mo_request 59 = .ok (.aload_n 0, 1) := by decide +kernel
theorem d_Mo_request_60 : decode b_Mo_request 60 = .ok (.iconst 4, 1) := by decide +kernel
theorem d_Mo_request_61 : decode b_Mo_request 61 = .ok (.invokevirtual 105, 3) := by decide +kernel
theorem d_Mo_request_64 : decode b_Mo_request 64 = .ok (.ireturn, 1) := by decide +kernel
theorem d_Mo_request_65 : decode b_Mo_request 65 = .ok (.aload_n 0, 1) := by decide +kernel
theorem d_Mo_request_66 : decode b_Mo_request 66 = .ok (.getfield 29, 3) := by decide +kernel
theorem d_Mo_request_69 : decode b_Mo_request 69 = .ok (.iload_n 1, 1) := by decide +kernel
theorem d_Mo_request_70 : decode b_Mo_request 70 = .ok (.iconst 1, 1) := by decide +kernel
theorem d_Mo_request_71 : decode b_Mo_request 71 = .ok (.bastore, 1) := by decide +kernel
theorem d_Mo_request_72 : decode b_Mo_request 72 = .ok (.iconst 0, 1) := by decide +kernel
theorem d_Mo_request_73 : decode b_Mo_request 73 = .ok (.istore_n 2, 1) := by decide +kernel
theorem d_Mo_request_74 : decode b_Mo_request 74 = .ok (.iload_n 2, 1) := by decide +kernel
theorem d_Mo_request_75 : decode b_Mo_request 75 = .ok (.iconst 3, 1) := by decide +kernel
theorem d_Mo_request_76 : decode b_Mo_request 76 = .ok (.if_icmp .ge 31, 3) := by decide +kernel
theorem d_Mo_request_79 : decode b_Mo_request 79 = .ok (.aload_n 0, 1) := by decide +kernel
theorem d_Mo_request_80 : decode b_Mo_request 80 = .ok (.iload_n 1, 1) := by decide +kernel
theorem d_Mo_request_81 : decode b_Mo_request 81 = .ok (.iload_n 2, 1) := by decide +kernel
theorem d_Mo_request_82 : decode b_Mo_request 82 = .ok (.invokevirtual 116, 3) := by decide +kernel
theorem d_Mo_request_85 : decode b_Mo_request 85 = .ok (.ifCond .eq 16, 3) := by decide +kernel
theorem d_Mo_request_88 : decode b_Mo_request 88 = .ok (.aload_n 0, 1) := by decide +kernel
theorem d_Mo_request_89 : decode b_Mo_request 89 = .ok (.bipush 80, 2) := by decide +kernel
theorem d_Mo_request_91 : decode b_Mo_request 91 = .ok (.iload_n 1, 1) := by decide +kernel
theorem d_Mo_request_92 : decode b_Mo_request 92 = .ok (.iload_n 2, 1) := by decide +kernel
theorem d_Mo_request_93 : decode b_Mo_request 93 = .ok (.iconst (-1), 1) := by decide +kernel
theorem d_Mo_request_94 : decode b_Mo_request 94 = .ok (.iconst (-1), 1) := by decide +kernel
theorem d_Mo_request_95 : decode b_Mo_request 95 = .ok (.iconst (-1), 1) := by decide +kernel
theorem d_Mo_request_96 : decode b_Mo_request 96 = .ok (.iconst (-1), 1) := by decide +kernel
theorem d_Mo_request_97 : decode b_Mo_request 97 = .ok (.invokevirtual 94, 3) := by decide +kernel
theorem d_Mo_request_100 : decode b_Mo_request 100 = .ok (.istore_n 3, 1) := by decide +kernel
theorem d_Mo_request_101 : decode b_Mo_request 101 = .ok (.iinc 2 1, 3) := by decide +kernel
theorem d_Mo_request_104 : decode b_Mo_request 104 = .ok (.goto (-30), 3) := by decide +kernel
theorem d_Mo_request_107 : decode b_Mo_request 107 = .ok (.aload_n 0, 1) := by decide +kernel
theorem d_Mo_request_108 : decode b_Mo_request 108 = .ok (.aload_n 0, 1) := by decide +kernel
theorem d_Mo_request_109 : decode b_Mo_request 109 = .ok (.getfield 26, 3) := by decide +kernel
theorem d_Mo_request_112 : decode b_Mo_request 112 = .ok (.iload_n 1, 1) := by decide +kernel
theorem d_Mo_request_113 : decode b_Mo_request 113 = .ok (.iaload, 1) := by decide +kernel
theorem d_Mo_request_114 : decode b_Mo_request 114 = .ok (.invokevirtual 113, 3) := by decide +kernel
theorem d_Mo_request_117 : decode b_Mo_request 117 = .ok (.ireturn, 1) := by decide +kernel
theorem d_Mo_send_0 : decode b_Mo_send 0 = .ok (.aload_n 0, 1) := by decide +kernel
theorem d_Mo_send_1 : decode b_Mo_send 1 = .ok (.getfield 88, 3) := by decide +kernel
theorem d_Mo_send_4 : decode b_Mo_send 4 = .ok (.bipush 60, 2) := by decide +kernel
theorem d_Mo_send_6 : decode b_Mo_send 6 = .ok (.if_icmp .ne 15, 3) := by decide +kernel
theorem d_Mo_send_9 : decode b_Mo_send 9 = .ok (.aload_n 0, 1) := by decide +kernel
theorem d_Mo_send_10 : decode b_Mo_send 10 = .ok (.dup, 1) := by decide +kernel
theorem d_Mo_send_11 : decode b_Mo_send 11 = .ok (.getfield 91, 3) := by decide +kernel
theorem d_Mo_send_14 : decode b_Mo_send 14 = .ok (.iconst 1, 1) := by decide +kernel
theorem d_Mo_send_15 : decode b_Mo_send 15 = .ok (.iadd, 1) := by decide +kernel
theorem d_Mo_send_16 : decode b_Mo_send 16 = .ok (.putfield 91, 3) := by decide +kernel
theorem d_Mo_send_19 : decode b_Mo_send 19 = .ok (.iconst 0, 1) := by decide +kernel
theorem d_Mo_send_20 : decode b_Mo_send 20 = .ok (.ireturn, 1) := by decide +kernel
theorem d_Mo_send_21 : decode b_Mo_send 21 = .ok (.bipush 13, 2) := by decide +kernel
theorem d_Mo_send_23 : decode b_Mo_send 23 = .ok (.aload_n 0, 1) := by decide +kernel
theorem d_Mo_send_24 : decode b_Mo_send 24 = .ok (.getfield 88, 3) := by decide +kernel
theorem d_Mo_send_27 : decode b_Mo_send 27 = .ok (.imul, 1) := by decide +kernel
theorem d_Mo_send_28 : decode b_Mo_send 28 = .ok (.istore 8, 2) := by decide +kernel
theorem d_Mo_send_30 : decode b_Mo_send 30 = .ok (.aload_n 0, 1) := by decide +kernel
theorem d_Mo_send_31 : decode b_Mo_send 31 = .ok (.getfield 74, 3) := by decide +kernel
theorem d_Mo_send_34 : decode b_Mo_send 34 = .ok (.iload 8, 2) := by decide +kernel
theorem d_Mo_send_36 : decode b_Mo_send 36 = .ok (.iload_n 1, 1) := by decide +kernel
theorem d_Mo_send_37 : decode b_Mo_send 37 = .ok (.iastore, 1) := by decide +kernel
theorem d_Mo_send_38 : decode b_Mo_send 38 = .ok (.aload_n 0, 1) := by decide +kernel
theorem d_Mo_send_39 : decode b_Mo_send 39 = .ok (.getfield 74, 3) := by decide +kernel
theorem d_Mo_send_42 : decode b_Mo_send 42 = .ok (.iload 8, 2) := by decide +kernel
theorem d_Mo_send_44 : decode b_Mo_send 44 = .ok (.iconst 1, 1) := by decide +kernel
theorem d_Mo_send_45 : decode b_Mo_send 45 = .ok (.iadd, 1) := by decide +kernel
theorem d_Mo_send_46 : decode b_Mo_send 46 = .ok (.iload_n 2, 1) := by decide +kernel
theorem d_Mo_send_47 : decode b_Mo_send 47 = .ok (.iastore, 1) := by decide +kernel
theorem d_Mo_send_48 : decode b_Mo_send 48 = .ok (.aload_n 0, 1) := by decide +kernel
theorem d_Mo_send_49 : decode b_Mo_send 49 = .ok (.getfield 74, 3) := by decide +kernel
theorem d_Mo_send_52 : decode b_Mo_send 52 = .ok (.iload 8, 2) := by decide +kernel
theorem d_Mo_send_54 : decode b_Mo_send 54 = .ok (.iconst 2, 1) := by decide +kernel
theorem d_Mo_send_55 : decode b_Mo_send 55 = .ok (.iadd, 1) := by decide +kernel
theorem d_Mo_send_56 : decode b_Mo_send 56 = .ok (.iload_n 3, 1) := by decide +kernel
theorem d_Mo_send_57 : decode b_Mo_send 57 = .ok (.iastore, 1) := by decide +kernel
theorem d_Mo_send_58 : decode b_Mo_send 58 = .ok (.aload_n 0, 1) := by decide +kernel
theorem d_Mo_send_59 : decode b_Mo_send 59 = .ok (.getfield 74, 3) := by decide +kernel
theorem d_Mo_send_62 : decode b_Mo_send 62 = .ok (.iload 8, 2) := by decide +kernel
theorem d_Mo_send_64 : decode b_Mo_send 64 = .ok (.iconst 3, 1) := by decide +kernel
theorem d_Mo_send_65 : decode b_Mo_send 65 = .ok (.iadd, 1) := by decide +kernel
theorem d_Mo_send_66 : decode b_Mo_send 66 = .ok (.iload 4, 2) := by decide +kernel
theorem d_Mo_send_68 : decode b_Mo_send 68 = .ok (.iastore, 1) := by decide +kernel
theorem d_Mo_send_69 : decode b_Mo_send 69 = .ok (.aload_n 0, 1) := by decide +kernel
theorem d_Mo_send_70 : decode b_Mo_send 70 = .ok (.getfield 74, 3) := by decide +kernel
theorem d_Mo_send_73 : decode b_Mo_send 73 = .ok (.iload 8, 2) := by decide +kernel
theorem d_Mo_send_75 : decode b_Mo_send 75 = .ok (.iconst 4, 1) := by decide +kernel
theorem d_Mo_send_76 : decode b_Mo_send 76 = .ok (.iadd, 1) := by decide +kernel
theorem d_Mo_send_77 : decode b_Mo_send 77 = .ok (.iload 5, 2) := by decide +kernel
theorem d_Mo_send_79 : decode b_Mo_send 79 = .ok (.iastore, 1) := by decide +kernel
theorem d_Mo_send_80 : decode b_Mo_send 80 = .ok (.aload_n 0, 1) := by decide +kernel
theorem d_Mo_send_81 : decode b_Mo_send 81 = .ok (.getfield 74, 3) := by decide +kernel
theorem d_Mo_send_84 : decode b_Mo_send 84 = .ok (.iload 8, 2) := by decide +kernel
theorem d_Mo_send_86 : decode b_Mo_send 86 = .ok (.iconst 5, 1) := by decide +kernel
theorem d_Mo_send_87 : decode b_Mo_send 87 = .ok (.iadd, 1) := by decide +kernel
theorem d_Mo_send_88 : decode b_Mo_send 88 = .ok (.iload 6, 2) := by decide +kernel
theorem d_Mo_send_90 : decode b_Mo_send 90 = .ok (.iastore, 1) := by decide +kernel
theorem d_Mo_send_91 : decode b_Mo_send 91 = .ok (.aload_n 0, 1) := by decide +kernel
theorem d_Mo_send_92 : decode b_Mo_send 92 = .ok (.getfield 74, 3) := by decide +kernel
theorem d_Mo_send_95 : decode b_Mo_send 95 = .ok (.iload 8, 2) := by decide +kernel
theorem d_Mo_send_97 : decode b_Mo_send 97 = .ok (.bipush 6, 2) := by decide +kernel
theorem d_Mo_send_99 : decode b_Mo_send 99 = .ok (.iadd, 1) := by decide +kernel
theorem d_Mo_send_100 : decode b_Mo_send 100 = .ok (.iload 7, 2) := by decide +kernel
theorem d_Mo_send_102 : decode b_Mo_send 102 = .ok (.iastore, 1) := by decide +kernel
theorem d_Mo_send_103 : decode b_Mo_send 103 = .ok (.aload_n 0, 1) := by decide +kernel
theorem d_Mo_send_104 : decode b_Mo_send 104 = .ok (.dup, 1) := by decide +kernel
theorem d_Mo_send_105 : decode b_Mo_send 105 = .ok (.getfield 88, 3) := by decide +kernel
theorem d_Mo_send_108 : decode b_Mo_send 108 = .ok (.iconst 1, 1) := by decide +kernel
theorem d_Mo_send_109 : decode b_Mo_send 109 = .ok (.iadd, 1) := by decide +kernel
theorem d_Mo_send_110 : decode b_Mo_send 110 = .ok (.putfield 88, 3) := by decide +kernel
theorem d_Mo_send_113 : decode b_Mo_send 113 = .ok (.iconst 1, 1) := by decide +kernel
theorem d_Mo_send_114 : decode b_Mo_send 114 = .ok (.ireturn, 1) := by decide +kernel
theorem d_Mo_state_0 : decode b_Mo_state 0 = .ok (.aload_n 0, 1) := by decide +kernel
theorem d_Mo_state_1 : decode b_Mo_state 1 = .ok (.iconst 0, 1) := by decide +kernel
theorem d_Mo_state_2 : decode b_Mo_state 2 = .ok (.putfield 85, 3) := by decide +kernel
theorem d_Mo_state_5 : decode b_Mo_state 5 = .ok (.aload_n 0, 1) := by decide +kernel
theorem d_Mo_state_6 : decode b_Mo_state 6 = .ok (.iload_n 1, 1) := by decide +kernel
theorem d_Mo_state_7 : decode b_Mo_state 7 = .ok (.bipush 8, 2) := by decide +kernel
theorem d_Mo_state_9 : decode b_Mo_state 9 = .ok (.invokevirtual 109, 3) := by decide +kernel
theorem d_Mo_state_12 : decode b_Mo_state 12 = .ok (.ifCond .ne 12, 3) := by decide +kernel
theorem d_Mo_state_15 : decode b_Mo_state 15 = .ok (.aload_n 0, 1) := by decide +kernel
theorem d_Mo_state_16 : decode b_Mo_state 16 = .ok (.iload_n 2, 1) := by decide +kernel
theorem d_Mo_state_17 : decode b_Mo_state 17 = .ok (.iconst 3, 1) := by decide +kernel
theorem d_Mo_state_18 : decode b_Mo_state 18 = .ok (.invokevirtual 109, 3) := by decide +kernel
theorem d_Mo_state_21 : decode b_Mo_state 21 = .ok (.ifCond .eq 9, 3) := by decide +kernel
theorem d_Mo_state_24 : decode b_Mo_state 24 = .ok (.aload_n 0, 1) := by decide +kernel
theorem d_Mo_state_25 : decode b_Mo_state 25 = .ok (.iconst 1, 1) := by decide +kernel
theorem d_Mo_state_26 : decode b_Mo_state 26 = .ok (.invokevirtual 105, 3) := by decide +kernel
theorem d_Mo_state_29 : decode b_Mo_state 29 = .ok (.ireturn, 1) := by decide +kernel
theorem d_Mo_state_30 : decode b_Mo_state 30 = .ok (.iload_n 1, 1) := by decide +kernel
theorem d_Mo_state_31 : decode b_Mo_state 31 = .ok (.aload_n 0, 1) := by decide +kernel
theorem d_Mo_state_32 : decode b_Mo_state 32 = .ok (.getfield 102, 3) := by decide +kernel
theorem d_Mo_state_35 : decode b_Mo_state 35 = .ok (.if_icmp .lt 11, 3) := by decide +kernel
theorem d_Mo_state_38 : decode b_Mo_state 38 = .ok (.aload_n 0, 1) := by decide +kernel
theorem d_Mo_state_39 : decode b_Mo_state 39 = .ok (.iconst 2, 1) := by decide +kernel
theorem d_Mo_state_40 : decode b_Mo_state 40 = .ok (.invokevirtual 105, 3) := by decide +kernel
theorem d_Mo_state_43 : decode b_Mo_state 43 = .ok (.goto 13, 3) := by decide +kernel
theorem d_Mo_state_46 : decode b_Mo_state 46 = .ok (.aload_n 0, 1) := by decide +kernel
theorem d_Mo_state_47 : decode b_Mo_state 47 = .ok (.getfield 32, 3) := by decide +kernel
theorem d_Mo_state_50 : decode b_Mo_state 50 = .ok (.iconst 3, 1) := by decide +kernel
theorem d_Mo_state_51 : decode b_Mo_state 51 = .ok (.iload_n 1, 1) := by decide +kernel
theorem d_Mo_state_52 : decode b_Mo_state 52 = .ok (.imul, 1) := by decide +kernel
theorem d_Mo_state_53 : decode b_Mo_state 53 = .ok (.iload_n 2, 1) := by decide +kernel
theorem d_Mo_state_54 : decode b_Mo_state 54 = .ok (.iadd, 1) := by decide +kernel
theorem d_Mo_state_55 : decode b_Mo_state 55 = .ok (.iaload, 1) := by decide +kernel
theorem d_Mo_state_56 : decode b_Mo_state 56 = .ok (.ireturn, 1) := by decide +kernel
theorem d_Mo_take_0 : decode b_Mo_take 0 = .ok (.aload_n 0, 1) := by decide +kernel
theorem d_Mo_take_1 : decode b_Mo_take 1 = .ok (.iconst 0, 1) := by decide +kernel
theorem d_Mo_take_2 : decode b_Mo_take 2 = .ok (.putfield 85, 3) := by decide +kernel
theorem d_Mo_take_5 : decode b_Mo_take 5 = .ok (.aload_n 0, 1) := by decide +kernel
theorem d_Mo_take_6 : decode b_Mo_take 6 = .ok (.iload_n 1, 1) := by decide +kernel
theorem d_Mo_take_7 : decode b_Mo_take 7 = .ok (.iconst 2, 1) := by decide +kernel
theorem d_Mo_take_8 : decode b_Mo_take 8 = .ok (.invokevirtual 109, 3) := by decide +kernel
theorem d_Mo_take_11 : decode b_Mo_take 11 = .ok (.ifCond .ne 13, 3) := by decide +kernel
theorem d_Mo_take_14 : decode b_Mo_take 14 = .ok (.aload_n 0, 1) := by decide +kernel
theorem d_Mo_take_15 : decode b_Mo_take 15 = .ok (.iload_n 2, 1) := by decide +kernel
theorem d_Mo_take_16 : decode b_Mo_take 16 = .ok (.bipush 8, 2) := by decide +kernel
theorem d_Mo_take_18 : decode b_Mo_take 18 = .ok (.invokevirtual 109, 3) := by decide +kernel
theorem d_Mo_take_21 : decode b_Mo_take 21 = .ok (.ifCond .eq 9, 3) := by decide +kernel
theorem d_Mo_take_24 : decode b_Mo_take 24 = .ok (.aload_n 0, 1) := by decide +kernel
theorem d_Mo_take_25 : decode b_Mo_take 25 = .ok (.iconst 1, 1) := by decide +kernel
theorem d_Mo_take_26 : decode b_Mo_take 26 = .ok (.invokevirtual 105, 3) := by decide +kernel
theorem d_Mo_take_29 : decode b_Mo_take 29 = .ok (.ireturn, 1) := by decide +kernel
theorem d_Mo_take_30 : decode b_Mo_take 30 = .ok (.iload_n 2, 1) := by decide +kernel
theorem d_Mo_take_31 : decode b_Mo_take 31 = .ok (.aload_n 0, 1) := by decide +kernel
theorem d_Mo_take_32 : decode b_Mo_take 32 = .ok (.getfield 102, 3) := by decide +kernel
theorem d_Mo_take_35 : decode b_Mo_take 35 = .ok (.if_icmp .lt 9, 3) := by decide +kernel
theorem d_Mo_take_38 : decode b_Mo_take 38 = .ok (.aload_n 0, 1) := by decide +kernel
theorem d_Mo_take_39 : decode b_Mo_take 39 = .ok (.iconst 2, 1) := by decide +kernel
theorem d_Mo_take_40 : decode b_Mo_take 40 = .ok (.invokevirtual 105, 3) := by decide +kernel
theorem d_Mo_take_43 : decode b_Mo_take 43 = .ok (.ireturn, 1) := by decide +kernel
theorem d_Mo_take_44 : decode b_Mo_take 44 = .ok (.aload_n 0, 1) := by decide +kernel
theorem d_Mo_take_45 : decode b_Mo_take 45 = .ok (.getfield 16, 3) := by decide +kernel
theorem d_Mo_take_48 : decode b_Mo_take 48 = .ok (.iload_n 1, 1) := by decide +kernel
theorem d_Mo_take_49 : decode b_Mo_take 49 = .ok (.baload, 1) := by decide +kernel
theorem d_Mo_take_50 : decode b_Mo_take 50 = .ok (.ifCond .eq 9, 3) := by decide +kernel
theorem d_Mo_take_53 : decode b_Mo_take 53 = .ok (.aload_n 0, 1) := by decide +kernel
theorem d_Mo_take_54 : decode b_Mo_take 54 = .ok (.iconst 3, 1) := by decide +kernel
theorem d_Mo_take_55 : decode b_Mo_take 55 = .ok (.invokevirtual 105, 3) := by decide +kernel
theorem d_Mo_take_58 : decode b_Mo_take 58 = .ok (.ireturn, 1) := by decide +kernel
theorem d_Mo_take_59 : decode b_Mo_take 59 = .ok (.aload_n 0, 1) := by decide +kernel
theorem d_Mo_take_60 : decode b_Mo_take 60 = .ok (.getfield 29, 3) := by decide +kernel
theorem d_Mo_take_63 : decode b_Mo_take 63 = .ok (.iload_n 2, 1) := by decide +kernel
theorem d_Mo_take_64 : decode b_Mo_take 64 = .ok (.baload, 1) := by decide +kernel
theorem d_Mo_take_65 : decode b_Mo_take 65 = .ok (.ifCond .ne 9, 3) := by decide +kernel
theorem d_Mo_take_68 : decode b_Mo_take 68 = .ok (.aload_n 0, 1) := by decide +kernel
theorem d_Mo_take_69 : decode b_Mo_take 69 = .ok (.iconst 4, 1) := by decide +kernel
theorem d_Mo_take_70 : decode b_Mo_take 70 = .ok (.invokevirtual 105, 3) := by decide +kernel
theorem d_Mo_take_73 : decode b_Mo_take 73 = .ok (.ireturn, 1) := by decide +kernel
theorem d_Mo_take_74 : decode b_Mo_take 74 = .ok (.bipush 8, 2) := by decide +kernel
theorem d_Mo_take_76 : decode b_Mo_take 76 = .ok (.iload_n 1, 1) := by decide +kernel
theorem d_Mo_take_77 : decode b_Mo_take 77 = .ok (.imul, 1) := by decide +kernel
theorem d_Mo_take_78 : decode b_Mo_take 78 = .ok (.iload_n 2, 1) := by decide +kernel
theorem d_Mo_take_79 : decode b_Mo_take 79 = .ok (.iadd, 1) := by decide +kernel
theorem d_Mo_take_80 : decode b_Mo_take 80 = .ok (.istore_n 3, 1) := by decide +kernel
theorem d_Mo_take_81 : decode b_Mo_take 81 = .ok (.aload_n 0, 1) := by decide +kernel
theorem d_Mo_take_82 : decode b_Mo_take 82 = .ok (.getfield 50, 3) := by decide +kernel
theorem d_Mo_take_85 : decode b_Mo_take 85 = .ok (.iload_n 3, 1) := by decide +kernel
theorem d_Mo_take_86 : decode b_Mo_take 86 = .ok (.iaload, 1) := by decide +kernel
theorem d_Mo_take_87 : decode b_Mo_take 87 = .ok (.iconst 1, 1) := by decide +kernel
theorem d_Mo_take_88 : decode b_Mo_take 88 = .ok (.iadd, 1) := by decide +kernel
theorem d_Mo_take_89 : decode b_Mo_take 89 = .ok (.istore 4, 2) := by decide +kernel
theorem d_Mo_take_91 : decode b_Mo_take 91 = .ok (.iload 4, 2) := by decide +kernel
theorem d_Mo_take_93 : decode b_Mo_take 93 = .ok (.iconst 2, 1) := by decide +kernel
theorem d_Mo_take_94 : decode b_Mo_take 94 = .ok (.irem, 1) := by decide +kernel
theorem d_Mo_take_95 : decode b_Mo_take 95 = .ok (.iload_n 1, 1) := by decide +kernel
theorem d_Mo_take_96 : decode b_Mo_take 96 = .ok (.if_icmp .eq 6, 3) := by decide +kernel
theorem d_Mo_take_99 : decode b_Mo_take 99 = .ok (.iinc 4 1, 3) := by decide +kernel
theorem d_Mo_take_102 : decode b_Mo_take 102 = .ok (.aload_n 0, 1) := by decide +kernel
theorem d_Mo_take_103 : decode b_Mo_take 103 = .ok (.getfield 50, 3) := by decide +kernel
theorem d_Mo_take_106 : decode b_Mo_take 106 = .ok (.iload_n 3, 1) := by decide +kernel
theorem d_Mo_take_107 : decode b_Mo_take 107 = .ok (.iload 4, 2) := by decide +kernel
theorem d_Mo_take_109 : decode b_Mo_take 109 = .ok (.iastore, 1) := by decide +kernel
theorem d_Mo_take_110 : decode b_Mo_take 110 = .ok (.aload_n 0, 1) := by decide +kernel
theorem d_Mo_take_111 : decode b_Mo_take 111 = .ok (.getfield 53, 3) := by decide +kernel
theorem d_Mo_take_114 : decode b_Mo_take 114 = .ok (.iload_n 3, 1) := by decide +kernel
theorem d_Mo_take_115 : decode b_Mo_take 115 = .ok (.iconst 0, 1) := by decide +kernel
theorem d_Mo_take_116 : decode b_Mo_take 116 = .ok (.bastore, 1) := by decide +kernel
theorem d_Mo_take_117 : decode b_Mo_take 117 = .ok (.iconst 0, 1) := by decide +kernel
theorem d_Mo_take_118 : decode b_Mo_take 118 = .ok (.istore 5, 2) := by decide +kernel
theorem d_Mo_take_120 : decode b_Mo_take 120 = .ok (.iload 5, 2) := by decide +kernel
theorem d_Mo_take_122 : decode b_Mo_take 122 = .ok (.iconst 3, 1) := by decide +kernel
theorem d_Mo_take_123 : decode b_Mo_take 123 = .ok (.if_icmp .ge 21, 3) := by decide +kernel
theorem d_Mo_take_126 : decode b_Mo_take 126 = .ok (.aload_n 0, 1) := by decide +kernel
theorem d_Mo_take_127 : decode b_Mo_take 127 = .ok (.getfield 59, 3) := by decide +kernel
theorem d_Mo_take_130 : decode b_Mo_take 130 = .ok (.iconst 3, 1) := by decide +kernel
theorem d_Mo_take_131 : decode b_Mo_take 131 = .ok (.iload_n 3, 1) := by decide +kernel
theorem d_Mo_take_132 : decode b_Mo_take 132 = .ok (.imul, 1) := by decide +kernel
theorem d_Mo_take_133 : decode b_Mo_take 133 = .ok (.iload 5, 2) := by decide +kernel
theorem d_Mo_take_135 : decode b_Mo_take 135 = .ok (.iadd, 1) := by decide +kernel
theorem d_Mo_take_136 : decode b_Mo_take 136 = .ok (.iconst 0, 1) := by decide +kernel
theorem d_Mo_take_137 : decode b_Mo_take 137 = .ok (.bastore, 1) := by decide +kernel
theorem d_Mo_take_138 : decode b_Mo_take 138 = .ok (.iinc 5 1, 3) := by decide +kernel
theorem d_Mo_take_141 : decode b_Mo_take 141 = .ok (.goto (-21), 3) := by decide +kernel
theorem d_Mo_take_144 : decode b_Mo_take 144 = .ok (.iconst 0, 1) := by decide +kernel
theorem d_Mo_take_145 : decode b_Mo_take 145 = .ok (.istore 5, 2) := by decide +kernel
theorem d_Mo_take_147 : decode b_Mo_take 147 = .ok (.iload 5, 2) := by decide +kernel
theorem d_Mo_take_149 : decode b_Mo_take 149 = .ok (.aload_n 0, 1) := by decide +kernel
theorem d_Mo_take_150 : decode b_Mo_take 150 = .ok (.getfield 77, 3) := by decide +kernel
theorem d_Mo_take_153 : decode b_Mo_take 153 = .ok (.if_icmp .ge 25, 3) := by decide +kernel
theorem d_Mo_take_156 : decode b_Mo_take 156 = .ok (.aload_n 0, 1) := by decide +kernel
theorem d_Mo_take_157 : decode b_Mo_take 157 = .ok (.bipush 65, 2) := by decide +kernel
theorem d_Mo_take_159 : decode b_Mo_take 159 = .ok (.iload_n 2, 1) := by decide +kernel
theorem d_Mo_take_160 : decode b_Mo_take 160 = .ok (.iconst (-1), 1) := by decide +kernel
theorem d_Mo_take_161 : decode b_Mo_take 161 = .ok (.iload 5, 2) := by decide +kernel
theorem d_Mo_take_163 : decode b_Mo_take 163 = .ok (.iconst (-1), 1) := by decide +kernel
theorem d_Mo_take_164 : decode b_Mo_take 164 = .ok (.iload 4, 2) := by decide +kernel
theorem d_Mo_take_166 : decode b_Mo_take 166 = .ok (.iconst (-1), 1) := by decide +kernel
theorem d_Mo_take_167 : decode b_Mo_take 167 = .ok (.invokevirtual 94, 3) := by decide +kernel
theorem d_Mo_take_170 : decode b_Mo_take 170 = .ok (.istore 6, 2) := by decide +kernel
theorem d_Mo_take_172 : decode b_Mo_take 172 = .ok (.iinc 5 1, 3) := by decide +kernel
theorem d_Mo_take_175 : decode b_Mo_take 175 = .ok (.goto (-28), 3) := by decide +kernel
theorem d_Mo_take_178 : decode b_Mo_take 178 = .ok (.iload 4, 2) := by decide +kernel
theorem d_Mo_take_180 : decode b_Mo_take 180 = .ok (.ireturn, 1) := by decide +kernel
theorem d_Mo_takeOut_0 : decode b_Mo_takeOut 0 = .ok (.iconst 0, 1) := by decide +kernel
theorem d_Mo_takeOut_1 : decode b_Mo_takeOut 1 = .ok (.istore_n 3, 1) := by decide +kernel
theorem d_Mo_takeOut_2 : decode b_Mo_takeOut 2 = .ok (.iload_n 3, 1) := by decide +kernel
theorem d_Mo_takeOut_3 : decode b_Mo_takeOut 3 = .ok (.bipush 13, 2) := by decide +kernel
theorem d_Mo_takeOut_5 : decode b_Mo_takeOut 5 = .ok (.if_icmp .ge 30, 3) := by decide +kernel
theorem d_Mo_takeOut_8 : decode b_Mo_takeOut 8 = .ok (.aload_n 0, 1) := by decide +kernel
theorem d_Mo_takeOut_9 : decode b_Mo_takeOut 9 = .ok (.getfield 74, 3) := by decide +kernel
theorem d_Mo_takeOut_12 : decode b_Mo_takeOut 12 = .ok (.sipush 780, 3) := by decide +kernel
theorem d_Mo_takeOut_15 : decode b_Mo_takeOut 15 = .ok (.iload_n 3, 1) := by decide +kernel
theorem d_Mo_takeOut_16 : decode b_Mo_takeOut 16 = .ok (.iadd, 1) := by decide +kernel
theorem d_Mo_takeOut_17 : decode b_Mo_takeOut 17 = .ok (.aload_n 0, 1) := by decide +kernel
theorem d_Mo_takeOut_18 : decode b_Mo_takeOut 18 = .ok (.getfield 74, 3) := by decide +kernel
theorem d_Mo_takeOut_21 : decode b_Mo_takeOut 21 = .ok (.bipush 13, 2) := by decide +kernel
theorem d_Mo_takeOut_23 : decode b_Mo_takeOut 23 = .ok (.iload_n 1, 1) := by decide +kernel
theorem d_Mo_takeOut_24 : decode b_Mo_takeOut 24 = .ok (.imul, 1) := by decide +kernel
theorem d_Mo_takeOut_25 : decode b_Mo_takeOut 25 = .ok (.iload_n 3, 1) := by decide +kernel
theorem d_Mo_takeOut_26 : decode b_Mo_takeOut 26 = .ok (.iadd, 1) := by decide +kernel
theorem d_Mo_takeOut_27 : decode b_Mo_takeOut 27 = .ok (.iaload, 1) := by decide +kernel
theorem d_Mo_takeOut_28 : decode b_Mo_takeOut 28 = .ok (.iastore, 1) := by decide +kernel
theorem d_Mo_takeOut_29 : decode b_Mo_takeOut 29 = .ok (.iinc 3 1, 3) := by decide +kernel
theorem d_Mo_takeOut_32 : decode b_Mo_takeOut 32 = .ok (.goto (-30), 3) := by decide +kernel
theorem d_Mo_takeOut_35 : decode b_Mo_takeOut 35 = .ok (.iload_n 2, 1) := by decide +kernel
theorem d_Mo_takeOut_36 : decode b_Mo_takeOut 36 = .ok (.ifCond .eq 4, 3) := by decide +kernel
theorem d_Mo_takeOut_39 : decode b_Mo_takeOut 39 = .ok (.return_, 1) := by decide +kernel
theorem d_Mo_takeOut_40 : decode b_Mo_takeOut 40 = .ok (.aload_n 0, 1) := by decide +kernel
theorem d_Mo_takeOut_41 : decode b_Mo_takeOut 41 = .ok (.dup, 1) := by decide +kernel
theorem d_Mo_takeOut_42 : decode b_Mo_takeOut 42 = .ok (.getfield 88, 3) := by decide +kernel
theorem d_Mo_takeOut_45 : decode b_Mo_takeOut 45 = .ok (.iconst 1, 1) := by decide +kernel
theorem d_Mo_takeOut_46 : decode b_Mo_takeOut 46 = .ok (.isub, 1) := by decide +kernel
theorem d_Mo_takeOut_47 : decode b_Mo_takeOut 47 = .ok (.putfield 88, 3) := by decide +kernel
theorem d_Mo_takeOut_50 : decode b_Mo_takeOut 50 = .ok (.bipush 13, 2) := by decide +kernel
theorem d_Mo_takeOut_52 : decode b_Mo_takeOut 52 = .ok (.iload_n 1, 1) := by decide +kernel
theorem d_Mo_takeOut_53 : decode b_Mo_takeOut 53 = .ok (.imul, 1) := by decide +kernel
theorem d_Mo_takeOut_54 : decode b_Mo_takeOut 54 = .ok (.istore_n 3, 1) := by decide +kernel
theorem d_Mo_takeOut_55 : decode b_Mo_takeOut 55 = .ok (.iload_n 3, 1) := by decide +kernel
theorem d_Mo_takeOut_56 : decode b_Mo_takeOut 56 = .ok (.bipush 13, 2) := by decide +kernel
theorem d_Mo_takeOut_58 : decode b_Mo_takeOut 58 = .ok (.aload_n 0, 1) := by decide +kernel
theorem d_Mo_takeOut_59 : decode b_Mo_takeOut 59 = .ok (.getfield 88, 3) := by decide +kernel
theorem d_Mo_takeOut_62 : decode b_Mo_takeOut 62 = .ok (.imul, 1) := by decide +kernel
theorem d_Mo_takeOut_63 : decode b_Mo_takeOut 63 = .ok (.if_icmp .ge 24, 3) := by decide +kernel
theorem d_Mo_takeOut_66 : decode b_Mo_takeOut 66 = .ok (.aload_n 0, 1) := by decide +kernel
theorem d_Mo_takeOut_67 : decode b_Mo_takeOut 67 = .ok (.getfield 74, 3) := by decide +kernel
theorem d_Mo_takeOut_70 : decode b_Mo_takeOut 70 = .ok (.iload_n 3, 1) := by decide +kernel
theorem d_Mo_takeOut_71 : decode b_Mo_takeOut 71 = .ok (.aload_n 0, 1) := by decide +kernel
theorem d_Mo_takeOut_72 : decode b_Mo_takeOut 72 = .ok (.getfield 74, 3) := by decide +kernel
theorem d_Mo_takeOut_75 : decode b_Mo_takeOut 75 = .ok (.iload_n 3, 1) := by decide +kernel
theorem d_Mo_takeOut_76 : decode b_Mo_takeOut 76 = .ok (.bipush 13, 2) := by decide +kernel
theorem d_Mo_takeOut_78 : decode b_Mo_takeOut 78 = .ok (.iadd, 1) := by decide +kernel
theorem d_Mo_takeOut_79 : decode b_Mo_takeOut 79 = .ok (.iaload, 1) := by decide +kernel
theorem d_Mo_takeOut_80 : decode b_Mo_takeOut 80 = .ok (.iastore, 1) := by decide +kernel
theorem d_Mo_takeOut_81 : decode b_Mo_takeOut 81 = .ok (.iinc 3 1, 3) := by decide +kernel
theorem d_Mo_takeOut_84 : decode b_Mo_takeOut 84 = .ok (.goto (-29), 3) := by decide +kernel
theorem d_Mo_takeOut_87 : decode b_Mo_takeOut 87 = .ok (.return_, 1) := by decide +kernel
theorem d_Mo_taken_0 : decode b_Mo_taken 0 = .ok (.aload_n 0, 1) := by decide +kernel
theorem d_Mo_taken_1 : decode b_Mo_taken 1 = .ok (.iconst 0, 1) := by decide +kernel
theorem d_Mo_taken_2 : decode b_Mo_taken 2 = .ok (.putfield 85, 3) := by decide +kernel
theorem d_Mo_taken_5 : decode b_Mo_taken 5 = .ok (.aload_n 0, 1) := by decide +kernel
theorem d_Mo_taken_6 : decode b_Mo_taken 6 = .ok (.iload_n 1, 1) := by decide +kernel
theorem d_Mo_taken_7 : decode b_Mo_taken 7 = .ok (.aload_n 0, 1) := by decide +kernel
theorem d_Mo_taken_8 : decode b_Mo_taken 8 = .ok (.getfield 77, 3) := by decide +kernel
theorem d_Mo_taken_11 : decode b_Mo_taken 11 = .ok (.invokevirtual 109, 3) := by decide +kernel
theorem d_Mo_taken_14 : decode b_Mo_taken 14 = .ok (.ifCond .ne 22, 3) := by decide +kernel
theorem d_Mo_taken_17 : decode b_Mo_taken 17 = .ok (.aload_n 0, 1) := by decide +kernel
theorem d_Mo_taken_18 : decode b_Mo_taken 18 = .ok (.iload_n 2, 1) := by decide +kernel
theorem d_Mo_taken_19 : decode b_Mo_taken 19 = .ok (.bipush 8, 2) := by decide +kernel
theorem d_Mo_taken_21 : decode b_Mo_taken 21 = .ok (.invokevirtual 109, 3) := by decide +kernel
theorem d_Mo_taken_24 : decode b_Mo_taken 24 = .ok (.ifCond .ne 12, 3) := by decide +kernel
theorem d_Mo_taken_27 : decode b_Mo_taken 27 = .ok (.aload_n 0, 1) := by decide +kernel
theorem d_Mo_taken_28 : decode b_Mo_taken 28 = .ok (.iload_n 3, 1) := by decide +kernel
theorem d_Mo_taken_29 : decode b_Mo_taken 29 = .ok (.iconst 3, 1) := by decide +kernel
theorem d_Mo_taken_30 : decode b_Mo_taken 30 = .ok (.invokevirtual 109, 3) := by decide +kernel
theorem d_Mo_taken_33 : decode b_Mo_taken 33 = .ok (.ifCond .eq 9, 3) := by decide +kernel
theorem d_Mo_taken_36 : decode b_Mo_taken 36 = .ok (.aload_n 0, 1) := by decide +kernel
theorem d_Mo_taken_37 : decode b_Mo_taken 37 = .ok (.iconst 1, 1) := by decide +kernel
theorem d_Mo_taken_38 : decode b_Mo_taken 38 = .ok (.invokevirtual 105, 3) := by decide +kernel
theorem d_Mo_taken_41 : decode b_Mo_taken 41 = .ok (.ireturn, 1) := by decide +kernel
theorem d_Mo_taken_42 : decode b_Mo_taken 42 = .ok (.iload_n 2, 1) := by decide +kernel
theorem d_Mo_taken_43 : decode b_Mo_taken 43 = .ok (.aload_n 0, 1) := by decide +kernel
theorem d_Mo_taken_44 : decode b_Mo_taken 44 = .ok (.getfield 102, 3) := by decide +kernel
theorem d_Mo_taken_47 : decode b_Mo_taken 47 = .ok (.if_icmp .lt 9, 3) := by decide +kernel
theorem d_Mo_taken_50 : decode b_Mo_taken 50 = .ok (.aload_n 0, 1) := by decide +kernel
theorem d_Mo_taken_51 : decode b_Mo_taken 51 = .ok (.iconst 2, 1) := by decide +kernel
theorem d_Mo_taken_52 : decode b_Mo_taken 52 = .ok (.invokevirtual 105, 3) := by decide +kernel
theorem d_Mo_taken_55 : decode b_Mo_taken 55 = .ok (.ireturn, 1) := by decide +kernel
theorem d_Mo_taken_56 : decode b_Mo_taken 56 = .ok (.bipush 24, 2) := by decide +kernel
theorem d_Mo_taken_58 : decode b_Mo_taken 58 = .ok (.iload_n 1, 1) := by decide +kernel
theorem d_Mo_taken_59 : decode b_Mo_taken 59 = .ok (.imul, 1) := by decide +kernel
theorem d_Mo_taken_60 : decode b_Mo_taken 60 = .ok (.iconst 3, 1) := by decide +kernel
theorem d_Mo_taken_61 : decode b_Mo_taken 61 = .ok (.iload_n 2, 1) := by decide +kernel
theorem d_Mo_taken_62 : decode b_Mo_taken 62 = .ok (.imul, 1) := by decide +kernel
theorem d_Mo_taken_63 : decode b_Mo_taken 63 = .ok (.iadd, 1) := by decide +kernel
theorem d_Mo_taken_64 : decode b_Mo_taken 64 = .ok (.iload_n 3, 1) := by decide +kernel
theorem d_Mo_taken_65 : decode b_Mo_taken 65 = .ok (.iadd, 1) := by decide +kernel
theorem d_Mo_taken_66 : decode b_Mo_taken 66 = .ok (.istore 5, 2) := by decide +kernel
theorem d_Mo_taken_68 : decode b_Mo_taken 68 = .ok (.iload 4, 2) := by decide +kernel
theorem d_Mo_taken_70 : decode b_Mo_taken 70 = .ok (.ifCond .eq 11, 3) := by decide +kernel
theorem d_Mo_taken_73 : decode b_Mo_taken 73 = .ok (.aload_n 0, 1) := by decide +kernel
theorem d_Mo_taken_74 : decode b_Mo_taken 74 = .ok (.getfield 41, 3) := by decide +kernel
theorem d_Mo_taken_77 : decode b_Mo_taken 77 = .ok (.iload 5, 2) := by decide +kernel
theorem d_Mo_taken_79 : decode b_Mo_taken 79 = .ok (.iaload, 1) := by decide +kernel
theorem d_Mo_taken_80 : decode b_Mo_taken 80 = .ok (.ireturn, 1) := by decide +kernel
theorem d_Mo_taken_81 : decode b_Mo_taken 81 = .ok (.aload_n 0, 1) := by decide +kernel
theorem d_Mo_taken_82 : decode b_Mo_taken 82 = .ok (.getfield 44, 3) := by decide +kernel
theorem d_Mo_taken_85 : decode b_Mo_taken 85 = .ok (.iload 5, 2) := by decide +kernel
theorem d_Mo_taken_87 : decode b_Mo_taken 87 = .ok (.iaload, 1) := by decide +kernel
theorem d_Mo_taken_88 : decode b_Mo_taken 88 = .ok (.ifCond .ge 7, 3) := by decide +kernel
theorem d_Mo_taken_91 : decode b_Mo_taken 91 = .ok (.iconst (-1), 1) := by decide +kernel
theorem d_Mo_taken_92 : decode b_Mo_taken 92 = .ok (.goto 20, 3) := by decide +kernel
theorem d_Mo_taken_95 : decode b_Mo_taken 95 = .ok (.iconst 2, 1) := by decide +kernel
theorem d_Mo_taken_96 : decode b_Mo_taken 96 = .ok (.aload_n 0, 1) := by decide +kernel
theorem d_Mo_taken_97 : decode b_Mo_taken 97 = .ok (.getfield 44, 3) := by decide +kernel
theorem d_Mo_taken_100 : decode b_Mo_taken 100 = .ok (.iload 5, 2) := by decide +kernel
theorem d_Mo_taken_102 : decode b_Mo_taken 102 = .ok (.iaload, 1) := by decide +kernel
theorem d_Mo_taken_103 : decode b_Mo_taken 103 = .ok (.imul, 1) := by decide +kernel
theorem d_Mo_taken_104 : decode b_Mo_taken 104 = .ok (.aload_n 0, 1) := by decide +kernel
theorem d_Mo_taken_105 : decode b_Mo_taken 105 = .ok (.getfield 47, 3) := by decide +kernel
theorem d_Mo_taken_108 : decode b_Mo_taken 108 = .ok (.iload 5, 2) := by decide +kernel
theorem d_Mo_taken_110 : decode b_Mo_taken 110 = .ok (.iaload, 1) := by decide +kernel
theorem d_Mo_taken_111 : decode b_Mo_taken 111 = .ok (.iadd, 1) := by decide +kernel
theorem d_Mo_taken_112 : decode b_Mo_taken 112 = .ok (.ireturn, 1) := by decide +kernel
theorem d_Mo_text_0 : decode b_Mo_text 0 = .ok (.aload_n 0, 1) := by decide +kernel
theorem d_Mo_text_1 : decode b_Mo_text 1 = .ok (.iconst 0, 1) := by decide +kernel
theorem d_Mo_text_2 : decode b_Mo_text 2 = .ok (.putfield 85, 3) := by decide +kernel
theorem d_Mo_text_5 : decode b_Mo_text 5 = .ok (.iload_n 2, 1) := by decide +kernel
theorem d_Mo_text_6 : decode b_Mo_text 6 = .ok (.ifCond .ge 9, 3) := by decide +kernel
theorem d_Mo_text_9 : decode b_Mo_text 9 = .ok (.aload_n 0, 1) := by decide +kernel
theorem d_Mo_text_10 : decode b_Mo_text 10 = .ok (.iconst 1, 1) := by decide +kernel
theorem d_Mo_text_11 : decode b_Mo_text 11 = .ok (.invokevirtual 105, 3) := by decide +kernel
theorem d_Mo_text_14 : decode b_Mo_text 14 = .ok (.ireturn, 1) := by decide +kernel
theorem d_Mo_text_15 : decode b_Mo_text 15 = .ok (.aload_n 0, 1) := by decide +kernel
theorem d_Mo_text_16 : decode b_Mo_text 16 = .ok (.iload_n 1, 1) := by decide +kernel
theorem d_Mo_text_17 : decode b_Mo_text 17 = .ok (.aload_n 0, 1) := by decide +kernel
theorem d_Mo_text_18 : decode b_Mo_text 18 = .ok (.getfield 88, 3) := by decide +kernel
theorem d_Mo_text_21 : decode b_Mo_text 21 = .ok (.invokevirtual 109, 3) := by decide +kernel
theorem d_Mo_text_24 : decode b_Mo_text 24 = .ok (.ifCond .eq 9, 3) := by decide +kernel
theorem d_Mo_text_27 : decode b_Mo_text 27 = .ok (.aload_n 0, 1) := by decide +kernel
theorem d_Mo_text_28 : decode b_Mo_text 28 = .ok (.iconst 2, 1) := by decide +kernel
theorem d_Mo_text_29 : decode b_Mo_text 29 = .ok (.invokevirtual 105, 3) := by decide +kernel
theorem d_Mo_text_32 : decode b_Mo_text 32 = .ok (.ireturn, 1) := by decide +kernel
theorem d_Mo_text_33 : decode b_Mo_text 33 = .ok (.bipush 13, 2) := by decide +kernel
theorem d_Mo_text_35 : decode b_Mo_text 35 = .ok (.iload_n 1, 1) := by decide +kernel
theorem d_Mo_text_36 : decode b_Mo_text 36 = .ok (.imul, 1) := by decide +kernel
theorem d_Mo_text_37 : decode b_Mo_text 37 = .ok (.istore_n 3, 1) := by decide +kernel
theorem d_Mo_text_38 : decode b_Mo_text 38 = .ok (.aload_n 0, 1) := by decide +kernel
theorem d_Mo_text_39 : decode b_Mo_text 39 = .ok (.iload_n 2, 1) := by decide +kernel
theorem d_Mo_text_40 : decode b_Mo_text 40 = .ok (.aload_n 0, 1) := by decide +kernel
theorem d_Mo_text_41 : decode b_Mo_text 41 = .ok (.getfield 74, 3) := by decide +kernel
theorem d_Mo_text_44 : decode b_Mo_text 44 = .ok (.iload_n 3, 1) := by decide +kernel
theorem d_Mo_text_45 : decode b_Mo_text 45 = .ok (.iaload, 1) := by decide +kernel
theorem d_Mo_text_46 : decode b_Mo_text 46 = .ok (.invokevirtual 165, 3) := by decide +kernel
theorem d_Mo_text_49 : decode b_Mo_text 49 = .ok (.istore 4, 2) := by decide +kernel
theorem d_Mo_text_51 : decode b_Mo_text 51 = .ok (.aload_n 0, 1) := by decide +kernel
theorem d_Mo_text_52 : decode b_Mo_text 52 = .ok (.iload 4, 2) := by decide +kernel
theorem d_Mo_text_54 : decode b_Mo_text 54 = .ok (.bipush 116, 2) := by decide +kernel
theorem d_Mo_text_56 : decode b_Mo_text 56 = .ok (.aload_n 0, 1) := by decide +kernel
theorem d_Mo_text_57 : decode b_Mo_text 57 = .ok (.getfield 74, 3) := by decide +kernel
theorem d_Mo_text_60 : decode b_Mo_text 60 = .ok (.iload_n 3, 1) := by decide +kernel
theorem d_Mo_text_61 : decode b_Mo_text 61 = .ok (.iconst 1, 1) := by decide +kernel
theorem d_Mo_text_62 : decode b_Mo_text 62 = .ok (.iadd, 1) := by decide +kernel
theorem d_Mo_text_63 : decode b_Mo_text 63 = .ok (.iaload, 1) := by decide +kernel
theorem d_Mo_text_64 : decode b_Mo_text 64 = .ok (.invokevirtual 171, 3) := by decide +kernel
theorem d_Mo_text_67 : decode b_Mo_text 67 = .ok (.istore 4, 2) := by decide +kernel
theorem d_Mo_text_69 : decode b_Mo_text 69 = .ok (.aload_n 0, 1) := by decide +kernel
theorem d_Mo_text_70 : decode b_Mo_text 70 = .ok (.iload 4, 2) := by decide +kernel
theorem d_Mo_text_72 : decode b_Mo_text 72 = .ok (.bipush 115, 2) := by decide +kernel
theorem d_Mo_text_74 : decode b_Mo_text 74 = .ok (.aload_n 0, 1) := by decide +kernel
theorem d_Mo_text_75 : decode b_Mo_text 75 = .ok (.getfield 74, 3) := by decide +kernel
theorem d_Mo_text_78 : decode b_Mo_text 78 = .ok (.iload_n 3, 1) := by decide +kernel
theorem d_Mo_text_79 : decode b_Mo_text 79 = .ok (.iconst 2, 1) := by decide +kernel
theorem d_Mo_text_80 : decode b_Mo_text 80 = .ok (.iadd, 1) := by decide +kernel
theorem d_Mo_text_81 : decode b_Mo_text 81 = .ok (.iaload, 1) := by decide +kernel
theorem d_Mo_text_82 : decode b_Mo_text 82 = .ok (.invokevirtual 171, 3) := by decide +kernel
theorem d_Mo_text_85 : decode b_Mo_text 85 = .ok (.istore 4, 2) := by decide +kernel
theorem d_Mo_text_87 : decode b_Mo_text 87 = .ok (.aload_n 0, 1) := by decide +kernel
theorem d_Mo_text_88 : decode b_Mo_text 88 = .ok (.iload 4, 2) := by decide +kernel
theorem d_Mo_text_90 : decode b_Mo_text 90 = .ok (.bipush 97, 2) := by decide +kernel
theorem d_Mo_text_92 : decode b_Mo_text 92 = .ok (.aload_n 0, 1) := by decide +kernel
theorem d_Mo_text_93 : decode b_Mo_text 93 = .ok (.getfield 74, 3) := by decide +kernel
theorem d_Mo_text_96 : decode b_Mo_text 96 = .ok (.iload_n 3, 1) := by decide +kernel
theorem d_Mo_text_97 : decode b_Mo_text 97 = .ok (.iconst 3, 1) := by decide +kernel
theorem d_Mo_text_98 : decode b_Mo_text 98 = .ok (.iadd, 1) := by decide +kernel
theorem d_Mo_text_99 : decode b_Mo_text 99 = .ok (.iaload, 1) := by decide +kernel
theorem d_Mo_text_100 : decode b_Mo_text 100 = .ok (.invokevirtual 171, 3) := by decide +kernel
theorem d_Mo_text_103 : decode b_Mo_text 103 = .ok (.istore 4, 2) := by decide +kernel
theorem d_Mo_text_105 : decode b_Mo_text 105 = .ok (.aload_n 0, 1) := by decide +kernel
theorem d_Mo_text_106 : decode b_Mo_text 106 = .ok (.iload 4, 2) := by decide +kernel
theorem d_Mo_text_108 : decode b_Mo_text 108 = .ok (.bipush 108, 2) := by decide +kernel
theorem d_Mo_text_110 : decode b_Mo_text 110 = .ok (.aload_n 0, 1) := by decide +kernel
theorem d_Mo_text_111 : decode b_Mo_text 111 = .ok (.getfield 74, 3) := by decide +kernel
theorem d_Mo_text_114 : decode b_Mo_text 114 = .ok (.iload_n 3, 1) := by decide +kernel
theorem d_Mo_text_115 : decode b_Mo_text 115 = .ok (.iconst 4, 1) := by decide +kernel
theorem d_Mo_text_116 : decode b_Mo_text 116 = .ok (.iadd, 1) := by decide +kernel
theorem d_Mo_text_117 : decode b_Mo_text 117 = .ok (.iaload, 1) := by decide +kernel
theorem d_Mo_text_118 : decode b_Mo_text 118 = .ok (.invokevirtual 171, 3) := by decide +kernel
theorem d_Mo_text_121 : decode b_Mo_text 121 = .ok (.istore 4, 2) := by decide +kernel
theorem d_Mo_text_123 : decode b_Mo_text 123 = .ok (.aload_n 0, 1) := by decide +kernel
theorem d_Mo_text_124 : decode b_Mo_text 124 = .ok (.iload 4, 2) := by decide +kernel
theorem d_Mo_text_126 : decode b_Mo_text 126 = .ok (.bipush 98, 2) := by decide +kernel
theorem d_Mo_text_128 : decode b_Mo_text 128 = .ok (.aload_n 0, 1) := by decide +kernel
theorem d_Mo_text_129 : decode b_Mo_text 129 = .ok (.getfield 74, 3) := by decide +kernel
theorem d_Mo_text_132 : decode b_Mo_text 132 = .ok (.iload_n 3, 1) := by decide +kernel
theorem d_Mo_text_133 : decode b_Mo_text 133 = .ok (.iconst 5, 1) := by decide +kernel
theorem d_Mo_text_134 : decode b_Mo_text 134 = .ok (.iadd, 1) := by decide +kernel
theorem d_Mo_text_135 : decode b_Mo_text 135 = .ok (.iaload, 1) := by decide +kernel
theorem d_Mo_text_136 : decode b_Mo_text 136 = .ok (.invokevirtual 171, 3) := by decide +kernel
theorem d_Mo_text_139 : decode b_Mo_text 139 = .ok (.istore 4, 2) := by decide +kernel
theorem d_Mo_text_141 : decode b_Mo_text 141 = .ok (.aload_n 0, 1) := by decide +kernel
theorem d_Mo_text_142 : decode b_Mo_text 142 = .ok (.iload 4, 2) := by decide +kernel
theorem d_Mo_text_144 : decode b_Mo_text 144 = .ok (.aload_n 0, 1) := by decide +kernel
theorem d_Mo_text_145 : decode b_Mo_text 145 = .ok (.getfield 74, 3) := by decide +kernel
end
section
theorem d_Mo_text_148 : decode b_Mo_text 148 = .ok (.iload_n 3, 1) := by decide +kernel
theorem d_Mo_text_149 : decode b_Mo_text 149 = .ok (.bipush 6, 2) := by decide +kernel
theorem d_Mo_text_151 : decode b_Mo_text 151 = .ok (.iadd, 1) := by decide +kernel
theorem d_Mo_text_152 : decode b_Mo_text 152 = .ok (.iaload, 1) := by decide +kernel
theorem d_Mo_text_153 : decode b_Mo_text 153 = .ok (.invokevirtual 175, 3) := by decide +kernel
theorem d_Mo_text_156 : decode b_Mo_text 156 = .ok (.istore 4, 2) := by decide +kernel
theorem d_Mo_text_158 : decode b_Mo_text 158 = .ok (.iconst 0, 1) := by decide +kernel
theorem d_Mo_text_159 : decode b_Mo_text 159 = .ok (.istore 5, 2) := by decide +kernel
theorem d_Mo_text_161 : decode b_Mo_text 161 = .ok (.iload 5, 2) := by decide +kernel
theorem d_Mo_text_163 : decode b_Mo_text 163 = .ok (.iconst 3, 1) := by decide +kernel
theorem d_Mo_text_164 : decode b_Mo_text 164 = .ok (.if_icmp .ge 76, 3) := by decide +kernel
theorem d_Mo_text_167 : decode b_Mo_text 167 = .ok (.aload_n 0, 1) := by decide +kernel
theorem d_Mo_text_168 : decode b_Mo_text 168 = .ok (.getfield 74, 3) := by decide +kernel
theorem d_Mo_text_171 : decode b_Mo_text 171 = .ok (.iload_n 3, 1) := by decide +kernel
theorem d_Mo_text_172 : decode b_Mo_text 172 = .ok (.iaload, 1) := by decide +kernel
theorem d_Mo_text_173 : decode b_Mo_text 173 = .ok (.bipush 82, 2) := by decide +kernel
theorem d_Mo_text_175 : decode b_Mo_text 175 = .ok (.if_icmp .ne 65, 3) := by decide +kernel
theorem d_Mo_text_178 : decode b_Mo_text 178 = .ok (.aload_n 0, 1) := by decide +kernel
theorem d_Mo_text_179 : decode b_Mo_text 179 = .ok (.getfield 74, 3) := by decide +kernel
theorem d_Mo_text_182 : decode b_Mo_text 182 = .ok (.iload_n 3, 1) := by decide +kernel
theorem d_Mo_text_183 : decode b_Mo_text 183 = .ok (.bipush 7, 2) := by decide +kernel
theorem d_Mo_text_185 : decode b_Mo_text 185 = .ok (.iadd, 1) := by decide +kernel
theorem d_Mo_text_186 : decode b_Mo_text 186 = .ok (.iload 5, 2) := by decide +kernel
theorem d_Mo_text_188 : decode b_Mo_text 188 = .ok (.iadd, 1) := by decide +kernel
theorem d_Mo_text_189 : decode b_Mo_text 189 = .ok (.iaload, 1) := by decide +kernel
theorem d_Mo_text_190 : decode b_Mo_text 190 = .ok (.istore 6, 2) := by decide +kernel
theorem d_Mo_text_192 : decode b_Mo_text 192 = .ok (.iload 6, 2) := by decide +kernel
theorem d_Mo_text_194 : decode b_Mo_text 194 = .ok (.ifCond .ge 14, 3) := by decide +kernel
theorem d_Mo_text_197 : decode b_Mo_text 197 = .ok (.aload_n 0, 1) := by decide +kernel
theorem d_Mo_text_198 : decode b_Mo_text 198 = .ok (.iload 4, 2) := by decide +kernel
theorem d_Mo_text_200 : decode b_Mo_text 200 = .ok (.bipush 45, 2) := by decide +kernel
theorem d_Mo_text_202 : decode b_Mo_text 202 = .ok (.invokevirtual 165, 3) := by decide +kernel
theorem d_Mo_text_205 : decode b_Mo_text 205 = .ok (.goto 27, 3) := by decide +kernel
theorem d_Mo_text_208 : decode b_Mo_text 208 = .ok (.aload_n 0, 1) := by decide +kernel
theorem d_Mo_text_209 : decode b_Mo_text 209 = .ok (.aload_n 0, 1) := by decide +kernel
theorem d_Mo_text_210 : decode b_Mo_text 210 = .ok (.iload 4, 2) := by decide +kernel
theorem d_Mo_text_212 : decode b_Mo_text 212 = .ok (.iload 6, 2) := by decide +kernel
theorem d_Mo_text_214 : decode b_Mo_text 214 = .ok (.invokevirtual 168, 3) := by decide +kernel
theorem d_Mo_text_217 : decode b_Mo_text 217 = .ok (.aload_n 0, 1) := by decide +kernel
theorem d_Mo_text_218 : decode b_Mo_text 218 = .ok (.getfield 74, 3) := by decide +kernel
theorem d_Mo_text_221 : decode b_Mo_text 221 = .ok (.iload_n 3, 1) := by decide +kernel
theorem d_Mo_text_222 : decode b_Mo_text 222 = .ok (.bipush 10, 2) := by decide +kernel
theorem d_Mo_text_224 : decode b_Mo_text 224 = .ok (.iadd, 1) := by decide +kernel
theorem d_Mo_text_225 : decode b_Mo_text 225 = .ok (.iload 5, 2) := by decide +kernel
theorem d_Mo_text_227 : decode b_Mo_text 227 = .ok (.iadd, 1) := by decide +kernel
theorem d_Mo_text_228 : decode b_Mo_text 228 = .ok (.iaload, 1) := by decide +kernel
theorem d_Mo_text_229 : decode b_Mo_text 229 = .ok (.invokevirtual 175, 3) := by decide +kernel
theorem d_Mo_text_232 : decode b_Mo_text 232 = .ok (.istore 4, 2) := by decide +kernel
theorem d_Mo_text_234 : decode b_Mo_text 234 = .ok (.iinc 5 1, 3) := by decide +kernel
theorem d_Mo_text_237 : decode b_Mo_text 237 = .ok (.goto (-76), 3) := by decide +kernel
theorem d_Mo_text_240 : decode b_Mo_text 240 = .ok (.iload 4, 2) := by decide +kernel
theorem d_Mo_text_242 : decode b_Mo_text 242 = .ok (.ifCond .ge 11, 3) := by decide +kernel
theorem d_Mo_text_245 : decode b_Mo_text 245 = .ok (.iload 4, 2) := by decide +kernel
theorem d_Mo_text_247 : decode b_Mo_text 247 = .ok (.ineg, 1) := by decide +kernel
theorem d_Mo_text_248 : decode b_Mo_text 248 = .ok (.iconst 1, 1) := by decide +kernel
theorem d_Mo_text_249 : decode b_Mo_text 249 = .ok (.isub, 1) := by decide +kernel
theorem d_Mo_text_250 : decode b_Mo_text 250 = .ok (.goto 4, 3) := by decide +kernel
theorem d_Mo_text_253 : decode b_Mo_text 253 = .ok (.iconst (-1), 1) := by decide +kernel
theorem d_Mo_text_254 : decode b_Mo_text 254 = .ok (.ireturn, 1) := by decide +kernel
theorem d_Mo_thrown_0 : decode b_Mo_thrown 0 = .ok (.aload_n 0, 1) := by decide +kernel
theorem d_Mo_thrown_1 : decode b_Mo_thrown 1 = .ok (.getfield 85, 3) := by decide +kernel
theorem d_Mo_thrown_4 : decode b_Mo_thrown 4 = .ok (.ireturn, 1) := by decide +kernel
theorem d_Mo_told_0 : decode b_Mo_told 0 = .ok (.bipush 8, 2) := by decide +kernel
theorem d_Mo_told_2 : decode b_Mo_told 2 = .ok (.iload_n 1, 1) := by decide +kernel
theorem d_Mo_told_3 : decode b_Mo_told 3 = .ok (.imul, 1) := by decide +kernel
theorem d_Mo_told_4 : decode b_Mo_told 4 = .ok (.iload_n 2, 1) := by decide +kernel
theorem d_Mo_told_5 : decode b_Mo_told 5 = .ok (.iadd, 1) := by decide +kernel
theorem d_Mo_told_6 : decode b_Mo_told 6 = .ok (.istore 7, 2) := by decide +kernel
theorem d_Mo_told_8 : decode b_Mo_told 8 = .ok (.bipush 9, 2) := by decide +kernel
theorem d_Mo_told_10 : decode b_Mo_told 10 = .ok (.iload 7, 2) := by decide +kernel
theorem d_Mo_told_12 : decode b_Mo_told 12 = .ok (.imul, 1) := by decide +kernel
theorem d_Mo_told_13 : decode b_Mo_told 13 = .ok (.iconst 3, 1) := by decide +kernel
theorem d_Mo_told_14 : decode b_Mo_told 14 = .ok (.iload 4, 2) := by decide +kernel
theorem d_Mo_told_16 : decode b_Mo_told 16 = .ok (.imul, 1) := by decide +kernel
theorem d_Mo_told_17 : decode b_Mo_told 17 = .ok (.iadd, 1) := by decide +kernel
theorem d_Mo_told_18 : decode b_Mo_told 18 = .ok (.iload_n 3, 1) := by decide +kernel
theorem d_Mo_told_19 : decode b_Mo_told 19 = .ok (.iadd, 1) := by decide +kernel
theorem d_Mo_told_20 : decode b_Mo_told 20 = .ok (.istore 8, 2) := by decide +kernel
theorem d_Mo_told_22 : decode b_Mo_told 22 = .ok (.aload_n 0, 1) := by decide +kernel
theorem d_Mo_told_23 : decode b_Mo_told 23 = .ok (.getfield 68, 3) := by decide +kernel
theorem d_Mo_told_26 : decode b_Mo_told 26 = .ok (.iload 8, 2) := by decide +kernel
theorem d_Mo_told_28 : decode b_Mo_told 28 = .ok (.iaload, 1) := by decide +kernel
theorem d_Mo_told_29 : decode b_Mo_told 29 = .ok (.iload 5, 2) := by decide +kernel
theorem d_Mo_told_31 : decode b_Mo_told 31 = .ok (.if_icmp .ge 21, 3) := by decide +kernel
theorem d_Mo_told_34 : decode b_Mo_told 34 = .ok (.aload_n 0, 1) := by decide +kernel
theorem d_Mo_told_35 : decode b_Mo_told 35 = .ok (.getfield 68, 3) := by decide +kernel
theorem d_Mo_told_38 : decode b_Mo_told 38 = .ok (.iload 8, 2) := by decide +kernel
theorem d_Mo_told_40 : decode b_Mo_told 40 = .ok (.iload 5, 2) := by decide +kernel
theorem d_Mo_told_42 : decode b_Mo_told 42 = .ok (.iastore, 1) := by decide +kernel
theorem d_Mo_told_43 : decode b_Mo_told 43 = .ok (.aload_n 0, 1) := by decide +kernel
theorem d_Mo_told_44 : decode b_Mo_told 44 = .ok (.getfield 71, 3) := by decide +kernel
theorem d_Mo_told_47 : decode b_Mo_told 47 = .ok (.iload 8, 2) := by decide +kernel
theorem d_Mo_told_49 : decode b_Mo_told 49 = .ok (.iload 6, 2) := by decide +kernel
theorem d_Mo_told_51 : decode b_Mo_told 51 = .ok (.iastore, 1) := by decide +kernel
theorem d_Mo_told_52 : decode b_Mo_told 52 = .ok (.aload_n 0, 1) := by decide +kernel
theorem d_Mo_told_53 : decode b_Mo_told 53 = .ok (.getfield 56, 3) := by decide +kernel
theorem d_Mo_told_56 : decode b_Mo_told 56 = .ok (.iload 7, 2) := by decide +kernel
theorem d_Mo_told_58 : decode b_Mo_told 58 = .ok (.iaload, 1) := by decide +kernel
theorem d_Mo_told_59 : decode b_Mo_told 59 = .ok (.ifCond .lt 4, 3) := by decide +kernel
theorem d_Mo_told_62 : decode b_Mo_told 62 = .ok (.return_, 1) := by decide +kernel
theorem d_Mo_told_63 : decode b_Mo_told 63 = .ok (.iconst 1, 1) := by decide +kernel
theorem d_Mo_told_64 : decode b_Mo_told 64 = .ok (.istore 9, 2) := by decide +kernel
theorem d_Mo_told_66 : decode b_Mo_told 66 = .ok (.iconst 0, 1) := by decide +kernel
theorem d_Mo_told_67 : decode b_Mo_told 67 = .ok (.istore 10, 2) := by decide +kernel
theorem d_Mo_told_69 : decode b_Mo_told 69 = .ok (.iconst 0, 1) := by decide +kernel
theorem d_Mo_told_70 : decode b_Mo_told 70 = .ok (.istore 11, 2) := by decide +kernel
theorem d_Mo_told_72 : decode b_Mo_told 72 = .ok (.iload 11, 2) := by decide +kernel
theorem d_Mo_told_74 : decode b_Mo_told 74 = .ok (.iconst 3, 1) := by decide +kernel
theorem d_Mo_told_75 : decode b_Mo_told 75 = .ok (.if_icmp .ge 63, 3) := by decide +kernel
theorem d_Mo_told_78 : decode b_Mo_told 78 = .ok (.aload_n 0, 1) := by decide +kernel
theorem d_Mo_told_79 : decode b_Mo_told 79 = .ok (.iload_n 2, 1) := by decide +kernel
theorem d_Mo_told_80 : decode b_Mo_told 80 = .ok (.iload 11, 2) := by decide +kernel
theorem d_Mo_told_82 : decode b_Mo_told 82 = .ok (.invokevirtual 116, 3) := by decide +kernel
theorem d_Mo_told_85 : decode b_Mo_told 85 = .ok (.ifCond .ne 6, 3) := by decide +kernel
theorem d_Mo_told_88 : decode b_Mo_told 88 = .ok (.goto 44, 3) := by decide +kernel
theorem d_Mo_told_91 : decode b_Mo_told 91 = .ok (.aload_n 0, 1) := by decide +kernel
theorem d_Mo_told_92 : decode b_Mo_told 92 = .ok (.iload 7, 2) := by decide +kernel
theorem d_Mo_told_94 : decode b_Mo_told 94 = .ok (.iload 11, 2) := by decide +kernel
theorem d_Mo_told_96 : decode b_Mo_told 96 = .ok (.invokevirtual 134, 3) := by decide +kernel
theorem d_Mo_told_99 : decode b_Mo_told 99 = .ok (.istore 12, 2) := by decide +kernel
theorem d_Mo_told_101 : decode b_Mo_told 101 = .ok (.iload 10, 2) := by decide +kernel
theorem d_Mo_told_103 : decode b_Mo_told 103 = .ok (.iload 12, 2) := by decide +kernel
theorem d_Mo_told_105 : decode b_Mo_told 105 = .ok (.ifCond .ne 7, 3) := by decide +kernel
theorem d_Mo_told_108 : decode b_Mo_told 108 = .ok (.iconst 1, 1) := by decide +kernel
theorem d_Mo_told_109 : decode b_Mo_told 109 = .ok (.goto 4, 3) := by decide +kernel
theorem d_Mo_told_112 : decode b_Mo_told 112 = .ok (.iconst 0, 1) := by decide +kernel
theorem d_Mo_told_113 : decode b_Mo_told 113 = .ok (.ior, 1) := by decide +kernel
theorem d_Mo_told_114 : decode b_Mo_told 114 = .ok (.istore 10, 2) := by decide +kernel
theorem d_Mo_told_116 : decode b_Mo_told 116 = .ok (.iload 9, 2) := by decide +kernel
theorem d_Mo_told_118 : decode b_Mo_told 118 = .ok (.iload 12, 2) := by decide +kernel
theorem d_Mo_told_120 : decode b_Mo_told 120 = .ok (.iconst 1, 1) := by decide +kernel
theorem d_Mo_told_121 : decode b_Mo_told 121 = .ok (.if_icmp .ne 7, 3) := by decide +kernel
theorem d_Mo_told_124 : decode b_Mo_told 124 = .ok (.iconst 1, 1) := by decide +kernel
theorem d_Mo_told_125 : decode b_Mo_told 125 = .ok (.goto 4, 3) := by decide +kernel
theorem d_Mo_told_128 : decode b_Mo_told 128 = .ok (.iconst 0, 1) := by decide +kernel
theorem d_Mo_told_129 : decode b_Mo_told 129 = .ok (.iand, 1) := by decide +kernel
theorem d_Mo_told_130 : decode b_Mo_told 130 = .ok (.istore 9, 2) := by decide +kernel
theorem d_Mo_told_132 : decode b_Mo_told 132 = .ok (.iinc 11 1, 3) := by decide +kernel
theorem d_Mo_told_135 : decode b_Mo_told 135 = .ok (.goto (-63), 3) := by decide +kernel
theorem d_Mo_told_138 : decode b_Mo_told 138 = .ok (.iload 10, 2) := by decide +kernel
theorem d_Mo_told_140 : decode b_Mo_told 140 = .ok (.ifCond .ne 9, 3) := by decide +kernel
theorem d_Mo_told_143 : decode b_Mo_told 143 = .ok (.iload 9, 2) := by decide +kernel
theorem d_Mo_told_145 : decode b_Mo_told 145 = .ok (.ifCond .ne 4, 3) := by decide +kernel
theorem d_Mo_told_148 : decode b_Mo_told 148 = .ok (.return_, 1) := by decide +kernel
theorem d_Mo_told_149 : decode b_Mo_told 149 = .ok (.aload_n 0, 1) := by decide +kernel
theorem d_Mo_told_150 : decode b_Mo_told 150 = .ok (.getfield 56, 3) := by decide +kernel
theorem d_Mo_told_153 : decode b_Mo_told 153 = .ok (.iload 7, 2) := by decide +kernel
theorem d_Mo_told_155 : decode b_Mo_told 155 = .ok (.iload 10, 2) := by decide +kernel
theorem d_Mo_told_157 : decode b_Mo_told 157 = .ok (.ifCond .eq 7, 3) := by decide +kernel
theorem d_Mo_told_160 : decode b_Mo_told 160 = .ok (.iconst 1, 1) := by decide +kernel
theorem d_Mo_told_161 : decode b_Mo_told 161 = .ok (.goto 4, 3) := by decide +kernel
theorem d_Mo_told_164 : decode b_Mo_told 164 = .ok (.iconst 0, 1) := by decide +kernel
theorem d_Mo_told_165 : decode b_Mo_told 165 = .ok (.iastore, 1) := by decide +kernel
theorem d_Mo_told_166 : decode b_Mo_told 166 = .ok (.iconst 0, 1) := by decide +kernel
theorem d_Mo_told_167 : decode b_Mo_told 167 = .ok (.istore 11, 2) := by decide +kernel
theorem d_Mo_told_169 : decode b_Mo_told 169 = .ok (.iload 11, 2) := by decide +kernel
theorem d_Mo_told_171 : decode b_Mo_told 171 = .ok (.iconst 3, 1) := by decide +kernel
theorem d_Mo_told_172 : decode b_Mo_told 172 = .ok (.if_icmp .ge 43, 3) := by decide +kernel
theorem d_Mo_told_175 : decode b_Mo_told 175 = .ok (.aload_n 0, 1) := by decide +kernel
theorem d_Mo_told_176 : decode b_Mo_told 176 = .ok (.iload_n 2, 1) := by decide +kernel
theorem d_Mo_told_177 : decode b_Mo_told 177 = .ok (.iload 11, 2) := by decide +kernel
theorem d_Mo_told_179 : decode b_Mo_told 179 = .ok (.invokevirtual 116, 3) := by decide +kernel
theorem d_Mo_told_182 : decode b_Mo_told 182 = .ok (.ifCond .eq 27, 3) := by decide +kernel
theorem d_Mo_told_185 : decode b_Mo_told 185 = .ok (.aload_n 0, 1) := by decide +kernel
theorem d_Mo_told_186 : decode b_Mo_told 186 = .ok (.bipush 79, 2) := by decide +kernel
theorem d_Mo_told_188 : decode b_Mo_told 188 = .ok (.iload_n 2, 1) := by decide +kernel
theorem d_Mo_told_189 : decode b_Mo_told 189 = .ok (.iload 11, 2) := by decide +kernel
theorem d_Mo_told_191 : decode b_Mo_told 191 = .ok (.iconst (-1), 1) := by decide +kernel
theorem d_Mo_told_192 : decode b_Mo_told 192 = .ok (.iconst (-1), 1) := by decide +kernel
theorem d_Mo_told_193 : decode b_Mo_told 193 = .ok (.iconst (-1), 1) := by decide +kernel
theorem d_Mo_told_194 : decode b_Mo_told 194 = .ok (.iload 10, 2) := by decide +kernel
theorem d_Mo_told_196 : decode b_Mo_told 196 = .ok (.ifCond .eq 7, 3) := by decide +kernel
theorem d_Mo_told_199 : decode b_Mo_told 199 = .ok (.iconst 0, 1) := by decide +kernel
theorem d_Mo_told_200 : decode b_Mo_told 200 = .ok (.goto 4, 3) := by decide +kernel
theorem d_Mo_told_203 : decode b_Mo_told 203 = .ok (.iconst 1, 1) := by decide +kernel
theorem d_Mo_told_204 : decode b_Mo_told 204 = .ok (.invokevirtual 94, 3) := by decide +kernel
theorem d_Mo_told_207 : decode b_Mo_told 207 = .ok (.istore 12, 2) := by decide +kernel
theorem d_Mo_told_209 : decode b_Mo_told 209 = .ok (.iinc 11 1, 3) := by decide +kernel
theorem d_Mo_told_212 : decode b_Mo_told 212 = .ok (.goto (-43), 3) := by decide +kernel
theorem d_Mo_told_215 : decode b_Mo_told 215 = .ok (.return_, 1) := by decide +kernel
theorem d_Mo_unlock_0 : decode b_Mo_unlock 0 = .ok (.iconst 0, 1) := by decide +kernel
theorem d_Mo_unlock_1 : decode b_Mo_unlock 1 = .ok (.istore_n 3, 1) := by decide +kernel
theorem d_Mo_unlock_2 : decode b_Mo_unlock 2 = .ok (.iload_n 3, 1) := by decide +kernel
theorem d_Mo_unlock_3 : decode b_Mo_unlock 3 = .ok (.iconst 4, 1) := by decide +kernel
theorem d_Mo_unlock_4 : decode b_Mo_unlock 4 = .ok (.if_icmp .ge 34, 3) := by decide +kernel
theorem d_Mo_unlock_7 : decode b_Mo_unlock 7 = .ok (.aload_n 0, 1) := by decide +kernel
theorem d_Mo_unlock_8 : decode b_Mo_unlock 8 = .ok (.getfield 23, 3) := by decide +kernel
theorem d_Mo_unlock_11 : decode b_Mo_unlock 11 = .ok (.iconst 4, 1) := by decide +kernel
theorem d_Mo_unlock_12 : decode b_Mo_unlock 12 = .ok (.iload_n 2, 1) := by decide +kernel
theorem d_Mo_unlock_13 : decode b_Mo_unlock 13 = .ok (.imul, 1) := by decide +kernel
theorem d_Mo_unlock_14 : decode b_Mo_unlock 14 = .ok (.iload_n 3, 1) := by decide +kernel
theorem d_Mo_unlock_15 : decode b_Mo_unlock 15 = .ok (.iadd, 1) := by decide +kernel
theorem d_Mo_unlock_16 : decode b_Mo_unlock 16 = .ok (.iaload, 1) := by decide +kernel
theorem d_Mo_unlock_17 : decode b_Mo_unlock 17 = .ok (.iload_n 1, 1) := by decide +kernel
theorem d_Mo_unlock_18 : decode b_Mo_unlock 18 = .ok (.if_icmp .ne 14, 3) := by decide +kernel
theorem d_Mo_unlock_21 : decode b_Mo_unlock 21 = .ok (.aload_n 0, 1) := by decide +kernel
theorem d_Mo_unlock_22 : decode b_Mo_unlock 22 = .ok (.getfield 23, 3) := by decide +kernel
theorem d_Mo_unlock_25 : decode b_Mo_unlock 25 = .ok (.iconst 4, 1) := by decide +kernel
theorem d_Mo_unlock_26 : decode b_Mo_unlock 26 = .ok (.iload_n 2, 1) := by decide +kernel
theorem d_Mo_unlock_27 : decode b_Mo_unlock 27 = .ok (.imul, 1) := by decide +kernel
theorem d_Mo_unlock_28 : decode b_Mo_unlock 28 = .ok (.iload_n 3, 1) := by decide +kernel
theorem d_Mo_unlock_29 : decode b_Mo_unlock 29 = .ok (.iadd, 1) := by decide +kernel
theorem d_Mo_unlock_30 : decode b_Mo_unlock 30 = .ok (.iconst (-1), 1) := by decide +kernel
theorem d_Mo_unlock_31 : decode b_Mo_unlock 31 = .ok (.iastore, 1) := by decide +kernel
theorem d_Mo_unlock_32 : decode b_Mo_unlock 32 = .ok (.iinc 3 1, 3) := by decide +kernel
theorem d_Mo_unlock_35 : decode b_Mo_unlock 35 = .ok (.goto (-33), 3) := by decide +kernel
theorem d_Mo_unlock_38 : decode b_Mo_unlock 38 = .ok (.return_, 1) := by decide +kernel
theorem d_Mo_up_0 : decode b_Mo_up 0 = .ok (.aload_n 0, 1) := by decide +kernel
theorem d_Mo_up_1 : decode b_Mo_up 1 = .ok (.aload_n 0, 1) := by decide +kernel
theorem d_Mo_up_2 : decode b_Mo_up 2 = .ok (.iload_n 1, 1) := by decide +kernel
theorem d_Mo_up_3 : decode b_Mo_up 3 = .ok (.iconst 3, 1) := by decide +kernel
theorem d_Mo_up_4 : decode b_Mo_up 4 = .ok (.invokevirtual 109, 3) := by decide +kernel
theorem d_Mo_up_7 : decode b_Mo_up 7 = .ok (.ifCond .ne 32, 3) := by decide +kernel
theorem d_Mo_up_10 : decode b_Mo_up 10 = .ok (.aload_n 0, 1) := by decide +kernel
theorem d_Mo_up_11 : decode b_Mo_up 11 = .ok (.iload_n 2, 1) := by decide +kernel
theorem d_Mo_up_12 : decode b_Mo_up 12 = .ok (.iload_n 1, 1) := by decide +kernel
theorem d_Mo_up_13 : decode b_Mo_up 13 = .ok (.ifCond .ne 7, 3) := by decide +kernel
theorem d_Mo_up_16 : decode b_Mo_up 16 = .ok (.iconst 3, 1) := by decide +kernel
theorem d_Mo_up_17 : decode b_Mo_up 17 = .ok (.goto 16, 3) := by decide +kernel
theorem d_Mo_up_20 : decode b_Mo_up 20 = .ok (.iload_n 1, 1) := by decide +kernel
theorem d_Mo_up_21 : decode b_Mo_up 21 = .ok (.iconst 1, 1) := by decide +kernel
theorem d_Mo_up_22 : decode b_Mo_up 22 = .ok (.if_icmp .ne 10, 3) := by decide +kernel
theorem d_Mo_up_25 : decode b_Mo_up 25 = .ok (.aload_n 0, 1) := by decide +kernel
theorem d_Mo_up_26 : decode b_Mo_up 26 = .ok (.getfield 77, 3) := by decide +kernel
theorem d_Mo_up_29 : decode b_Mo_up 29 = .ok (.goto 4, 3) := by decide +kernel
theorem d_Mo_up_32 : decode b_Mo_up 32 = .ok (.iconst 2, 1) := by decide +kernel
theorem d_Mo_up_33 : decode b_Mo_up 33 = .ok (.invokevirtual 109, 3) := by decide +kernel
theorem d_Mo_up_36 : decode b_Mo_up 36 = .ok (.ifCond .eq 7, 3) := by decide +kernel
theorem d_Mo_up_39 : decode b_Mo_up 39 = .ok (.iconst 1, 1) := by decide +kernel
theorem d_Mo_up_40 : decode b_Mo_up 40 = .ok (.goto 4, 3) := by decide +kernel
theorem d_Mo_up_43 : decode b_Mo_up 43 = .ok (.iconst 0, 1) := by decide +kernel
theorem d_Mo_up_44 : decode b_Mo_up 44 = .ok (.putfield 85, 3) := by decide +kernel
theorem d_Mo_up_47 : decode b_Mo_up 47 = .ok (.aload_n 0, 1) := by decide +kernel
theorem d_Mo_up_48 : decode b_Mo_up 48 = .ok (.getfield 85, 3) := by decide +kernel
theorem d_Mo_up_51 : decode b_Mo_up 51 = .ok (.ifCond .le 5, 3) := by decide +kernel
theorem d_Mo_up_54 : decode b_Mo_up 54 = .ok (.iconst 0, 1) := by decide +kernel
theorem d_Mo_up_55 : decode b_Mo_up 55 = .ok (.ireturn, 1) := by decide +kernel
theorem d_Mo_up_56 : decode b_Mo_up 56 = .ok (.iload_n 1, 1) := by decide +kernel
theorem d_Mo_up_57 : decode b_Mo_up 57 = .ok (.ifCond .ne 20, 3) := by decide +kernel
theorem d_Mo_up_60 : decode b_Mo_up 60 = .ok (.aload_n 0, 1) := by decide +kernel
theorem d_Mo_up_61 : decode b_Mo_up 61 = .ok (.getfield 7, 3) := by decide +kernel
theorem d_Mo_up_64 : decode b_Mo_up 64 = .ok (.iload_n 2, 1) := by decide +kernel
theorem d_Mo_up_65 : decode b_Mo_up 65 = .ok (.baload, 1) := by decide +kernel
theorem d_Mo_up_66 : decode b_Mo_up 66 = .ok (.ifCond .ne 7, 3) := by decide +kernel
theorem d_Mo_up_69 : decode b_Mo_up 69 = .ok (.iconst 1, 1) := by decide +kernel
theorem d_Mo_up_70 : decode b_Mo_up 70 = .ok (.goto 43, 3) := by decide +kernel
theorem d_Mo_up_73 : decode b_Mo_up 73 = .ok (.iconst 0, 1) := by decide +kernel
theorem d_Mo_up_74 : decode b_Mo_up 74 = .ok (.goto 39, 3) := by decide +kernel
theorem d_Mo_up_77 : decode b_Mo_up 77 = .ok (.iload_n 1, 1) := by decide +kernel
theorem d_Mo_up_78 : decode b_Mo_up 78 = .ok (.iconst 1, 1) := by decide +kernel
theorem d_Mo_up_79 : decode b_Mo_up 79 = .ok (.if_icmp .ne 20, 3) := by decide +kernel
theorem d_Mo_up_82 : decode b_Mo_up 82 = .ok (.aload_n 0, 1) := by decide +kernel
theorem d_Mo_up_83 : decode b_Mo_up 83 = .ok (.getfield 13, 3) := by decide +kernel
theorem d_Mo_up_86 : decode b_Mo_up 86 = .ok (.iload_n 2, 1) := by decide +kernel
theorem d_Mo_up_87 : decode b_Mo_up 87 = .ok (.baload, 1) := by decide +kernel
theorem d_Mo_up_88 : decode b_Mo_up 88 = .ok (.ifCond .ne 7, 3) := by decide +kernel
theorem d_Mo_up_91 : decode b_Mo_up 91 = .ok (.iconst 1, 1) := by decide +kernel
theorem d_Mo_up_92 : decode b_Mo_up 92 = .ok (.goto 21, 3) := by decide +kernel
theorem d_Mo_up_95 : decode b_Mo_up 95 = .ok (.iconst 0, 1) := by decide +kernel
theorem d_Mo_up_96 : decode b_Mo_up 96 = .ok (.goto 17, 3) := by decide +kernel
theorem d_Mo_up_99 : decode b_Mo_up 99 = .ok (.aload_n 0, 1) := by decide +kernel
theorem d_Mo_up_100 : decode b_Mo_up 100 = .ok (.getfield 16, 3) := by decide +kernel
theorem d_Mo_up_103 : decode b_Mo_up 103 = .ok (.iload_n 2, 1) := by decide +kernel
theorem d_Mo_up_104 : decode b_Mo_up 104 = .ok (.baload, 1) := by decide +kernel
theorem d_Mo_up_105 : decode b_Mo_up 105 = .ok (.ifCond .ne 7, 3) := by decide +kernel
theorem d_Mo_up_108 : decode b_Mo_up 108 = .ok (.iconst 1, 1) := by decide +kernel
theorem d_Mo_up_109 : decode b_Mo_up 109 = .ok (.goto 4, 3) := by decide +kernel
theorem d_Mo_up_112 : decode b_Mo_up 112 = .ok (.iconst 0, 1) := by decide +kernel
theorem d_Mo_up_113 : decode b_Mo_up 113 = .ok (.istore 4, 2) := by decide +kernel
theorem d_Mo_up_115 : decode b_Mo_up 115 = .ok (.iload_n 1, 1) := by decide +kernel
theorem d_Mo_up_116 : decode b_Mo_up 116 = .ok (.ifCond .ne 63, 3) := by decide +kernel
theorem d_Mo_up_119 : decode b_Mo_up 119 = .ok (.aload_n 0, 1) := by decide +kernel
theorem d_Mo_up_120 : decode b_Mo_up 120 = .ok (.getfield 7, 3) := by decide +kernel
theorem d_Mo_up_123 : decode b_Mo_up 123 = .ok (.iload_n 2, 1) := by decide +kernel
theorem d_Mo_up_124 : decode b_Mo_up 124 = .ok (.iload_n 3, 1) := by decide +kernel
theorem d_Mo_up_125 : decode b_Mo_up 125 = .ok (.ifCond .ne 7, 3) := by decide +kernel
theorem d_Mo_up_128 : decode b_Mo_up 128 = .ok (.iconst 1, 1) := by decide +kernel
theorem d_Mo_up_129 : decode b_Mo_up 129 = .ok (.goto 4, 3) := by decide +kernel
theorem d_Mo_up_132 : decode b_Mo_up 132 = .ok (.iconst 0, 1) := by decide +kernel
theorem d_Mo_up_133 : decode b_Mo_up 133 = .ok (.bastore, 1) := by decide +kernel
theorem d_Mo_up_134 : decode b_Mo_up 134 = .ok (.iconst 0, 1) := by decide +kernel
theorem d_Mo_up_135 : decode b_Mo_up 135 = .ok (.istore 5, 2) := by decide +kernel
theorem d_Mo_up_137 : decode b_Mo_up 137 = .ok (.iload 5, 2) := by decide +kernel
theorem d_Mo_up_139 : decode b_Mo_up 139 = .ok (.bipush 8, 2) := by decide +kernel
theorem d_Mo_up_141 : decode b_Mo_up 141 = .ok (.if_icmp .ge 35, 3) := by decide +kernel
theorem d_Mo_up_144 : decode b_Mo_up 144 = .ok (.iload_n 3, 1) := by decide +kernel
theorem d_Mo_up_145 : decode b_Mo_up 145 = .ok (.ifCond .ne 25, 3) := by decide +kernel
theorem d_Mo_up_148 : decode b_Mo_up 148 = .ok (.aload_n 0, 1) := by decide +kernel
theorem d_Mo_up_149 : decode b_Mo_up 149 = .ok (.getfield 32, 3) := by decide +kernel
theorem d_Mo_up_152 : decode b_Mo_up 152 = .ok (.iconst 3, 1) := by decide +kernel
theorem d_Mo_up_153 : decode b_Mo_up 153 = .ok (.iload 5, 2) := by decide +kernel
theorem d_Mo_up_155 : decode b_Mo_up 155 = .ok (.imul, 1) := by decide +kernel
theorem d_Mo_up_156 : decode b_Mo_up 156 = .ok (.iload_n 2, 1) := by decide +kernel
theorem d_Mo_up_157 : decode b_Mo_up 157 = .ok (.iadd, 1) := by decide +kernel
theorem d_Mo_up_158 : decode b_Mo_up 158 = .ok (.iaload, 1) := by decide +kernel
theorem d_Mo_up_159 : decode b_Mo_up 159 = .ok (.iconst 1, 1) := by decide +kernel
theorem d_Mo_up_160 : decode b_Mo_up 160 = .ok (.if_icmp .ne 10, 3) := by decide +kernel
theorem d_Mo_up_163 : decode b_Mo_up 163 = .ok (.aload_n 0, 1) := by decide +kernel
theorem d_Mo_up_164 : decode b_Mo_up 164 = .ok (.iload 5, 2) := by decide +kernel
theorem d_Mo_up_166 : decode b_Mo_up 166 = .ok (.iload_n 2, 1) := by decide +kernel
theorem d_Mo_up_167 : decode b_Mo_up 167 = .ok (.invokevirtual 119, 3) := by decide +kernel
theorem d_Mo_up_170 : decode b_Mo_up 170 = .ok (.iinc 5 1, 3) := by decide +kernel
theorem d_Mo_up_173 : decode b_Mo_up 173 = .ok (.goto (-36), 3) := by decide +kernel
theorem d_Mo_up_176 : decode b_Mo_up 176 = .ok (.goto 50, 3) := by decide +kernel
theorem d_Mo_up_179 : decode b_Mo_up 179 = .ok (.iload_n 1, 1) := by decide +kernel
theorem d_Mo_up_180 : decode b_Mo_up 180 = .ok (.iconst 1, 1) := by decide +kernel
theorem d_Mo_up_181 : decode b_Mo_up 181 = .ok (.if_icmp .ne 21, 3) := by decide +kernel
theorem d_Mo_up_184 : decode b_Mo_up 184 = .ok (.aload_n 0, 1) := by decide +kernel
theorem d_Mo_up_185 : decode b_Mo_up 185 = .ok (.getfield 13, 3) := by decide +kernel
theorem d_Mo_up_188 : decode b_Mo_up 188 = .ok (.iload_n 2, 1) := by decide +kernel
theorem d_Mo_up_189 : decode b_Mo_up 189 = .ok (.iload_n 3, 1) := by decide +kernel
theorem d_Mo_up_190 : decode b_Mo_up 190 = .ok (.ifCond .ne 7, 3) := by decide +kernel
theorem d_Mo_up_193 : decode b_Mo_up 193 = .ok (.iconst 1, 1) := by decide +kernel
theorem d_Mo_up_194 : decode b_Mo_up 194 = .ok (.goto 4, 3) := by decide +kernel
theorem d_Mo_up_197 : decode b_Mo_up 197 = .ok (.iconst 0, 1) := by decide +kernel
theorem d_Mo_up_198 : decode b_Mo_up 198 = .ok (.bastore, 1) := by decide +kernel
theorem d_Mo_up_199 : decode b_Mo_up 199 = .ok (.goto 27, 3) := by decide +kernel
theorem d_Mo_up_202 : decode b_Mo_up 202 = .ok (.aload_n 0, 1) := by decide +kernel
theorem d_Mo_up_203 : decode b_Mo_up 203 = .ok (.getfield 16, 3) := by decide +kernel
theorem d_Mo_up_206 : decode b_Mo_up 206 = .ok (.iload_n 2, 1) := by decide +kernel
theorem d_Mo_up_207 : decode b_Mo_up 207 = .ok (.iload_n 3, 1) := by decide +kernel
theorem d_Mo_up_208 : decode b_Mo_up 208 = .ok (.ifCond .ne 7, 3) := by decide +kernel
theorem d_Mo_up_211 : decode b_Mo_up 211 = .ok (.iconst 1, 1) := by decide +kernel
theorem d_Mo_up_212 : decode b_Mo_up 212 = .ok (.goto 4, 3) := by decide +kernel
theorem d_Mo_up_215 : decode b_Mo_up 215 = .ok (.iconst 0, 1) := by decide +kernel
theorem d_Mo_up_216 : decode b_Mo_up 216 = .ok (.bastore, 1) := by decide +kernel
theorem d_Mo_up_217 : decode b_Mo_up 217 = .ok (.iload_n 3, 1) := by decide +kernel
theorem d_Mo_up_218 : decode b_Mo_up 218 = .ok (.ifCond .ne 8, 3) := by decide +kernel
theorem d_Mo_up_221 : decode b_Mo_up 221 = .ok (.aload_n 0, 1) := by decide +kernel
theorem d_Mo_up_222 : decode b_Mo_up 222 = .ok (.iload_n 2, 1) := by decide +kernel
theorem d_Mo_up_223 : decode b_Mo_up 223 = .ok (.invokevirtual 81, 3) := by decide +kernel
theorem d_Mo_up_226 : decode b_Mo_up 226 = .ok (.iload 4, 2) := by decide +kernel
theorem d_Mo_up_228 : decode b_Mo_up 228 = .ok (.ireturn, 1) := by decide +kernel
theorem d_Mo_upSet_0 : decode b_Mo_upSet 0 = .ok (.iconst 0, 1) := by decide +kernel
theorem d_Mo_upSet_1 : decode b_Mo_upSet 1 = .ok (.istore_n 3, 1) := by decide +kernel
theorem d_Mo_upSet_2 : decode b_Mo_upSet 2 = .ok (.iconst 0, 1) := by decide +kernel
theorem d_Mo_upSet_3 : decode b_Mo_upSet 3 = .ok (.istore 4, 2) := by decide +kernel
theorem d_Mo_upSet_5 : decode b_Mo_upSet 5 = .ok (.iload 4, 2) := by decide +kernel
theorem d_Mo_upSet_7 : decode b_Mo_upSet 7 = .ok (.iload_n 2, 1) := by decide +kernel
theorem d_Mo_upSet_8 : decode b_Mo_upSet 8 = .ok (.if_icmp .ge 27, 3) := by decide +kernel
theorem d_Mo_upSet_11 : decode b_Mo_upSet 11 = .ok (.iload_n 3, 1) := by decide +kernel
theorem d_Mo_upSet_12 : decode b_Mo_upSet 12 = .ok (.aload_n 1, 1) := by decide +kernel
theorem d_Mo_upSet_13 : decode b_Mo_upSet 13 = .ok (.iload 4, 2) := by decide +kernel
theorem d_Mo_upSet_15 : decode b_Mo_upSet 15 = .ok (.baload, 1) := by decide +kernel
theorem d_Mo_upSet_16 : decode b_Mo_upSet 16 = .ok (.ifCond .eq 7, 3) := by decide +kernel
theorem d_Mo_upSet_19 : decode b_Mo_upSet 19 = .ok (.iconst 0, 1) := by decide +kernel
theorem d_Mo_upSet_20 : decode b_Mo_upSet 20 = .ok (.goto 7, 3) := by decide +kernel
theorem d_Mo_upSet_23 : decode b_Mo_upSet 23 = .ok (.iconst 1, 1) := by decide +kernel
theorem d_Mo_upSet_24 : decode b_Mo_upSet 24 = .ok (.iload 4, 2) := by decide +kernel
theorem d_Mo_upSet_26 : decode b_Mo_upSet 26 = .ok (.ishl, 1) := by decide +kernel
theorem d_Mo_upSet_27 : decode b_Mo_upSet 27 = .ok (.ior, 1) := by decide +kernel
theorem d_Mo_upSet_28 : decode b_Mo_upSet 28 = .ok (.istore_n 3, 1) := by decide +kernel
theorem d_Mo_upSet_29 : decode b_Mo_upSet 29 = .ok (.iinc 4 1, 3) := by decide +kernel
theorem d_Mo_upSet_32 : decode b_Mo_upSet 32 = .ok (.goto (-27), 3) := by decide +kernel
theorem d_Mo_upSet_35 : decode b_Mo_upSet 35 = .ok (.iload_n 3, 1) := by decide +kernel
theorem d_Mo_upSet_36 : decode b_Mo_upSet 36 = .ok (.ireturn, 1) := by decide +kernel
theorem d_Mo_value_0 : decode b_Mo_value 0 = .ok (.aload_n 0, 1) := by decide +kernel
theorem d_Mo_value_1 : decode b_Mo_value 1 = .ok (.iconst 0, 1) := by decide +kernel
theorem d_Mo_value_2 : decode b_Mo_value 2 = .ok (.putfield 85, 3) := by decide +kernel
theorem d_Mo_value_5 : decode b_Mo_value 5 = .ok (.aload_n 0, 1) := by decide +kernel
theorem d_Mo_value_6 : decode b_Mo_value 6 = .ok (.iload_n 1, 1) := by decide +kernel
theorem d_Mo_value_7 : decode b_Mo_value 7 = .ok (.iconst 3, 1) := by decide +kernel
theorem d_Mo_value_8 : decode b_Mo_value 8 = .ok (.invokevirtual 109, 3) := by decide +kernel
theorem d_Mo_value_11 : decode b_Mo_value 11 = .ok (.ifCond .ne 12, 3) := by decide +kernel
theorem d_Mo_value_14 : decode b_Mo_value 14 = .ok (.aload_n 0, 1) := by decide +kernel
theorem d_Mo_value_15 : decode b_Mo_value 15 = .ok (.iload_n 2, 1) := by decide +kernel
theorem d_Mo_value_16 : decode b_Mo_value 16 = .ok (.iconst 4, 1) := by decide +kernel
theorem d_Mo_value_17 : decode b_Mo_value 17 = .ok (.invokevirtual 109, 3) := by decide +kernel
theorem d_Mo_value_20 : decode b_Mo_value 20 = .ok (.ifCond .eq 11, 3) := by decide +kernel
theorem d_Mo_value_23 : decode b_Mo_value 23 = .ok (.aload_n 0, 1) := by decide +kernel
theorem d_Mo_value_24 : decode b_Mo_value 24 = .ok (.iconst 1, 1) := by decide +kernel
theorem d_Mo_value_25 : decode b_Mo_value 25 = .ok (.invokevirtual 105, 3) := by decide +kernel
theorem d_Mo_value_28 : decode b_Mo_value 28 = .ok (.goto 13, 3) := by decide +kernel
theorem d_Mo_value_31 : decode b_Mo_value 31 = .ok (.aload_n 0, 1) := by decide +kernel
theorem d_Mo_value_32 : decode b_Mo_value 32 = .ok (.getfield 19, 3) := by decide +kernel
theorem d_Mo_value_35 : decode b_Mo_value 35 = .ok (.iconst 4, 1) := by decide +kernel
theorem d_Mo_value_36 : decode b_Mo_value 36 = .ok (.iload_n 1, 1) := by decide +kernel
theorem d_Mo_value_37 : decode b_Mo_value 37 = .ok (.imul, 1) := by decide +kernel
theorem d_Mo_value_38 : decode b_Mo_value 38 = .ok (.iload_n 2, 1) := by decide +kernel
theorem d_Mo_value_39 : decode b_Mo_value 39 = .ok (.iadd, 1) := by decide +kernel
theorem d_Mo_value_40 : decode b_Mo_value 40 = .ok (.iaload, 1) := by decide +kernel
theorem d_Mo_value_41 : decode b_Mo_value 41 = .ok (.ireturn, 1) := by decide +kernel
theorem d_Mo_vote_0 : decode b_Mo_vote 0 = .ok (.iconst 0, 1) := by decide +kernel
theorem d_Mo_vote_1 : decode b_Mo_vote 1 = .ok (.istore 5, 2) := by decide +kernel
theorem d_Mo_vote_3 : decode b_Mo_vote 3 = .ok (.iload 5, 2) := by decide +kernel
theorem d_Mo_vote_5 : decode b_Mo_vote 5 = .ok (.aload_n 0, 1) := by decide +kernel
theorem d_Mo_vote_6 : decode b_Mo_vote 6 = .ok (.getfield 77, 3) := by decide +kernel
theorem d_Mo_vote_9 : decode b_Mo_vote 9 = .ok (.if_icmp .ge 25, 3) := by decide +kernel
theorem d_Mo_vote_12 : decode b_Mo_vote 12 = .ok (.aload_n 0, 1) := by decide +kernel
theorem d_Mo_vote_13 : decode b_Mo_vote 13 = .ok (.bipush 86, 2) := by decide +kernel
theorem d_Mo_vote_15 : decode b_Mo_vote 15 = .ok (.iload_n 1, 1) := by decide +kernel
theorem d_Mo_vote_16 : decode b_Mo_vote 16 = .ok (.iload_n 2, 1) := by decide +kernel
theorem d_Mo_vote_17 : decode b_Mo_vote 17 = .ok (.iload 5, 2) := by decide +kernel
theorem d_Mo_vote_19 : decode b_Mo_vote 19 = .ok (.iconst (-1), 1) := by decide +kernel
theorem d_Mo_vote_20 : decode b_Mo_vote 20 = .ok (.iload_n 3, 1) := by decide +kernel
theorem d_Mo_vote_21 : decode b_Mo_vote 21 = .ok (.iload 4, 2) := by decide +kernel
theorem d_Mo_vote_23 : decode b_Mo_vote 23 = .ok (.invokevirtual 94, 3) := by decide +kernel
theorem d_Mo_vote_26 : decode b_Mo_vote 26 = .ok (.istore 6, 2) := by decide +kernel
theorem d_Mo_vote_28 : decode b_Mo_vote 28 = .ok (.iinc 5 1, 3) := by decide +kernel
theorem d_Mo_vote_31 : decode b_Mo_vote 31 = .ok (.goto (-28), 3) := by decide +kernel
theorem d_Mo_vote_34 : decode b_Mo_vote 34 = .ok (.return_, 1) := by decide +kernel
theorem d_Mo_write_0 : decode b_Mo_write 0 = .ok (.aload_n 0, 1) := by decide +kernel
theorem d_Mo_write_1 : decode b_Mo_write 1 = .ok (.iconst 0, 1) := by decide +kernel
theorem d_Mo_write_2 : decode b_Mo_write 2 = .ok (.putfield 85, 3) := by decide +kernel
theorem d_Mo_write_5 : decode b_Mo_write 5 = .ok (.aload_n 0, 1) := by decide +kernel
theorem d_Mo_write_6 : decode b_Mo_write 6 = .ok (.iload_n 1, 1) := by decide +kernel
theorem d_Mo_write_7 : decode b_Mo_write 7 = .ok (.bipush 8, 2) := by decide +kernel
theorem d_Mo_write_9 : decode b_Mo_write 9 = .ok (.invokevirtual 109, 3) := by decide +kernel
theorem d_Mo_write_12 : decode b_Mo_write 12 = .ok (.ifCond .ne 21, 3) := by decide +kernel
theorem d_Mo_write_15 : decode b_Mo_write 15 = .ok (.aload_n 0, 1) := by decide +kernel
theorem d_Mo_write_16 : decode b_Mo_write 16 = .ok (.iload_n 2, 1) := by decide +kernel
theorem d_Mo_write_17 : decode b_Mo_write 17 = .ok (.iconst 3, 1) := by decide +kernel
theorem d_Mo_write_18 : decode b_Mo_write 18 = .ok (.invokevirtual 109, 3) := by decide +kernel
theorem d_Mo_write_21 : decode b_Mo_write 21 = .ok (.ifCond .ne 12, 3) := by decide +kernel
theorem d_Mo_write_24 : decode b_Mo_write 24 = .ok (.aload_n 0, 1) := by decide +kernel
theorem d_Mo_write_25 : decode b_Mo_write 25 = .ok (.iload_n 3, 1) := by decide +kernel
theorem d_Mo_write_26 : decode b_Mo_write 26 = .ok (.iconst 4, 1) := by decide +kernel
theorem d_Mo_write_27 : decode b_Mo_write 27 = .ok (.invokevirtual 109, 3) := by decide +kernel
theorem d_Mo_write_30 : decode b_Mo_write 30 = .ok (.ifCond .eq 9, 3) := by decide +kernel
theorem d_Mo_write_33 : decode b_Mo_write 33 = .ok (.aload_n 0, 1) := by decide +kernel
theorem d_Mo_write_34 : decode b_Mo_write 34 = .ok (.iconst 1, 1) := by decide +kernel
theorem d_Mo_write_35 : decode b_Mo_write 35 = .ok (.invokevirtual 105, 3) := by decide +kernel
theorem d_Mo_write_38 : decode b_Mo_write 38 = .ok (.ireturn, 1) := by decide +kernel
theorem d_Mo_write_39 : decode b_Mo_write 39 = .ok (.iload_n 1, 1) := by decide +kernel
theorem d_Mo_write_40 : decode b_Mo_write 40 = .ok (.aload_n 0, 1) := by decide +kernel
theorem d_Mo_write_41 : decode b_Mo_write 41 = .ok (.getfield 102, 3) := by decide +kernel
theorem d_Mo_write_44 : decode b_Mo_write 44 = .ok (.if_icmp .lt 9, 3) := by decide +kernel
theorem d_Mo_write_47 : decode b_Mo_write 47 = .ok (.aload_n 0, 1) := by decide +kernel
theorem d_Mo_write_48 : decode b_Mo_write 48 = .ok (.iconst 2, 1) := by decide +kernel
theorem d_Mo_write_49 : decode b_Mo_write 49 = .ok (.invokevirtual 105, 3) := by decide +kernel
theorem d_Mo_write_52 : decode b_Mo_write 52 = .ok (.ireturn, 1) := by decide +kernel
theorem d_Mo_write_53 : decode b_Mo_write 53 = .ok (.aload_n 0, 1) := by decide +kernel
theorem d_Mo_write_54 : decode b_Mo_write 54 = .ok (.getfield 23, 3) := by decide +kernel
theorem d_Mo_write_57 : decode b_Mo_write 57 = .ok (.iconst 4, 1) := by decide +kernel
theorem d_Mo_write_58 : decode b_Mo_write 58 = .ok (.iload_n 2, 1) := by decide +kernel
theorem d_Mo_write_59 : decode b_Mo_write 59 = .ok (.imul, 1) := by decide +kernel
theorem d_Mo_write_60 : decode b_Mo_write 60 = .ok (.iload_n 3, 1) := by decide +kernel
theorem d_Mo_write_61 : decode b_Mo_write 61 = .ok (.iadd, 1) := by decide +kernel
theorem d_Mo_write_62 : decode b_Mo_write 62 = .ok (.iaload, 1) := by decide +kernel
theorem d_Mo_write_63 : decode b_Mo_write 63 = .ok (.istore 5, 2) := by decide +kernel
theorem d_Mo_write_65 : decode b_Mo_write 65 = .ok (.aload_n 0, 1) := by decide +kernel
theorem d_Mo_write_66 : decode b_Mo_write 66 = .ok (.getfield 7, 3) := by decide +kernel
theorem d_Mo_write_69 : decode b_Mo_write 69 = .ok (.iload_n 2, 1) := by decide +kernel
theorem d_Mo_write_70 : decode b_Mo_write 70 = .ok (.baload, 1) := by decide +kernel
theorem d_Mo_write_71 : decode b_Mo_write 71 = .ok (.ifCond .ne 14, 3) := by decide +kernel
theorem d_Mo_write_74 : decode b_Mo_write 74 = .ok (.iload 5, 2) := by decide +kernel
theorem d_Mo_write_76 : decode b_Mo_write 76 = .ok (.ifCond .lt 15, 3) := by decide +kernel
theorem d_Mo_write_79 : decode b_Mo_write 79 = .ok (.iload 5, 2) := by decide +kernel
theorem d_Mo_write_81 : decode b_Mo_write 81 = .ok (.iload_n 1, 1) := by decide +kernel
theorem d_Mo_write_82 : decode b_Mo_write 82 = .ok (.if_icmp .eq 9, 3) := by decide +kernel
theorem d_Mo_write_85 : decode b_Mo_write 85 = .ok (.aload_n 0, 1) := by decide +kernel
theorem d_Mo_write_86 : decode b_Mo_write 86 = .ok (.iconst 3, 1) := by decide +kernel
theorem d_Mo_write_87 : decode b_Mo_write 87 = .ok (.invokevirtual 105, 3) := by decide +kernel
theorem d_Mo_write_90 : decode b_Mo_write 90 = .ok (.ireturn, 1) := by decide +kernel
theorem d_Mo_write_91 : decode b_Mo_write 91 = .ok (.iconst 3, 1) := by decide +kernel
theorem d_Mo_write_92 : decode b_Mo_write 92 = .ok (.iload_n 1, 1) := by decide +kernel
theorem d_Mo_write_93 : decode b_Mo_write 93 = .ok (.imul, 1) := by decide +kernel
theorem d_Mo_write_94 : decode b_Mo_write 94 = .ok (.iload_n 2, 1) := by decide +kernel
theorem d_Mo_write_95 : decode b_Mo_write 95 = .ok (.iadd, 1) := by decide +kernel
theorem d_Mo_write_96 : decode b_Mo_write 96 = .ok (.istore 6, 2) := by decide +kernel
theorem d_Mo_write_98 : decode b_Mo_write 98 = .ok (.aload_n 0, 1) := by decide +kernel
theorem d_Mo_write_99 : decode b_Mo_write 99 = .ok (.getfield 29, 3) := by decide +kernel
theorem d_Mo_write_102 : decode b_Mo_write 102 = .ok (.iload_n 1, 1) := by decide +kernel
theorem d_Mo_write_103 : decode b_Mo_write 103 = .ok (.baload, 1) := by decide +kernel
theorem d_Mo_write_104 : decode b_Mo_write 104 = .ok (.ifCond .ne 14, 3) := by decide +kernel
theorem d_Mo_write_107 : decode b_Mo_write 107 = .ok (.aload_n 0, 1) := by decide +kernel
theorem d_Mo_write_108 : decode b_Mo_write 108 = .ok (.getfield 32, 3) := by decide +kernel
theorem d_Mo_write_111 : decode b_Mo_write 111 = .ok (.iload 6, 2) := by decide +kernel
theorem d_Mo_write_113 : decode b_Mo_write 113 = .ok (.iaload, 1) := by decide +kernel
theorem d_Mo_write_114 : decode b_Mo_write 114 = .ok (.iconst 1, 1) := by decide +kernel
theorem d_Mo_write_115 : decode b_Mo_write 115 = .ok (.if_icmp .le 9, 3) := by decide +kernel
theorem d_Mo_write_118 : decode b_Mo_write 118 = .ok (.aload_n 0, 1) := by decide +kernel
theorem d_Mo_write_119 : decode b_Mo_write 119 = .ok (.iconst 4, 1) := by decide +kernel
theorem d_Mo_write_120 : decode b_Mo_write 120 = .ok (.invokevirtual 105, 3) := by decide +kernel
theorem d_Mo_write_123 : decode b_Mo_write 123 = .ok (.ireturn, 1) := by decide +kernel
theorem d_Mo_write_124 : decode b_Mo_write 124 = .ok (.aload_n 0, 1) := by decide +kernel
theorem d_Mo_write_125 : decode b_Mo_write 125 = .ok (.getfield 32, 3) := by decide +kernel
theorem d_Mo_write_128 : decode b_Mo_write 128 = .ok (.iload 6, 2) := by decide +kernel
theorem d_Mo_write_130 : decode b_Mo_write 130 = .ok (.iconst 1, 1) := by decide +kernel
theorem d_Mo_write_131 : decode b_Mo_write 131 = .ok (.iastore, 1) := by decide +kernel
theorem d_Mo_write_132 : decode b_Mo_write 132 = .ok (.aload_n 0, 1) := by decide +kernel
theorem d_Mo_write_133 : decode b_Mo_write 133 = .ok (.getfield 26, 3) := by decide +kernel
theorem d_Mo_write_136 : decode b_Mo_write 136 = .ok (.iload_n 1, 1) := by decide +kernel
theorem d_Mo_write_137 : decode b_Mo_write 137 = .ok (.dup2, 1) := by decide +kernel
theorem d_Mo_write_138 : decode b_Mo_write 138 = .ok (.iaload, 1) := by decide +kernel
theorem d_Mo_write_139 : decode b_Mo_write 139 = .ok (.iconst 1, 1) := by decide +kernel
theorem d_Mo_write_140 : decode b_Mo_write 140 = .ok (.iload_n 2, 1) := by decide +kernel
theorem d_Mo_write_141 : decode b_Mo_write 141 = .ok (.ishl, 1) := by decide +kernel
theorem d_Mo_write_142 : decode b_Mo_write 142 = .ok (.ior, 1) := by decide +kernel
theorem d_Mo_write_143 : decode b_Mo_write 143 = .ok (.iastore, 1) := by decide +kernel
theorem d_Mo_write_144 : decode b_Mo_write 144 = .ok (.aload_n 0, 1) := by decide +kernel
theorem d_Mo_write_145 : decode b_Mo_write 145 = .ok (.getfield 23, 3) := by decide +kernel
theorem d_Mo_write_148 : decode b_Mo_write 148 = .ok (.iconst 4, 1) := by decide +kernel
theorem d_Mo_write_149 : decode b_Mo_write 149 = .ok (.iload_n 2, 1) := by decide +kernel
theorem d_Mo_write_150 : decode b_Mo_write 150 = .ok (.imul, 1) := by decide +kernel
theorem d_Mo_write_151 : decode b_Mo_write 151 = .ok (.iload_n 3, 1) := by decide +kernel
theorem d_Mo_write_152 : decode b_Mo_write 152 = .ok (.iadd, 1) := by decide +kernel
theorem d_Mo_write_153 : decode b_Mo_write 153 = .ok (.iload_n 1, 1) := by decide +kernel
theorem d_Mo_write_154 : decode b_Mo_write 154 = .ok (.iastore, 1) := by decide +kernel
theorem d_Mo_write_155 : decode b_Mo_write 155 = .ok (.aload_n 0, 1) := by decide +kernel
theorem d_Mo_write_156 : decode b_Mo_write 156 = .ok (.getfield 35, 3) := by decide +kernel
theorem d_Mo_write_159 : decode b_Mo_write 159 = .ok (.iload 6, 2) := by decide +kernel
theorem d_Mo_write_161 : decode b_Mo_write 161 = .ok (.dup2, 1) := by decide +kernel
theorem d_Mo_write_162 : decode b_Mo_write 162 = .ok (.iaload, 1) := by decide +kernel
theorem d_Mo_write_163 : decode b_Mo_write 163 = .ok (.iconst 1, 1) := by decide +kernel
theorem d_Mo_write_164 : decode b_Mo_write 164 = .ok (.iload_n 3, 1) := by decide +kernel
theorem d_Mo_write_165 : decode b_Mo_write 165 = .ok (.ishl, 1) := by decide +kernel
theorem d_Mo_write_166 : decode b_Mo_write 166 = .ok (.ior, 1) := by decide +kernel
theorem d_Mo_write_167 : decode b_Mo_write 167 = .ok (.iastore, 1) := by decide +kernel
theorem d_Mo_write_168 : decode b_Mo_write 168 = .ok (.aload_n 0, 1) := by decide +kernel
theorem d_Mo_write_169 : decode b_Mo_write 169 = .ok (.getfield 38, 3) := by decide +kernel
theorem d_Mo_write_172 : decode b_Mo_write 172 = .ok (.iconst 4, 1) := by decide +kernel
theorem d_Mo_write_173 : decode b_Mo_write 173 = .ok (.iload 6, 2) := by decide +kernel
theorem d_Mo_write_175 : decode b_Mo_write 175 = .ok (.imul, 1) := by decide +kernel
theorem d_Mo_write_176 : decode b_Mo_write 176 = .ok (.iload_n 3, 1) := by decide +kernel
theorem d_Mo_write_177 : decode b_Mo_write 177 = .ok (.iadd, 1) := by decide +kernel
theorem d_Mo_write_178 : decode b_Mo_write 178 = .ok (.iload 4, 2) := by decide +kernel
theorem d_Mo_write_180 : decode b_Mo_write 180 = .ok (.iastore, 1) := by decide +kernel
theorem d_Mo_write_181 : decode b_Mo_write 181 = .ok (.aload_n 0, 1) := by decide +kernel
theorem d_Mo_write_182 : decode b_Mo_write 182 = .ok (.aload_n 0, 1) := by decide +kernel
theorem d_Mo_write_183 : decode b_Mo_write 183 = .ok (.getfield 35, 3) := by decide +kernel
theorem d_Mo_write_186 : decode b_Mo_write 186 = .ok (.iload 6, 2) := by decide +kernel
theorem d_Mo_write_188 : decode b_Mo_write 188 = .ok (.iaload, 1) := by decide +kernel
theorem d_Mo_write_189 : decode b_Mo_write 189 = .ok (.invokevirtual 113, 3) := by decide +kernel
theorem d_Mo_write_192 : decode b_Mo_write 192 = .ok (.ireturn, 1) := by decide +kernel
theorem d_Msg_clear_0 : decode b_Msg_clear 0 = .ok (.aload_n 0, 1) := by decide +kernel
theorem d_Msg_clear_1 : decode b_Msg_clear 1 = .ok (.iload_n 1, 1) := by decide +kernel
theorem d_Msg_clear_2 : decode b_Msg_clear 2 = .ok (.putfield 9, 3) := by decide +kernel
theorem d_Msg_clear_5 : decode b_Msg_clear 5 = .ok (.aload_n 0, 1) := by decide +kernel
theorem d_Msg_clear_6 : decode b_Msg_clear 6 = .ok (.iload_n 2, 1) := by decide +kernel
theorem d_Msg_clear_7 : decode b_Msg_clear 7 = .ok (.putfield 15, 3) := by decide +kernel
theorem d_Msg_clear_10 : decode b_Msg_clear 10 = .ok (.aload_n 0, 1) := by decide +kernel
theorem d_Msg_clear_11 : decode b_Msg_clear 11 = .ok (.iconst (-1), 1) := by decide +kernel
theorem d_Msg_clear_12 : decode b_Msg_clear 12 = .ok (.putfield 18, 3) := by decide +kernel
theorem d_Msg_clear_15 : decode b_Msg_clear 15 = .ok (.aload_n 0, 1) := by decide +kernel
theorem d_Msg_clear_16 : decode b_Msg_clear 16 = .ok (.iconst (-1), 1) := by decide +kernel
theorem d_Msg_clear_17 : decode b_Msg_clear 17 = .ok (.putfield 21, 3) := by decide +kernel
theorem d_Msg_clear_20 : decode b_Msg_clear 20 = .ok (.aload_n 0, 1) := by decide +kernel
theorem d_Msg_clear_21 : decode b_Msg_clear 21 = .ok (.iconst (-1), 1) := by decide +kernel
theorem d_Msg_clear_22 : decode b_Msg_clear 22 = .ok (.putfield 24, 3) := by decide +kernel
theorem d_Msg_clear_25 : decode b_Msg_clear 25 = .ok (.aload_n 0, 1) := by decide +kernel
theorem d_Msg_clear_26 : decode b_Msg_clear 26 = .ok (.iconst (-1), 1) := by decide +kernel
theorem d_Msg_clear_27 : decode b_Msg_clear 27 = .ok (.putfield 27, 3) := by decide +kernel
theorem d_Msg_clear_30 : decode b_Msg_clear 30 = .ok (.aload_n 0, 1) := by decide +kernel
theorem d_Msg_clear_31 : decode b_Msg_clear 31 = .ok (.iconst (-1), 1) := by decide +kernel
theorem d_Msg_clear_32 : decode b_Msg_clear 32 = .ok (.putfield 30, 3) := by decide +kernel
theorem d_Msg_clear_35 : decode b_Msg_clear 35 = .ok (.aload_n 0, 1) := by decide +kernel
theorem d_Msg_clear_36 : decode b_Msg_clear 36 = .ok (.getfield 33, 3) := by decide +kernel
theorem d_Msg_clear_39 : decode b_Msg_clear 39 = .ok (.iconst (-1), 1) := by decide +kernel
theorem d_Msg_clear_40 : decode b_Msg_clear 40 = .ok (.invokestatic 37, 3) := by decide +kernel
theorem d_Msg_clear_43 : decode b_Msg_clear 43 = .ok (.return_, 1) := by decide +kernel
theorem d_Msg_copyFrom_0 : decode b_Msg_copyFrom 0 = .ok (.aload_n 0, 1) := by decide +kernel
theorem d_Msg_copyFrom_1 : decode b_Msg_copyFrom 1 = .ok (.aload_n 1, 1) := by decide +kernel
theorem d_Msg_copyFrom_2 : decode b_Msg_copyFrom 2 = .ok (.getfield 9, 3) := by decide +kernel
theorem d_Msg_copyFrom_5 : decode b_Msg_copyFrom 5 = .ok (.putfield 9, 3) := by decide +kernel
theorem d_Msg_copyFrom_8 : decode b_Msg_copyFrom 8 = .ok (.aload_n 0, 1) := by decide +kernel
theorem d_Msg_copyFrom_9 : decode b_Msg_copyFrom 9 = .ok (.aload_n 1, 1) := by decide +kernel
theorem d_Msg_copyFrom_10 : decode b_Msg_copyFrom 10 = .ok (.getfield 15, 3) := by decide +kernel
theorem d_Msg_copyFrom_13 : decode b_Msg_copyFrom 13 = .ok (.putfield 15, 3) := by decide +kernel
theorem d_Msg_copyFrom_16 : decode b_Msg_copyFrom 16 = .ok (.aload_n 0, 1) := by decide +kernel
theorem d_Msg_copyFrom_17 : decode b_Msg_copyFrom 17 = .ok (.aload_n 1, 1) := by decide +kernel
theorem d_Msg_copyFrom_18 : decode b_Msg_copyFrom 18 = .ok (.getfield 18, 3) := by decide +kernel
theorem d_Msg_copyFrom_21 : decode b_Msg_copyFrom 21 = .ok (.putfield 18, 3) := by decide +kernel
theorem d_Msg_copyFrom_24 : decode b_Msg_copyFrom 24 = .ok (.aload_n 0, 1) := by decide +kernel
theorem d_Msg_copyFrom_25 : decode b_Msg_copyFrom 25 = .ok (.aload_n 1, 1) := by decide +kernel
theorem d_Msg_copyFrom_26 : decode b_Msg_copyFrom 26 = .ok (.getfield 21, 3) := by decide +kernel
theorem d_Msg_copyFrom_29 : decode b_Msg_copyFrom 29 = .ok (.putfield 21, 3) := by decide +kernel
theorem d_Msg_copyFrom_32 : decode b_Msg_copyFrom 32 = .ok (.aload_n 0, 1) := by decide +kernel
theorem d_Msg_copyFrom_33 : decode b_Msg_copyFrom 33 = .ok (.aload_n 1, 1) := by decide +kernel
theorem d_Msg_copyFrom_34 : decode b_Msg_copyFrom 34 = .ok (.getfield 24, 3) := by decide +kernel
theorem d_Msg_copyFrom_37 : decode b_Msg_copyFrom 37 = .ok (.putfield 24, 3) := by decide +kernel
theorem d_Msg_copyFrom_40 : decode b_Msg_copyFrom 40 = .ok (.aload_n 0, 1) := by decide +kernel
theorem d_Msg_copyFrom_41 : decode b_Msg_copyFrom 41 = .ok (.aload_n 1, 1) := by decide +kernel
theorem d_Msg_copyFrom_42 : decode b_Msg_copyFrom 42 = .ok (.getfield 27, 3) := by decide +kernel
theorem d_Msg_copyFrom_45 : decode b_Msg_copyFrom 45 = .ok (.putfield 27, 3) := by decide +kernel
theorem d_Msg_copyFrom_48 : decode b_Msg_copyFrom 48 = .ok (.aload_n 0, 1) := by decide +kernel
theorem d_Msg_copyFrom_49 : decode b_Msg_copyFrom 49 = .ok (.aload_n 1, 1) := by decide +kernel
theorem d_Msg_copyFrom_50 : decode b_Msg_copyFrom 50 = .ok (.getfield 30, 3) := by decide +kernel
theorem d_Msg_copyFrom_53 : decode b_Msg_copyFrom 53 = .ok (.putfield 30, 3) := by decide +kernel
theorem d_Msg_copyFrom_56 : decode b_Msg_copyFrom 56 = .ok (.aload_n 1, 1) := by decide +kernel
theorem d_Msg_copyFrom_57 : decode b_Msg_copyFrom 57 = .ok (.getfield 33, 3) := by decide +kernel
theorem d_Msg_copyFrom_60 : decode b_Msg_copyFrom 60 = .ok (.iconst 0, 1) := by decide +kernel
theorem d_Msg_copyFrom_61 : decode b_Msg_copyFrom 61 = .ok (.aload_n 0, 1) := by decide +kernel
theorem d_Msg_copyFrom_62 : decode b_Msg_copyFrom 62 = .ok (.getfield 33, 3) := by decide +kernel
theorem d_Msg_copyFrom_65 : decode b_Msg_copyFrom 65 = .ok (.iconst 0, 1) := by decide +kernel
theorem d_Msg_copyFrom_66 : decode b_Msg_copyFrom 66 = .ok (.iconst 3, 1) := by decide +kernel
theorem d_Msg_copyFrom_67 : decode b_Msg_copyFrom 67 = .ok (.invokestatic 43, 3) := by decide +kernel
theorem d_Msg_copyFrom_70 : decode b_Msg_copyFrom 70 = .ok (.return_, 1) := by decide +kernel
theorem d_Msg_init_0 : decode b_Msg_init 0 = .ok (.aload_n 0, 1) := by decide +kernel
theorem d_Msg_init_1 : decode b_Msg_init 1 = .ok (.invokespecial 3, 3) := by decide +kernel
theorem d_Msg_init_4 : decode b_Msg_init 4 = .ok (.aload_n 0, 1) := by decide +kernel
theorem d_Msg_init_5 : decode b_Msg_init 5 = .ok (.iconst 0, 1) := by decide +kernel
theorem d_Msg_init_6 : decode b_Msg_init 6 = .ok (.putfield 9, 3) := by decide +kernel
theorem d_Msg_init_9 : decode b_Msg_init 9 = .ok (.aload_n 0, 1) := by decide +kernel
theorem d_Msg_init_10 : decode b_Msg_init 10 = .ok (.iconst 0, 1) := by decide +kernel
theorem d_Msg_init_11 : decode b_Msg_init 11 = .ok (.putfield 15, 3) := by decide +kernel
theorem d_Msg_init_14 : decode b_Msg_init 14 = .ok (.aload_n 0, 1) := by decide +kernel
theorem d_Msg_init_15 : decode b_Msg_init 15 = .ok (.iconst (-1), 1) := by decide +kernel
theorem d_Msg_init_16 : decode b_Msg_init 16 = .ok (.putfield 18, 3) := by decide +kernel
theorem d_Msg_init_19 : decode b_Msg_init 19 = .ok (.aload_n 0, 1) := by decide +kernel
theorem d_Msg_init_20 : decode b_Msg_init 20 = .ok (.iconst (-1), 1) := by decide +kernel
theorem d_Msg_init_21 : decode b_Msg_init 21 = .ok (.putfield 21, 3) := by decide +kernel
theorem d_Msg_init_24 : decode b_Msg_init 24 = .ok (.aload_n 0, 1) := by decide +kernel
theorem d_Msg_init_25 : decode b_Msg_init 25 = .ok (.iconst (-1), 1) := by decide +kernel
theorem d_Msg_init_26 : decode b_Msg_init 26 = .ok (.putfield 24, 3) := by decide +kernel
theorem d_Msg_init_29 : decode b_Msg_init 29 = .ok (.aload_n 0, 1) := by decide +kernel
theorem d_Msg_init_30 : decode b_Msg_init 30 = .ok (.iconst (-1), 1) := by decide +kernel
theorem d_Msg_init_31 : decode b_Msg_init 31 = .ok (.putfield 27, 3) := by decide +kernel
theorem d_Msg_init_34 : decode b_Msg_init 34 = .ok (.aload_n 0, 1) := by decide +kernel
theorem d_Msg_init_35 : decode b_Msg_init 35 = .ok (.iconst (-1), 1) := by decide +kernel
theorem d_Msg_init_36 : decode b_Msg_init 36 = .ok (.putfield 30, 3) := by decide +kernel
theorem d_Msg_init_39 : decode b_Msg_init 39 = .ok (.aload_n 0, 1) := by decide +kernel
theorem d_Msg_init_40 : decode b_Msg_init 40 = .ok (.iconst 3, 1) := by decide +kernel
theorem d_Msg_init_41 : decode b_Msg_init 41 = .ok (.newarray .int, 2) := by decide +kernel
theorem d_Msg_init_43 : decode b_Msg_init 43 = .ok (.putfield 33, 3) := by decide +kernel
theorem d_Msg_init_46 : decode b_Msg_init 46 = .ok (.return_, 1) := by decide +kernel
theorem d_Msg_receiver_0 : decode b_Msg_receiver 0 = .ok (.aload_n 0, 1) := by decide +kernel
theorem d_Msg_receiver_1 : decode b_Msg_receiver 1 = .ok (.invokevirtual 49, 3) := by decide +kernel
theorem d_Msg_receiver_4 : decode b_Msg_receiver 4 = .ok (.lookupswitch 38 #[(0, 28), (1, 33)], 28) := by decide +kernel
theorem d_Msg_receiver_32 : decode b_Msg_receiver 32 = .ok (.aload_n 0, 1) := by decide +kernel
theorem d_Msg_receiver_33 : decode b_Msg_receiver 33 = .ok (.getfield 18, 3) := by decide +kernel
theorem d_Msg_receiver_36 : decode b_Msg_receiver 36 = .ok (.ireturn, 1) := by decide +kernel
theorem d_Msg_receiver_37 : decode b_Msg_receiver 37 = .ok (.aload_n 0, 1) := by decide +kernel
theorem d_Msg_receiver_38 : decode b_Msg_receiver 38 = .ok (.getfield 21, 3) := by decide +kernel
theorem d_Msg_receiver_41 : decode b_Msg_receiver 41 = .ok (.ireturn, 1) := by decide +kernel
theorem d_Msg_receiver_42 : decode b_Msg_receiver 42 = .ok (.aload_n 0, 1) := by decide +kernel
theorem d_Msg_receiver_43 : decode b_Msg_receiver 43 = .ok (.getfield 24, 3) := by decide +kernel
theorem d_Msg_receiver_46 : decode b_Msg_receiver 46 = .ok (.ireturn, 1) := by decide +kernel
theorem d_Msg_receiverKind_0 : decode b_Msg_receiverKind 0 = .ok (.aload_n 0, 1) := by decide +kernel
theorem d_Msg_receiverKind_1 : decode b_Msg_receiverKind 1 = .ok (.getfield 9, 3) := by decide +kernel
theorem d_Msg_receiverKind_4 : decode b_Msg_receiverKind 4 = .ok (.ifCond .eq 11, 3) := by decide +kernel
theorem d_Msg_receiverKind_7 : decode b_Msg_receiverKind 7 = .ok (.aload_n 0, 1) := by decide +kernel
theorem d_Msg_receiverKind_8 : decode b_Msg_receiverKind 8 = .ok (.getfield 9, 3) := by decide +kernel
theorem d_Msg_receiverKind_11 : decode b_Msg_receiverKind 11 = .ok (.iconst 5, 1) := by decide +kernel
theorem d_Msg_receiverKind_12 : decode b_Msg_receiverKind 12 = .ok (.if_icmp .ne 5, 3) := by decide +kernel
theorem d_Msg_receiverKind_15 : decode b_Msg_receiverKind 15 = .ok (.iconst 0, 1) := by decide +kernel
theorem d_Msg_receiverKind_16 : decode b_Msg_receiverKind 16 = .ok (.ireturn, 1) := by decide +kernel
theorem d_Msg_receiverKind_17 : decode b_Msg_receiverKind 17 = .ok (.aload_n 0, 1) := by decide +kernel
theorem d_Msg_receiverKind_18 : decode b_Msg_receiverKind 18 = .ok (.getfield 9, 3) := by decide +kernel
theorem d_Msg_receiverKind_21 : decode b_Msg_receiverKind 21 = .ok (.iconst 1, 1) := by decide +kernel
theorem d_Msg_receiverKind_22 : decode b_Msg_receiverKind 22 = .ok (.if_icmp .eq 11, 3) := by decide +kernel
theorem d_Msg_receiverKind_25 : decode b_Msg_receiverKind 25 = .ok (.aload_n 0, 1) := by decide +kernel
theorem d_Msg_receiverKind_26 : decode b_Msg_receiverKind 26 = .ok (.getfield 9, 3) := by decide +kernel
theorem d_Msg_receiverKind_29 : decode b_Msg_receiverKind 29 = .ok (.iconst 3, 1) := by decide +kernel
theorem d_Msg_receiverKind_30 : decode b_Msg_receiverKind 30 = .ok (.if_icmp .ne 7, 3) := by decide +kernel
theorem d_Msg_receiverKind_33 : decode b_Msg_receiverKind 33 = .ok (.iconst 1, 1) := by decide +kernel
theorem d_Msg_receiverKind_34 : decode b_Msg_receiverKind 34 = .ok (.goto 4, 3) := by decide +kernel
theorem d_Msg_receiverKind_37 : decode b_Msg_receiverKind 37 = .ok (.iconst 2, 1) := by decide +kernel
theorem d_Msg_receiverKind_38 : decode b_Msg_receiverKind 38 = .ok (.ireturn, 1) := by decide +kernel
theorem d_Msg_spell_0 : decode b_Msg_spell 0 = .ok (.aload_n 1, 1) := by decide +kernel
theorem d_Msg_spell_1 : decode b_Msg_spell 1 = .ok (.ldc 53, 2) := by decide +kernel
theorem d_Msg_spell_3 : decode b_Msg_spell 3 = .ok (.aload_n 0, 1) := by decide +kernel
theorem d_Msg_spell_4 : decode b_Msg_spell 4 = .ok (.getfield 9, 3) := by decide +kernel
theorem d_Msg_spell_7 : decode b_Msg_spell 7 = .ok (.invokevirtual 55, 3) := by decide +kernel
theorem d_Msg_spell_10 : decode b_Msg_spell 10 = .ok (.invokevirtual 61, 3) := by decide +kernel
theorem d_Msg_spell_13 : decode b_Msg_spell 13 = .ok (.pop, 1) := by decide +kernel
theorem d_Msg_spell_14 : decode b_Msg_spell 14 = .ok (.aload_n 1, 1) := by decide +kernel
theorem d_Msg_spell_15 : decode b_Msg_spell 15 = .ok (.bipush 116, 2) := by decide +kernel
theorem d_Msg_spell_17 : decode b_Msg_spell 17 = .ok (.aload_n 0, 1) := by decide +kernel
theorem d_Msg_spell_18 : decode b_Msg_spell 18 = .ok (.getfield 15, 3) := by decide +kernel
theorem d_Msg_spell_21 : decode b_Msg_spell 21 = .ok (.invokestatic 67, 3) := by decide +kernel
theorem d_Msg_spell_24 : decode b_Msg_spell 24 = .ok (.aload_n 1, 1) := by decide +kernel
theorem d_Msg_spell_25 : decode b_Msg_spell 25 = .ok (.bipush 115, 2) := by decide +kernel
theorem d_Msg_spell_27 : decode b_Msg_spell 27 = .ok (.aload_n 0, 1) := by decide +kernel
theorem d_Msg_spell_28 : decode b_Msg_spell 28 = .ok (.getfield 18, 3) := by decide +kernel
theorem d_Msg_spell_31 : decode b_Msg_spell 31 = .ok (.invokestatic 67, 3) := by decide +kernel
theorem d_Msg_spell_34 : decode b_Msg_spell 34 = .ok (.aload_n 1, 1) := by decide +kernel
theorem d_Msg_spell_35 : decode b_Msg_spell 35 = .ok (.bipush 97, 2) := by decide +kernel
theorem d_Msg_spell_37 : decode b_Msg_spell 37 = .ok (.aload_n 0, 1) := by decide +kernel
theorem d_Msg_spell_38 : decode b_Msg_spell 38 = .ok (.getfield 21, 3) := by decide +kernel
theorem d_Msg_spell_41 : decode b_Msg_spell 41 = .ok (.invokestatic 67, 3) := by decide +kernel
theorem d_Msg_spell_44 : decode b_Msg_spell 44 = .ok (.aload_n 1, 1) := by decide +kernel
theorem d_Msg_spell_45 : decode b_Msg_spell 45 = .ok (.bipush 108, 2) := by decide +kernel
theorem d_Msg_spell_47 : decode b_Msg_spell 47 = .ok (.aload_n 0, 1) := by decide +kernel
theorem d_Msg_spell_48 : decode b_Msg_spell 48 = .ok (.getfield 24, 3) := by decide +kernel
theorem d_Msg_spell_51 : decode b_Msg_spell 51 = .ok (.invokestatic 67, 3) := by decide +kernel
theorem d_Msg_spell_54 : decode b_Msg_spell 54 = .ok (.aload_n 1, 1) := by decide +kernel
theorem d_Msg_spell_55 : decode b_Msg_spell 55 = .ok (.bipush 98, 2) := by decide +kernel
theorem d_Msg_spell_57 : decode b_Msg_spell 57 = .ok (.aload_n 0, 1) := by decide +kernel
theorem d_Msg_spell_58 : decode b_Msg_spell 58 = .ok (.getfield 27, 3) := by decide +kernel
theorem d_Msg_spell_61 : decode b_Msg_spell 61 = .ok (.invokestatic 67, 3) := by decide +kernel
theorem d_Msg_spell_64 : decode b_Msg_spell 64 = .ok (.aload_n 0, 1) := by decide +kernel
theorem d_Msg_spell_65 : decode b_Msg_spell 65 = .ok (.getfield 30, 3) := by decide +kernel
theorem d_Msg_spell_68 : decode b_Msg_spell 68 = .ok (.iconst (-1), 1) := by decide +kernel
theorem d_Msg_spell_69 : decode b_Msg_spell 69 = .ok (.if_icmp .eq 23, 3) := by decide +kernel
theorem d_Msg_spell_72 : decode b_Msg_spell 72 = .ok (.aload_n 1, 1) := by decide +kernel
theorem d_Msg_spell_73 : decode b_Msg_spell 73 = .ok (.aload_n 0, 1) := by decide +kernel
theorem d_Msg_spell_74 : decode b_Msg_spell 74 = .ok (.getfield 30, 3) := by decide +kernel
theorem d_Msg_spell_77 : decode b_Msg_spell 77 = .ok (.iconst 1, 1) := by decide +kernel
theorem d_Msg_spell_78 : decode b_Msg_spell 78 = .ok (.if_icmp .ne 8, 3) := by decide +kernel
theorem d_Msg_spell_81 : decode b_Msg_spell 81 = .ok (.bipush 89, 2) := by decide +kernel
theorem d_Msg_spell_83 : decode b_Msg_spell 83 = .ok (.goto 5, 3) := by decide +kernel
theorem d_Msg_spell_86 : decode b_Msg_spell 86 = .ok (.bipush 78, 2) := by decide +kernel
theorem d_Msg_spell_88 : decode b_Msg_spell 88 = .ok (.invokevirtual 61, 3) := by decide +kernel
theorem d_Msg_spell_91 : decode b_Msg_spell 91 = .ok (.pop, 1) := by decide +kernel
theorem d_Msg_spell_92 : decode b_Msg_spell 92 = .ok (.aload_n 0, 1) := by decide +kernel
theorem d_Msg_spell_93 : decode b_Msg_spell 93 = .ok (.getfield 9, 3) := by decide +kernel
theorem d_Msg_spell_96 : decode b_Msg_spell 96 = .ok (.iconst 2, 1) := by decide +kernel
theorem d_Msg_spell_97 : decode b_Msg_spell 97 = .ok (.if_icmp .ne 26, 3) := by decide +kernel
theorem d_Msg_spell_100 : decode b_Msg_spell 100 = .ok (.iconst 0, 1) := by decide +kernel
end
section
theorem d_Msg_spell_101 : decode b_Msg_spell 101 = .ok (.istore_n 2, 1) := by decide +kernel
theorem d_Msg_spell_102 : decode b_Msg_spell 102 = .ok (.iload_n 2, 1) := by decide +kernel
theorem d_Msg_spell_103 : decode b_Msg_spell 103 = .ok (.iconst 3, 1) := by decide +kernel
theorem d_Msg_spell_104 : decode b_Msg_spell 104 = .ok (.if_icmp .ge 19, 3) := by decide +kernel
theorem d_Msg_spell_107 : decode b_Msg_spell 107 = .ok (.aload_n 1, 1) := by decide +kernel
theorem d_Msg_spell_108 : decode b_Msg_spell 108 = .ok (.aload_n 0, 1) := by decide +kernel
theorem d_Msg_spell_109 : decode b_Msg_spell 109 = .ok (.getfield 33, 3) := by decide +kernel
theorem d_Msg_spell_112 : decode b_Msg_spell 112 = .ok (.iload_n 2, 1) := by decide +kernel
theorem d_Msg_spell_113 : decode b_Msg_spell 113 = .ok (.iaload, 1) := by decide +kernel
theorem d_Msg_spell_114 : decode b_Msg_spell 114 = .ok (.invokestatic 71, 3) := by decide +kernel
theorem d_Msg_spell_117 : decode b_Msg_spell 117 = .ok (.iinc 2 1, 3) := by decide +kernel
theorem d_Msg_spell_120 : decode b_Msg_spell 120 = .ok (.goto (-18), 3) := by decide +kernel
theorem d_Msg_spell_123 : decode b_Msg_spell 123 = .ok (.return_, 1) := by decide +kernel
theorem d_Msg_spellPart_0 : decode b_Msg_spellPart 0 = .ok (.iload_n 2, 1) := by decide +kernel
theorem d_Msg_spellPart_1 : decode b_Msg_spellPart 1 = .ok (.iconst (-1), 1) := by decide +kernel
theorem d_Msg_spellPart_2 : decode b_Msg_spellPart 2 = .ok (.if_icmp .eq 15, 3) := by decide +kernel
theorem d_Msg_spellPart_5 : decode b_Msg_spellPart 5 = .ok (.aload_n 0, 1) := by decide +kernel
theorem d_Msg_spellPart_6 : decode b_Msg_spellPart 6 = .ok (.iload_n 1, 1) := by decide +kernel
theorem d_Msg_spellPart_7 : decode b_Msg_spellPart 7 = .ok (.invokevirtual 61, 3) := by decide +kernel
theorem d_Msg_spellPart_10 : decode b_Msg_spellPart 10 = .ok (.pop, 1) := by decide +kernel
theorem d_Msg_spellPart_11 : decode b_Msg_spellPart 11 = .ok (.aload_n 0, 1) := by decide +kernel
theorem d_Msg_spellPart_12 : decode b_Msg_spellPart 12 = .ok (.iload_n 2, 1) := by decide +kernel
theorem d_Msg_spellPart_13 : decode b_Msg_spellPart 13 = .ok (.invokevirtual 75, 3) := by decide +kernel
theorem d_Msg_spellPart_16 : decode b_Msg_spellPart 16 = .ok (.pop, 1) := by decide +kernel
theorem d_Msg_spellPart_17 : decode b_Msg_spellPart 17 = .ok (.return_, 1) := by decide +kernel
theorem d_Msg_spellReplied_0 : decode b_Msg_spellReplied 0 = .ok (.iload_n 1, 1) := by decide +kernel
theorem d_Msg_spellReplied_1 : decode b_Msg_spellReplied 1 = .ok (.iconst (-1), 1) := by decide +kernel
theorem d_Msg_spellReplied_2 : decode b_Msg_spellReplied 2 = .ok (.if_icmp .ne 13, 3) := by decide +kernel
theorem d_Msg_spellReplied_5 : decode b_Msg_spellReplied 5 = .ok (.aload_n 0, 1) := by decide +kernel
theorem d_Msg_spellReplied_6 : decode b_Msg_spellReplied 6 = .ok (.bipush 45, 2) := by decide +kernel
theorem d_Msg_spellReplied_8 : decode b_Msg_spellReplied 8 = .ok (.invokevirtual 61, 3) := by decide +kernel
theorem d_Msg_spellReplied_11 : decode b_Msg_spellReplied 11 = .ok (.pop, 1) := by decide +kernel
theorem d_Msg_spellReplied_12 : decode b_Msg_spellReplied 12 = .ok (.goto 32, 3) := by decide +kernel
theorem d_Msg_spellReplied_15 : decode b_Msg_spellReplied 15 = .ok (.aload_n 0, 1) := by decide +kernel
theorem d_Msg_spellReplied_16 : decode b_Msg_spellReplied 16 = .ok (.iload_n 1, 1) := by decide +kernel
theorem d_Msg_spellReplied_17 : decode b_Msg_spellReplied 17 = .ok (.invokestatic 78, 3) := by decide +kernel
theorem d_Msg_spellReplied_20 : decode b_Msg_spellReplied 20 = .ok (.invokevirtual 75, 3) := by decide +kernel
theorem d_Msg_spellReplied_23 : decode b_Msg_spellReplied 23 = .ok (.pop, 1) := by decide +kernel
theorem d_Msg_spellReplied_24 : decode b_Msg_spellReplied 24 = .ok (.aload_n 0, 1) := by decide +kernel
theorem d_Msg_spellReplied_25 : decode b_Msg_spellReplied 25 = .ok (.iload_n 1, 1) := by decide +kernel
theorem d_Msg_spellReplied_26 : decode b_Msg_spellReplied 26 = .ok (.invokestatic 82, 3) := by decide +kernel
theorem d_Msg_spellReplied_29 : decode b_Msg_spellReplied 29 = .ok (.iconst 1, 1) := by decide +kernel
theorem d_Msg_spellReplied_30 : decode b_Msg_spellReplied 30 = .ok (.if_icmp .ne 8, 3) := by decide +kernel
theorem d_Msg_spellReplied_33 : decode b_Msg_spellReplied 33 = .ok (.bipush 89, 2) := by decide +kernel
theorem d_Msg_spellReplied_35 : decode b_Msg_spellReplied 35 = .ok (.goto 5, 3) := by decide +kernel
theorem d_Msg_spellReplied_38 : decode b_Msg_spellReplied 38 = .ok (.bipush 78, 2) := by decide +kernel
theorem d_Msg_spellReplied_40 : decode b_Msg_spellReplied 40 = .ok (.invokevirtual 61, 3) := by decide +kernel
theorem d_Msg_spellReplied_43 : decode b_Msg_spellReplied 43 = .ok (.pop, 1) := by decide +kernel
theorem d_Msg_spellReplied_44 : decode b_Msg_spellReplied 44 = .ok (.return_, 1) := by decide +kernel
theorem d_Net_compose_0 : decode b_Net_compose 0 = .ok (.aload_n 0, 1) := by decide +kernel
theorem d_Net_compose_1 : decode b_Net_compose 1 = .ok (.getfield 25, 3) := by decide +kernel
theorem d_Net_compose_4 : decode b_Net_compose 4 = .ok (.iload_n 1, 1) := by decide +kernel
theorem d_Net_compose_5 : decode b_Net_compose 5 = .ok (.iload_n 2, 1) := by decide +kernel
theorem d_Net_compose_6 : decode b_Net_compose 6 = .ok (.invokevirtual 32, 3) := by decide +kernel
theorem d_Net_compose_9 : decode b_Net_compose 9 = .ok (.aload_n 0, 1) := by decide +kernel
theorem d_Net_compose_10 : decode b_Net_compose 10 = .ok (.getfield 25, 3) := by decide +kernel
theorem d_Net_compose_13 : decode b_Net_compose 13 = .ok (.areturn, 1) := by decide +kernel
theorem d_Net_init_0 : decode b_Net_init 0 = .ok (.aload_n 0, 1) := by decide +kernel
theorem d_Net_init_1 : decode b_Net_init 1 = .ok (.invokespecial 3, 3) := by decide +kernel
theorem d_Net_init_4 : decode b_Net_init 4 = .ok (.aload_n 0, 1) := by decide +kernel
theorem d_Net_init_5 : decode b_Net_init 5 = .ok (.bipush 60, 2) := by decide +kernel
theorem d_Net_init_7 : decode b_Net_init 7 = .ok (.anewarray 9, 3) := by decide +kernel
theorem d_Net_init_10 : decode b_Net_init 10 = .ok (.putfield 11, 3) := by decide +kernel
theorem d_Net_init_13 : decode b_Net_init 13 = .ok (.aload_n 0, 1) := by decide +kernel
theorem d_Net_init_14 : decode b_Net_init 14 = .ok (.iconst 0, 1) := by decide +kernel
theorem d_Net_init_15 : decode b_Net_init 15 = .ok (.putfield 17, 3) := by decide +kernel
theorem d_Net_init_18 : decode b_Net_init 18 = .ok (.aload_n 0, 1) := by decide +kernel
theorem d_Net_init_19 : decode b_Net_init 19 = .ok (.iconst 0, 1) := by decide +kernel
theorem d_Net_init_20 : decode b_Net_init 20 = .ok (.putfield 21, 3) := by decide +kernel
theorem d_Net_init_23 : decode b_Net_init 23 = .ok (.aload_n 0, 1) := by decide +kernel
theorem d_Net_init_24 : decode b_Net_init 24 = .ok (.new 9, 3) := by decide +kernel
theorem d_Net_init_27 : decode b_Net_init 27 = .ok (.dup, 1) := by decide +kernel
theorem d_Net_init_28 : decode b_Net_init 28 = .ok (.invokespecial 24, 3) := by decide +kernel
theorem d_Net_init_31 : decode b_Net_init 31 = .ok (.putfield 25, 3) := by decide +kernel
theorem d_Net_init_34 : decode b_Net_init 34 = .ok (.aload_n 0, 1) := by decide +kernel
theorem d_Net_init_35 : decode b_Net_init 35 = .ok (.new 9, 3) := by decide +kernel
theorem d_Net_init_38 : decode b_Net_init 38 = .ok (.dup, 1) := by decide +kernel
theorem d_Net_init_39 : decode b_Net_init 39 = .ok (.invokespecial 24, 3) := by decide +kernel
theorem d_Net_init_42 : decode b_Net_init 42 = .ok (.putfield 29, 3) := by decide +kernel
theorem d_Net_init_45 : decode b_Net_init 45 = .ok (.iconst 0, 1) := by decide +kernel
theorem d_Net_init_46 : decode b_Net_init 46 = .ok (.istore_n 1, 1) := by decide +kernel
theorem d_Net_init_47 : decode b_Net_init 47 = .ok (.iload_n 1, 1) := by decide +kernel
theorem d_Net_init_48 : decode b_Net_init 48 = .ok (.bipush 60, 2) := by decide +kernel
theorem d_Net_init_50 : decode b_Net_init 50 = .ok (.if_icmp .ge 22, 3) := by decide +kernel
theorem d_Net_init_53 : decode b_Net_init 53 = .ok (.aload_n 0, 1) := by decide +kernel
theorem d_Net_init_54 : decode b_Net_init 54 = .ok (.getfield 11, 3) := by decide +kernel
theorem d_Net_init_57 : decode b_Net_init 57 = .ok (.iload_n 1, 1) := by decide +kernel
theorem d_Net_init_58 : decode b_Net_init 58 = .ok (.new 9, 3) := by decide +kernel
theorem d_Net_init_61 : decode b_Net_init 61 = .ok (.dup, 1) := by decide +kernel
theorem d_Net_init_62 : decode b_Net_init 62 = .ok (.invokespecial 24, 3) := by decide +kernel
theorem d_Net_init_65 : decode b_Net_init 65 = .ok (.aastore, 1) := by decide +kernel
theorem d_Net_init_66 : decode b_Net_init 66 = .ok (.iinc 1 1, 3) := by decide +kernel
theorem d_Net_init_69 : decode b_Net_init 69 = .ok (.goto (-22), 3) := by decide +kernel
theorem d_Net_init_72 : decode b_Net_init 72 = .ok (.return_, 1) := by decide +kernel
theorem d_Net_pick_0 : decode b_Net_pick 0 = .ok (.aload_n 0, 1) := by decide +kernel
theorem d_Net_pick_1 : decode b_Net_pick 1 = .ok (.getfield 29, 3) := by decide +kernel
theorem d_Net_pick_4 : decode b_Net_pick 4 = .ok (.aload_n 0, 1) := by decide +kernel
theorem d_Net_pick_5 : decode b_Net_pick 5 = .ok (.getfield 11, 3) := by decide +kernel
theorem d_Net_pick_8 : decode b_Net_pick 8 = .ok (.iload_n 1, 1) := by decide +kernel
theorem d_Net_pick_9 : decode b_Net_pick 9 = .ok (.aaload, 1) := by decide +kernel
theorem d_Net_pick_10 : decode b_Net_pick 10 = .ok (.invokevirtual 36, 3) := by decide +kernel
theorem d_Net_pick_13 : decode b_Net_pick 13 = .ok (.aload_n 0, 1) := by decide +kernel
theorem d_Net_pick_14 : decode b_Net_pick 14 = .ok (.getfield 29, 3) := by decide +kernel
theorem d_Net_pick_17 : decode b_Net_pick 17 = .ok (.areturn, 1) := by decide +kernel
theorem d_Net_remove_0 : decode b_Net_remove 0 = .ok (.aload_n 0, 1) := by decide +kernel
theorem d_Net_remove_1 : decode b_Net_remove 1 = .ok (.getfield 11, 3) := by decide +kernel
theorem d_Net_remove_4 : decode b_Net_remove 4 = .ok (.iload_n 1, 1) := by decide +kernel
theorem d_Net_remove_5 : decode b_Net_remove 5 = .ok (.aaload, 1) := by decide +kernel
theorem d_Net_remove_6 : decode b_Net_remove 6 = .ok (.astore_n 2, 1) := by decide +kernel
theorem d_Net_remove_7 : decode b_Net_remove 7 = .ok (.iload_n 1, 1) := by decide +kernel
theorem d_Net_remove_8 : decode b_Net_remove 8 = .ok (.istore_n 3, 1) := by decide +kernel
theorem d_Net_remove_9 : decode b_Net_remove 9 = .ok (.iload_n 3, 1) := by decide +kernel
theorem d_Net_remove_10 : decode b_Net_remove 10 = .ok (.aload_n 0, 1) := by decide +kernel
theorem d_Net_remove_11 : decode b_Net_remove 11 = .ok (.getfield 17, 3) := by decide +kernel
theorem d_Net_remove_14 : decode b_Net_remove 14 = .ok (.iconst 1, 1) := by decide +kernel
theorem d_Net_remove_15 : decode b_Net_remove 15 = .ok (.isub, 1) := by decide +kernel
theorem d_Net_remove_16 : decode b_Net_remove 16 = .ok (.if_icmp .ge 23, 3) := by decide +kernel
theorem d_Net_remove_19 : decode b_Net_remove 19 = .ok (.aload_n 0, 1) := by decide +kernel
theorem d_Net_remove_20 : decode b_Net_remove 20 = .ok (.getfield 11, 3) := by decide +kernel
theorem d_Net_remove_23 : decode b_Net_remove 23 = .ok (.iload_n 3, 1) := by decide +kernel
theorem d_Net_remove_24 : decode b_Net_remove 24 = .ok (.aload_n 0, 1) := by decide +kernel
theorem d_Net_remove_25 : decode b_Net_remove 25 = .ok (.getfield 11, 3) := by decide +kernel
theorem d_Net_remove_28 : decode b_Net_remove 28 = .ok (.iload_n 3, 1) := by decide +kernel
theorem d_Net_remove_29 : decode b_Net_remove 29 = .ok (.iconst 1, 1) := by decide +kernel
theorem d_Net_remove_30 : decode b_Net_remove 30 = .ok (.iadd, 1) := by decide +kernel
theorem d_Net_remove_31 : decode b_Net_remove 31 = .ok (.aaload, 1) := by decide +kernel
theorem d_Net_remove_32 : decode b_Net_remove 32 = .ok (.aastore, 1) := by decide +kernel
theorem d_Net_remove_33 : decode b_Net_remove 33 = .ok (.iinc 3 1, 3) := by decide +kernel
theorem d_Net_remove_36 : decode b_Net_remove 36 = .ok (.goto (-27), 3) := by decide +kernel
theorem d_Net_remove_39 : decode b_Net_remove 39 = .ok (.aload_n 0, 1) := by decide +kernel
theorem d_Net_remove_40 : decode b_Net_remove 40 = .ok (.dup, 1) := by decide +kernel
theorem d_Net_remove_41 : decode b_Net_remove 41 = .ok (.getfield 17, 3) := by decide +kernel
theorem d_Net_remove_44 : decode b_Net_remove 44 = .ok (.iconst 1, 1) := by decide +kernel
theorem d_Net_remove_45 : decode b_Net_remove 45 = .ok (.isub, 1) := by decide +kernel
theorem d_Net_remove_46 : decode b_Net_remove 46 = .ok (.putfield 17, 3) := by decide +kernel
theorem d_Net_remove_49 : decode b_Net_remove 49 = .ok (.aload_n 0, 1) := by decide +kernel
theorem d_Net_remove_50 : decode b_Net_remove 50 = .ok (.getfield 11, 3) := by decide +kernel
theorem d_Net_remove_53 : decode b_Net_remove 53 = .ok (.aload_n 0, 1) := by decide +kernel
theorem d_Net_remove_54 : decode b_Net_remove 54 = .ok (.getfield 17, 3) := by decide +kernel
theorem d_Net_remove_57 : decode b_Net_remove 57 = .ok (.aload_n 2, 1) := by decide +kernel
theorem d_Net_remove_58 : decode b_Net_remove 58 = .ok (.aastore, 1) := by decide +kernel
theorem d_Net_remove_59 : decode b_Net_remove 59 = .ok (.return_, 1) := by decide +kernel
theorem d_Net_send_0 : decode b_Net_send 0 = .ok (.aload_n 0, 1) := by decide +kernel
theorem d_Net_send_1 : decode b_Net_send 1 = .ok (.getfield 17, 3) := by decide +kernel
theorem d_Net_send_4 : decode b_Net_send 4 = .ok (.bipush 60, 2) := by decide +kernel
theorem d_Net_send_6 : decode b_Net_send 6 = .ok (.if_icmp .lt 14, 3) := by decide +kernel
theorem d_Net_send_9 : decode b_Net_send 9 = .ok (.aload_n 0, 1) := by decide +kernel
theorem d_Net_send_10 : decode b_Net_send 10 = .ok (.dup, 1) := by decide +kernel
theorem d_Net_send_11 : decode b_Net_send 11 = .ok (.getfield 21, 3) := by decide +kernel
theorem d_Net_send_14 : decode b_Net_send 14 = .ok (.iconst 1, 1) := by decide +kernel
theorem d_Net_send_15 : decode b_Net_send 15 = .ok (.iadd, 1) := by decide +kernel
theorem d_Net_send_16 : decode b_Net_send 16 = .ok (.putfield 21, 3) := by decide +kernel
theorem d_Net_send_19 : decode b_Net_send 19 = .ok (.return_, 1) := by decide +kernel
theorem d_Net_send_20 : decode b_Net_send 20 = .ok (.aload_n 0, 1) := by decide +kernel
theorem d_Net_send_21 : decode b_Net_send 21 = .ok (.getfield 11, 3) := by decide +kernel
theorem d_Net_send_24 : decode b_Net_send 24 = .ok (.aload_n 0, 1) := by decide +kernel
theorem d_Net_send_25 : decode b_Net_send 25 = .ok (.getfield 17, 3) := by decide +kernel
theorem d_Net_send_28 : decode b_Net_send 28 = .ok (.aaload, 1) := by decide +kernel
theorem d_Net_send_29 : decode b_Net_send 29 = .ok (.aload_n 1, 1) := by decide +kernel
theorem d_Net_send_30 : decode b_Net_send 30 = .ok (.invokevirtual 36, 3) := by decide +kernel
theorem d_Net_send_33 : decode b_Net_send 33 = .ok (.aload_n 0, 1) := by decide +kernel
theorem d_Net_send_34 : decode b_Net_send 34 = .ok (.dup, 1) := by decide +kernel
theorem d_Net_send_35 : decode b_Net_send 35 = .ok (.getfield 17, 3) := by decide +kernel
theorem d_Net_send_38 : decode b_Net_send 38 = .ok (.iconst 1, 1) := by decide +kernel
theorem d_Net_send_39 : decode b_Net_send 39 = .ok (.iadd, 1) := by decide +kernel
theorem d_Net_send_40 : decode b_Net_send 40 = .ok (.putfield 17, 3) := by decide +kernel
theorem d_Net_send_43 : decode b_Net_send 43 = .ok (.return_, 1) := by decide +kernel
theorem d_Object_init_0 : decode b_Object_init 0 = .ok (.return_, 1) := by decide +kernel
theorem d_PC_arrive_0 : decode b_PC_arrive 0 = .ok (.aload_n 0, 1) := by decide +kernel
theorem d_PC_arrive_1 : decode b_PC_arrive 1 = .ok (.getfield 21, 3) := by decide +kernel
theorem d_PC_arrive_4 : decode b_PC_arrive 4 = .ok (.aload_n 1, 1) := by decide +kernel
theorem d_PC_arrive_5 : decode b_PC_arrive 5 = .ok (.invokevirtual 233, 3) := by decide +kernel
theorem d_PC_arrive_8 : decode b_PC_arrive 8 = .ok (.iaload, 1) := by decide +kernel
theorem d_PC_arrive_9 : decode b_PC_arrive 9 = .ok (.aload_n 1, 1) := by decide +kernel
theorem d_PC_arrive_10 : decode b_PC_arrive 10 = .ok (.invokevirtual 236, 3) := by decide +kernel
theorem d_PC_arrive_13 : decode b_PC_arrive 13 = .ok (.invokestatic 105, 3) := by decide +kernel
theorem d_PC_arrive_16 : decode b_PC_arrive 16 = .ok (.ifCond .ne 4, 3) := by decide +kernel
theorem d_PC_arrive_19 : decode b_PC_arrive 19 = .ok (.return_, 1) := by decide +kernel
theorem d_PC_arrive_20 : decode b_PC_arrive 20 = .ok (.aload_n 1, 1) := by decide +kernel
theorem d_PC_arrive_21 : decode b_PC_arrive 21 = .ok (.getfield 239, 3) := by decide +kernel
theorem d_PC_arrive_24 : decode b_PC_arrive 24 = .ok (.tableswitch 76 0 4 #[36, 44, 52, 60, 68], 36) := by decide +kernel
theorem d_PC_arrive_60 : decode b_PC_arrive 60 = .ok (.aload_n 0, 1) := by decide +kernel
theorem d_PC_arrive_61 : decode b_PC_arrive 61 = .ok (.aload_n 1, 1) := by decide +kernel
theorem d_PC_arrive_62 : decode b_PC_arrive 62 = .ok (.invokevirtual 242, 3) := by decide +kernel
theorem d_PC_arrive_65 : decode b_PC_arrive 65 = .ok (.goto 40, 3) := by decide +kernel
theorem d_PC_arrive_68 : decode b_PC_arrive 68 = .ok (.aload_n 0, 1) := by decide +kernel
theorem d_PC_arrive_69 : decode b_PC_arrive 69 = .ok (.aload_n 1, 1) := by decide +kernel
theorem d_PC_arrive_70 : decode b_PC_arrive 70 = .ok (.invokevirtual 245, 3) := by decide +kernel
theorem d_PC_arrive_73 : decode b_PC_arrive 73 = .ok (.goto 32, 3) := by decide +kernel
theorem d_PC_arrive_76 : decode b_PC_arrive 76 = .ok (.aload_n 0, 1) := by decide +kernel
theorem d_PC_arrive_77 : decode b_PC_arrive 77 = .ok (.aload_n 1, 1) := by decide +kernel
theorem d_PC_arrive_78 : decode b_PC_arrive 78 = .ok (.invokevirtual 248, 3) := by decide +kernel
theorem d_PC_arrive_81 : decode b_PC_arrive 81 = .ok (.goto 24, 3) := by decide +kernel
theorem d_PC_arrive_84 : decode b_PC_arrive 84 = .ok (.aload_n 0, 1) := by decide +kernel
theorem d_PC_arrive_85 : decode b_PC_arrive 85 = .ok (.aload_n 1, 1) := by decide +kernel
theorem d_PC_arrive_86 : decode b_PC_arrive 86 = .ok (.invokevirtual 251, 3) := by decide +kernel
theorem d_PC_arrive_89 : decode b_PC_arrive 89 = .ok (.goto 16, 3) := by decide +kernel
theorem d_PC_arrive_92 : decode b_PC_arrive 92 = .ok (.aload_n 0, 1) := by decide +kernel
theorem d_PC_arrive_93 : decode b_PC_arrive 93 = .ok (.aload_n 1, 1) := by decide +kernel
theorem d_PC_arrive_94 : decode b_PC_arrive 94 = .ok (.invokevirtual 254, 3) := by decide +kernel
theorem d_PC_arrive_97 : decode b_PC_arrive 97 = .ok (.goto 8, 3) := by decide +kernel
theorem d_PC_arrive_100 : decode b_PC_arrive 100 = .ok (.aload_n 0, 1) := by decide +kernel
theorem d_PC_arrive_101 : decode b_PC_arrive 101 = .ok (.aload_n 1, 1) := by decide +kernel
theorem d_PC_arrive_102 : decode b_PC_arrive 102 = .ok (.invokevirtual 257, 3) := by decide +kernel
theorem d_PC_arrive_105 : decode b_PC_arrive 105 = .ok (.return_, 1) := by decide +kernel
theorem d_PC_arriveAsk_0 : decode b_PC_arriveAsk 0 = .ok (.aload_n 0, 1) := by decide +kernel
theorem d_PC_arriveAsk_1 : decode b_PC_arriveAsk 1 = .ok (.getfield 48, 3) := by decide +kernel
theorem d_PC_arriveAsk_4 : decode b_PC_arriveAsk 4 = .ok (.aload_n 1, 1) := by decide +kernel
theorem d_PC_arriveAsk_5 : decode b_PC_arriveAsk 5 = .ok (.getfield 266, 3) := by decide +kernel
theorem d_PC_arriveAsk_8 : decode b_PC_arriveAsk 8 = .ok (.aaload, 1) := by decide +kernel
theorem d_PC_arriveAsk_9 : decode b_PC_arriveAsk 9 = .ok (.astore_n 2, 1) := by decide +kernel
theorem d_PC_arriveAsk_10 : decode b_PC_arriveAsk 10 = .ok (.aload_n 0, 1) := by decide +kernel
theorem d_PC_arriveAsk_11 : decode b_PC_arriveAsk 11 = .ok (.getfield 32, 3) := by decide +kernel
theorem d_PC_arriveAsk_14 : decode b_PC_arriveAsk 14 = .ok (.aload_n 1, 1) := by decide +kernel
theorem d_PC_arriveAsk_15 : decode b_PC_arriveAsk 15 = .ok (.getfield 263, 3) := by decide +kernel
theorem d_PC_arriveAsk_18 : decode b_PC_arriveAsk 18 = .ok (.iaload, 1) := by decide +kernel
theorem d_PC_arriveAsk_19 : decode b_PC_arriveAsk 19 = .ok (.istore_n 3, 1) := by decide +kernel
theorem d_PC_arriveAsk_20 : decode b_PC_arriveAsk 20 = .ok (.aload_n 2, 1) := by decide +kernel
theorem d_PC_arriveAsk_21 : decode b_PC_arriveAsk 21 = .ok (.aload_n 1, 1) := by decide +kernel
theorem d_PC_arriveAsk_22 : decode b_PC_arriveAsk 22 = .ok (.getfield 263, 3) := by decide +kernel
theorem d_PC_arriveAsk_25 : decode b_PC_arriveAsk 25 = .ok (.iload_n 3, 1) := by decide +kernel
theorem d_PC_arriveAsk_26 : decode b_PC_arriveAsk 26 = .ok (.aload_n 1, 1) := by decide +kernel
theorem d_PC_arriveAsk_27 : decode b_PC_arriveAsk 27 = .ok (.getfield 269, 3) := by decide +kernel
theorem d_PC_arriveAsk_30 : decode b_PC_arriveAsk 30 = .ok (.invokevirtual 272, 3) := by decide +kernel
theorem d_PC_arriveAsk_33 : decode b_PC_arriveAsk 33 = .ok (.ifCond .eq 4, 3) := by decide +kernel
theorem d_PC_arriveAsk_36 : decode b_PC_arriveAsk 36 = .ok (.return_, 1) := by decide +kernel
theorem d_PC_arriveAsk_37 : decode b_PC_arriveAsk 37 = .ok (.aload_n 2, 1) := by decide +kernel
theorem d_PC_arriveAsk_38 : decode b_PC_arriveAsk 38 = .ok (.aload_n 1, 1) := by decide +kernel
theorem d_PC_arriveAsk_39 : decode b_PC_arriveAsk 39 = .ok (.getfield 263, 3) := by decide +kernel
theorem d_PC_arriveAsk_42 : decode b_PC_arriveAsk 42 = .ok (.iload_n 3, 1) := by decide +kernel
theorem d_PC_arriveAsk_43 : decode b_PC_arriveAsk 43 = .ok (.aload_n 1, 1) := by decide +kernel
theorem d_PC_arriveAsk_44 : decode b_PC_arriveAsk 44 = .ok (.getfield 269, 3) := by decide +kernel
theorem d_PC_arriveAsk_47 : decode b_PC_arriveAsk 47 = .ok (.invokevirtual 276, 3) := by decide +kernel
theorem d_PC_arriveAsk_50 : decode b_PC_arriveAsk 50 = .ok (.aload_n 0, 1) := by decide +kernel
theorem d_PC_arriveAsk_51 : decode b_PC_arriveAsk 51 = .ok (.aload_n 1, 1) := by decide +kernel
theorem d_PC_arriveAsk_52 : decode b_PC_arriveAsk 52 = .ok (.getfield 266, 3) := by decide +kernel
theorem d_PC_arriveAsk_55 : decode b_PC_arriveAsk 55 = .ok (.aload_n 1, 1) := by decide +kernel
theorem d_PC_arriveAsk_56 : decode b_PC_arriveAsk 56 = .ok (.getfield 263, 3) := by decide +kernel
theorem d_PC_arriveAsk_59 : decode b_PC_arriveAsk 59 = .ok (.aload_n 1, 1) := by decide +kernel
theorem d_PC_arriveAsk_60 : decode b_PC_arriveAsk 60 = .ok (.getfield 269, 3) := by decide +kernel
theorem d_PC_arriveAsk_63 : decode b_PC_arriveAsk 63 = .ok (.invokevirtual 279, 3) := by decide +kernel
theorem d_PC_arriveAsk_66 : decode b_PC_arriveAsk 66 = .ok (.return_, 1) := by decide +kernel
theorem d_PC_arriveOutcome_0 : decode b_PC_arriveOutcome 0 = .ok (.aload_n 0, 1) := by decide +kernel
theorem d_PC_arriveOutcome_1 : decode b_PC_arriveOutcome 1 = .ok (.getfield 11, 3) := by decide +kernel
theorem d_PC_arriveOutcome_4 : decode b_PC_arriveOutcome 4 = .ok (.aload_n 1, 1) := by decide +kernel
theorem d_PC_arriveOutcome_5 : decode b_PC_arriveOutcome 5 = .ok (.getfield 260, 3) := by decide +kernel
theorem d_PC_arriveOutcome_8 : decode b_PC_arriveOutcome 8 = .ok (.aaload, 1) := by decide +kernel
theorem d_PC_arriveOutcome_9 : decode b_PC_arriveOutcome 9 = .ok (.astore_n 2, 1) := by decide +kernel
theorem d_PC_arriveOutcome_10 : decode b_PC_arriveOutcome 10 = .ok (.aload_n 1, 1) := by decide +kernel
theorem d_PC_arriveOutcome_11 : decode b_PC_arriveOutcome 11 = .ok (.getfield 263, 3) := by decide +kernel
theorem d_PC_arriveOutcome_14 : decode b_PC_arriveOutcome 14 = .ok (.istore_n 3, 1) := by decide +kernel
theorem d_PC_arriveOutcome_15 : decode b_PC_arriveOutcome 15 = .ok (.aload_n 2, 1) := by decide +kernel
theorem d_PC_arriveOutcome_16 : decode b_PC_arriveOutcome 16 = .ok (.getfield 117, 3) := by decide +kernel
theorem d_PC_arriveOutcome_19 : decode b_PC_arriveOutcome 19 = .ok (.iload_n 3, 1) := by decide +kernel
theorem d_PC_arriveOutcome_20 : decode b_PC_arriveOutcome 20 = .ok (.iaload, 1) := by decide +kernel
theorem d_PC_arriveOutcome_21 : decode b_PC_arriveOutcome 21 = .ok (.iconst 2, 1) := by decide +kernel
theorem d_PC_arriveOutcome_22 : decode b_PC_arriveOutcome 22 = .ok (.if_icmp .ne 7, 3) := by decide +kernel
theorem d_PC_arriveOutcome_25 : decode b_PC_arriveOutcome 25 = .ok (.iconst 1, 1) := by decide +kernel
theorem d_PC_arriveOutcome_26 : decode b_PC_arriveOutcome 26 = .ok (.goto 4, 3) := by decide +kernel
theorem d_PC_arriveOutcome_29 : decode b_PC_arriveOutcome 29 = .ok (.iconst 0, 1) := by decide +kernel
theorem d_PC_arriveOutcome_30 : decode b_PC_arriveOutcome 30 = .ok (.istore 4, 2) := by decide +kernel
theorem d_PC_arriveOutcome_32 : decode b_PC_arriveOutcome 32 = .ok (.iload 4, 2) := by decide +kernel
theorem d_PC_arriveOutcome_34 : decode b_PC_arriveOutcome 34 = .ok (.ifCond .eq 19, 3) := by decide +kernel
theorem d_PC_arriveOutcome_37 : decode b_PC_arriveOutcome 37 = .ok (.aload_n 1, 1) := by decide +kernel
theorem d_PC_arriveOutcome_38 : decode b_PC_arriveOutcome 38 = .ok (.getfield 303, 3) := by decide +kernel
theorem d_PC_arriveOutcome_41 : decode b_PC_arriveOutcome 41 = .ok (.iconst 1, 1) := by decide +kernel
theorem d_PC_arriveOutcome_42 : decode b_PC_arriveOutcome 42 = .ok (.if_icmp .ne 11, 3) := by decide +kernel
theorem d_PC_arriveOutcome_45 : decode b_PC_arriveOutcome 45 = .ok (.aload_n 2, 1) := by decide +kernel
theorem d_PC_arriveOutcome_46 : decode b_PC_arriveOutcome 46 = .ok (.iload_n 3, 1) := by decide +kernel
theorem d_PC_arriveOutcome_47 : decode b_PC_arriveOutcome 47 = .ok (.invokevirtual 322, 3) := by decide +kernel
theorem d_PC_arriveOutcome_50 : decode b_PC_arriveOutcome 50 = .ok (.goto 28, 3) := by decide +kernel
theorem d_PC_arriveOutcome_53 : decode b_PC_arriveOutcome 53 = .ok (.aload_n 1, 1) := by decide +kernel
theorem d_PC_arriveOutcome_54 : decode b_PC_arriveOutcome 54 = .ok (.getfield 303, 3) := by decide +kernel
theorem d_PC_arriveOutcome_57 : decode b_PC_arriveOutcome 57 = .ok (.ifCond .ne 21, 3) := by decide +kernel
theorem d_PC_arriveOutcome_60 : decode b_PC_arriveOutcome 60 = .ok (.iload 4, 2) := by decide +kernel
theorem d_PC_arriveOutcome_62 : decode b_PC_arriveOutcome 62 = .ok (.ifCond .ne 11, 3) := by decide +kernel
theorem d_PC_arriveOutcome_65 : decode b_PC_arriveOutcome 65 = .ok (.aload_n 2, 1) := by decide +kernel
theorem d_PC_arriveOutcome_66 : decode b_PC_arriveOutcome 66 = .ok (.iload_n 3, 1) := by decide +kernel
theorem d_PC_arriveOutcome_67 : decode b_PC_arriveOutcome 67 = .ok (.invokevirtual 80, 3) := by decide +kernel
theorem d_PC_arriveOutcome_70 : decode b_PC_arriveOutcome 70 = .ok (.ifCond .eq 8, 3) := by decide +kernel
theorem d_PC_arriveOutcome_73 : decode b_PC_arriveOutcome 73 = .ok (.aload_n 2, 1) := by decide +kernel
theorem d_PC_arriveOutcome_74 : decode b_PC_arriveOutcome 74 = .ok (.iload_n 3, 1) := by decide +kernel
theorem d_PC_arriveOutcome_75 : decode b_PC_arriveOutcome 75 = .ok (.invokevirtual 122, 3) := by decide +kernel
theorem d_PC_arriveOutcome_78 : decode b_PC_arriveOutcome 78 = .ok (.return_, 1) := by decide +kernel
theorem d_PC_arrivePrepare_0 : decode b_PC_arrivePrepare 0 = .ok (.aload_n 0, 1) := by decide +kernel
theorem d_PC_arrivePrepare_1 : decode b_PC_arrivePrepare 1 = .ok (.getfield 11, 3) := by decide +kernel
theorem d_PC_arrivePrepare_4 : decode b_PC_arrivePrepare 4 = .ok (.aload_n 1, 1) := by decide +kernel
theorem d_PC_arrivePrepare_5 : decode b_PC_arrivePrepare 5 = .ok (.getfield 260, 3) := by decide +kernel
theorem d_PC_arrivePrepare_8 : decode b_PC_arrivePrepare 8 = .ok (.aaload, 1) := by decide +kernel
theorem d_PC_arrivePrepare_9 : decode b_PC_arrivePrepare 9 = .ok (.astore_n 2, 1) := by decide +kernel
theorem d_PC_arrivePrepare_10 : decode b_PC_arrivePrepare 10 = .ok (.aload_n 1, 1) := by decide +kernel
theorem d_PC_arrivePrepare_11 : decode b_PC_arrivePrepare 11 = .ok (.getfield 263, 3) := by decide +kernel
theorem d_PC_arrivePrepare_14 : decode b_PC_arrivePrepare 14 = .ok (.istore_n 3, 1) := by decide +kernel
theorem d_PC_arrivePrepare_15 : decode b_PC_arrivePrepare 15 = .ok (.aload_n 2, 1) := by decide +kernel
theorem d_PC_arrivePrepare_16 : decode b_PC_arrivePrepare 16 = .ok (.getfield 117, 3) := by decide +kernel
theorem d_PC_arrivePrepare_19 : decode b_PC_arrivePrepare 19 = .ok (.iload_n 3, 1) := by decide +kernel
theorem d_PC_arrivePrepare_20 : decode b_PC_arrivePrepare 20 = .ok (.iaload, 1) := by decide +kernel
theorem d_PC_arrivePrepare_21 : decode b_PC_arrivePrepare 21 = .ok (.iconst 1, 1) := by decide +kernel
theorem d_PC_arrivePrepare_22 : decode b_PC_arrivePrepare 22 = .ok (.if_icmp .ne 24, 3) := by decide +kernel
theorem d_PC_arrivePrepare_25 : decode b_PC_arrivePrepare 25 = .ok (.aload_n 2, 1) := by decide +kernel
theorem d_PC_arrivePrepare_26 : decode b_PC_arrivePrepare 26 = .ok (.getfield 117, 3) := by decide +kernel
theorem d_PC_arrivePrepare_29 : decode b_PC_arrivePrepare 29 = .ok (.iload_n 3, 1) := by decide +kernel
theorem d_PC_arrivePrepare_30 : decode b_PC_arrivePrepare 30 = .ok (.iconst 2, 1) := by decide +kernel
theorem d_PC_arrivePrepare_31 : decode b_PC_arrivePrepare 31 = .ok (.iastore, 1) := by decide +kernel
theorem d_PC_arrivePrepare_32 : decode b_PC_arrivePrepare 32 = .ok (.aload_n 0, 1) := by decide +kernel
theorem d_PC_arrivePrepare_33 : decode b_PC_arrivePrepare 33 = .ok (.iload_n 3, 1) := by decide +kernel
theorem d_PC_arrivePrepare_34 : decode b_PC_arrivePrepare 34 = .ok (.aload_n 1, 1) := by decide +kernel
theorem d_PC_arrivePrepare_35 : decode b_PC_arrivePrepare 35 = .ok (.getfield 260, 3) := by decide +kernel
theorem d_PC_arrivePrepare_38 : decode b_PC_arrivePrepare 38 = .ok (.iconst 0, 1) := by decide +kernel
theorem d_PC_arrivePrepare_39 : decode b_PC_arrivePrepare 39 = .ok (.iconst 1, 1) := by decide +kernel
theorem d_PC_arrivePrepare_40 : decode b_PC_arrivePrepare 40 = .ok (.invokevirtual 125, 3) := by decide +kernel
theorem d_PC_arrivePrepare_43 : decode b_PC_arrivePrepare 43 = .ok (.goto 38, 3) := by decide +kernel
theorem d_PC_arrivePrepare_46 : decode b_PC_arrivePrepare 46 = .ok (.aload_n 2, 1) := by decide +kernel
theorem d_PC_arrivePrepare_47 : decode b_PC_arrivePrepare 47 = .ok (.getfield 117, 3) := by decide +kernel
theorem d_PC_arrivePrepare_50 : decode b_PC_arrivePrepare 50 = .ok (.iload_n 3, 1) := by decide +kernel
theorem d_PC_arrivePrepare_51 : decode b_PC_arrivePrepare 51 = .ok (.iaload, 1) := by decide +kernel
theorem d_PC_arrivePrepare_52 : decode b_PC_arrivePrepare 52 = .ok (.ifCond .eq 13, 3) := by decide +kernel
theorem d_PC_arrivePrepare_55 : decode b_PC_arrivePrepare 55 = .ok (.aload_n 2, 1) := by decide +kernel
theorem d_PC_arrivePrepare_56 : decode b_PC_arrivePrepare 56 = .ok (.getfield 117, 3) := by decide +kernel
theorem d_PC_arrivePrepare_59 : decode b_PC_arrivePrepare 59 = .ok (.iload_n 3, 1) := by decide +kernel
theorem d_PC_arrivePrepare_60 : decode b_PC_arrivePrepare 60 = .ok (.iaload, 1) := by decide +kernel
theorem d_PC_arrivePrepare_61 : decode b_PC_arrivePrepare 61 = .ok (.iconst 4, 1) := by decide +kernel
theorem d_PC_arrivePrepare_62 : decode b_PC_arrivePrepare 62 = .ok (.if_icmp .ne 19, 3) := by decide +kernel
theorem d_PC_arrivePrepare_65 : decode b_PC_arrivePrepare 65 = .ok (.aload_n 2, 1) := by decide +kernel
theorem d_PC_arrivePrepare_66 : decode b_PC_arrivePrepare 66 = .ok (.iload_n 3, 1) := by decide +kernel
theorem d_PC_arrivePrepare_67 : decode b_PC_arrivePrepare 67 = .ok (.invokevirtual 122, 3) := by decide +kernel
theorem d_PC_arrivePrepare_70 : decode b_PC_arrivePrepare 70 = .ok (.aload_n 0, 1) := by decide +kernel
theorem d_PC_arrivePrepare_71 : decode b_PC_arrivePrepare 71 = .ok (.iload_n 3, 1) := by decide +kernel
theorem d_PC_arrivePrepare_72 : decode b_PC_arrivePrepare 72 = .ok (.aload_n 1, 1) := by decide +kernel
theorem d_PC_arrivePrepare_73 : decode b_PC_arrivePrepare 73 = .ok (.getfield 260, 3) := by decide +kernel
theorem d_PC_arrivePrepare_76 : decode b_PC_arrivePrepare 76 = .ok (.iconst 0, 1) := by decide +kernel
theorem d_PC_arrivePrepare_77 : decode b_PC_arrivePrepare 77 = .ok (.iconst 0, 1) := by decide +kernel
theorem d_PC_arrivePrepare_78 : decode b_PC_arrivePrepare 78 = .ok (.invokevirtual 125, 3) := by decide +kernel
theorem d_PC_arrivePrepare_81 : decode b_PC_arrivePrepare 81 = .ok (.return_, 1) := by decide +kernel
theorem d_PC_arriveReply_0 : decode b_PC_arriveReply 0 = .ok (.aload_n 0, 1) := by decide +kernel
theorem d_PC_arriveReply_1 : decode b_PC_arriveReply 1 = .ok (.aload_n 1, 1) := by decide +kernel
theorem d_PC_arriveReply_2 : decode b_PC_arriveReply 2 = .ok (.getfield 282, 3) := by decide +kernel
theorem d_PC_arriveReply_5 : decode b_PC_arriveReply 5 = .ok (.aload_n 1, 1) := by decide +kernel
theorem d_PC_arriveReply_6 : decode b_PC_arriveReply 6 = .ok (.getfield 263, 3) := by decide +kernel
theorem d_PC_arriveReply_9 : decode b_PC_arriveReply 9 = .ok (.invokevirtual 130, 3) := by decide +kernel
theorem d_PC_arriveReply_12 : decode b_PC_arriveReply 12 = .ok (.astore_n 2, 1) := by decide +kernel
theorem d_PC_arriveReply_13 : decode b_PC_arriveReply 13 = .ok (.aload_n 1, 1) := by decide +kernel
theorem d_PC_arriveReply_14 : decode b_PC_arriveReply 14 = .ok (.getfield 269, 3) := by decide +kernel
theorem d_PC_arriveReply_17 : decode b_PC_arriveReply 17 = .ok (.aload_n 2, 1) := by decide +kernel
theorem d_PC_arriveReply_18 : decode b_PC_arriveReply 18 = .ok (.getfield 285, 3) := by decide +kernel
theorem d_PC_arriveReply_21 : decode b_PC_arriveReply 21 = .ok (.if_icmp .ne 10, 3) := by decide +kernel
theorem d_PC_arriveReply_24 : decode b_PC_arriveReply 24 = .ok (.aload_n 2, 1) := by decide +kernel
theorem d_PC_arriveReply_25 : decode b_PC_arriveReply 25 = .ok (.getfield 286, 3) := by decide +kernel
theorem d_PC_arriveReply_28 : decode b_PC_arriveReply 28 = .ok (.ifCond .eq 4, 3) := by decide +kernel
theorem d_PC_arriveReply_31 : decode b_PC_arriveReply 31 = .ok (.return_, 1) := by decide +kernel
theorem d_PC_arriveReply_32 : decode b_PC_arriveReply 32 = .ok (.aload_n 2, 1) := by decide +kernel
theorem d_PC_arriveReply_33 : decode b_PC_arriveReply 33 = .ok (.aload_n 1, 1) := by decide +kernel
theorem d_PC_arriveReply_34 : decode b_PC_arriveReply 34 = .ok (.getfield 266, 3) := by decide +kernel
theorem d_PC_arriveReply_37 : decode b_PC_arriveReply 37 = .ok (.aload_n 1, 1) := by decide +kernel
theorem d_PC_arriveReply_38 : decode b_PC_arriveReply 38 = .ok (.getfield 290, 3) := by decide +kernel
theorem d_PC_arriveReply_41 : decode b_PC_arriveReply 41 = .ok (.invokevirtual 293, 3) := by decide +kernel
theorem d_PC_arriveReply_44 : decode b_PC_arriveReply 44 = .ok (.aload_n 2, 1) := by decide +kernel
theorem d_PC_arriveReply_45 : decode b_PC_arriveReply 45 = .ok (.invokevirtual 297, 3) := by decide +kernel
theorem d_PC_arriveReply_48 : decode b_PC_arriveReply 48 = .ok (.aload_n 0, 1) := by decide +kernel
theorem d_PC_arriveReply_49 : decode b_PC_arriveReply 49 = .ok (.getfield 43, 3) := by decide +kernel
theorem d_PC_arriveReply_52 : decode b_PC_arriveReply 52 = .ok (.if_icmp .ge 4, 3) := by decide +kernel
theorem d_PC_arriveReply_55 : decode b_PC_arriveReply 55 = .ok (.return_, 1) := by decide +kernel
theorem d_PC_arriveReply_56 : decode b_PC_arriveReply 56 = .ok (.aload_n 2, 1) := by decide +kernel
theorem d_PC_arriveReply_57 : decode b_PC_arriveReply 57 = .ok (.iconst 1, 1) := by decide +kernel
theorem d_PC_arriveReply_58 : decode b_PC_arriveReply 58 = .ok (.putfield 286, 3) := by decide +kernel
theorem d_PC_arriveReply_61 : decode b_PC_arriveReply 61 = .ok (.iconst 0, 1) := by decide +kernel
theorem d_PC_arriveReply_62 : decode b_PC_arriveReply 62 = .ok (.istore_n 3, 1) := by decide +kernel
theorem d_PC_arriveReply_63 : decode b_PC_arriveReply 63 = .ok (.iload_n 3, 1) := by decide +kernel
theorem d_PC_arriveReply_64 : decode b_PC_arriveReply 64 = .ok (.iconst 3, 1) := by decide +kernel
theorem d_PC_arriveReply_65 : decode b_PC_arriveReply 65 = .ok (.if_icmp .ge 43, 3) := by decide +kernel
theorem d_PC_arriveReply_68 : decode b_PC_arriveReply 68 = .ok (.aload_n 0, 1) := by decide +kernel
theorem d_PC_arriveReply_69 : decode b_PC_arriveReply 69 = .ok (.getfield 32, 3) := by decide +kernel
theorem d_PC_arriveReply_72 : decode b_PC_arriveReply 72 = .ok (.aload_n 1, 1) := by decide +kernel
theorem d_PC_arriveReply_73 : decode b_PC_arriveReply 73 = .ok (.getfield 263, 3) := by decide +kernel
theorem d_PC_arriveReply_76 : decode b_PC_arriveReply 76 = .ok (.iaload, 1) := by decide +kernel
theorem d_PC_arriveReply_77 : decode b_PC_arriveReply 77 = .ok (.iload_n 3, 1) := by decide +kernel
theorem d_PC_arriveReply_78 : decode b_PC_arriveReply 78 = .ok (.invokestatic 105, 3) := by decide +kernel
theorem d_PC_arriveReply_81 : decode b_PC_arriveReply 81 = .ok (.ifCond .eq 21, 3) := by decide +kernel
theorem d_PC_arriveReply_84 : decode b_PC_arriveReply 84 = .ok (.aload_n 0, 1) := by decide +kernel
theorem d_PC_arriveReply_85 : decode b_PC_arriveReply 85 = .ok (.aload_n 1, 1) := by decide +kernel
theorem d_PC_arriveReply_86 : decode b_PC_arriveReply 86 = .ok (.getfield 263, 3) := by decide +kernel
theorem d_PC_arriveReply_89 : decode b_PC_arriveReply 89 = .ok (.iload_n 3, 1) := by decide +kernel
theorem d_PC_arriveReply_90 : decode b_PC_arriveReply 90 = .ok (.aload_n 1, 1) := by decide +kernel
theorem d_PC_arriveReply_91 : decode b_PC_arriveReply 91 = .ok (.getfield 269, 3) := by decide +kernel
theorem d_PC_arriveReply_94 : decode b_PC_arriveReply 94 = .ok (.aload_n 2, 1) := by decide +kernel
theorem d_PC_arriveReply_95 : decode b_PC_arriveReply 95 = .ok (.iload_n 3, 1) := by decide +kernel
theorem d_PC_arriveReply_96 : decode b_PC_arriveReply 96 = .ok (.invokevirtual 300, 3) := by decide +kernel
theorem d_PC_arriveReply_99 : decode b_PC_arriveReply 99 = .ok (.invokevirtual 125, 3) := by decide +kernel
theorem d_PC_arriveReply_102 : decode b_PC_arriveReply 102 = .ok (.iinc 3 1, 3) := by decide +kernel
theorem d_PC_arriveReply_105 : decode b_PC_arriveReply 105 = .ok (.goto (-42), 3) := by decide +kernel
theorem d_PC_arriveReply_108 : decode b_PC_arriveReply 108 = .ok (.return_, 1) := by decide +kernel
theorem d_PC_arriveTold_0 : decode b_PC_arriveTold 0 = .ok (.aload_n 0, 1) := by decide +kernel
theorem d_PC_arriveTold_1 : decode b_PC_arriveTold 1 = .ok (.aload_n 1, 1) := by decide +kernel
theorem d_PC_arriveTold_2 : decode b_PC_arriveTold 2 = .ok (.getfield 282, 3) := by decide +kernel
theorem d_PC_arriveTold_5 : decode b_PC_arriveTold 5 = .ok (.aload_n 1, 1) := by decide +kernel
theorem d_PC_arriveTold_6 : decode b_PC_arriveTold 6 = .ok (.getfield 263, 3) := by decide +kernel
theorem d_PC_arriveTold_9 : decode b_PC_arriveTold 9 = .ok (.invokevirtual 130, 3) := by decide +kernel
theorem d_PC_arriveTold_12 : decode b_PC_arriveTold 12 = .ok (.astore_n 2, 1) := by decide +kernel
theorem d_PC_arriveTold_13 : decode b_PC_arriveTold 13 = .ok (.aload_n 2, 1) := by decide +kernel
theorem d_PC_arriveTold_14 : decode b_PC_arriveTold 14 = .ok (.aload_n 1, 1) := by decide +kernel
theorem d_PC_arriveTold_15 : decode b_PC_arriveTold 15 = .ok (.getfield 266, 3) := by decide +kernel
theorem d_PC_arriveTold_18 : decode b_PC_arriveTold 18 = .ok (.aload_n 1, 1) := by decide +kernel
theorem d_PC_arriveTold_19 : decode b_PC_arriveTold 19 = .ok (.getfield 260, 3) := by decide +kernel
theorem d_PC_arriveTold_22 : decode b_PC_arriveTold 22 = .ok (.aload_n 1, 1) := by decide +kernel
theorem d_PC_arriveTold_23 : decode b_PC_arriveTold 23 = .ok (.getfield 269, 3) := by decide +kernel
theorem d_PC_arriveTold_26 : decode b_PC_arriveTold 26 = .ok (.aload_n 1, 1) := by decide +kernel
theorem d_PC_arriveTold_27 : decode b_PC_arriveTold 27 = .ok (.getfield 303, 3) := by decide +kernel
theorem d_PC_arriveTold_30 : decode b_PC_arriveTold 30 = .ok (.invokevirtual 313, 3) := by decide +kernel
theorem d_PC_arriveTold_33 : decode b_PC_arriveTold 33 = .ok (.aload_n 2, 1) := by decide +kernel
theorem d_PC_arriveTold_34 : decode b_PC_arriveTold 34 = .ok (.getfield 198, 3) := by decide +kernel
theorem d_PC_arriveTold_37 : decode b_PC_arriveTold 37 = .ok (.iconst (-1), 1) := by decide +kernel
theorem d_PC_arriveTold_38 : decode b_PC_arriveTold 38 = .ok (.if_icmp .eq 4, 3) := by decide +kernel
theorem d_PC_arriveTold_41 : decode b_PC_arriveTold 41 = .ok (.return_, 1) := by decide +kernel
theorem d_PC_arriveTold_42 : decode b_PC_arriveTold 42 = .ok (.aload_n 2, 1) := by decide +kernel
theorem d_PC_arriveTold_43 : decode b_PC_arriveTold 43 = .ok (.aload_n 2, 1) := by decide +kernel
theorem d_PC_arriveTold_44 : decode b_PC_arriveTold 44 = .ok (.aload_n 0, 1) := by decide +kernel
theorem d_PC_arriveTold_45 : decode b_PC_arriveTold 45 = .ok (.getfield 32, 3) := by decide +kernel
theorem d_PC_arriveTold_48 : decode b_PC_arriveTold 48 = .ok (.aload_n 1, 1) := by decide +kernel
theorem d_PC_arriveTold_49 : decode b_PC_arriveTold 49 = .ok (.getfield 263, 3) := by decide +kernel
theorem d_PC_arriveTold_52 : decode b_PC_arriveTold 52 = .ok (.iaload, 1) := by decide +kernel
theorem d_PC_arriveTold_53 : decode b_PC_arriveTold 53 = .ok (.aload_n 0, 1) := by decide +kernel
theorem d_PC_arriveTold_54 : decode b_PC_arriveTold 54 = .ok (.getfield 43, 3) := by decide +kernel
theorem d_PC_arriveTold_57 : decode b_PC_arriveTold 57 = .ok (.invokevirtual 316, 3) := by decide +kernel
theorem d_PC_arriveTold_60 : decode b_PC_arriveTold 60 = .ok (.putfield 198, 3) := by decide +kernel
theorem d_PC_arriveTold_63 : decode b_PC_arriveTold 63 = .ok (.aload_n 2, 1) := by decide +kernel
theorem d_PC_arriveTold_64 : decode b_PC_arriveTold 64 = .ok (.getfield 198, 3) := by decide +kernel
theorem d_PC_arriveTold_67 : decode b_PC_arriveTold 67 = .ok (.iconst (-1), 1) := by decide +kernel
theorem d_PC_arriveTold_68 : decode b_PC_arriveTold 68 = .ok (.if_icmp .eq 15, 3) := by decide +kernel
theorem d_PC_arriveTold_71 : decode b_PC_arriveTold 71 = .ok (.aload_n 0, 1) := by decide +kernel
theorem d_PC_arriveTold_72 : decode b_PC_arriveTold 72 = .ok (.aload_n 1, 1) := by decide +kernel
theorem d_PC_arriveTold_73 : decode b_PC_arriveTold 73 = .ok (.getfield 263, 3) := by decide +kernel
theorem d_PC_arriveTold_76 : decode b_PC_arriveTold 76 = .ok (.aload_n 2, 1) := by decide +kernel
theorem d_PC_arriveTold_77 : decode b_PC_arriveTold 77 = .ok (.getfield 198, 3) := by decide +kernel
theorem d_PC_arriveTold_80 : decode b_PC_arriveTold 80 = .ok (.invokevirtual 319, 3) := by decide +kernel
theorem d_PC_arriveTold_83 : decode b_PC_arriveTold 83 = .ok (.return_, 1) := by decide +kernel
theorem d_PC_arriveVote_0 : decode b_PC_arriveVote 0 = .ok (.aload_n 0, 1) := by decide +kernel
theorem d_PC_arriveVote_1 : decode b_PC_arriveVote 1 = .ok (.getfield 48, 3) := by decide +kernel
theorem d_PC_arriveVote_4 : decode b_PC_arriveVote 4 = .ok (.aload_n 1, 1) := by decide +kernel
theorem d_PC_arriveVote_5 : decode b_PC_arriveVote 5 = .ok (.getfield 266, 3) := by decide +kernel
theorem d_PC_arriveVote_8 : decode b_PC_arriveVote 8 = .ok (.aaload, 1) := by decide +kernel
theorem d_PC_arriveVote_9 : decode b_PC_arriveVote 9 = .ok (.astore_n 2, 1) := by decide +kernel
theorem d_PC_arriveVote_10 : decode b_PC_arriveVote 10 = .ok (.aload_n 2, 1) := by decide +kernel
theorem d_PC_arriveVote_11 : decode b_PC_arriveVote 11 = .ok (.getfield 203, 3) := by decide +kernel
theorem d_PC_arriveVote_14 : decode b_PC_arriveVote 14 = .ok (.aload_n 1, 1) := by decide +kernel
theorem d_PC_arriveVote_15 : decode b_PC_arriveVote 15 = .ok (.getfield 263, 3) := by decide +kernel
theorem d_PC_arriveVote_18 : decode b_PC_arriveVote 18 = .ok (.aaload, 1) := by decide +kernel
theorem d_PC_arriveVote_19 : decode b_PC_arriveVote 19 = .ok (.aload_n 1, 1) := by decide +kernel
theorem d_PC_arriveVote_20 : decode b_PC_arriveVote 20 = .ok (.getfield 260, 3) := by decide +kernel
theorem d_PC_arriveVote_23 : decode b_PC_arriveVote 23 = .ok (.iaload, 1) := by decide +kernel
theorem d_PC_arriveVote_24 : decode b_PC_arriveVote 24 = .ok (.aload_n 1, 1) := by decide +kernel
theorem d_PC_arriveVote_25 : decode b_PC_arriveVote 25 = .ok (.getfield 269, 3) := by decide +kernel
theorem d_PC_arriveVote_28 : decode b_PC_arriveVote 28 = .ok (.if_icmp .le 4, 3) := by decide +kernel
theorem d_PC_arriveVote_31 : decode b_PC_arriveVote 31 = .ok (.return_, 1) := by decide +kernel
theorem d_PC_arriveVote_32 : decode b_PC_arriveVote 32 = .ok (.aload_n 2, 1) := by decide +kernel
theorem d_PC_arriveVote_33 : decode b_PC_arriveVote 33 = .ok (.aload_n 1, 1) := by decide +kernel
theorem d_PC_arriveVote_34 : decode b_PC_arriveVote 34 = .ok (.getfield 263, 3) := by decide +kernel
theorem d_PC_arriveVote_37 : decode b_PC_arriveVote 37 = .ok (.aload_n 1, 1) := by decide +kernel
theorem d_PC_arriveVote_38 : decode b_PC_arriveVote 38 = .ok (.getfield 260, 3) := by decide +kernel
theorem d_PC_arriveVote_41 : decode b_PC_arriveVote 41 = .ok (.aload_n 1, 1) := by decide +kernel
theorem d_PC_arriveVote_42 : decode b_PC_arriveVote 42 = .ok (.getfield 269, 3) := by decide +kernel
theorem d_PC_arriveVote_45 : decode b_PC_arriveVote 45 = .ok (.aload_n 1, 1) := by decide +kernel
theorem d_PC_arriveVote_46 : decode b_PC_arriveVote 46 = .ok (.getfield 303, 3) := by decide +kernel
theorem d_PC_arriveVote_49 : decode b_PC_arriveVote 49 = .ok (.invokevirtual 306, 3) := by decide +kernel
theorem d_PC_arriveVote_52 : decode b_PC_arriveVote 52 = .ok (.iconst 0, 1) := by decide +kernel
theorem d_PC_arriveVote_53 : decode b_PC_arriveVote 53 = .ok (.istore_n 3, 1) := by decide +kernel
theorem d_PC_arriveVote_54 : decode b_PC_arriveVote 54 = .ok (.iload_n 3, 1) := by decide +kernel
theorem d_PC_arriveVote_55 : decode b_PC_arriveVote 55 = .ok (.iconst 2, 1) := by decide +kernel
theorem d_PC_arriveVote_56 : decode b_PC_arriveVote 56 = .ok (.if_icmp .ge 15, 3) := by decide +kernel
theorem d_PC_arriveVote_59 : decode b_PC_arriveVote 59 = .ok (.aload_n 0, 1) := by decide +kernel
theorem d_PC_arriveVote_60 : decode b_PC_arriveVote 60 = .ok (.aload_n 1, 1) := by decide +kernel
theorem d_PC_arriveVote_61 : decode b_PC_arriveVote 61 = .ok (.iload_n 3, 1) := by decide +kernel
theorem d_PC_arriveVote_62 : decode b_PC_arriveVote 62 = .ok (.invokevirtual 309, 3) := by decide +kernel
theorem d_PC_arriveVote_65 : decode b_PC_arriveVote 65 = .ok (.iinc 3 1, 3) := by decide +kernel
theorem d_PC_arriveVote_68 : decode b_PC_arriveVote 68 = .ok (.goto (-14), 3) := by decide +kernel
theorem d_PC_arriveVote_71 : decode b_PC_arriveVote 71 = .ok (.return_, 1) := by decide +kernel
theorem d_PC_ballotOf_0 : decode b_PC_ballotOf 0 = .ok (.iload_n 0, 1) := by decide +kernel
theorem d_PC_ballotOf_1 : decode b_PC_ballotOf 1 = .ok (.iconst (-1), 1) := by decide +kernel
theorem d_PC_ballotOf_2 : decode b_PC_ballotOf 2 = .ok (.if_icmp .ne 7, 3) := by decide +kernel
theorem d_PC_ballotOf_5 : decode b_PC_ballotOf 5 = .ok (.iconst (-1), 1) := by decide +kernel
theorem d_PC_ballotOf_6 : decode b_PC_ballotOf 6 = .ok (.goto 6, 3) := by decide +kernel
theorem d_PC_ballotOf_9 : decode b_PC_ballotOf 9 = .ok (.iload_n 0, 1) := by decide +kernel
theorem d_PC_ballotOf_10 : decode b_PC_ballotOf 10 = .ok (.iconst 2, 1) := by decide +kernel
theorem d_PC_ballotOf_11 : decode b_PC_ballotOf 11 = .ok (.idiv, 1) := by decide +kernel
theorem d_PC_ballotOf_12 : decode b_PC_ballotOf 12 = .ok (.ireturn, 1) := by decide +kernel
theorem d_PC_begin_0 : decode b_PC_begin 0 = .ok (.aload_n 0, 1) := by decide +kernel
theorem d_PC_begin_1 : decode b_PC_begin 1 = .ok (.getfield 39, 3) := by decide +kernel
theorem d_PC_begin_4 : decode b_PC_begin 4 = .ok (.bipush 8, 2) := by decide +kernel
theorem d_PC_begin_6 : decode b_PC_begin 6 = .ok (.if_icmp .lt 13, 3) := by decide +kernel
theorem d_PC_begin_9 : decode b_PC_begin 9 = .ok (.new 57, 3) := by decide +kernel
theorem d_PC_begin_12 : decode b_PC_begin 12 = .ok (.dup, 1) := by decide +kernel
theorem d_PC_begin_13 : decode b_PC_begin 13 = .ok (.ldc 59, 2) := by decide +kernel
theorem d_PC_begin_15 : decode b_PC_begin 15 = .ok (.invokespecial 61, 3) := by decide +kernel
theorem d_PC_begin_18 : decode b_PC_begin 18 = .ok (.athrow, 1) := by decide +kernel
theorem d_PC_begin_19 : decode b_PC_begin 19 = .ok (.aload_n 0, 1) := by decide +kernel
theorem d_PC_begin_20 : decode b_PC_begin 20 = .ok (.dup, 1) := by decide +kernel
theorem d_PC_begin_21 : decode b_PC_begin 21 = .ok (.getfield 39, 3) := by decide +kernel
theorem d_PC_begin_24 : decode b_PC_begin 24 = .ok (.iconst 1, 1) := by decide +kernel
theorem d_PC_begin_25 : decode b_PC_begin 25 = .ok (.iadd, 1) := by decide +kernel
theorem d_PC_begin_26 : decode b_PC_begin 26 = .ok (.putfield 39, 3) := by decide +kernel
theorem d_PC_begin_29 : decode b_PC_begin 29 = .ok (.aload_n 0, 1) := by decide +kernel
theorem d_PC_begin_30 : decode b_PC_begin 30 = .ok (.getfield 39, 3) := by decide +kernel
theorem d_PC_begin_33 : decode b_PC_begin 33 = .ok (.iconst 1, 1) := by decide +kernel
theorem d_PC_begin_34 : decode b_PC_begin 34 = .ok (.isub, 1) := by decide +kernel
theorem d_PC_begin_35 : decode b_PC_begin 35 = .ok (.ireturn, 1) := by decide +kernel
theorem d_PC_checkBegun_0 : decode b_PC_checkBegun 0 = .ok (.iload_n 1, 1) := by decide +kernel
theorem d_PC_checkBegun_1 : decode b_PC_checkBegun 1 = .ok (.aload_n 0, 1) := by decide +kernel
theorem d_PC_checkBegun_2 : decode b_PC_checkBegun 2 = .ok (.getfield 39, 3) := by decide +kernel
theorem d_PC_checkBegun_5 : decode b_PC_checkBegun 5 = .ok (.if_icmp .lt 13, 3) := by decide +kernel
theorem d_PC_checkBegun_8 : decode b_PC_checkBegun 8 = .ok (.new 215, 3) := by decide +kernel
theorem d_PC_checkBegun_11 : decode b_PC_checkBegun 11 = .ok (.dup, 1) := by decide +kernel
theorem d_PC_checkBegun_12 : decode b_PC_checkBegun 12 = .ok (.ldc 217, 2) := by decide +kernel
theorem d_PC_checkBegun_14 : decode b_PC_checkBegun 14 = .ok (.invokespecial 219, 3) := by decide +kernel
theorem d_PC_checkBegun_17 : decode b_PC_checkBegun 17 = .ok (.athrow, 1) := by decide +kernel
theorem d_PC_checkBegun_18 : decode b_PC_checkBegun 18 = .ok (.return_, 1) := by decide +kernel
theorem d_PC_checkMessage_0 : decode b_PC_checkMessage 0 = .ok (.iload_n 1, 1) := by decide +kernel
theorem d_PC_checkMessage_1 : decode b_PC_checkMessage 1 = .ok (.ifCond .lt 14, 3) := by decide +kernel
theorem d_PC_checkMessage_4 : decode b_PC_checkMessage 4 = .ok (.iload_n 1, 1) := by decide +kernel
theorem d_PC_checkMessage_5 : decode b_PC_checkMessage 5 = .ok (.aload_n 0, 1) := by decide +kernel
theorem d_PC_checkMessage_6 : decode b_PC_checkMessage 6 = .ok (.getfield 28, 3) := by decide +kernel
theorem d_PC_checkMessage_9 : decode b_PC_checkMessage 9 = .ok (.getfield 154, 3) := by decide +kernel
theorem d_PC_checkMessage_12 : decode b_PC_checkMessage 12 = .ok (.if_icmp .lt 13, 3) := by decide +kernel
theorem d_PC_checkMessage_15 : decode b_PC_checkMessage 15 = .ok (.new 222, 3) := by decide +kernel
theorem d_PC_checkMessage_18 : decode b_PC_checkMessage 18 = .ok (.dup, 1) := by decide +kernel
theorem d_PC_checkMessage_19 : decode b_PC_checkMessage 19 = .ok (.ldc 224, 2) := by decide +kernel
theorem d_PC_checkMessage_21 : decode b_PC_checkMessage 21 = .ok (.invokespecial 226, 3) := by decide +kernel
theorem d_PC_checkMessage_24 : decode b_PC_checkMessage 24 = .ok (.athrow, 1) := by decide +kernel
theorem d_PC_checkMessage_25 : decode b_PC_checkMessage 25 = .ok (.return_, 1) := by decide +kernel
theorem d_PC_checkRange_0 : decode b_PC_checkRange 0 = .ok (.iload_n 0, 1) := by decide +kernel
theorem d_PC_checkRange_1 : decode b_PC_checkRange 1 = .ok (.ifCond .lt 8, 3) := by decide +kernel
theorem d_PC_checkRange_4 : decode b_PC_checkRange 4 = .ok (.iload_n 0, 1) := by decide +kernel
theorem d_PC_checkRange_5 : decode b_PC_checkRange 5 = .ok (.iload_n 1, 1) := by decide +kernel
theorem d_PC_checkRange_6 : decode b_PC_checkRange 6 = .ok (.if_icmp .lt 13, 3) := by decide +kernel
theorem d_PC_checkRange_9 : decode b_PC_checkRange 9 = .ok (.new 166, 3) := by decide +kernel
theorem d_PC_checkRange_12 : decode b_PC_checkRange 12 = .ok (.dup, 1) := by decide +kernel
theorem d_PC_checkRange_13 : decode b_PC_checkRange 13 = .ok (.ldc 213, 2) := by decide +kernel
theorem d_PC_checkRange_15 : decode b_PC_checkRange 15 = .ok (.invokespecial 170, 3) := by decide +kernel
theorem d_PC_checkRange_18 : decode b_PC_checkRange 18 = .ok (.athrow, 1) := by decide +kernel
theorem d_PC_checkRange_19 : decode b_PC_checkRange 19 = .ok (.return_, 1) := by decide +kernel
theorem d_PC_checkUp_0 : decode b_PC_checkUp 0 = .ok (.aload_n 0, 1) := by decide +kernel
theorem d_PC_checkUp_1 : decode b_PC_checkUp 1 = .ok (.getfield 21, 3) := by decide +kernel
theorem d_PC_checkUp_4 : decode b_PC_checkUp 4 = .ok (.iload_n 1, 1) := by decide +kernel
theorem d_PC_checkUp_5 : decode b_PC_checkUp 5 = .ok (.iaload, 1) := by decide +kernel
theorem d_PC_checkUp_6 : decode b_PC_checkUp 6 = .ok (.iload_n 2, 1) := by decide +kernel
theorem d_PC_checkUp_7 : decode b_PC_checkUp 7 = .ok (.invokestatic 105, 3) := by decide +kernel
theorem d_PC_checkUp_10 : decode b_PC_checkUp 10 = .ok (.ifCond .ne 13, 3) := by decide +kernel
theorem d_PC_checkUp_13 : decode b_PC_checkUp 13 = .ok (.new 57, 3) := by decide +kernel
theorem d_PC_checkUp_16 : decode b_PC_checkUp 16 = .ok (.dup, 1) := by decide +kernel
theorem d_PC_checkUp_17 : decode b_PC_checkUp 17 = .ok (.ldc 220, 2) := by decide +kernel
theorem d_PC_checkUp_19 : decode b_PC_checkUp 19 = .ok (.invokespecial 61, 3) := by decide +kernel
theorem d_PC_checkUp_22 : decode b_PC_checkUp 22 = .ok (.athrow, 1) := by decide +kernel
theorem d_PC_checkUp_23 : decode b_PC_checkUp 23 = .ok (.return_, 1) := by decide +kernel
theorem d_PC_count_0 : decode b_PC_count 0 = .ok (.iload_n 1, 1) := by decide +kernel
theorem d_PC_count_1 : decode b_PC_count 1 = .ok (.bipush 7, 2) := by decide +kernel
theorem d_PC_count_3 : decode b_PC_count 3 = .ok (.invokestatic 64, 3) := by decide +kernel
theorem d_PC_count_6 : decode b_PC_count 6 = .ok (.iload_n 1, 1) := by decide +kernel
theorem d_PC_count_7 : decode b_PC_count 7 = .ok (.tableswitch 78 0 5 #[37, 45, 53, 58, 64, 71], 37) := by decide +kernel
theorem d_PC_count_44 : decode b_PC_count 44 = .ok (.aload_n 0, 1) := by decide +kernel
theorem d_PC_count_45 : decode b_PC_count 45 = .ok (.getfield 28, 3) := by decide +kernel
theorem d_PC_count_48 : decode b_PC_count 48 = .ok (.getfield 154, 3) := by decide +kernel
theorem d_PC_count_51 : decode b_PC_count 51 = .ok (.ireturn, 1) := by decide +kernel
theorem d_PC_count_52 : decode b_PC_count 52 = .ok (.aload_n 0, 1) := by decide +kernel
theorem d_PC_count_53 : decode b_PC_count 53 = .ok (.getfield 28, 3) := by decide +kernel
theorem d_PC_count_56 : decode b_PC_count 56 = .ok (.getfield 210, 3) := by decide +kernel
theorem d_PC_count_59 : decode b_PC_count 59 = .ok (.ireturn, 1) := by decide +kernel
theorem d_PC_count_60 : decode b_PC_count 60 = .ok (.aload_n 0, 1) := by decide +kernel
theorem d_PC_count_61 : decode b_PC_count 61 = .ok (.getfield 39, 3) := by decide +kernel
theorem d_PC_count_64 : decode b_PC_count 64 = .ok (.ireturn, 1) := by decide +kernel
theorem d_PC_count_65 : decode b_PC_count 65 = .ok (.aload_n 0, 1) := by decide +kernel
theorem d_PC_count_66 : decode b_PC_count 66 = .ok (.getfield 48, 3) := by decide +kernel
theorem d_PC_count_69 : decode b_PC_count 69 = .ok (.arraylength, 1) := by decide +kernel
theorem d_PC_count_70 : decode b_PC_count 70 = .ok (.ireturn, 1) := by decide +kernel
theorem d_PC_count_71 : decode b_PC_count 71 = .ok (.aload_n 0, 1) := by decide +kernel
theorem d_PC_count_72 : decode b_PC_count 72 = .ok (.getfield 21, 3) := by decide +kernel
theorem d_PC_count_75 : decode b_PC_count 75 = .ok (.iconst 0, 1) := by decide +kernel
theorem d_PC_count_76 : decode b_PC_count 76 = .ok (.iaload, 1) := by decide +kernel
theorem d_PC_count_77 : decode b_PC_count 77 = .ok (.ireturn, 1) := by decide +kernel
theorem d_PC_count_78 : decode b_PC_count 78 = .ok (.aload_n 0, 1) := by decide +kernel
theorem d_PC_count_79 : decode b_PC_count 79 = .ok (.getfield 21, 3) := by decide +kernel
theorem d_PC_count_82 : decode b_PC_count 82 = .ok (.iconst 1, 1) := by decide +kernel
theorem d_PC_count_83 : decode b_PC_count 83 = .ok (.iaload, 1) := by decide +kernel
theorem d_PC_count_84 : decode b_PC_count 84 = .ok (.ireturn, 1) := by decide +kernel
theorem d_PC_count_85 : decode b_PC_count 85 = .ok (.aload_n 0, 1) := by decide +kernel
theorem d_PC_count_86 : decode b_PC_count 86 = .ok (.getfield 21, 3) := by decide +kernel
theorem d_PC_count_89 : decode b_PC_count 89 = .ok (.iconst 2, 1) := by decide +kernel
theorem d_PC_count_90 : decode b_PC_count 90 = .ok (.iaload, 1) := by decide +kernel
theorem d_PC_count_91 : decode b_PC_count 91 = .ok (.ireturn, 1) := by decide +kernel
theorem d_PC_deliver_0 : decode b_PC_deliver 0 = .ok (.aload_n 0, 1) := by decide +kernel
theorem d_PC_deliver_1 : decode b_PC_deliver 1 = .ok (.iload_n 1, 1) := by decide +kernel
theorem d_PC_deliver_2 : decode b_PC_deliver 2 = .ok (.invokevirtual 140, 3) := by decide +kernel
theorem d_PC_deliver_5 : decode b_PC_deliver 5 = .ok (.aload_n 0, 1) := by decide +kernel
theorem d_PC_deliver_6 : decode b_PC_deliver 6 = .ok (.getfield 28, 3) := by decide +kernel
theorem d_PC_deliver_9 : decode b_PC_deliver 9 = .ok (.iload_n 1, 1) := by decide +kernel
theorem d_PC_deliver_10 : decode b_PC_deliver 10 = .ok (.invokevirtual 143, 3) := by decide +kernel
theorem d_PC_deliver_13 : decode b_PC_deliver 13 = .ok (.astore_n 3, 1) := by decide +kernel
theorem d_PC_deliver_14 : decode b_PC_deliver 14 = .ok (.iload_n 2, 1) := by decide +kernel
theorem d_PC_deliver_15 : decode b_PC_deliver 15 = .ok (.ifCond .ne 11, 3) := by decide +kernel
theorem d_PC_deliver_18 : decode b_PC_deliver 18 = .ok (.aload_n 0, 1) := by decide +kernel
theorem d_PC_deliver_19 : decode b_PC_deliver 19 = .ok (.getfield 28, 3) := by decide +kernel
theorem d_PC_deliver_22 : decode b_PC_deliver 22 = .ok (.iload_n 1, 1) := by decide +kernel
theorem d_PC_deliver_23 : decode b_PC_deliver 23 = .ok (.invokevirtual 147, 3) := by decide +kernel
theorem d_PC_deliver_26 : decode b_PC_deliver 26 = .ok (.aload_n 0, 1) := by decide +kernel
theorem d_PC_deliver_27 : decode b_PC_deliver 27 = .ok (.aload_n 3, 1) := by decide +kernel
theorem d_PC_deliver_28 : decode b_PC_deliver 28 = .ok (.invokevirtual 150, 3) := by decide +kernel
theorem d_PC_deliver_31 : decode b_PC_deliver 31 = .ok (.aload_n 0, 1) := by decide +kernel
theorem d_PC_deliver_32 : decode b_PC_deliver 32 = .ok (.getfield 28, 3) := by decide +kernel
theorem d_PC_deliver_35 : decode b_PC_deliver 35 = .ok (.getfield 154, 3) := by decide +kernel
theorem d_PC_deliver_38 : decode b_PC_deliver 38 = .ok (.ireturn, 1) := by decide +kernel
theorem d_PC_has_0 : decode b_PC_has 0 = .ok (.iload_n 0, 1) := by decide +kernel
theorem d_PC_has_1 : decode b_PC_has 1 = .ok (.iload_n 1, 1) := by decide +kernel
theorem d_PC_has_2 : decode b_PC_has 2 = .ok (.ishr, 1) := by decide +kernel
theorem d_PC_has_3 : decode b_PC_has 3 = .ok (.iconst 1, 1) := by decide +kernel
theorem d_PC_has_4 : decode b_PC_has 4 = .ok (.iand, 1) := by decide +kernel
theorem d_PC_has_5 : decode b_PC_has 5 = .ok (.iconst 1, 1) := by decide +kernel
theorem d_PC_has_6 : decode b_PC_has 6 = .ok (.if_icmp .ne 7, 3) := by decide +kernel
theorem d_PC_has_9 : decode b_PC_has 9 = .ok (.iconst 1, 1) := by decide +kernel
theorem d_PC_has_10 : decode b_PC_has 10 = .ok (.goto 4, 3) := by decide +kernel
theorem d_PC_has_13 : decode b_PC_has 13 = .ok (.iconst 0, 1) := by decide +kernel
theorem d_PC_has_14 : decode b_PC_has 14 = .ok (.ireturn, 1) := by decide +kernel
theorem d_PC_howMany_0 : decode b_PC_howMany 0 = .ok (.iload_n 1, 1) := by decide +kernel
theorem d_PC_howMany_1 : decode b_PC_howMany 1 = .ok (.ifCond .ne 5, 3) := by decide +kernel
theorem d_PC_howMany_4 : decode b_PC_howMany 4 = .ok (.iconst 3, 1) := by decide +kernel
theorem d_PC_howMany_5 : decode b_PC_howMany 5 = .ok (.ireturn, 1) := by decide +kernel
theorem d_PC_howMany_6 : decode b_PC_howMany 6 = .ok (.iload_n 1, 1) := by decide +kernel
theorem d_PC_howMany_7 : decode b_PC_howMany 7 = .ok (.iconst 1, 1) := by decide +kernel
theorem d_PC_howMany_8 : decode b_PC_howMany 8 = .ok (.if_icmp .ne 11, 3) := by decide +kernel
theorem d_PC_howMany_11 : decode b_PC_howMany 11 = .ok (.aload_n 0, 1) := by decide +kernel
theorem d_PC_howMany_12 : decode b_PC_howMany 12 = .ok (.getfield 48, 3) := by decide +kernel
theorem d_PC_howMany_15 : decode b_PC_howMany 15 = .ok (.arraylength, 1) := by decide +kernel
theorem d_PC_howMany_16 : decode b_PC_howMany 16 = .ok (.goto 4, 3) := by decide +kernel
theorem d_PC_howMany_19 : decode b_PC_howMany 19 = .ok (.iconst 2, 1) := by decide +kernel
theorem d_PC_howMany_20 : decode b_PC_howMany 20 = .ok (.ireturn, 1) := by decide +kernel
theorem d_PC_init_0 : decode b_PC_init 0 = .ok (.aload_n 0, 1) := by decide +kernel
theorem d_PC_init_1 : decode b_PC_init 1 = .ok (.invokespecial 1, 3) := by decide +kernel
theorem d_PC_init_4 : decode b_PC_init 4 = .ok (.aload_n 0, 1) := by decide +kernel
theorem d_PC_init_5 : decode b_PC_init 5 = .ok (.iconst 3, 1) := by decide +kernel
theorem d_PC_init_6 : decode b_PC_init 6 = .ok (.anewarray 9, 3) := by decide +kernel
theorem d_PC_init_9 : decode b_PC_init 9 = .ok (.putfield 11, 3) := by decide +kernel
theorem d_PC_init_12 : decode b_PC_init 12 = .ok (.aload_n 0, 1) := by decide +kernel
theorem d_PC_init_13 : decode b_PC_init 13 = .ok (.bipush 16, 2) := by decide +kernel
theorem d_PC_init_15 : decode b_PC_init 15 = .ok (.anewarray 15, 3) := by decide +kernel
theorem d_PC_init_18 : decode b_PC_init 18 = .ok (.putfield 17, 3) := by decide +kernel
theorem d_PC_init_21 : decode b_PC_init 21 = .ok (.aload_n 0, 1) := by decide +kernel
theorem d_PC_init_22 : decode b_PC_init 22 = .ok (.iconst 3, 1) := by decide +kernel
theorem d_PC_init_23 : decode b_PC_init 23 = .ok (.newarray .int, 2) := by decide +kernel
theorem d_PC_init_25 : decode b_PC_init 25 = .ok (.putfield 21, 3) := by decide +kernel
theorem d_PC_init_28 : decode b_PC_init 28 = .ok (.aload_n 0, 1) := by decide +kernel
theorem d_PC_init_29 : decode b_PC_init 29 = .ok (.new 25, 3) := by decide +kernel
theorem d_PC_init_32 : decode b_PC_init 32 = .ok (.dup, 1) := by decide +kernel
theorem d_PC_init_33 : decode b_PC_init 33 = .ok (.invokespecial 27, 3) := by decide +kernel
theorem d_PC_init_36 : decode b_PC_init 36 = .ok (.putfield 28, 3) := by decide +kernel
theorem d_PC_init_39 : decode b_PC_init 39 = .ok (.aload_n 0, 1) := by decide +kernel
theorem d_PC_init_40 : decode b_PC_init 40 = .ok (.bipush 8, 2) := by decide +kernel
theorem d_PC_init_42 : decode b_PC_init 42 = .ok (.newarray .int, 2) := by decide +kernel
theorem d_PC_init_44 : decode b_PC_init 44 = .ok (.putfield 32, 3) := by decide +kernel
theorem d_PC_init_47 : decode b_PC_init 47 = .ok (.aload_n 0, 1) := by decide +kernel
theorem d_PC_init_48 : decode b_PC_init 48 = .ok (.bipush 8, 2) := by decide +kernel
theorem d_PC_init_50 : decode b_PC_init 50 = .ok (.newarray .boolean, 2) := by decide +kernel
theorem d_PC_init_52 : decode b_PC_init 52 = .ok (.putfield 35, 3) := by decide +kernel
theorem d_PC_init_55 : decode b_PC_init 55 = .ok (.aload_n 0, 1) := by decide +kernel
theorem d_PC_init_56 : decode b_PC_init 56 = .ok (.iconst 0, 1) := by decide +kernel
theorem d_PC_init_57 : decode b_PC_init 57 = .ok (.putfield 39, 3) := by decide +kernel
theorem d_PC_init_60 : decode b_PC_init 60 = .ok (.iload_n 1, 1) := by decide +kernel
theorem d_PC_init_61 : decode b_PC_init 61 = .ok (.ifCond .ne 7, 3) := by decide +kernel
theorem d_PC_init_64 : decode b_PC_init 64 = .ok (.iconst 1, 1) := by decide +kernel
theorem d_PC_init_65 : decode b_PC_init 65 = .ok (.goto 4, 3) := by decide +kernel
theorem d_PC_init_68 : decode b_PC_init 68 = .ok (.iconst 3, 1) := by decide +kernel
theorem d_PC_init_69 : decode b_PC_init 69 = .ok (.istore_n 2, 1) := by decide +kernel
theorem d_PC_init_70 : decode b_PC_init 70 = .ok (.aload_n 0, 1) := by decide +kernel
theorem d_PC_init_71 : decode b_PC_init 71 = .ok (.iload_n 1, 1) := by decide +kernel
theorem d_PC_init_72 : decode b_PC_init 72 = .ok (.ifCond .ne 7, 3) := by decide +kernel
theorem d_PC_init_75 : decode b_PC_init 75 = .ok (.iconst 1, 1) := by decide +kernel
theorem d_PC_init_76 : decode b_PC_init 76 = .ok (.goto 4, 3) := by decide +kernel
theorem d_PC_init_79 : decode b_PC_init 79 = .ok (.iconst 2, 1) := by decide +kernel
theorem d_PC_init_80 : decode b_PC_init 80 = .ok (.putfield 43, 3) := by decide +kernel
theorem d_PC_init_83 : decode b_PC_init 83 = .ok (.aload_n 0, 1) := by decide +kernel
theorem d_PC_init_84 : decode b_PC_init 84 = .ok (.iload_n 2, 1) := by decide +kernel
theorem d_PC_init_85 : decode b_PC_init 85 = .ok (.anewarray 46, 3) := by decide +kernel
theorem d_PC_init_88 : decode b_PC_init 88 = .ok (.putfield 48, 3) := by decide +kernel
theorem d_PC_init_91 : decode b_PC_init 91 = .ok (.iconst 0, 1) := by decide +kernel
theorem d_PC_init_92 : decode b_PC_init 92 = .ok (.istore_n 3, 1) := by decide +kernel
theorem d_PC_init_93 : decode b_PC_init 93 = .ok (.iload_n 3, 1) := by decide +kernel
theorem d_PC_init_94 : decode b_PC_init 94 = .ok (.iconst 3, 1) := by decide +kernel
theorem d_PC_init_95 : decode b_PC_init 95 = .ok (.if_icmp .ge 22, 3) := by decide +kernel
theorem d_PC_init_98 : decode b_PC_init 98 = .ok (.aload_n 0, 1) := by decide +kernel
theorem d_PC_init_99 : decode b_PC_init 99 = .ok (.getfield 11, 3) := by decide +kernel
theorem d_PC_init_102 : decode b_PC_init 102 = .ok (.iload_n 3, 1) := by decide +kernel
theorem d_PC_init_103 : decode b_PC_init 103 = .ok (.new 9, 3) := by decide +kernel
theorem d_PC_init_106 : decode b_PC_init 106 = .ok (.dup, 1) := by decide +kernel
theorem d_PC_init_107 : decode b_PC_init 107 = .ok (.invokespecial 52, 3) := by decide +kernel
theorem d_PC_init_110 : decode b_PC_init 110 = .ok (.aastore, 1) := by decide +kernel
theorem d_PC_init_111 : decode b_PC_init 111 = .ok (.iinc 3 1, 3) := by decide +kernel
theorem d_PC_init_114 : decode b_PC_init 114 = .ok (.goto (-21), 3) := by decide +kernel
theorem d_PC_init_117 : decode b_PC_init 117 = .ok (.iconst 0, 1) := by decide +kernel
theorem d_PC_init_118 : decode b_PC_init 118 = .ok (.istore_n 3, 1) := by decide +kernel
theorem d_PC_init_119 : decode b_PC_init 119 = .ok (.iload_n 3, 1) := by decide +kernel
theorem d_PC_init_120 : decode b_PC_init 120 = .ok (.iload_n 2, 1) := by decide +kernel
theorem d_PC_init_121 : decode b_PC_init 121 = .ok (.if_icmp .ge 22, 3) := by decide +kernel
theorem d_PC_init_124 : decode b_PC_init 124 = .ok (.aload_n 0, 1) := by decide +kernel
theorem d_PC_init_125 : decode b_PC_init 125 = .ok (.getfield 48, 3) := by decide +kernel
theorem d_PC_init_128 : decode b_PC_init 128 = .ok (.iload_n 3, 1) := by decide +kernel
end
section
theorem d_PC_init_129 : decode b_PC_init 129 = .ok (.new 46, 3) := by decide +kernel
theorem d_PC_init_132 : decode b_PC_init 132 = .ok (.dup, 1) := by decide +kernel
theorem d_PC_init_133 : decode b_PC_init 133 = .ok (.invokespecial 53, 3) := by decide +kernel
theorem d_PC_init_136 : decode b_PC_init 136 = .ok (.aastore, 1) := by decide +kernel
theorem d_PC_init_137 : decode b_PC_init 137 = .ok (.iinc 3 1, 3) := by decide +kernel
theorem d_PC_init_140 : decode b_PC_init 140 = .ok (.goto (-21), 3) := by decide +kernel
theorem d_PC_init_143 : decode b_PC_init 143 = .ok (.iconst 0, 1) := by decide +kernel
theorem d_PC_init_144 : decode b_PC_init 144 = .ok (.istore_n 3, 1) := by decide +kernel
theorem d_PC_init_145 : decode b_PC_init 145 = .ok (.iload_n 3, 1) := by decide +kernel
theorem d_PC_init_146 : decode b_PC_init 146 = .ok (.bipush 16, 2) := by decide +kernel
theorem d_PC_init_148 : decode b_PC_init 148 = .ok (.if_icmp .ge 23, 3) := by decide +kernel
theorem d_PC_init_151 : decode b_PC_init 151 = .ok (.aload_n 0, 1) := by decide +kernel
theorem d_PC_init_152 : decode b_PC_init 152 = .ok (.getfield 17, 3) := by decide +kernel
theorem d_PC_init_155 : decode b_PC_init 155 = .ok (.iload_n 3, 1) := by decide +kernel
theorem d_PC_init_156 : decode b_PC_init 156 = .ok (.new 15, 3) := by decide +kernel
theorem d_PC_init_159 : decode b_PC_init 159 = .ok (.dup, 1) := by decide +kernel
theorem d_PC_init_160 : decode b_PC_init 160 = .ok (.iload_n 2, 1) := by decide +kernel
theorem d_PC_init_161 : decode b_PC_init 161 = .ok (.invokespecial 54, 3) := by decide +kernel
theorem d_PC_init_164 : decode b_PC_init 164 = .ok (.aastore, 1) := by decide +kernel
theorem d_PC_init_165 : decode b_PC_init 165 = .ok (.iinc 3 1, 3) := by decide +kernel
theorem d_PC_init_168 : decode b_PC_init 168 = .ok (.goto (-23), 3) := by decide +kernel
theorem d_PC_init_171 : decode b_PC_init 171 = .ok (.aload_n 0, 1) := by decide +kernel
theorem d_PC_init_172 : decode b_PC_init 172 = .ok (.getfield 21, 3) := by decide +kernel
theorem d_PC_init_175 : decode b_PC_init 175 = .ok (.iconst 0, 1) := by decide +kernel
theorem d_PC_init_176 : decode b_PC_init 176 = .ok (.bipush 7, 2) := by decide +kernel
theorem d_PC_init_178 : decode b_PC_init 178 = .ok (.iastore, 1) := by decide +kernel
theorem d_PC_init_179 : decode b_PC_init 179 = .ok (.aload_n 0, 1) := by decide +kernel
theorem d_PC_init_180 : decode b_PC_init 180 = .ok (.getfield 21, 3) := by decide +kernel
theorem d_PC_init_183 : decode b_PC_init 183 = .ok (.iconst 1, 1) := by decide +kernel
theorem d_PC_init_184 : decode b_PC_init 184 = .ok (.iconst 1, 1) := by decide +kernel
theorem d_PC_init_185 : decode b_PC_init 185 = .ok (.iload_n 2, 1) := by decide +kernel
theorem d_PC_init_186 : decode b_PC_init 186 = .ok (.ishl, 1) := by decide +kernel
theorem d_PC_init_187 : decode b_PC_init 187 = .ok (.iconst 1, 1) := by decide +kernel
theorem d_PC_init_188 : decode b_PC_init 188 = .ok (.isub, 1) := by decide +kernel
theorem d_PC_init_189 : decode b_PC_init 189 = .ok (.iastore, 1) := by decide +kernel
theorem d_PC_init_190 : decode b_PC_init 190 = .ok (.aload_n 0, 1) := by decide +kernel
theorem d_PC_init_191 : decode b_PC_init 191 = .ok (.getfield 21, 3) := by decide +kernel
theorem d_PC_init_194 : decode b_PC_init 194 = .ok (.iconst 2, 1) := by decide +kernel
theorem d_PC_init_195 : decode b_PC_init 195 = .ok (.iconst 3, 1) := by decide +kernel
theorem d_PC_init_196 : decode b_PC_init 196 = .ok (.iastore, 1) := by decide +kernel
theorem d_PC_init_197 : decode b_PC_init 197 = .ok (.return_, 1) := by decide +kernel
theorem d_PC_ledger_0 : decode b_PC_ledger 0 = .ok (.aload_n 0, 1) := by decide +kernel
theorem d_PC_ledger_1 : decode b_PC_ledger 1 = .ok (.getfield 17, 3) := by decide +kernel
theorem d_PC_ledger_4 : decode b_PC_ledger 4 = .ok (.iload_n 1, 1) := by decide +kernel
theorem d_PC_ledger_5 : decode b_PC_ledger 5 = .ok (.bipush 8, 2) := by decide +kernel
theorem d_PC_ledger_7 : decode b_PC_ledger 7 = .ok (.imul, 1) := by decide +kernel
theorem d_PC_ledger_8 : decode b_PC_ledger 8 = .ok (.iload_n 2, 1) := by decide +kernel
theorem d_PC_ledger_9 : decode b_PC_ledger 9 = .ok (.iadd, 1) := by decide +kernel
theorem d_PC_ledger_10 : decode b_PC_ledger 10 = .ok (.aaload, 1) := by decide +kernel
theorem d_PC_ledger_11 : decode b_PC_ledger 11 = .ok (.areturn, 1) := by decide +kernel
theorem d_PC_lock_0 : decode b_PC_lock 0 = .ok (.iload_n 1, 1) := by decide +kernel
theorem d_PC_lock_1 : decode b_PC_lock 1 = .ok (.iconst 3, 1) := by decide +kernel
theorem d_PC_lock_2 : decode b_PC_lock 2 = .ok (.invokestatic 64, 3) := by decide +kernel
theorem d_PC_lock_5 : decode b_PC_lock 5 = .ok (.iload_n 2, 1) := by decide +kernel
theorem d_PC_lock_6 : decode b_PC_lock 6 = .ok (.iconst 4, 1) := by decide +kernel
theorem d_PC_lock_7 : decode b_PC_lock 7 = .ok (.invokestatic 64, 3) := by decide +kernel
theorem d_PC_lock_10 : decode b_PC_lock 10 = .ok (.aload_n 0, 1) := by decide +kernel
theorem d_PC_lock_11 : decode b_PC_lock 11 = .ok (.getfield 11, 3) := by decide +kernel
theorem d_PC_lock_14 : decode b_PC_lock 14 = .ok (.iload_n 1, 1) := by decide +kernel
theorem d_PC_lock_15 : decode b_PC_lock 15 = .ok (.aaload, 1) := by decide +kernel
theorem d_PC_lock_16 : decode b_PC_lock 16 = .ok (.getfield 195, 3) := by decide +kernel
theorem d_PC_lock_19 : decode b_PC_lock 19 = .ok (.iload_n 2, 1) := by decide +kernel
theorem d_PC_lock_20 : decode b_PC_lock 20 = .ok (.iaload, 1) := by decide +kernel
theorem d_PC_lock_21 : decode b_PC_lock 21 = .ok (.ireturn, 1) := by decide +kernel
theorem d_PC_lose_0 : decode b_PC_lose 0 = .ok (.aload_n 0, 1) := by decide +kernel
theorem d_PC_lose_1 : decode b_PC_lose 1 = .ok (.iload_n 1, 1) := by decide +kernel
theorem d_PC_lose_2 : decode b_PC_lose 2 = .ok (.invokevirtual 140, 3) := by decide +kernel
theorem d_PC_lose_5 : decode b_PC_lose 5 = .ok (.aload_n 0, 1) := by decide +kernel
theorem d_PC_lose_6 : decode b_PC_lose 6 = .ok (.getfield 28, 3) := by decide +kernel
theorem d_PC_lose_9 : decode b_PC_lose 9 = .ok (.iload_n 1, 1) := by decide +kernel
theorem d_PC_lose_10 : decode b_PC_lose 10 = .ok (.invokevirtual 147, 3) := by decide +kernel
theorem d_PC_lose_13 : decode b_PC_lose 13 = .ok (.aload_n 0, 1) := by decide +kernel
theorem d_PC_lose_14 : decode b_PC_lose 14 = .ok (.getfield 28, 3) := by decide +kernel
theorem d_PC_lose_17 : decode b_PC_lose 17 = .ok (.getfield 154, 3) := by decide +kernel
theorem d_PC_lose_20 : decode b_PC_lose 20 = .ok (.ireturn, 1) := by decide +kernel
theorem d_PC_outcome_0 : decode b_PC_outcome 0 = .ok (.iload_n 1, 1) := by decide +kernel
theorem d_PC_outcome_1 : decode b_PC_outcome 1 = .ok (.iconst 2, 1) := by decide +kernel
theorem d_PC_outcome_2 : decode b_PC_outcome 2 = .ok (.invokestatic 64, 3) := by decide +kernel
theorem d_PC_outcome_5 : decode b_PC_outcome 5 = .ok (.iload_n 2, 1) := by decide +kernel
theorem d_PC_outcome_6 : decode b_PC_outcome 6 = .ok (.bipush 8, 2) := by decide +kernel
theorem d_PC_outcome_8 : decode b_PC_outcome 8 = .ok (.invokestatic 64, 3) := by decide +kernel
theorem d_PC_outcome_11 : decode b_PC_outcome 11 = .ok (.aload_n 0, 1) := by decide +kernel
theorem d_PC_outcome_12 : decode b_PC_outcome 12 = .ok (.iload_n 2, 1) := by decide +kernel
theorem d_PC_outcome_13 : decode b_PC_outcome 13 = .ok (.invokevirtual 68, 3) := by decide +kernel
theorem d_PC_outcome_16 : decode b_PC_outcome 16 = .ok (.aload_n 0, 1) := by decide +kernel
theorem d_PC_outcome_17 : decode b_PC_outcome 17 = .ok (.iload_n 1, 1) := by decide +kernel
theorem d_PC_outcome_18 : decode b_PC_outcome 18 = .ok (.iload_n 2, 1) := by decide +kernel
theorem d_PC_outcome_19 : decode b_PC_outcome 19 = .ok (.invokevirtual 130, 3) := by decide +kernel
theorem d_PC_outcome_22 : decode b_PC_outcome 22 = .ok (.getfield 198, 3) := by decide +kernel
theorem d_PC_outcome_25 : decode b_PC_outcome 25 = .ok (.istore_n 3, 1) := by decide +kernel
theorem d_PC_outcome_26 : decode b_PC_outcome 26 = .ok (.iload_n 3, 1) := by decide +kernel
theorem d_PC_outcome_27 : decode b_PC_outcome 27 = .ok (.iconst (-1), 1) := by decide +kernel
theorem d_PC_outcome_28 : decode b_PC_outcome 28 = .ok (.if_icmp .ne 13, 3) := by decide +kernel
theorem d_PC_outcome_31 : decode b_PC_outcome 31 = .ok (.new 57, 3) := by decide +kernel
theorem d_PC_outcome_34 : decode b_PC_outcome 34 = .ok (.dup, 1) := by decide +kernel
theorem d_PC_outcome_35 : decode b_PC_outcome 35 = .ok (.ldc 201, 2) := by decide +kernel
theorem d_PC_outcome_37 : decode b_PC_outcome 37 = .ok (.invokespecial 61, 3) := by decide +kernel
theorem d_PC_outcome_40 : decode b_PC_outcome 40 = .ok (.athrow, 1) := by decide +kernel
theorem d_PC_outcome_41 : decode b_PC_outcome 41 = .ok (.iload_n 3, 1) := by decide +kernel
theorem d_PC_outcome_42 : decode b_PC_outcome 42 = .ok (.iconst 1, 1) := by decide +kernel
theorem d_PC_outcome_43 : decode b_PC_outcome 43 = .ok (.if_icmp .ne 7, 3) := by decide +kernel
theorem d_PC_outcome_46 : decode b_PC_outcome 46 = .ok (.iconst 0, 1) := by decide +kernel
theorem d_PC_outcome_47 : decode b_PC_outcome 47 = .ok (.goto 4, 3) := by decide +kernel
theorem d_PC_outcome_50 : decode b_PC_outcome 50 = .ok (.iconst 1, 1) := by decide +kernel
theorem d_PC_outcome_51 : decode b_PC_outcome 51 = .ok (.ireturn, 1) := by decide +kernel
theorem d_PC_pack_0 : decode b_PC_pack 0 = .ok (.iconst 2, 1) := by decide +kernel
theorem d_PC_pack_1 : decode b_PC_pack 1 = .ok (.iload_n 0, 1) := by decide +kernel
theorem d_PC_pack_2 : decode b_PC_pack 2 = .ok (.imul, 1) := by decide +kernel
theorem d_PC_pack_3 : decode b_PC_pack 3 = .ok (.iload_n 1, 1) := by decide +kernel
theorem d_PC_pack_4 : decode b_PC_pack 4 = .ok (.iadd, 1) := by decide +kernel
theorem d_PC_pack_5 : decode b_PC_pack 5 = .ok (.ireturn, 1) := by decide +kernel
theorem d_PC_refuse_0 : decode b_PC_refuse 0 = .ok (.iload_n 1, 1) := by decide +kernel
theorem d_PC_refuse_1 : decode b_PC_refuse 1 = .ok (.bipush 8, 2) := by decide +kernel
theorem d_PC_refuse_3 : decode b_PC_refuse 3 = .ok (.invokestatic 64, 3) := by decide +kernel
theorem d_PC_refuse_6 : decode b_PC_refuse 6 = .ok (.iload_n 2, 1) := by decide +kernel
theorem d_PC_refuse_7 : decode b_PC_refuse 7 = .ok (.iconst 3, 1) := by decide +kernel
theorem d_PC_refuse_8 : decode b_PC_refuse 8 = .ok (.invokestatic 64, 3) := by decide +kernel
theorem d_PC_refuse_11 : decode b_PC_refuse 11 = .ok (.aload_n 0, 1) := by decide +kernel
theorem d_PC_refuse_12 : decode b_PC_refuse 12 = .ok (.iload_n 1, 1) := by decide +kernel
theorem d_PC_refuse_13 : decode b_PC_refuse 13 = .ok (.invokevirtual 68, 3) := by decide +kernel
theorem d_PC_refuse_16 : decode b_PC_refuse 16 = .ok (.aload_n 0, 1) := by decide +kernel
theorem d_PC_refuse_17 : decode b_PC_refuse 17 = .ok (.iconst 0, 1) := by decide +kernel
theorem d_PC_refuse_18 : decode b_PC_refuse 18 = .ok (.iload_n 2, 1) := by decide +kernel
theorem d_PC_refuse_19 : decode b_PC_refuse 19 = .ok (.invokevirtual 71, 3) := by decide +kernel
theorem d_PC_refuse_22 : decode b_PC_refuse 22 = .ok (.aload_n 0, 1) := by decide +kernel
theorem d_PC_refuse_23 : decode b_PC_refuse 23 = .ok (.getfield 11, 3) := by decide +kernel
theorem d_PC_refuse_26 : decode b_PC_refuse 26 = .ok (.iload_n 2, 1) := by decide +kernel
theorem d_PC_refuse_27 : decode b_PC_refuse 27 = .ok (.aaload, 1) := by decide +kernel
theorem d_PC_refuse_28 : decode b_PC_refuse 28 = .ok (.astore_n 3, 1) := by decide +kernel
theorem d_PC_refuse_29 : decode b_PC_refuse 29 = .ok (.aload_n 3, 1) := by decide +kernel
theorem d_PC_refuse_30 : decode b_PC_refuse 30 = .ok (.getfield 117, 3) := by decide +kernel
theorem d_PC_refuse_33 : decode b_PC_refuse 33 = .ok (.iload_n 1, 1) := by decide +kernel
theorem d_PC_refuse_34 : decode b_PC_refuse 34 = .ok (.iaload, 1) := by decide +kernel
theorem d_PC_refuse_35 : decode b_PC_refuse 35 = .ok (.iconst 1, 1) := by decide +kernel
theorem d_PC_refuse_36 : decode b_PC_refuse 36 = .ok (.if_icmp .eq 13, 3) := by decide +kernel
theorem d_PC_refuse_39 : decode b_PC_refuse 39 = .ok (.new 84, 3) := by decide +kernel
theorem d_PC_refuse_42 : decode b_PC_refuse 42 = .ok (.dup, 1) := by decide +kernel
theorem d_PC_refuse_43 : decode b_PC_refuse 43 = .ok (.ldc 120, 2) := by decide +kernel
theorem d_PC_refuse_45 : decode b_PC_refuse 45 = .ok (.invokespecial 88, 3) := by decide +kernel
theorem d_PC_refuse_48 : decode b_PC_refuse 48 = .ok (.athrow, 1) := by decide +kernel
theorem d_PC_refuse_49 : decode b_PC_refuse 49 = .ok (.aload_n 3, 1) := by decide +kernel
theorem d_PC_refuse_50 : decode b_PC_refuse 50 = .ok (.iload_n 1, 1) := by decide +kernel
theorem d_PC_refuse_51 : decode b_PC_refuse 51 = .ok (.invokevirtual 122, 3) := by decide +kernel
theorem d_PC_refuse_54 : decode b_PC_refuse 54 = .ok (.aload_n 0, 1) := by decide +kernel
theorem d_PC_refuse_55 : decode b_PC_refuse 55 = .ok (.iload_n 1, 1) := by decide +kernel
theorem d_PC_refuse_56 : decode b_PC_refuse 56 = .ok (.iload_n 2, 1) := by decide +kernel
theorem d_PC_refuse_57 : decode b_PC_refuse 57 = .ok (.iconst 0, 1) := by decide +kernel
theorem d_PC_refuse_58 : decode b_PC_refuse 58 = .ok (.iconst 0, 1) := by decide +kernel
theorem d_PC_refuse_59 : decode b_PC_refuse 59 = .ok (.invokevirtual 125, 3) := by decide +kernel
theorem d_PC_refuse_62 : decode b_PC_refuse 62 = .ok (.aload_n 3, 1) := by decide +kernel
theorem d_PC_refuse_63 : decode b_PC_refuse 63 = .ok (.iload_n 1, 1) := by decide +kernel
theorem d_PC_refuse_64 : decode b_PC_refuse 64 = .ok (.invokevirtual 97, 3) := by decide +kernel
theorem d_PC_refuse_67 : decode b_PC_refuse 67 = .ok (.ireturn, 1) := by decide +kernel
theorem d_PC_request_0 : decode b_PC_request 0 = .ok (.iload_n 1, 1) := by decide +kernel
theorem d_PC_request_1 : decode b_PC_request 1 = .ok (.bipush 8, 2) := by decide +kernel
theorem d_PC_request_3 : decode b_PC_request 3 = .ok (.invokestatic 64, 3) := by decide +kernel
theorem d_PC_request_6 : decode b_PC_request 6 = .ok (.aload_n 0, 1) := by decide +kernel
theorem d_PC_request_7 : decode b_PC_request 7 = .ok (.iload_n 1, 1) := by decide +kernel
theorem d_PC_request_8 : decode b_PC_request 8 = .ok (.invokevirtual 68, 3) := by decide +kernel
theorem d_PC_request_11 : decode b_PC_request 11 = .ok (.aload_n 0, 1) := by decide +kernel
theorem d_PC_request_12 : decode b_PC_request 12 = .ok (.getfield 32, 3) := by decide +kernel
theorem d_PC_request_15 : decode b_PC_request 15 = .ok (.iload_n 1, 1) := by decide +kernel
theorem d_PC_request_16 : decode b_PC_request 16 = .ok (.iaload, 1) := by decide +kernel
theorem d_PC_request_17 : decode b_PC_request 17 = .ok (.ifCond .ne 13, 3) := by decide +kernel
theorem d_PC_request_20 : decode b_PC_request 20 = .ok (.new 57, 3) := by decide +kernel
theorem d_PC_request_23 : decode b_PC_request 23 = .ok (.dup, 1) := by decide +kernel
theorem d_PC_request_24 : decode b_PC_request 24 = .ok (.ldc 101, 2) := by decide +kernel
theorem d_PC_request_26 : decode b_PC_request 26 = .ok (.invokespecial 61, 3) := by decide +kernel
theorem d_PC_request_29 : decode b_PC_request 29 = .ok (.athrow, 1) := by decide +kernel
theorem d_PC_request_30 : decode b_PC_request 30 = .ok (.aload_n 0, 1) := by decide +kernel
theorem d_PC_request_31 : decode b_PC_request 31 = .ok (.getfield 35, 3) := by decide +kernel
theorem d_PC_request_34 : decode b_PC_request 34 = .ok (.iload_n 1, 1) := by decide +kernel
theorem d_PC_request_35 : decode b_PC_request 35 = .ok (.baload, 1) := by decide +kernel
theorem d_PC_request_36 : decode b_PC_request 36 = .ok (.ifCond .eq 13, 3) := by decide +kernel
theorem d_PC_request_39 : decode b_PC_request 39 = .ok (.new 84, 3) := by decide +kernel
theorem d_PC_request_42 : decode b_PC_request 42 = .ok (.dup, 1) := by decide +kernel
theorem d_PC_request_43 : decode b_PC_request 43 = .ok (.ldc 103, 2) := by decide +kernel
theorem d_PC_request_45 : decode b_PC_request 45 = .ok (.invokespecial 88, 3) := by decide +kernel
theorem d_PC_request_48 : decode b_PC_request 48 = .ok (.athrow, 1) := by decide +kernel
theorem d_PC_request_49 : decode b_PC_request 49 = .ok (.aload_n 0, 1) := by decide +kernel
theorem d_PC_request_50 : decode b_PC_request 50 = .ok (.getfield 35, 3) := by decide +kernel
theorem d_PC_request_53 : decode b_PC_request 53 = .ok (.iload_n 1, 1) := by decide +kernel
theorem d_PC_request_54 : decode b_PC_request 54 = .ok (.iconst 1, 1) := by decide +kernel
theorem d_PC_request_55 : decode b_PC_request 55 = .ok (.bastore, 1) := by decide +kernel
theorem d_PC_request_56 : decode b_PC_request 56 = .ok (.iconst 0, 1) := by decide +kernel
theorem d_PC_request_57 : decode b_PC_request 57 = .ok (.istore_n 2, 1) := by decide +kernel
theorem d_PC_request_58 : decode b_PC_request 58 = .ok (.iload_n 2, 1) := by decide +kernel
theorem d_PC_request_59 : decode b_PC_request 59 = .ok (.iconst 3, 1) := by decide +kernel
theorem d_PC_request_60 : decode b_PC_request 60 = .ok (.if_icmp .ge 30, 3) := by decide +kernel
theorem d_PC_request_63 : decode b_PC_request 63 = .ok (.aload_n 0, 1) := by decide +kernel
theorem d_PC_request_64 : decode b_PC_request 64 = .ok (.getfield 32, 3) := by decide +kernel
theorem d_PC_request_67 : decode b_PC_request 67 = .ok (.iload_n 1, 1) := by decide +kernel
theorem d_PC_request_68 : decode b_PC_request 68 = .ok (.iaload, 1) := by decide +kernel
theorem d_PC_request_69 : decode b_PC_request 69 = .ok (.iload_n 2, 1) := by decide +kernel
theorem d_PC_request_70 : decode b_PC_request 70 = .ok (.invokestatic 105, 3) := by decide +kernel
theorem d_PC_request_73 : decode b_PC_request 73 = .ok (.ifCond .eq 11, 3) := by decide +kernel
theorem d_PC_request_76 : decode b_PC_request 76 = .ok (.aload_n 0, 1) := by decide +kernel
theorem d_PC_request_77 : decode b_PC_request 77 = .ok (.iconst 0, 1) := by decide +kernel
theorem d_PC_request_78 : decode b_PC_request 78 = .ok (.iload_n 1, 1) := by decide +kernel
theorem d_PC_request_79 : decode b_PC_request 79 = .ok (.iload_n 2, 1) := by decide +kernel
theorem d_PC_request_80 : decode b_PC_request 80 = .ok (.iconst (-1), 1) := by decide +kernel
theorem d_PC_request_81 : decode b_PC_request 81 = .ok (.invokevirtual 108, 3) := by decide +kernel
theorem d_PC_request_84 : decode b_PC_request 84 = .ok (.iinc 2 1, 3) := by decide +kernel
theorem d_PC_request_87 : decode b_PC_request 87 = .ok (.goto (-29), 3) := by decide +kernel
theorem d_PC_request_90 : decode b_PC_request 90 = .ok (.aload_n 0, 1) := by decide +kernel
theorem d_PC_request_91 : decode b_PC_request 91 = .ok (.getfield 32, 3) := by decide +kernel
theorem d_PC_request_94 : decode b_PC_request 94 = .ok (.iload_n 1, 1) := by decide +kernel
theorem d_PC_request_95 : decode b_PC_request 95 = .ok (.iaload, 1) := by decide +kernel
theorem d_PC_request_96 : decode b_PC_request 96 = .ok (.invokestatic 112, 3) := by decide +kernel
theorem d_PC_request_99 : decode b_PC_request 99 = .ok (.ireturn, 1) := by decide +kernel
theorem d_PC_sendAsks_0 : decode b_PC_sendAsks 0 = .ok (.iconst 0, 1) := by decide +kernel
theorem d_PC_sendAsks_1 : decode b_PC_sendAsks 1 = .ok (.istore_n 3, 1) := by decide +kernel
theorem d_PC_sendAsks_2 : decode b_PC_sendAsks 2 = .ok (.iload_n 3, 1) := by decide +kernel
theorem d_PC_sendAsks_3 : decode b_PC_sendAsks 3 = .ok (.aload_n 0, 1) := by decide +kernel
theorem d_PC_sendAsks_4 : decode b_PC_sendAsks 4 = .ok (.getfield 48, 3) := by decide +kernel
theorem d_PC_sendAsks_7 : decode b_PC_sendAsks 7 = .ok (.arraylength, 1) := by decide +kernel
theorem d_PC_sendAsks_8 : decode b_PC_sendAsks 8 = .ok (.if_icmp .ge 41, 3) := by decide +kernel
theorem d_PC_sendAsks_11 : decode b_PC_sendAsks 11 = .ok (.aload_n 0, 1) := by decide +kernel
theorem d_PC_sendAsks_12 : decode b_PC_sendAsks 12 = .ok (.getfield 28, 3) := by decide +kernel
theorem d_PC_sendAsks_15 : decode b_PC_sendAsks 15 = .ok (.iconst 1, 1) := by decide +kernel
theorem d_PC_sendAsks_16 : decode b_PC_sendAsks 16 = .ok (.iload_n 1, 1) := by decide +kernel
theorem d_PC_sendAsks_17 : decode b_PC_sendAsks 17 = .ok (.invokevirtual 325, 3) := by decide +kernel
theorem d_PC_sendAsks_20 : decode b_PC_sendAsks 20 = .ok (.astore 4, 2) := by decide +kernel
theorem d_PC_sendAsks_22 : decode b_PC_sendAsks 22 = .ok (.aload 4, 2) := by decide +kernel
theorem d_PC_sendAsks_24 : decode b_PC_sendAsks 24 = .ok (.iload_n 3, 1) := by decide +kernel
theorem d_PC_sendAsks_25 : decode b_PC_sendAsks 25 = .ok (.putfield 266, 3) := by decide +kernel
theorem d_PC_sendAsks_28 : decode b_PC_sendAsks 28 = .ok (.aload 4, 2) := by decide +kernel
theorem d_PC_sendAsks_30 : decode b_PC_sendAsks 30 = .ok (.iload_n 2, 1) := by decide +kernel
theorem d_PC_sendAsks_31 : decode b_PC_sendAsks 31 = .ok (.putfield 269, 3) := by decide +kernel
theorem d_PC_sendAsks_34 : decode b_PC_sendAsks 34 = .ok (.aload_n 0, 1) := by decide +kernel
theorem d_PC_sendAsks_35 : decode b_PC_sendAsks 35 = .ok (.getfield 28, 3) := by decide +kernel
theorem d_PC_sendAsks_38 : decode b_PC_sendAsks 38 = .ok (.aload 4, 2) := by decide +kernel
theorem d_PC_sendAsks_40 : decode b_PC_sendAsks 40 = .ok (.invokevirtual 329, 3) := by decide +kernel
theorem d_PC_sendAsks_43 : decode b_PC_sendAsks 43 = .ok (.iinc 3 1, 3) := by decide +kernel
theorem d_PC_sendAsks_46 : decode b_PC_sendAsks 46 = .ok (.goto (-44), 3) := by decide +kernel
theorem d_PC_sendAsks_49 : decode b_PC_sendAsks 49 = .ok (.return_, 1) := by decide +kernel
theorem d_PC_sendOutcomes_0 : decode b_PC_sendOutcomes 0 = .ok (.iconst 0, 1) := by decide +kernel
theorem d_PC_sendOutcomes_1 : decode b_PC_sendOutcomes 1 = .ok (.istore_n 3, 1) := by decide +kernel
theorem d_PC_sendOutcomes_2 : decode b_PC_sendOutcomes 2 = .ok (.iload_n 3, 1) := by decide +kernel
theorem d_PC_sendOutcomes_3 : decode b_PC_sendOutcomes 3 = .ok (.iconst 3, 1) := by decide +kernel
theorem d_PC_sendOutcomes_4 : decode b_PC_sendOutcomes 4 = .ok (.if_icmp .ge 30, 3) := by decide +kernel
theorem d_PC_sendOutcomes_7 : decode b_PC_sendOutcomes 7 = .ok (.aload_n 0, 1) := by decide +kernel
theorem d_PC_sendOutcomes_8 : decode b_PC_sendOutcomes 8 = .ok (.getfield 32, 3) := by decide +kernel
theorem d_PC_sendOutcomes_11 : decode b_PC_sendOutcomes 11 = .ok (.iload_n 1, 1) := by decide +kernel
theorem d_PC_sendOutcomes_12 : decode b_PC_sendOutcomes 12 = .ok (.iaload, 1) := by decide +kernel
theorem d_PC_sendOutcomes_13 : decode b_PC_sendOutcomes 13 = .ok (.iload_n 3, 1) := by decide +kernel
theorem d_PC_sendOutcomes_14 : decode b_PC_sendOutcomes 14 = .ok (.invokestatic 105, 3) := by decide +kernel
theorem d_PC_sendOutcomes_17 : decode b_PC_sendOutcomes 17 = .ok (.ifCond .eq 11, 3) := by decide +kernel
theorem d_PC_sendOutcomes_20 : decode b_PC_sendOutcomes 20 = .ok (.aload_n 0, 1) := by decide +kernel
theorem d_PC_sendOutcomes_21 : decode b_PC_sendOutcomes 21 = .ok (.iconst 5, 1) := by decide +kernel
theorem d_PC_sendOutcomes_22 : decode b_PC_sendOutcomes 22 = .ok (.iload_n 1, 1) := by decide +kernel
theorem d_PC_sendOutcomes_23 : decode b_PC_sendOutcomes 23 = .ok (.iload_n 3, 1) := by decide +kernel
theorem d_PC_sendOutcomes_24 : decode b_PC_sendOutcomes 24 = .ok (.iload_n 2, 1) := by decide +kernel
theorem d_PC_sendOutcomes_25 : decode b_PC_sendOutcomes 25 = .ok (.invokevirtual 108, 3) := by decide +kernel
theorem d_PC_sendOutcomes_28 : decode b_PC_sendOutcomes 28 = .ok (.iinc 3 1, 3) := by decide +kernel
theorem d_PC_sendOutcomes_31 : decode b_PC_sendOutcomes 31 = .ok (.goto (-29), 3) := by decide +kernel
theorem d_PC_sendOutcomes_34 : decode b_PC_sendOutcomes 34 = .ok (.return_, 1) := by decide +kernel
theorem d_PC_sendReply_0 : decode b_PC_sendReply 0 = .ok (.aload_n 0, 1) := by decide +kernel
theorem d_PC_sendReply_1 : decode b_PC_sendReply 1 = .ok (.getfield 28, 3) := by decide +kernel
theorem d_PC_sendReply_4 : decode b_PC_sendReply 4 = .ok (.iconst 2, 1) := by decide +kernel
theorem d_PC_sendReply_5 : decode b_PC_sendReply 5 = .ok (.iload_n 2, 1) := by decide +kernel
theorem d_PC_sendReply_6 : decode b_PC_sendReply 6 = .ok (.invokevirtual 325, 3) := by decide +kernel
theorem d_PC_sendReply_9 : decode b_PC_sendReply 9 = .ok (.astore 4, 2) := by decide +kernel
theorem d_PC_sendReply_11 : decode b_PC_sendReply 11 = .ok (.aload 4, 2) := by decide +kernel
theorem d_PC_sendReply_13 : decode b_PC_sendReply 13 = .ok (.iload_n 1, 1) := by decide +kernel
theorem d_PC_sendReply_14 : decode b_PC_sendReply 14 = .ok (.putfield 266, 3) := by decide +kernel
theorem d_PC_sendReply_17 : decode b_PC_sendReply 17 = .ok (.aload 4, 2) := by decide +kernel
theorem d_PC_sendReply_19 : decode b_PC_sendReply 19 = .ok (.iload_n 3, 1) := by decide +kernel
theorem d_PC_sendReply_20 : decode b_PC_sendReply 20 = .ok (.iconst 2, 1) := by decide +kernel
theorem d_PC_sendReply_21 : decode b_PC_sendReply 21 = .ok (.invokestatic 332, 3) := by decide +kernel
theorem d_PC_sendReply_24 : decode b_PC_sendReply 24 = .ok (.putfield 282, 3) := by decide +kernel
theorem d_PC_sendReply_27 : decode b_PC_sendReply 27 = .ok (.aload 4, 2) := by decide +kernel
theorem d_PC_sendReply_29 : decode b_PC_sendReply 29 = .ok (.iload_n 3, 1) := by decide +kernel
theorem d_PC_sendReply_30 : decode b_PC_sendReply 30 = .ok (.putfield 269, 3) := by decide +kernel
theorem d_PC_sendReply_33 : decode b_PC_sendReply 33 = .ok (.iconst 0, 1) := by decide +kernel
theorem d_PC_sendReply_34 : decode b_PC_sendReply 34 = .ok (.istore 5, 2) := by decide +kernel
theorem d_PC_sendReply_36 : decode b_PC_sendReply 36 = .ok (.iload 5, 2) := by decide +kernel
theorem d_PC_sendReply_38 : decode b_PC_sendReply 38 = .ok (.iconst 3, 1) := by decide +kernel
theorem d_PC_sendReply_39 : decode b_PC_sendReply 39 = .ok (.if_icmp .ge 45, 3) := by decide +kernel
theorem d_PC_sendReply_42 : decode b_PC_sendReply 42 = .ok (.aload_n 0, 1) := by decide +kernel
theorem d_PC_sendReply_43 : decode b_PC_sendReply 43 = .ok (.getfield 32, 3) := by decide +kernel
theorem d_PC_sendReply_46 : decode b_PC_sendReply 46 = .ok (.iload_n 2, 1) := by decide +kernel
theorem d_PC_sendReply_47 : decode b_PC_sendReply 47 = .ok (.iaload, 1) := by decide +kernel
theorem d_PC_sendReply_48 : decode b_PC_sendReply 48 = .ok (.iload 5, 2) := by decide +kernel
theorem d_PC_sendReply_50 : decode b_PC_sendReply 50 = .ok (.invokestatic 105, 3) := by decide +kernel
theorem d_PC_sendReply_53 : decode b_PC_sendReply 53 = .ok (.ifCond .eq 25, 3) := by decide +kernel
theorem d_PC_sendReply_56 : decode b_PC_sendReply 56 = .ok (.aload 4, 2) := by decide +kernel
theorem d_PC_sendReply_58 : decode b_PC_sendReply 58 = .ok (.getfield 290, 3) := by decide +kernel
theorem d_PC_sendReply_61 : decode b_PC_sendReply 61 = .ok (.iload 5, 2) := by decide +kernel
theorem d_PC_sendReply_63 : decode b_PC_sendReply 63 = .ok (.aload_n 0, 1) := by decide +kernel
theorem d_PC_sendReply_64 : decode b_PC_sendReply 64 = .ok (.getfield 48, 3) := by decide +kernel
theorem d_PC_sendReply_67 : decode b_PC_sendReply 67 = .ok (.iload_n 1, 1) := by decide +kernel
theorem d_PC_sendReply_68 : decode b_PC_sendReply 68 = .ok (.aaload, 1) := by decide +kernel
theorem d_PC_sendReply_69 : decode b_PC_sendReply 69 = .ok (.getfield 207, 3) := by decide +kernel
theorem d_PC_sendReply_72 : decode b_PC_sendReply 72 = .ok (.iload_n 2, 1) := by decide +kernel
theorem d_PC_sendReply_73 : decode b_PC_sendReply 73 = .ok (.aaload, 1) := by decide +kernel
theorem d_PC_sendReply_74 : decode b_PC_sendReply 74 = .ok (.iload 5, 2) := by decide +kernel
theorem d_PC_sendReply_76 : decode b_PC_sendReply 76 = .ok (.iaload, 1) := by decide +kernel
theorem d_PC_sendReply_77 : decode b_PC_sendReply 77 = .ok (.iastore, 1) := by decide +kernel
theorem d_PC_sendReply_78 : decode b_PC_sendReply 78 = .ok (.iinc 5 1, 3) := by decide +kernel
theorem d_PC_sendReply_81 : decode b_PC_sendReply 81 = .ok (.goto (-45), 3) := by decide +kernel
theorem d_PC_sendReply_84 : decode b_PC_sendReply 84 = .ok (.aload_n 0, 1) := by decide +kernel
theorem d_PC_sendReply_85 : decode b_PC_sendReply 85 = .ok (.getfield 28, 3) := by decide +kernel
theorem d_PC_sendReply_88 : decode b_PC_sendReply 88 = .ok (.aload 4, 2) := by decide +kernel
theorem d_PC_sendReply_90 : decode b_PC_sendReply 90 = .ok (.invokevirtual 329, 3) := by decide +kernel
theorem d_PC_sendReply_93 : decode b_PC_sendReply 93 = .ok (.return_, 1) := by decide +kernel
theorem d_PC_sendToStore_0 : decode b_PC_sendToStore 0 = .ok (.aload_n 0, 1) := by decide +kernel
theorem d_PC_sendToStore_1 : decode b_PC_sendToStore 1 = .ok (.getfield 28, 3) := by decide +kernel
theorem d_PC_sendToStore_4 : decode b_PC_sendToStore 4 = .ok (.iload_n 1, 1) := by decide +kernel
theorem d_PC_sendToStore_5 : decode b_PC_sendToStore 5 = .ok (.iload_n 2, 1) := by decide +kernel
theorem d_PC_sendToStore_6 : decode b_PC_sendToStore 6 = .ok (.invokevirtual 325, 3) := by decide +kernel
theorem d_PC_sendToStore_9 : decode b_PC_sendToStore 9 = .ok (.astore 5, 2) := by decide +kernel
theorem d_PC_sendToStore_11 : decode b_PC_sendToStore 11 = .ok (.aload 5, 2) := by decide +kernel
theorem d_PC_sendToStore_13 : decode b_PC_sendToStore 13 = .ok (.iload_n 3, 1) := by decide +kernel
theorem d_PC_sendToStore_14 : decode b_PC_sendToStore 14 = .ok (.putfield 260, 3) := by decide +kernel
theorem d_PC_sendToStore_17 : decode b_PC_sendToStore 17 = .ok (.aload 5, 2) := by decide +kernel
theorem d_PC_sendToStore_19 : decode b_PC_sendToStore 19 = .ok (.iload 4, 2) := by decide +kernel
theorem d_PC_sendToStore_21 : decode b_PC_sendToStore 21 = .ok (.putfield 303, 3) := by decide +kernel
theorem d_PC_sendToStore_24 : decode b_PC_sendToStore 24 = .ok (.aload_n 0, 1) := by decide +kernel
theorem d_PC_sendToStore_25 : decode b_PC_sendToStore 25 = .ok (.getfield 28, 3) := by decide +kernel
theorem d_PC_sendToStore_28 : decode b_PC_sendToStore 28 = .ok (.aload 5, 2) := by decide +kernel
theorem d_PC_sendToStore_30 : decode b_PC_sendToStore 30 = .ok (.invokevirtual 329, 3) := by decide +kernel
theorem d_PC_sendToStore_33 : decode b_PC_sendToStore 33 = .ok (.return_, 1) := by decide +kernel
theorem d_PC_sendTold_0 : decode b_PC_sendTold 0 = .ok (.aload_n 0, 1) := by decide +kernel
theorem d_PC_sendTold_1 : decode b_PC_sendTold 1 = .ok (.getfield 28, 3) := by decide +kernel
theorem d_PC_sendTold_4 : decode b_PC_sendTold 4 = .ok (.iconst 4, 1) := by decide +kernel
theorem d_PC_sendTold_5 : decode b_PC_sendTold 5 = .ok (.aload_n 1, 1) := by decide +kernel
theorem d_PC_sendTold_6 : decode b_PC_sendTold 6 = .ok (.getfield 263, 3) := by decide +kernel
theorem d_PC_sendTold_9 : decode b_PC_sendTold 9 = .ok (.invokevirtual 325, 3) := by decide +kernel
theorem d_PC_sendTold_12 : decode b_PC_sendTold 12 = .ok (.astore_n 3, 1) := by decide +kernel
theorem d_PC_sendTold_13 : decode b_PC_sendTold 13 = .ok (.aload_n 3, 1) := by decide +kernel
theorem d_PC_sendTold_14 : decode b_PC_sendTold 14 = .ok (.aload_n 1, 1) := by decide +kernel
theorem d_PC_sendTold_15 : decode b_PC_sendTold 15 = .ok (.getfield 260, 3) := by decide +kernel
theorem d_PC_sendTold_18 : decode b_PC_sendTold 18 = .ok (.putfield 260, 3) := by decide +kernel
theorem d_PC_sendTold_21 : decode b_PC_sendTold 21 = .ok (.aload_n 3, 1) := by decide +kernel
theorem d_PC_sendTold_22 : decode b_PC_sendTold 22 = .ok (.aload_n 1, 1) := by decide +kernel
theorem d_PC_sendTold_23 : decode b_PC_sendTold 23 = .ok (.getfield 266, 3) := by decide +kernel
theorem d_PC_sendTold_26 : decode b_PC_sendTold 26 = .ok (.putfield 266, 3) := by decide +kernel
theorem d_PC_sendTold_29 : decode b_PC_sendTold 29 = .ok (.aload_n 3, 1) := by decide +kernel
theorem d_PC_sendTold_30 : decode b_PC_sendTold 30 = .ok (.iload_n 2, 1) := by decide +kernel
theorem d_PC_sendTold_31 : decode b_PC_sendTold 31 = .ok (.putfield 282, 3) := by decide +kernel
theorem d_PC_sendTold_34 : decode b_PC_sendTold 34 = .ok (.aload_n 3, 1) := by decide +kernel
theorem d_PC_sendTold_35 : decode b_PC_sendTold 35 = .ok (.aload_n 1, 1) := by decide +kernel
theorem d_PC_sendTold_36 : decode b_PC_sendTold 36 = .ok (.getfield 269, 3) := by decide +kernel
theorem d_PC_sendTold_39 : decode b_PC_sendTold 39 = .ok (.putfield 269, 3) := by decide +kernel
theorem d_PC_sendTold_42 : decode b_PC_sendTold 42 = .ok (.aload_n 3, 1) := by decide +kernel
theorem d_PC_sendTold_43 : decode b_PC_sendTold 43 = .ok (.aload_n 1, 1) := by decide +kernel
theorem d_PC_sendTold_44 : decode b_PC_sendTold 44 = .ok (.getfield 303, 3) := by decide +kernel
theorem d_PC_sendTold_47 : decode b_PC_sendTold 47 = .ok (.putfield 303, 3) := by decide +kernel
theorem d_PC_sendTold_50 : decode b_PC_sendTold 50 = .ok (.aload_n 0, 1) := by decide +kernel
theorem d_PC_sendTold_51 : decode b_PC_sendTold 51 = .ok (.getfield 28, 3) := by decide +kernel
theorem d_PC_sendTold_54 : decode b_PC_sendTold 54 = .ok (.aload_n 3, 1) := by decide +kernel
theorem d_PC_sendTold_55 : decode b_PC_sendTold 55 = .ok (.invokevirtual 329, 3) := by decide +kernel
theorem d_PC_sendTold_58 : decode b_PC_sendTold 58 = .ok (.return_, 1) := by decide +kernel
theorem d_PC_sendVotes_0 : decode b_PC_sendVotes 0 = .ok (.iconst 0, 1) := by decide +kernel
theorem d_PC_sendVotes_1 : decode b_PC_sendVotes 1 = .ok (.istore 5, 2) := by decide +kernel
theorem d_PC_sendVotes_3 : decode b_PC_sendVotes 3 = .ok (.iload 5, 2) := by decide +kernel
theorem d_PC_sendVotes_5 : decode b_PC_sendVotes 5 = .ok (.aload_n 0, 1) := by decide +kernel
theorem d_PC_sendVotes_6 : decode b_PC_sendVotes 6 = .ok (.getfield 48, 3) := by decide +kernel
theorem d_PC_sendVotes_9 : decode b_PC_sendVotes 9 = .ok (.arraylength, 1) := by decide +kernel
theorem d_PC_sendVotes_10 : decode b_PC_sendVotes 10 = .ok (.if_icmp .ge 55, 3) := by decide +kernel
theorem d_PC_sendVotes_13 : decode b_PC_sendVotes 13 = .ok (.aload_n 0, 1) := by decide +kernel
theorem d_PC_sendVotes_14 : decode b_PC_sendVotes 14 = .ok (.getfield 28, 3) := by decide +kernel
theorem d_PC_sendVotes_17 : decode b_PC_sendVotes 17 = .ok (.iconst 3, 1) := by decide +kernel
theorem d_PC_sendVotes_18 : decode b_PC_sendVotes 18 = .ok (.iload_n 1, 1) := by decide +kernel
theorem d_PC_sendVotes_19 : decode b_PC_sendVotes 19 = .ok (.invokevirtual 325, 3) := by decide +kernel
theorem d_PC_sendVotes_22 : decode b_PC_sendVotes 22 = .ok (.astore 6, 2) := by decide +kernel
theorem d_PC_sendVotes_24 : decode b_PC_sendVotes 24 = .ok (.aload 6, 2) := by decide +kernel
theorem d_PC_sendVotes_26 : decode b_PC_sendVotes 26 = .ok (.iload_n 2, 1) := by decide +kernel
theorem d_PC_sendVotes_27 : decode b_PC_sendVotes 27 = .ok (.putfield 260, 3) := by decide +kernel
theorem d_PC_sendVotes_30 : decode b_PC_sendVotes 30 = .ok (.aload 6, 2) := by decide +kernel
theorem d_PC_sendVotes_32 : decode b_PC_sendVotes 32 = .ok (.iload 5, 2) := by decide +kernel
theorem d_PC_sendVotes_34 : decode b_PC_sendVotes 34 = .ok (.putfield 266, 3) := by decide +kernel
theorem d_PC_sendVotes_37 : decode b_PC_sendVotes 37 = .ok (.aload 6, 2) := by decide +kernel
theorem d_PC_sendVotes_39 : decode b_PC_sendVotes 39 = .ok (.iload_n 3, 1) := by decide +kernel
theorem d_PC_sendVotes_40 : decode b_PC_sendVotes 40 = .ok (.putfield 269, 3) := by decide +kernel
theorem d_PC_sendVotes_43 : decode b_PC_sendVotes 43 = .ok (.aload 6, 2) := by decide +kernel
theorem d_PC_sendVotes_45 : decode b_PC_sendVotes 45 = .ok (.iload 4, 2) := by decide +kernel
theorem d_PC_sendVotes_47 : decode b_PC_sendVotes 47 = .ok (.putfield 303, 3) := by decide +kernel
theorem d_PC_sendVotes_50 : decode b_PC_sendVotes 50 = .ok (.aload_n 0, 1) := by decide +kernel
theorem d_PC_sendVotes_51 : decode b_PC_sendVotes 51 = .ok (.getfield 28, 3) := by decide +kernel
theorem d_PC_sendVotes_54 : decode b_PC_sendVotes 54 = .ok (.aload 6, 2) := by decide +kernel
theorem d_PC_sendVotes_56 : decode b_PC_sendVotes 56 = .ok (.invokevirtual 329, 3) := by decide +kernel
theorem d_PC_sendVotes_59 : decode b_PC_sendVotes 59 = .ok (.iinc 5 1, 3) := by decide +kernel
theorem d_PC_sendVotes_62 : decode b_PC_sendVotes 62 = .ok (.goto (-59), 3) := by decide +kernel
theorem d_PC_sendVotes_65 : decode b_PC_sendVotes 65 = .ok (.return_, 1) := by decide +kernel
theorem d_PC_state_0 : decode b_PC_state 0 = .ok (.iload_n 1, 1) := by decide +kernel
theorem d_PC_state_1 : decode b_PC_state 1 = .ok (.bipush 8, 2) := by decide +kernel
theorem d_PC_state_3 : decode b_PC_state 3 = .ok (.invokestatic 64, 3) := by decide +kernel
theorem d_PC_state_6 : decode b_PC_state 6 = .ok (.iload_n 2, 1) := by decide +kernel
theorem d_PC_state_7 : decode b_PC_state 7 = .ok (.iconst 3, 1) := by decide +kernel
theorem d_PC_state_8 : decode b_PC_state 8 = .ok (.invokestatic 64, 3) := by decide +kernel
theorem d_PC_state_11 : decode b_PC_state 11 = .ok (.aload_n 0, 1) := by decide +kernel
theorem d_PC_state_12 : decode b_PC_state 12 = .ok (.iload_n 1, 1) := by decide +kernel
theorem d_PC_state_13 : decode b_PC_state 13 = .ok (.invokevirtual 68, 3) := by decide +kernel
theorem d_PC_state_16 : decode b_PC_state 16 = .ok (.aload_n 0, 1) := by decide +kernel
theorem d_PC_state_17 : decode b_PC_state 17 = .ok (.getfield 11, 3) := by decide +kernel
theorem d_PC_state_20 : decode b_PC_state 20 = .ok (.iload_n 2, 1) := by decide +kernel
theorem d_PC_state_21 : decode b_PC_state 21 = .ok (.aaload, 1) := by decide +kernel
theorem d_PC_state_22 : decode b_PC_state 22 = .ok (.getfield 117, 3) := by decide +kernel
theorem d_PC_state_25 : decode b_PC_state 25 = .ok (.iload_n 1, 1) := by decide +kernel
theorem d_PC_state_26 : decode b_PC_state 26 = .ok (.iaload, 1) := by decide +kernel
theorem d_PC_state_27 : decode b_PC_state 27 = .ok (.ireturn, 1) := by decide +kernel
theorem d_PC_stop_0 : decode b_PC_stop 0 = .ok (.iload_n 1, 1) := by decide +kernel
theorem d_PC_stop_1 : decode b_PC_stop 1 = .ok (.ifCond .ne 15, 3) := by decide +kernel
theorem d_PC_stop_4 : decode b_PC_stop 4 = .ok (.aload_n 0, 1) := by decide +kernel
theorem d_PC_stop_5 : decode b_PC_stop 5 = .ok (.getfield 11, 3) := by decide +kernel
theorem d_PC_stop_8 : decode b_PC_stop 8 = .ok (.iload_n 2, 1) := by decide +kernel
theorem d_PC_stop_9 : decode b_PC_stop 9 = .ok (.aaload, 1) := by decide +kernel
theorem d_PC_stop_10 : decode b_PC_stop 10 = .ok (.invokevirtual 227, 3) := by decide +kernel
theorem d_PC_stop_13 : decode b_PC_stop 13 = .ok (.goto 31, 3) := by decide +kernel
theorem d_PC_stop_16 : decode b_PC_stop 16 = .ok (.iload_n 1, 1) := by decide +kernel
theorem d_PC_stop_17 : decode b_PC_stop 17 = .ok (.iconst 2, 1) := by decide +kernel
theorem d_PC_stop_18 : decode b_PC_stop 18 = .ok (.if_icmp .ne 26, 3) := by decide +kernel
theorem d_PC_stop_21 : decode b_PC_stop 21 = .ok (.iconst 0, 1) := by decide +kernel
theorem d_PC_stop_22 : decode b_PC_stop 22 = .ok (.istore_n 3, 1) := by decide +kernel
theorem d_PC_stop_23 : decode b_PC_stop 23 = .ok (.iload_n 3, 1) := by decide +kernel
theorem d_PC_stop_24 : decode b_PC_stop 24 = .ok (.bipush 8, 2) := by decide +kernel
theorem d_PC_stop_26 : decode b_PC_stop 26 = .ok (.if_icmp .ge 18, 3) := by decide +kernel
theorem d_PC_stop_29 : decode b_PC_stop 29 = .ok (.aload_n 0, 1) := by decide +kernel
theorem d_PC_stop_30 : decode b_PC_stop 30 = .ok (.iload_n 2, 1) := by decide +kernel
theorem d_PC_stop_31 : decode b_PC_stop 31 = .ok (.iload_n 3, 1) := by decide +kernel
theorem d_PC_stop_32 : decode b_PC_stop 32 = .ok (.invokevirtual 130, 3) := by decide +kernel
theorem d_PC_stop_35 : decode b_PC_stop 35 = .ok (.invokevirtual 230, 3) := by decide +kernel
theorem d_PC_stop_38 : decode b_PC_stop 38 = .ok (.iinc 3 1, 3) := by decide +kernel
theorem d_PC_stop_41 : decode b_PC_stop 41 = .ok (.goto (-18), 3) := by decide +kernel
theorem d_PC_stop_44 : decode b_PC_stop 44 = .ok (.return_, 1) := by decide +kernel
theorem d_PC_take_0 : decode b_PC_take 0 = .ok (.iload_n 1, 1) := by decide +kernel
theorem d_PC_take_1 : decode b_PC_take 1 = .ok (.iconst 2, 1) := by decide +kernel
theorem d_PC_take_2 : decode b_PC_take 2 = .ok (.invokestatic 64, 3) := by decide +kernel
theorem d_PC_take_5 : decode b_PC_take 5 = .ok (.iload_n 2, 1) := by decide +kernel
theorem d_PC_take_6 : decode b_PC_take 6 = .ok (.bipush 8, 2) := by decide +kernel
theorem d_PC_take_8 : decode b_PC_take 8 = .ok (.invokestatic 64, 3) := by decide +kernel
theorem d_PC_take_11 : decode b_PC_take 11 = .ok (.aload_n 0, 1) := by decide +kernel
theorem d_PC_take_12 : decode b_PC_take 12 = .ok (.iload_n 2, 1) := by decide +kernel
theorem d_PC_take_13 : decode b_PC_take 13 = .ok (.invokevirtual 68, 3) := by decide +kernel
theorem d_PC_take_16 : decode b_PC_take 16 = .ok (.aload_n 0, 1) := by decide +kernel
theorem d_PC_take_17 : decode b_PC_take 17 = .ok (.iconst 2, 1) := by decide +kernel
theorem d_PC_take_18 : decode b_PC_take 18 = .ok (.iload_n 1, 1) := by decide +kernel
theorem d_PC_take_19 : decode b_PC_take 19 = .ok (.invokevirtual 71, 3) := by decide +kernel
theorem d_PC_take_22 : decode b_PC_take 22 = .ok (.aload_n 0, 1) := by decide +kernel
theorem d_PC_take_23 : decode b_PC_take 23 = .ok (.getfield 35, 3) := by decide +kernel
theorem d_PC_take_26 : decode b_PC_take 26 = .ok (.iload_n 2, 1) := by decide +kernel
theorem d_PC_take_27 : decode b_PC_take 27 = .ok (.baload, 1) := by decide +kernel
theorem d_PC_take_28 : decode b_PC_take 28 = .ok (.ifCond .ne 13, 3) := by decide +kernel
theorem d_PC_take_31 : decode b_PC_take 31 = .ok (.new 84, 3) := by decide +kernel
theorem d_PC_take_34 : decode b_PC_take 34 = .ok (.dup, 1) := by decide +kernel
theorem d_PC_take_35 : decode b_PC_take 35 = .ok (.ldc 128, 2) := by decide +kernel
theorem d_PC_take_37 : decode b_PC_take 37 = .ok (.invokespecial 88, 3) := by decide +kernel
theorem d_PC_take_40 : decode b_PC_take 40 = .ok (.athrow, 1) := by decide +kernel
theorem d_PC_take_41 : decode b_PC_take 41 = .ok (.aload_n 0, 1) := by decide +kernel
theorem d_PC_take_42 : decode b_PC_take 42 = .ok (.iload_n 1, 1) := by decide +kernel
theorem d_PC_take_43 : decode b_PC_take 43 = .ok (.iload_n 2, 1) := by decide +kernel
theorem d_PC_take_44 : decode b_PC_take 44 = .ok (.invokevirtual 130, 3) := by decide +kernel
theorem d_PC_take_47 : decode b_PC_take 47 = .ok (.iload_n 1, 1) := by decide +kernel
theorem d_PC_take_48 : decode b_PC_take 48 = .ok (.invokevirtual 134, 3) := by decide +kernel
theorem d_PC_take_51 : decode b_PC_take 51 = .ok (.istore_n 3, 1) := by decide +kernel
theorem d_PC_take_52 : decode b_PC_take 52 = .ok (.aload_n 0, 1) := by decide +kernel
theorem d_PC_take_53 : decode b_PC_take 53 = .ok (.iload_n 2, 1) := by decide +kernel
theorem d_PC_take_54 : decode b_PC_take 54 = .ok (.iload_n 3, 1) := by decide +kernel
theorem d_PC_take_55 : decode b_PC_take 55 = .ok (.invokevirtual 137, 3) := by decide +kernel
theorem d_PC_take_58 : decode b_PC_take 58 = .ok (.iload_n 3, 1) := by decide +kernel
theorem d_PC_take_59 : decode b_PC_take 59 = .ok (.ireturn, 1) := by decide +kernel
theorem d_PC_taken_0 : decode b_PC_taken 0 = .ok (.iload_n 1, 1) := by decide +kernel
theorem d_PC_taken_1 : decode b_PC_taken 1 = .ok (.aload_n 0, 1) := by decide +kernel
theorem d_PC_taken_2 : decode b_PC_taken 2 = .ok (.getfield 48, 3) := by decide +kernel
theorem d_PC_taken_5 : decode b_PC_taken 5 = .ok (.arraylength, 1) := by decide +kernel
theorem d_PC_taken_6 : decode b_PC_taken 6 = .ok (.invokestatic 64, 3) := by decide +kernel
theorem d_PC_taken_9 : decode b_PC_taken 9 = .ok (.iload_n 2, 1) := by decide +kernel
theorem d_PC_taken_10 : decode b_PC_taken 10 = .ok (.bipush 8, 2) := by decide +kernel
theorem d_PC_taken_12 : decode b_PC_taken 12 = .ok (.invokestatic 64, 3) := by decide +kernel
theorem d_PC_taken_15 : decode b_PC_taken 15 = .ok (.iload_n 3, 1) := by decide +kernel
theorem d_PC_taken_16 : decode b_PC_taken 16 = .ok (.iconst 3, 1) := by decide +kernel
theorem d_PC_taken_17 : decode b_PC_taken 17 = .ok (.invokestatic 64, 3) := by decide +kernel
theorem d_PC_taken_20 : decode b_PC_taken 20 = .ok (.aload_n 0, 1) := by decide +kernel
theorem d_PC_taken_21 : decode b_PC_taken 21 = .ok (.iload_n 2, 1) := by decide +kernel
theorem d_PC_taken_22 : decode b_PC_taken 22 = .ok (.invokevirtual 68, 3) := by decide +kernel
theorem d_PC_taken_25 : decode b_PC_taken 25 = .ok (.aload_n 0, 1) := by decide +kernel
theorem d_PC_taken_26 : decode b_PC_taken 26 = .ok (.getfield 48, 3) := by decide +kernel
theorem d_PC_taken_29 : decode b_PC_taken 29 = .ok (.iload_n 1, 1) := by decide +kernel
theorem d_PC_taken_30 : decode b_PC_taken 30 = .ok (.aaload, 1) := by decide +kernel
theorem d_PC_taken_31 : decode b_PC_taken 31 = .ok (.astore 5, 2) := by decide +kernel
theorem d_PC_taken_33 : decode b_PC_taken 33 = .ok (.iload 4, 2) := by decide +kernel
theorem d_PC_taken_35 : decode b_PC_taken 35 = .ok (.ifCond .eq 15, 3) := by decide +kernel
theorem d_PC_taken_38 : decode b_PC_taken 38 = .ok (.aload 5, 2) := by decide +kernel
theorem d_PC_taken_40 : decode b_PC_taken 40 = .ok (.getfield 203, 3) := by decide +kernel
theorem d_PC_taken_43 : decode b_PC_taken 43 = .ok (.iload_n 2, 1) := by decide +kernel
theorem d_PC_taken_44 : decode b_PC_taken 44 = .ok (.aaload, 1) := by decide +kernel
theorem d_PC_taken_45 : decode b_PC_taken 45 = .ok (.iload_n 3, 1) := by decide +kernel
theorem d_PC_taken_46 : decode b_PC_taken 46 = .ok (.iaload, 1) := by decide +kernel
theorem d_PC_taken_47 : decode b_PC_taken 47 = .ok (.goto 12, 3) := by decide +kernel
theorem d_PC_taken_50 : decode b_PC_taken 50 = .ok (.aload 5, 2) := by decide +kernel
theorem d_PC_taken_52 : decode b_PC_taken 52 = .ok (.getfield 207, 3) := by decide +kernel
theorem d_PC_taken_55 : decode b_PC_taken 55 = .ok (.iload_n 2, 1) := by decide +kernel
theorem d_PC_taken_56 : decode b_PC_taken 56 = .ok (.aaload, 1) := by decide +kernel
theorem d_PC_taken_57 : decode b_PC_taken 57 = .ok (.iload_n 3, 1) := by decide +kernel
theorem d_PC_taken_58 : decode b_PC_taken 58 = .ok (.iaload, 1) := by decide +kernel
theorem d_PC_taken_59 : decode b_PC_taken 59 = .ok (.ireturn, 1) := by decide +kernel
theorem d_PC_text_0 : decode b_PC_text 0 = .ok (.iload_n 2, 1) := by decide +kernel
theorem d_PC_text_1 : decode b_PC_text 1 = .ok (.ifCond .ge 13, 3) := by decide +kernel
theorem d_PC_text_4 : decode b_PC_text 4 = .ok (.new 166, 3) := by decide +kernel
theorem d_PC_text_7 : decode b_PC_text 7 = .ok (.dup, 1) := by decide +kernel
theorem d_PC_text_8 : decode b_PC_text 8 = .ok (.ldc 168, 2) := by decide +kernel
theorem d_PC_text_10 : decode b_PC_text 10 = .ok (.invokespecial 170, 3) := by decide +kernel
theorem d_PC_text_13 : decode b_PC_text 13 = .ok (.athrow, 1) := by decide +kernel
theorem d_PC_text_14 : decode b_PC_text 14 = .ok (.aload_n 0, 1) := by decide +kernel
theorem d_PC_text_15 : decode b_PC_text 15 = .ok (.iload_n 1, 1) := by decide +kernel
theorem d_PC_text_16 : decode b_PC_text 16 = .ok (.invokevirtual 140, 3) := by decide +kernel
theorem d_PC_text_19 : decode b_PC_text 19 = .ok (.new 171, 3) := by decide +kernel
theorem d_PC_text_22 : decode b_PC_text 22 = .ok (.dup, 1) := by decide +kernel
theorem d_PC_text_23 : decode b_PC_text 23 = .ok (.invokespecial 173, 3) := by decide +kernel
theorem d_PC_text_26 : decode b_PC_text 26 = .ok (.astore_n 3, 1) := by decide +kernel
theorem d_PC_text_27 : decode b_PC_text 27 = .ok (.aload_n 0, 1) := by decide +kernel
theorem d_PC_text_28 : decode b_PC_text 28 = .ok (.getfield 28, 3) := by decide +kernel
theorem d_PC_text_31 : decode b_PC_text 31 = .ok (.getfield 174, 3) := by decide +kernel
theorem d_PC_text_34 : decode b_PC_text 34 = .ok (.iload_n 1, 1) := by decide +kernel
theorem d_PC_text_35 : decode b_PC_text 35 = .ok (.aaload, 1) := by decide +kernel
theorem d_PC_text_36 : decode b_PC_text 36 = .ok (.aload_n 3, 1) := by decide +kernel
theorem d_PC_text_37 : decode b_PC_text 37 = .ok (.invokevirtual 178, 3) := by decide +kernel
theorem d_PC_text_40 : decode b_PC_text 40 = .ok (.iload_n 2, 1) := by decide +kernel
theorem d_PC_text_41 : decode b_PC_text 41 = .ok (.aload_n 3, 1) := by decide +kernel
theorem d_PC_text_42 : decode b_PC_text 42 = .ok (.invokevirtual 184, 3) := by decide +kernel
theorem d_PC_text_45 : decode b_PC_text 45 = .ok (.if_icmp .lt 5, 3) := by decide +kernel
theorem d_PC_text_48 : decode b_PC_text 48 = .ok (.iconst (-1), 1) := by decide +kernel
theorem d_PC_text_49 : decode b_PC_text 49 = .ok (.ireturn, 1) := by decide +kernel
theorem d_PC_text_50 : decode b_PC_text 50 = .ok (.aload_n 3, 1) := by decide +kernel
theorem d_PC_text_51 : decode b_PC_text 51 = .ok (.iload_n 2, 1) := by decide +kernel
theorem d_PC_text_52 : decode b_PC_text 52 = .ok (.invokevirtual 188, 3) := by decide +kernel
theorem d_PC_text_55 : decode b_PC_text 55 = .ok (.ireturn, 1) := by decide +kernel
theorem d_PC_up_0 : decode b_PC_up 0 = .ok (.iload_n 1, 1) := by decide +kernel
theorem d_PC_up_1 : decode b_PC_up 1 = .ok (.aload_n 0, 1) := by decide +kernel
theorem d_PC_up_2 : decode b_PC_up 2 = .ok (.getfield 21, 3) := by decide +kernel
theorem d_PC_up_5 : decode b_PC_up 5 = .ok (.arraylength, 1) := by decide +kernel
theorem d_PC_up_6 : decode b_PC_up 6 = .ok (.invokestatic 64, 3) := by decide +kernel
theorem d_PC_up_9 : decode b_PC_up 9 = .ok (.iload_n 2, 1) := by decide +kernel
theorem d_PC_up_10 : decode b_PC_up 10 = .ok (.aload_n 0, 1) := by decide +kernel
theorem d_PC_up_11 : decode b_PC_up 11 = .ok (.iload_n 1, 1) := by decide +kernel
theorem d_PC_up_12 : decode b_PC_up 12 = .ok (.invokevirtual 157, 3) := by decide +kernel
theorem d_PC_up_15 : decode b_PC_up 15 = .ok (.invokestatic 64, 3) := by decide +kernel
theorem d_PC_up_18 : decode b_PC_up 18 = .ok (.aload_n 0, 1) := by decide +kernel
theorem d_PC_up_19 : decode b_PC_up 19 = .ok (.getfield 21, 3) := by decide +kernel
theorem d_PC_up_22 : decode b_PC_up 22 = .ok (.iload_n 1, 1) := by decide +kernel
theorem d_PC_up_23 : decode b_PC_up 23 = .ok (.iaload, 1) := by decide +kernel
theorem d_PC_up_24 : decode b_PC_up 24 = .ok (.iload_n 2, 1) := by decide +kernel
theorem d_PC_up_25 : decode b_PC_up 25 = .ok (.invokestatic 105, 3) := by decide +kernel
theorem d_PC_up_28 : decode b_PC_up 28 = .ok (.istore 4, 2) := by decide +kernel
theorem d_PC_up_30 : decode b_PC_up 30 = .ok (.iload_n 3, 1) := by decide +kernel
theorem d_PC_up_31 : decode b_PC_up 31 = .ok (.ifCond .eq 22, 3) := by decide +kernel
theorem d_PC_up_34 : decode b_PC_up 34 = .ok (.aload_n 0, 1) := by decide +kernel
theorem d_PC_up_35 : decode b_PC_up 35 = .ok (.getfield 21, 3) := by decide +kernel
theorem d_PC_up_38 : decode b_PC_up 38 = .ok (.iload_n 1, 1) := by decide +kernel
theorem d_PC_up_39 : decode b_PC_up 39 = .ok (.aload_n 0, 1) := by decide +kernel
theorem d_PC_up_40 : decode b_PC_up 40 = .ok (.getfield 21, 3) := by decide +kernel
theorem d_PC_up_43 : decode b_PC_up 43 = .ok (.iload_n 1, 1) := by decide +kernel
theorem d_PC_up_44 : decode b_PC_up 44 = .ok (.iaload, 1) := by decide +kernel
theorem d_PC_up_45 : decode b_PC_up 45 = .ok (.iload_n 2, 1) := by decide +kernel
theorem d_PC_up_46 : decode b_PC_up 46 = .ok (.invokestatic 93, 3) := by decide +kernel
theorem d_PC_up_49 : decode b_PC_up 49 = .ok (.iastore, 1) := by decide +kernel
theorem d_PC_up_50 : decode b_PC_up 50 = .ok (.goto 25, 3) := by decide +kernel
theorem d_PC_up_53 : decode b_PC_up 53 = .ok (.aload_n 0, 1) := by decide +kernel
theorem d_PC_up_54 : decode b_PC_up 54 = .ok (.getfield 21, 3) := by decide +kernel
theorem d_PC_up_57 : decode b_PC_up 57 = .ok (.iload_n 1, 1) := by decide +kernel
theorem d_PC_up_58 : decode b_PC_up 58 = .ok (.aload_n 0, 1) := by decide +kernel
theorem d_PC_up_59 : decode b_PC_up 59 = .ok (.getfield 21, 3) := by decide +kernel
theorem d_PC_up_62 : decode b_PC_up 62 = .ok (.iload_n 1, 1) := by decide +kernel
theorem d_PC_up_63 : decode b_PC_up 63 = .ok (.iaload, 1) := by decide +kernel
theorem d_PC_up_64 : decode b_PC_up 64 = .ok (.iload_n 2, 1) := by decide +kernel
theorem d_PC_up_65 : decode b_PC_up 65 = .ok (.invokestatic 160, 3) := by decide +kernel
theorem d_PC_up_68 : decode b_PC_up 68 = .ok (.iastore, 1) := by decide +kernel
theorem d_PC_up_69 : decode b_PC_up 69 = .ok (.aload_n 0, 1) := by decide +kernel
theorem d_PC_up_70 : decode b_PC_up 70 = .ok (.iload_n 1, 1) := by decide +kernel
theorem d_PC_up_71 : decode b_PC_up 71 = .ok (.iload_n 2, 1) := by decide +kernel
theorem d_PC_up_72 : decode b_PC_up 72 = .ok (.invokevirtual 163, 3) := by decide +kernel
theorem d_PC_up_75 : decode b_PC_up 75 = .ok (.iload 4, 2) := by decide +kernel
theorem d_PC_up_77 : decode b_PC_up 77 = .ok (.ireturn, 1) := by decide +kernel
theorem d_PC_value_0 : decode b_PC_value 0 = .ok (.iload_n 1, 1) := by decide +kernel
theorem d_PC_value_1 : decode b_PC_value 1 = .ok (.iconst 3, 1) := by decide +kernel
theorem d_PC_value_2 : decode b_PC_value 2 = .ok (.invokestatic 64, 3) := by decide +kernel
theorem d_PC_value_5 : decode b_PC_value 5 = .ok (.iload_n 2, 1) := by decide +kernel
theorem d_PC_value_6 : decode b_PC_value 6 = .ok (.iconst 4, 1) := by decide +kernel
theorem d_PC_value_7 : decode b_PC_value 7 = .ok (.invokestatic 64, 3) := by decide +kernel
theorem d_PC_value_10 : decode b_PC_value 10 = .ok (.aload_n 0, 1) := by decide +kernel
theorem d_PC_value_11 : decode b_PC_value 11 = .ok (.getfield 11, 3) := by decide +kernel
theorem d_PC_value_14 : decode b_PC_value 14 = .ok (.iload_n 1, 1) := by decide +kernel
theorem d_PC_value_15 : decode b_PC_value 15 = .ok (.aaload, 1) := by decide +kernel
theorem d_PC_value_16 : decode b_PC_value 16 = .ok (.getfield 192, 3) := by decide +kernel
theorem d_PC_value_19 : decode b_PC_value 19 = .ok (.iload_n 2, 1) := by decide +kernel
theorem d_PC_value_20 : decode b_PC_value 20 = .ok (.iaload, 1) := by decide +kernel
theorem d_PC_value_21 : decode b_PC_value 21 = .ok (.ireturn, 1) := by decide +kernel
theorem d_PC_voteOf_0 : decode b_PC_voteOf 0 = .ok (.iload_n 0, 1) := by decide +kernel
theorem d_PC_voteOf_1 : decode b_PC_voteOf 1 = .ok (.iconst 2, 1) := by decide +kernel
theorem d_PC_voteOf_2 : decode b_PC_voteOf 2 = .ok (.irem, 1) := by decide +kernel
theorem d_PC_voteOf_3 : decode b_PC_voteOf 3 = .ok (.ifCond .ne 7, 3) := by decide +kernel
theorem d_PC_voteOf_6 : decode b_PC_voteOf 6 = .ok (.iconst 0, 1) := by decide +kernel
theorem d_PC_voteOf_7 : decode b_PC_voteOf 7 = .ok (.goto 4, 3) := by decide +kernel
theorem d_PC_voteOf_10 : decode b_PC_voteOf 10 = .ok (.iconst 1, 1) := by decide +kernel
theorem d_PC_voteOf_11 : decode b_PC_voteOf 11 = .ok (.ireturn, 1) := by decide +kernel
theorem d_PC_with_0 : decode b_PC_with 0 = .ok (.iload_n 0, 1) := by decide +kernel
theorem d_PC_with_1 : decode b_PC_with 1 = .ok (.iconst 1, 1) := by decide +kernel
theorem d_PC_with_2 : decode b_PC_with 2 = .ok (.iload_n 1, 1) := by decide +kernel
theorem d_PC_with_3 : decode b_PC_with 3 = .ok (.ishl, 1) := by decide +kernel
theorem d_PC_with_4 : decode b_PC_with 4 = .ok (.ior, 1) := by decide +kernel
theorem d_PC_with_5 : decode b_PC_with 5 = .ok (.ireturn, 1) := by decide +kernel
theorem d_PC_without_0 : decode b_PC_without 0 = .ok (.iload_n 0, 1) := by decide +kernel
theorem d_PC_without_1 : decode b_PC_without 1 = .ok (.iconst 1, 1) := by decide +kernel
theorem d_PC_without_2 : decode b_PC_without 2 = .ok (.iload_n 1, 1) := by decide +kernel
theorem d_PC_without_3 : decode b_PC_without 3 = .ok (.ishl, 1) := by decide +kernel
theorem d_PC_without_4 : decode b_PC_without 4 = .ok (.iconst (-1), 1) := by decide +kernel
theorem d_PC_without_5 : decode b_PC_without 5 = .ok (.ixor, 1) := by decide +kernel
theorem d_PC_without_6 : decode b_PC_without 6 = .ok (.iand, 1) := by decide +kernel
theorem d_PC_without_7 : decode b_PC_without 7 = .ok (.ireturn, 1) := by decide +kernel
theorem d_PC_write_0 : decode b_PC_write 0 = .ok (.iload_n 1, 1) := by decide +kernel
theorem d_PC_write_1 : decode b_PC_write 1 = .ok (.bipush 8, 2) := by decide +kernel
theorem d_PC_write_3 : decode b_PC_write 3 = .ok (.invokestatic 64, 3) := by decide +kernel
theorem d_PC_write_6 : decode b_PC_write 6 = .ok (.iload_n 2, 1) := by decide +kernel
theorem d_PC_write_7 : decode b_PC_write 7 = .ok (.iconst 3, 1) := by decide +kernel
theorem d_PC_write_8 : decode b_PC_write 8 = .ok (.invokestatic 64, 3) := by decide +kernel
theorem d_PC_write_11 : decode b_PC_write 11 = .ok (.iload_n 3, 1) := by decide +kernel
theorem d_PC_write_12 : decode b_PC_write 12 = .ok (.iconst 4, 1) := by decide +kernel
theorem d_PC_write_13 : decode b_PC_write 13 = .ok (.invokestatic 64, 3) := by decide +kernel
theorem d_PC_write_16 : decode b_PC_write 16 = .ok (.aload_n 0, 1) := by decide +kernel
theorem d_PC_write_17 : decode b_PC_write 17 = .ok (.iload_n 1, 1) := by decide +kernel
theorem d_PC_write_18 : decode b_PC_write 18 = .ok (.invokevirtual 68, 3) := by decide +kernel
theorem d_PC_write_21 : decode b_PC_write 21 = .ok (.aload_n 0, 1) := by decide +kernel
theorem d_PC_write_22 : decode b_PC_write 22 = .ok (.iconst 0, 1) := by decide +kernel
theorem d_PC_write_23 : decode b_PC_write 23 = .ok (.iload_n 2, 1) := by decide +kernel
theorem d_PC_write_24 : decode b_PC_write 24 = .ok (.invokevirtual 71, 3) := by decide +kernel
theorem d_PC_write_27 : decode b_PC_write 27 = .ok (.aload_n 0, 1) := by decide +kernel
theorem d_PC_write_28 : decode b_PC_write 28 = .ok (.getfield 11, 3) := by decide +kernel
theorem d_PC_write_31 : decode b_PC_write 31 = .ok (.iload_n 2, 1) := by decide +kernel
theorem d_PC_write_32 : decode b_PC_write 32 = .ok (.aaload, 1) := by decide +kernel
theorem d_PC_write_33 : decode b_PC_write 33 = .ok (.astore 5, 2) := by decide +kernel
theorem d_PC_write_35 : decode b_PC_write 35 = .ok (.aload 5, 2) := by decide +kernel
theorem d_PC_write_37 : decode b_PC_write 37 = .ok (.iload_n 1, 1) := by decide +kernel
theorem d_PC_write_38 : decode b_PC_write 38 = .ok (.iload_n 3, 1) := by decide +kernel
theorem d_PC_write_39 : decode b_PC_write 39 = .ok (.invokevirtual 74, 3) := by decide +kernel
theorem d_PC_write_42 : decode b_PC_write 42 = .ok (.ifCond .eq 13, 3) := by decide +kernel
theorem d_PC_write_45 : decode b_PC_write 45 = .ok (.new 57, 3) := by decide +kernel
theorem d_PC_write_48 : decode b_PC_write 48 = .ok (.dup, 1) := by decide +kernel
theorem d_PC_write_49 : decode b_PC_write 49 = .ok (.ldc 78, 2) := by decide +kernel
theorem d_PC_write_51 : decode b_PC_write 51 = .ok (.invokespecial 61, 3) := by decide +kernel
theorem d_PC_write_54 : decode b_PC_write 54 = .ok (.athrow, 1) := by decide +kernel
theorem d_PC_write_55 : decode b_PC_write 55 = .ok (.aload_n 0, 1) := by decide +kernel
theorem d_PC_write_56 : decode b_PC_write 56 = .ok (.getfield 35, 3) := by decide +kernel
theorem d_PC_write_59 : decode b_PC_write 59 = .ok (.iload_n 1, 1) := by decide +kernel
theorem d_PC_write_60 : decode b_PC_write 60 = .ok (.baload, 1) := by decide +kernel
theorem d_PC_write_61 : decode b_PC_write 61 = .ok (.ifCond .ne 12, 3) := by decide +kernel
theorem d_PC_write_64 : decode b_PC_write 64 = .ok (.aload 5, 2) := by decide +kernel
theorem d_PC_write_66 : decode b_PC_write 66 = .ok (.iload_n 1, 1) := by decide +kernel
theorem d_PC_write_67 : decode b_PC_write 67 = .ok (.invokevirtual 80, 3) := by decide +kernel
theorem d_PC_write_70 : decode b_PC_write 70 = .ok (.ifCond .ne 13, 3) := by decide +kernel
theorem d_PC_write_73 : decode b_PC_write 73 = .ok (.new 84, 3) := by decide +kernel
theorem d_PC_write_76 : decode b_PC_write 76 = .ok (.dup, 1) := by decide +kernel
theorem d_PC_write_77 : decode b_PC_write 77 = .ok (.ldc 86, 2) := by decide +kernel
theorem d_PC_write_79 : decode b_PC_write 79 = .ok (.invokespecial 88, 3) := by decide +kernel
theorem d_PC_write_82 : decode b_PC_write 82 = .ok (.athrow, 1) := by decide +kernel
theorem d_PC_write_83 : decode b_PC_write 83 = .ok (.aload 5, 2) := by decide +kernel
theorem d_PC_write_85 : decode b_PC_write 85 = .ok (.iload_n 1, 1) := by decide +kernel
theorem d_PC_write_86 : decode b_PC_write 86 = .ok (.iload_n 3, 1) := by decide +kernel
theorem d_PC_write_87 : decode b_PC_write 87 = .ok (.iload 4, 2) := by decide +kernel
theorem d_PC_write_89 : decode b_PC_write 89 = .ok (.invokevirtual 89, 3) := by decide +kernel
theorem d_PC_write_92 : decode b_PC_write 92 = .ok (.aload_n 0, 1) := by decide +kernel
theorem d_PC_write_93 : decode b_PC_write 93 = .ok (.getfield 32, 3) := by decide +kernel
theorem d_PC_write_96 : decode b_PC_write 96 = .ok (.iload_n 1, 1) := by decide +kernel
theorem d_PC_write_97 : decode b_PC_write 97 = .ok (.aload_n 0, 1) := by decide +kernel
theorem d_PC_write_98 : decode b_PC_write 98 = .ok (.getfield 32, 3) := by decide +kernel
theorem d_PC_write_101 : decode b_PC_write 101 = .ok (.iload_n 1, 1) := by decide +kernel
theorem d_PC_write_102 : decode b_PC_write 102 = .ok (.iaload, 1) := by decide +kernel
theorem d_PC_write_103 : decode b_PC_write 103 = .ok (.iload_n 2, 1) := by decide +kernel
theorem d_PC_write_104 : decode b_PC_write 104 = .ok (.invokestatic 93, 3) := by decide +kernel
theorem d_PC_write_107 : decode b_PC_write 107 = .ok (.iastore, 1) := by decide +kernel
theorem d_PC_write_108 : decode b_PC_write 108 = .ok (.aload 5, 2) := by decide +kernel
theorem d_PC_write_110 : decode b_PC_write 110 = .ok (.iload_n 1, 1) := by decide +kernel
theorem d_PC_write_111 : decode b_PC_write 111 = .ok (.invokevirtual 97, 3) := by decide +kernel
theorem d_PC_write_114 : decode b_PC_write 114 = .ok (.ireturn, 1) := by decide +kernel
theorem d_Preconditions_checkIndex_0 : decode b_Preconditions_checkIndex 0 = .ok (.iload_n 0, 1) := by decide +kernel
theorem d_Preconditions_checkIndex_1 : decode b_Preconditions_checkIndex 1 = .ok (.ifCond .lt 8, 3) := by decide +kernel
theorem d_Preconditions_checkIndex_4 : decode b_Preconditions_checkIndex 4 = .ok (.iload_n 0, 1) := by decide +kernel
theorem d_Preconditions_checkIndex_5 : decode b_Preconditions_checkIndex 5 = .ok (.iload_n 1, 1) := by decide +kernel
theorem d_Preconditions_checkIndex_6 : decode b_Preconditions_checkIndex 6 = .ok (.if_icmp .lt 10, 3) := by decide +kernel
theorem d_Preconditions_checkIndex_9 : decode b_Preconditions_checkIndex 9 = .ok (.aload_n 2, 1) := by decide +kernel
theorem d_Preconditions_checkIndex_10 : decode b_Preconditions_checkIndex 10 = .ok (.iload_n 0, 1) := by decide +kernel
theorem d_Preconditions_checkIndex_11 : decode b_Preconditions_checkIndex 11 = .ok (.iload_n 1, 1) := by decide +kernel
theorem d_Preconditions_checkIndex_12 : decode b_Preconditions_checkIndex 12 = .ok (.invokestatic 95, 3) := by decide +kernel
theorem d_Preconditions_checkIndex_15 : decode b_Preconditions_checkIndex 15 = .ok (.athrow, 1) := by decide +kernel
theorem d_Preconditions_checkIndex_16 : decode b_Preconditions_checkIndex 16 = .ok (.iload_n 0, 1) := by decide +kernel
theorem d_Preconditions_checkIndex_17 : decode b_Preconditions_checkIndex 17 = .ok (.ireturn, 1) := by decide +kernel
theorem d_SB_append_C_0 : decode b_SB_append_C 0 = .ok (.aload_n 0, 1) := by decide +kernel
theorem d_SB_append_C_1 : decode b_SB_append_C 1 = .ok (.iload_n 1, 1) := by decide +kernel
theorem d_SB_append_C_2 : decode b_SB_append_C 2 = .ok (.invokespecial 50, 3) := by decide +kernel
theorem d_SB_append_C_5 : decode b_SB_append_C 5 = .ok (.pop, 1) := by decide +kernel
theorem d_SB_append_C_6 : decode b_SB_append_C 6 = .ok (.aload_n 0, 1) := by decide +kernel
theorem d_SB_append_C_7 : decode b_SB_append_C 7 = .ok (.areturn, 1) := by decide +kernel
theorem d_SB_append_I_0 : decode b_SB_append_I 0 = .ok (.aload_n 0, 1) := by decide +kernel
theorem d_SB_append_I_1 : decode b_SB_append_I 1 = .ok (.iload_n 1, 1) := by decide +kernel
theorem d_SB_append_I_2 : decode b_SB_append_I 2 = .ok (.invokespecial 53, 3) := by decide +kernel
theorem d_SB_append_I_5 : decode b_SB_append_I 5 = .ok (.pop, 1) := by decide +kernel
theorem d_SB_append_I_6 : decode b_SB_append_I 6 = .ok (.aload_n 0, 1) := by decide +kernel
theorem d_SB_append_I_7 : decode b_SB_append_I 7 = .ok (.areturn, 1) := by decide +kernel
theorem d_SB_charAt_0 : decode b_SB_charAt 0 = .ok (.aload_n 0, 1) := by decide +kernel
end
section
theorem d_SB_charAt_1 : decode b_SB_charAt 1 = .ok (.iload_n 1, 1) := by decide +kernel
theorem d_SB_charAt_2 : decode b_SB_charAt 2 = .ok (.invokespecial 329, 3) := by decide +kernel
theorem d_SB_charAt_5 : decode b_SB_charAt 5 = .ok (.ireturn, 1) := by decide +kernel
theorem d_SB_init_0 : decode b_SB_init 0 = .ok (.aload_n 0, 1) := by decide +kernel
theorem d_SB_init_1 : decode b_SB_init 1 = .ok (.bipush 16, 2) := by decide +kernel
theorem d_SB_init_3 : decode b_SB_init 3 = .ok (.invokespecial 1, 3) := by decide +kernel
theorem d_SB_init_6 : decode b_SB_init 6 = .ok (.return_, 1) := by decide +kernel
theorem d_SB_length_0 : decode b_SB_length 0 = .ok (.aload_n 0, 1) := by decide +kernel
theorem d_SB_length_1 : decode b_SB_length 1 = .ok (.invokespecial 343, 3) := by decide +kernel
theorem d_SB_length_4 : decode b_SB_length 4 = .ok (.ireturn, 1) := by decide +kernel
theorem d_Store_abort_0 : decode b_Store_abort 0 = .ok (.aload_n 0, 1) := by decide +kernel
theorem d_Store_abort_1 : decode b_Store_abort 1 = .ok (.getfield 18, 3) := by decide +kernel
theorem d_Store_abort_4 : decode b_Store_abort 4 = .ok (.iload_n 1, 1) := by decide +kernel
theorem d_Store_abort_5 : decode b_Store_abort 5 = .ok (.iconst 4, 1) := by decide +kernel
theorem d_Store_abort_6 : decode b_Store_abort 6 = .ok (.iastore, 1) := by decide +kernel
theorem d_Store_abort_7 : decode b_Store_abort 7 = .ok (.aload_n 0, 1) := by decide +kernel
theorem d_Store_abort_8 : decode b_Store_abort 8 = .ok (.iload_n 1, 1) := by decide +kernel
theorem d_Store_abort_9 : decode b_Store_abort 9 = .ok (.invokevirtual 49, 3) := by decide +kernel
theorem d_Store_abort_12 : decode b_Store_abort 12 = .ok (.return_, 1) := by decide +kernel
theorem d_Store_abortWork_0 : decode b_Store_abortWork 0 = .ok (.iconst 0, 1) := by decide +kernel
theorem d_Store_abortWork_1 : decode b_Store_abortWork 1 = .ok (.istore_n 1, 1) := by decide +kernel
theorem d_Store_abortWork_2 : decode b_Store_abortWork 2 = .ok (.iload_n 1, 1) := by decide +kernel
theorem d_Store_abortWork_3 : decode b_Store_abortWork 3 = .ok (.bipush 8, 2) := by decide +kernel
theorem d_Store_abortWork_5 : decode b_Store_abortWork 5 = .ok (.if_icmp .ge 24, 3) := by decide +kernel
theorem d_Store_abortWork_8 : decode b_Store_abortWork 8 = .ok (.aload_n 0, 1) := by decide +kernel
theorem d_Store_abortWork_9 : decode b_Store_abortWork 9 = .ok (.getfield 18, 3) := by decide +kernel
theorem d_Store_abortWork_12 : decode b_Store_abortWork 12 = .ok (.iload_n 1, 1) := by decide +kernel
theorem d_Store_abortWork_13 : decode b_Store_abortWork 13 = .ok (.iaload, 1) := by decide +kernel
theorem d_Store_abortWork_14 : decode b_Store_abortWork 14 = .ok (.iconst 1, 1) := by decide +kernel
theorem d_Store_abortWork_15 : decode b_Store_abortWork 15 = .ok (.if_icmp .ne 8, 3) := by decide +kernel
theorem d_Store_abortWork_18 : decode b_Store_abortWork 18 = .ok (.aload_n 0, 1) := by decide +kernel
theorem d_Store_abortWork_19 : decode b_Store_abortWork 19 = .ok (.iload_n 1, 1) := by decide +kernel
theorem d_Store_abortWork_20 : decode b_Store_abortWork 20 = .ok (.invokevirtual 53, 3) := by decide +kernel
theorem d_Store_abortWork_23 : decode b_Store_abortWork 23 = .ok (.iinc 1 1, 3) := by decide +kernel
theorem d_Store_abortWork_26 : decode b_Store_abortWork 26 = .ok (.goto (-24), 3) := by decide +kernel
theorem d_Store_abortWork_29 : decode b_Store_abortWork 29 = .ok (.return_, 1) := by decide +kernel
theorem d_Store_commit_0 : decode b_Store_commit 0 = .ok (.iconst 0, 1) := by decide +kernel
theorem d_Store_commit_1 : decode b_Store_commit 1 = .ok (.istore_n 2, 1) := by decide +kernel
theorem d_Store_commit_2 : decode b_Store_commit 2 = .ok (.iload_n 2, 1) := by decide +kernel
theorem d_Store_commit_3 : decode b_Store_commit 3 = .ok (.iconst 4, 1) := by decide +kernel
theorem d_Store_commit_4 : decode b_Store_commit 4 = .ok (.if_icmp .ge 36, 3) := by decide +kernel
theorem d_Store_commit_7 : decode b_Store_commit 7 = .ok (.aload_n 0, 1) := by decide +kernel
theorem d_Store_commit_8 : decode b_Store_commit 8 = .ok (.getfield 21, 3) := by decide +kernel
theorem d_Store_commit_11 : decode b_Store_commit 11 = .ok (.iload_n 1, 1) := by decide +kernel
theorem d_Store_commit_12 : decode b_Store_commit 12 = .ok (.iaload, 1) := by decide +kernel
theorem d_Store_commit_13 : decode b_Store_commit 13 = .ok (.iload_n 2, 1) := by decide +kernel
theorem d_Store_commit_14 : decode b_Store_commit 14 = .ok (.invokestatic 45, 3) := by decide +kernel
theorem d_Store_commit_17 : decode b_Store_commit 17 = .ok (.ifCond .eq 17, 3) := by decide +kernel
theorem d_Store_commit_20 : decode b_Store_commit 20 = .ok (.aload_n 0, 1) := by decide +kernel
theorem d_Store_commit_21 : decode b_Store_commit 21 = .ok (.getfield 9, 3) := by decide +kernel
theorem d_Store_commit_24 : decode b_Store_commit 24 = .ok (.iload_n 2, 1) := by decide +kernel
theorem d_Store_commit_25 : decode b_Store_commit 25 = .ok (.aload_n 0, 1) := by decide +kernel
theorem d_Store_commit_26 : decode b_Store_commit 26 = .ok (.getfield 26, 3) := by decide +kernel
theorem d_Store_commit_29 : decode b_Store_commit 29 = .ok (.iload_n 1, 1) := by decide +kernel
theorem d_Store_commit_30 : decode b_Store_commit 30 = .ok (.aaload, 1) := by decide +kernel
theorem d_Store_commit_31 : decode b_Store_commit 31 = .ok (.iload_n 2, 1) := by decide +kernel
theorem d_Store_commit_32 : decode b_Store_commit 32 = .ok (.iaload, 1) := by decide +kernel
theorem d_Store_commit_33 : decode b_Store_commit 33 = .ok (.iastore, 1) := by decide +kernel
theorem d_Store_commit_34 : decode b_Store_commit 34 = .ok (.iinc 2 1, 3) := by decide +kernel
theorem d_Store_commit_37 : decode b_Store_commit 37 = .ok (.goto (-35), 3) := by decide +kernel
theorem d_Store_commit_40 : decode b_Store_commit 40 = .ok (.aload_n 0, 1) := by decide +kernel
theorem d_Store_commit_41 : decode b_Store_commit 41 = .ok (.getfield 18, 3) := by decide +kernel
theorem d_Store_commit_44 : decode b_Store_commit 44 = .ok (.iload_n 1, 1) := by decide +kernel
theorem d_Store_commit_45 : decode b_Store_commit 45 = .ok (.iconst 3, 1) := by decide +kernel
theorem d_Store_commit_46 : decode b_Store_commit 46 = .ok (.iastore, 1) := by decide +kernel
theorem d_Store_commit_47 : decode b_Store_commit 47 = .ok (.aload_n 0, 1) := by decide +kernel
theorem d_Store_commit_48 : decode b_Store_commit 48 = .ok (.iload_n 1, 1) := by decide +kernel
theorem d_Store_commit_49 : decode b_Store_commit 49 = .ok (.invokevirtual 49, 3) := by decide +kernel
theorem d_Store_commit_52 : decode b_Store_commit 52 = .ok (.return_, 1) := by decide +kernel
theorem d_Store_init_0 : decode b_Store_init 0 = .ok (.aload_n 0, 1) := by decide +kernel
theorem d_Store_init_1 : decode b_Store_init 1 = .ok (.invokespecial 3, 3) := by decide +kernel
theorem d_Store_init_4 : decode b_Store_init 4 = .ok (.aload_n 0, 1) := by decide +kernel
theorem d_Store_init_5 : decode b_Store_init 5 = .ok (.iconst 4, 1) := by decide +kernel
theorem d_Store_init_6 : decode b_Store_init 6 = .ok (.newarray .int, 2) := by decide +kernel
theorem d_Store_init_8 : decode b_Store_init 8 = .ok (.putfield 9, 3) := by decide +kernel
theorem d_Store_init_11 : decode b_Store_init 11 = .ok (.aload_n 0, 1) := by decide +kernel
theorem d_Store_init_12 : decode b_Store_init 12 = .ok (.iconst 4, 1) := by decide +kernel
theorem d_Store_init_13 : decode b_Store_init 13 = .ok (.newarray .int, 2) := by decide +kernel
theorem d_Store_init_15 : decode b_Store_init 15 = .ok (.putfield 15, 3) := by decide +kernel
theorem d_Store_init_18 : decode b_Store_init 18 = .ok (.aload_n 0, 1) := by decide +kernel
theorem d_Store_init_19 : decode b_Store_init 19 = .ok (.bipush 8, 2) := by decide +kernel
theorem d_Store_init_21 : decode b_Store_init 21 = .ok (.newarray .int, 2) := by decide +kernel
theorem d_Store_init_23 : decode b_Store_init 23 = .ok (.putfield 18, 3) := by decide +kernel
theorem d_Store_init_26 : decode b_Store_init 26 = .ok (.aload_n 0, 1) := by decide +kernel
theorem d_Store_init_27 : decode b_Store_init 27 = .ok (.bipush 8, 2) := by decide +kernel
theorem d_Store_init_29 : decode b_Store_init 29 = .ok (.newarray .int, 2) := by decide +kernel
theorem d_Store_init_31 : decode b_Store_init 31 = .ok (.putfield 21, 3) := by decide +kernel
theorem d_Store_init_34 : decode b_Store_init 34 = .ok (.aload_n 0, 1) := by decide +kernel
theorem d_Store_init_35 : decode b_Store_init 35 = .ok (.bipush 8, 2) := by decide +kernel
theorem d_Store_init_37 : decode b_Store_init 37 = .ok (.iconst 4, 1) := by decide +kernel
theorem d_Store_init_38 : decode b_Store_init 38 = .ok (.multianewarray 24 2, 4) := by decide +kernel
theorem d_Store_init_42 : decode b_Store_init 42 = .ok (.putfield 26, 3) := by decide +kernel
theorem d_Store_init_45 : decode b_Store_init 45 = .ok (.aload_n 0, 1) := by decide +kernel
theorem d_Store_init_46 : decode b_Store_init 46 = .ok (.getfield 15, 3) := by decide +kernel
theorem d_Store_init_49 : decode b_Store_init 49 = .ok (.iconst (-1), 1) := by decide +kernel
theorem d_Store_init_50 : decode b_Store_init 50 = .ok (.invokestatic 29, 3) := by decide +kernel
theorem d_Store_init_53 : decode b_Store_init 53 = .ok (.return_, 1) := by decide +kernel
theorem d_Store_isLockedByAnother_0 : decode b_Store_isLockedByAnother 0 = .ok (.aload_n 0, 1) := by decide +kernel
theorem d_Store_isLockedByAnother_1 : decode b_Store_isLockedByAnother 1 = .ok (.getfield 15, 3) := by decide +kernel
theorem d_Store_isLockedByAnother_4 : decode b_Store_isLockedByAnother 4 = .ok (.iload_n 2, 1) := by decide +kernel
theorem d_Store_isLockedByAnother_5 : decode b_Store_isLockedByAnother 5 = .ok (.iaload, 1) := by decide +kernel
theorem d_Store_isLockedByAnother_6 : decode b_Store_isLockedByAnother 6 = .ok (.iconst (-1), 1) := by decide +kernel
theorem d_Store_isLockedByAnother_7 : decode b_Store_isLockedByAnother 7 = .ok (.if_icmp .eq 17, 3) := by decide +kernel
theorem d_Store_isLockedByAnother_10 : decode b_Store_isLockedByAnother 10 = .ok (.aload_n 0, 1) := by decide +kernel
theorem d_Store_isLockedByAnother_11 : decode b_Store_isLockedByAnother 11 = .ok (.getfield 15, 3) := by decide +kernel
theorem d_Store_isLockedByAnother_14 : decode b_Store_isLockedByAnother 14 = .ok (.iload_n 2, 1) := by decide +kernel
theorem d_Store_isLockedByAnother_15 : decode b_Store_isLockedByAnother 15 = .ok (.iaload, 1) := by decide +kernel
theorem d_Store_isLockedByAnother_16 : decode b_Store_isLockedByAnother 16 = .ok (.iload_n 1, 1) := by decide +kernel
theorem d_Store_isLockedByAnother_17 : decode b_Store_isLockedByAnother 17 = .ok (.if_icmp .eq 7, 3) := by decide +kernel
theorem d_Store_isLockedByAnother_20 : decode b_Store_isLockedByAnother 20 = .ok (.iconst 1, 1) := by decide +kernel
theorem d_Store_isLockedByAnother_21 : decode b_Store_isLockedByAnother 21 = .ok (.goto 4, 3) := by decide +kernel
theorem d_Store_isLockedByAnother_24 : decode b_Store_isLockedByAnother 24 = .ok (.iconst 0, 1) := by decide +kernel
theorem d_Store_isLockedByAnother_25 : decode b_Store_isLockedByAnother 25 = .ok (.ireturn, 1) := by decide +kernel
theorem d_Store_isOpenFor_0 : decode b_Store_isOpenFor 0 = .ok (.aload_n 0, 1) := by decide +kernel
theorem d_Store_isOpenFor_1 : decode b_Store_isOpenFor 1 = .ok (.getfield 18, 3) := by decide +kernel
theorem d_Store_isOpenFor_4 : decode b_Store_isOpenFor 4 = .ok (.iload_n 1, 1) := by decide +kernel
theorem d_Store_isOpenFor_5 : decode b_Store_isOpenFor 5 = .ok (.iaload, 1) := by decide +kernel
theorem d_Store_isOpenFor_6 : decode b_Store_isOpenFor 6 = .ok (.ifCond .eq 13, 3) := by decide +kernel
theorem d_Store_isOpenFor_9 : decode b_Store_isOpenFor 9 = .ok (.aload_n 0, 1) := by decide +kernel
theorem d_Store_isOpenFor_10 : decode b_Store_isOpenFor 10 = .ok (.getfield 18, 3) := by decide +kernel
theorem d_Store_isOpenFor_13 : decode b_Store_isOpenFor 13 = .ok (.iload_n 1, 1) := by decide +kernel
theorem d_Store_isOpenFor_14 : decode b_Store_isOpenFor 14 = .ok (.iaload, 1) := by decide +kernel
theorem d_Store_isOpenFor_15 : decode b_Store_isOpenFor 15 = .ok (.iconst 1, 1) := by decide +kernel
theorem d_Store_isOpenFor_16 : decode b_Store_isOpenFor 16 = .ok (.if_icmp .ne 7, 3) := by decide +kernel
theorem d_Store_isOpenFor_19 : decode b_Store_isOpenFor 19 = .ok (.iconst 1, 1) := by decide +kernel
theorem d_Store_isOpenFor_20 : decode b_Store_isOpenFor 20 = .ok (.goto 4, 3) := by decide +kernel
theorem d_Store_isOpenFor_23 : decode b_Store_isOpenFor 23 = .ok (.iconst 0, 1) := by decide +kernel
theorem d_Store_isOpenFor_24 : decode b_Store_isOpenFor 24 = .ok (.ireturn, 1) := by decide +kernel
theorem d_Store_keep_0 : decode b_Store_keep 0 = .ok (.aload_n 0, 1) := by decide +kernel
theorem d_Store_keep_1 : decode b_Store_keep 1 = .ok (.getfield 18, 3) := by decide +kernel
theorem d_Store_keep_4 : decode b_Store_keep 4 = .ok (.iload_n 1, 1) := by decide +kernel
theorem d_Store_keep_5 : decode b_Store_keep 5 = .ok (.iconst 1, 1) := by decide +kernel
theorem d_Store_keep_6 : decode b_Store_keep 6 = .ok (.iastore, 1) := by decide +kernel
theorem d_Store_keep_7 : decode b_Store_keep 7 = .ok (.aload_n 0, 1) := by decide +kernel
theorem d_Store_keep_8 : decode b_Store_keep 8 = .ok (.getfield 15, 3) := by decide +kernel
theorem d_Store_keep_11 : decode b_Store_keep 11 = .ok (.iload_n 2, 1) := by decide +kernel
theorem d_Store_keep_12 : decode b_Store_keep 12 = .ok (.iload_n 1, 1) := by decide +kernel
theorem d_Store_keep_13 : decode b_Store_keep 13 = .ok (.iastore, 1) := by decide +kernel
theorem d_Store_keep_14 : decode b_Store_keep 14 = .ok (.aload_n 0, 1) := by decide +kernel
theorem d_Store_keep_15 : decode b_Store_keep 15 = .ok (.getfield 21, 3) := by decide +kernel
theorem d_Store_keep_18 : decode b_Store_keep 18 = .ok (.iload_n 1, 1) := by decide +kernel
theorem d_Store_keep_19 : decode b_Store_keep 19 = .ok (.aload_n 0, 1) := by decide +kernel
theorem d_Store_keep_20 : decode b_Store_keep 20 = .ok (.getfield 21, 3) := by decide +kernel
theorem d_Store_keep_23 : decode b_Store_keep 23 = .ok (.iload_n 1, 1) := by decide +kernel
theorem d_Store_keep_24 : decode b_Store_keep 24 = .ok (.iaload, 1) := by decide +kernel
theorem d_Store_keep_25 : decode b_Store_keep 25 = .ok (.iload_n 2, 1) := by decide +kernel
theorem d_Store_keep_26 : decode b_Store_keep 26 = .ok (.invokestatic 35, 3) := by decide +kernel
theorem d_Store_keep_29 : decode b_Store_keep 29 = .ok (.iastore, 1) := by decide +kernel
theorem d_Store_keep_30 : decode b_Store_keep 30 = .ok (.aload_n 0, 1) := by decide +kernel
theorem d_Store_keep_31 : decode b_Store_keep 31 = .ok (.getfield 26, 3) := by decide +kernel
theorem d_Store_keep_34 : decode b_Store_keep 34 = .ok (.iload_n 1, 1) := by decide +kernel
theorem d_Store_keep_35 : decode b_Store_keep 35 = .ok (.aaload, 1) := by decide +kernel
theorem d_Store_keep_36 : decode b_Store_keep 36 = .ok (.iload_n 2, 1) := by decide +kernel
theorem d_Store_keep_37 : decode b_Store_keep 37 = .ok (.iload_n 3, 1) := by decide +kernel
theorem d_Store_keep_38 : decode b_Store_keep 38 = .ok (.iastore, 1) := by decide +kernel
theorem d_Store_keep_39 : decode b_Store_keep 39 = .ok (.return_, 1) := by decide +kernel
theorem d_Store_keysWritten_0 : decode b_Store_keysWritten 0 = .ok (.aload_n 0, 1) := by decide +kernel
theorem d_Store_keysWritten_1 : decode b_Store_keysWritten 1 = .ok (.getfield 21, 3) := by decide +kernel
theorem d_Store_keysWritten_4 : decode b_Store_keysWritten 4 = .ok (.iload_n 1, 1) := by decide +kernel
theorem d_Store_keysWritten_5 : decode b_Store_keysWritten 5 = .ok (.iaload, 1) := by decide +kernel
theorem d_Store_keysWritten_6 : decode b_Store_keysWritten 6 = .ok (.invokestatic 39, 3) := by decide +kernel
theorem d_Store_keysWritten_9 : decode b_Store_keysWritten 9 = .ok (.ireturn, 1) := by decide +kernel
theorem d_Store_unlock_0 : decode b_Store_unlock 0 = .ok (.iconst 0, 1) := by decide +kernel
theorem d_Store_unlock_1 : decode b_Store_unlock 1 = .ok (.istore_n 2, 1) := by decide +kernel
theorem d_Store_unlock_2 : decode b_Store_unlock 2 = .ok (.iload_n 2, 1) := by decide +kernel
theorem d_Store_unlock_3 : decode b_Store_unlock 3 = .ok (.iconst 4, 1) := by decide +kernel
theorem d_Store_unlock_4 : decode b_Store_unlock 4 = .ok (.if_icmp .ge 26, 3) := by decide +kernel
theorem d_Store_unlock_7 : decode b_Store_unlock 7 = .ok (.aload_n 0, 1) := by decide +kernel
theorem d_Store_unlock_8 : decode b_Store_unlock 8 = .ok (.getfield 15, 3) := by decide +kernel
theorem d_Store_unlock_11 : decode b_Store_unlock 11 = .ok (.iload_n 2, 1) := by decide +kernel
theorem d_Store_unlock_12 : decode b_Store_unlock 12 = .ok (.iaload, 1) := by decide +kernel
theorem d_Store_unlock_13 : decode b_Store_unlock 13 = .ok (.iload_n 1, 1) := by decide +kernel
theorem d_Store_unlock_14 : decode b_Store_unlock 14 = .ok (.if_icmp .ne 10, 3) := by decide +kernel
theorem d_Store_unlock_17 : decode b_Store_unlock 17 = .ok (.aload_n 0, 1) := by decide +kernel
theorem d_Store_unlock_18 : decode b_Store_unlock 18 = .ok (.getfield 15, 3) := by decide +kernel
theorem d_Store_unlock_21 : decode b_Store_unlock 21 = .ok (.iload_n 2, 1) := by decide +kernel
theorem d_Store_unlock_22 : decode b_Store_unlock 22 = .ok (.iconst (-1), 1) := by decide +kernel
theorem d_Store_unlock_23 : decode b_Store_unlock 23 = .ok (.iastore, 1) := by decide +kernel
theorem d_Store_unlock_24 : decode b_Store_unlock 24 = .ok (.iinc 2 1, 3) := by decide +kernel
theorem d_Store_unlock_27 : decode b_Store_unlock 27 = .ok (.goto (-25), 3) := by decide +kernel
theorem d_Store_unlock_30 : decode b_Store_unlock 30 = .ok (.return_, 1) := by decide +kernel
theorem d_StringLatin1_canEncode_0 : decode b_StringLatin1_canEncode 0 = .ok (.iload_n 0, 1) := by decide +kernel
theorem d_StringLatin1_canEncode_1 : decode b_StringLatin1_canEncode 1 = .ok (.sipush 255, 3) := by decide +kernel
theorem d_StringLatin1_canEncode_4 : decode b_StringLatin1_canEncode 4 = .ok (.if_icmp .gt 7, 3) := by decide +kernel
theorem d_StringLatin1_canEncode_7 : decode b_StringLatin1_canEncode 7 = .ok (.iconst 1, 1) := by decide +kernel
theorem d_StringLatin1_canEncode_8 : decode b_StringLatin1_canEncode 8 = .ok (.goto 4, 3) := by decide +kernel
theorem d_StringLatin1_canEncode_11 : decode b_StringLatin1_canEncode 11 = .ok (.iconst 0, 1) := by decide +kernel
theorem d_StringLatin1_canEncode_12 : decode b_StringLatin1_canEncode 12 = .ok (.ireturn, 1) := by decide +kernel
theorem d_StringLatin1_charAt_0 : decode b_StringLatin1_charAt 0 = .ok (.iload_n 1, 1) := by decide +kernel
theorem d_StringLatin1_charAt_1 : decode b_StringLatin1_charAt 1 = .ok (.aload_n 0, 1) := by decide +kernel
theorem d_StringLatin1_charAt_2 : decode b_StringLatin1_charAt 2 = .ok (.arraylength, 1) := by decide +kernel
theorem d_StringLatin1_charAt_3 : decode b_StringLatin1_charAt 3 = .ok (.invokestatic 9, 3) := by decide +kernel
theorem d_StringLatin1_charAt_6 : decode b_StringLatin1_charAt 6 = .ok (.aload_n 0, 1) := by decide +kernel
theorem d_StringLatin1_charAt_7 : decode b_StringLatin1_charAt 7 = .ok (.iload_n 1, 1) := by decide +kernel
theorem d_StringLatin1_charAt_8 : decode b_StringLatin1_charAt 8 = .ok (.baload, 1) := by decide +kernel
theorem d_StringLatin1_charAt_9 : decode b_StringLatin1_charAt 9 = .ok (.sipush 255, 3) := by decide +kernel
theorem d_StringLatin1_charAt_12 : decode b_StringLatin1_charAt 12 = .ok (.iand, 1) := by decide +kernel
theorem d_StringLatin1_charAt_13 : decode b_StringLatin1_charAt 13 = .ok (.i2c, 1) := by decide +kernel
theorem d_StringLatin1_charAt_14 : decode b_StringLatin1_charAt 14 = .ok (.ireturn, 1) := by decide +kernel
theorem d_String_charAt_0 : decode b_String_charAt 0 = .ok (.aload_n 0, 1) := by decide +kernel
theorem d_String_charAt_1 : decode b_String_charAt 1 = .ok (.invokevirtual 492, 3) := by decide +kernel
theorem d_String_charAt_4 : decode b_String_charAt 4 = .ok (.ifCond .eq 12, 3) := by decide +kernel
theorem d_String_charAt_7 : decode b_String_charAt 7 = .ok (.aload_n 0, 1) := by decide +kernel
theorem d_String_charAt_8 : decode b_String_charAt 8 = .ok (.getfield 9, 3) := by decide +kernel
theorem d_String_charAt_11 : decode b_String_charAt 11 = .ok (.iload_n 1, 1) := by decide +kernel
theorem d_String_charAt_12 : decode b_String_charAt 12 = .ok (.invokestatic 495, 3) := by decide +kernel
theorem d_String_charAt_15 : decode b_String_charAt 15 = .ok (.ireturn, 1) := by decide +kernel
theorem d_String_charAt_16 : decode b_String_charAt 16 = .ok (.aload_n 0, 1) := by decide +kernel
theorem d_String_charAt_17 : decode b_String_charAt 17 = .ok (.getfield 9, 3) := by decide +kernel
theorem d_String_charAt_20 : decode b_String_charAt 20 = .ok (.iload_n 1, 1) := by decide +kernel
theorem d_String_charAt_21 : decode b_String_charAt 21 = .ok (.invokestatic 498, 3) := by decide +kernel
theorem d_String_charAt_24 : decode b_String_charAt 24 = .ok (.ireturn, 1) := by decide +kernel
theorem d_String_checkIndex_0 : decode b_String_checkIndex 0 = .ok (.iload_n 0, 1) := by decide +kernel
theorem d_String_checkIndex_1 : decode b_String_checkIndex 1 = .ok (.iload_n 1, 1) := by decide +kernel
theorem d_String_checkIndex_2 : decode b_String_checkIndex 2 = .ok (.getstatic 1053, 3) := by decide +kernel
theorem d_String_checkIndex_5 : decode b_String_checkIndex 5 = .ok (.invokestatic 1059, 3) := by decide +kernel
theorem d_String_checkIndex_8 : decode b_String_checkIndex 8 = .ok (.pop, 1) := by decide +kernel
theorem d_String_checkIndex_9 : decode b_String_checkIndex 9 = .ok (.return_, 1) := by decide +kernel
theorem d_String_isLatin1_0 : decode b_String_isLatin1 0 = .ok (.getstatic 38, 3) := by decide +kernel
theorem d_String_isLatin1_3 : decode b_String_isLatin1 3 = .ok (.ifCond .eq 14, 3) := by decide +kernel
theorem d_String_isLatin1_6 : decode b_String_isLatin1 6 = .ok (.aload_n 0, 1) := by decide +kernel
theorem d_String_isLatin1_7 : decode b_String_isLatin1 7 = .ok (.getfield 15, 3) := by decide +kernel
theorem d_String_isLatin1_10 : decode b_String_isLatin1 10 = .ok (.ifCond .ne 7, 3) := by decide +kernel
theorem d_String_isLatin1_13 : decode b_String_isLatin1 13 = .ok (.iconst 1, 1) := by decide +kernel
theorem d_String_isLatin1_14 : decode b_String_isLatin1 14 = .ok (.goto 4, 3) := by decide +kernel
theorem d_String_isLatin1_17 : decode b_String_isLatin1 17 = .ok (.iconst 0, 1) := by decide +kernel
theorem d_String_isLatin1_18 : decode b_String_isLatin1 18 = .ok (.ireturn, 1) := by decide +kernel
end
section
/-! What a state IS: every cell has a number; gad says where it lies; d says what it holds (d cell place). -/
abbrev DD : Type := Nat → Nat → Int32
/-- the tables' numbers; the classes of arrays; the addresses; where the world begins; how many acceptors -/
abbrev GT : Type := va_G × (Nat → ClassId) × (Nat → Nat) × Nat × Nat
abbrev gC (G : GT) (k : Nat) : ClassId := G.2.1 k
abbrev gad (G : GT) (c : Nat) : Nat := G.2.2.1 c
abbrev gbase (G : GT) : Nat := G.2.2.2.1
abbrev gn (G : GT) : Nat := G.2.2.2.2
abbrev gAb (G : GT) : Nat → Prop := fun q => gbase G ≤ q
def up2 (d : DD) (c k : Nat) (v : Int32) : DD := fun c' k' => if c' = c ∧ k' = k then v else d c' k'
abbrev aI (cA : ClassId) (n : Nat) (f : Nat → Int32) : va_E := .inl (cA, n, .inl f)
abbrev aJ (cA : ClassId) (n : Nat) (f : Nat → Int64) : va_E := .inl (cA, n, .inr (.inl f))
abbrev aR (cA : ClassId) (n : Nat) (f : Nat → Option Nat) : va_E := .inl (cA, n, .inr (.inr (.inr (.inr f))))
def f_cp3 (d : DD) (ca cb n : Nat) : DD := fun c k => if c = cb ∧ k < n then d ca k else d c k
def fsPC (G : GT) (r : Nat → Int32) : List Value := [.ref (gad G 1), .ref (gad G 2), .ref (gad G 3), .int (r 3), .ref (gad G 4), .ref (gad G 5), .ref (gad G 6), .ref (gad G 7), .int (r 8)]
def fsMo (G : GT) (r : Nat → Int32) : List Value := [.int (r 0), .int (r 1), .ref (gad G 602), .ref (gad G 603), .ref (gad G 604), .ref (gad G 605), .ref (gad G 606), .int (r 7), .ref (gad G 608), .ref (gad G 609), .ref (gad G 610), .ref (gad G 611), .ref (gad G 612), .ref (gad G 613), .ref (gad G 614), .ref (gad G 615), .ref (gad G 616), .ref (gad G 617), .ref (gad G 618), .ref (gad G 619), .ref (gad G 620), .ref (gad G 621), .ref (gad G 622), .ref (gad G 623), .ref (gad G 624), .int (r 25), .int (r 26)]
def fsNet (G : GT) (r : Nat → Int32) : List Value := [.ref (gad G 8), .int (r 1), .int (r 2), .ref (gad G 480), .ref (gad G 481)]
def ec (G : GT) (c : Nat) (r : Nat → Int32) : va_E :=
  if c < 1 then .inr (iPC, fsPC G r) else
  if c < 2 then aR (gC G 4) 3 (fun j => some (gad G (j + 10))) else
  if c < 3 then aR (gC G 5) (gn G) (fun j => some (gad G (j + 100))) else
  if c < 4 then aR (gC G 6) 16 (fun j => some (gad G (j + 200))) else
  if c < 5 then aI (gC G 0) 3 r else
  if c < 6 then .inr (iNet, fsNet G r) else
  if c < 7 then aI (gC G 0) 8 r else
  if c < 8 then aI (gC G 1) 8 r else
  if c < 9 then aR (gC G 7) 60 (fun j => some (gad G ((r j).toNatClampNeg + 420))) else
  if c < 10 then aJ (gC G 2) 1 (fun j => (r j).toInt64) else
  if c < 20 then .inr (iStore, [.ref (gad G (c + 10)), .ref (gad G (c + 20)), .ref (gad G (c + 30)), .ref (gad G (c + 40)), .ref (gad G (c + 50))]) else
  if c < 30 then aI (gC G 0) 4 r else
  if c < 40 then aI (gC G 0) 4 r else
  if c < 50 then aI (gC G 0) 8 r else
  if c < 60 then aI (gC G 0) 8 r else
  if c < 70 then aR (gC G 3) 8 (fun j => some (gad G (8 * (c - 60) + j + 70))) else
  if c < 100 then aI (gC G 0) 4 r else
  if c < 110 then .inr (iAcc, [.ref (gad G (c + 10)), .ref (gad G (c + 20))]) else
  if c < 120 then aR (gC G 3) 8 (fun j => some (gad G (8 * (c - 110) + j + 130))) else
  if c < 130 then aR (gC G 3) 8 (fun j => some (gad G (8 * (c - 120) + j + 160))) else
  if c < 160 then aI (gC G 0) 3 r else
  if c < 200 then aI (gC G 0) 3 r else
  if c < 220 then .inr (iLed, [.int (r 0), .int (r 1), .int (r 2), .ref (gad G (c + 20)), .ref (gad G (c + 40)), .ref (gad G (c + 60))]) else
  if c < 240 then aI (gC G 1) (gn G) r else
  if c < 260 then aR (gC G 3) (gn G) (fun j => some (gad G (4 * (c - 240) + j + 280))) else
  if c < 280 then aR (gC G 3) (gn G) (fun j => some (gad G (4 * (c - 260) + j + 350))) else
  if c < 350 then aI (gC G 0) 3 r else
  if c < 420 then aI (gC G 0) 3 r else
  if c < 490 then .inr (iMsg, [.int (r 0), .int (r 1), .int (r 2), .int (r 3), .int (r 4), .int (r 5), .int (r 6), .ref (gad G (c + 70))]) else
  if c < 600 then aI (gC G 0) 3 r else
  if c < 601 then .inr (iMo, fsMo G r) else
  if c < 603 then aI (gC G 1) 3 r else
  if c < 604 then aI (gC G 1) 3 r else
  if c < 605 then aI (gC G 1) 2 r else
  if c < 606 then aI (gC G 0) 12 r else
  if c < 607 then aI (gC G 0) 12 r else
  if c < 609 then aI (gC G 0) 8 r else
  if c < 610 then aI (gC G 1) 8 r else
  if c < 611 then aI (gC G 0) 24 r else
  if c < 612 then aI (gC G 0) 24 r else
  if c < 613 then aI (gC G 0) 96 r else
  if c < 614 then aI (gC G 0) 72 r else
  if c < 615 then aI (gC G 0) 72 r else
  if c < 616 then aI (gC G 0) 72 r else
  if c < 617 then aI (gC G 0) 16 r else
  if c < 618 then aI (gC G 1) 16 r else
  if c < 619 then aI (gC G 0) 16 r else
  if c < 620 then aI (gC G 1) 48 r else
  if c < 621 then aI (gC G 0) 144 r else
  if c < 622 then aI (gC G 0) 144 r else
  if c < 623 then aI (gC G 0) 144 r else
  if c < 624 then aI (gC G 0) 144 r else
  if c < 625 then aI (gC G 0) 793 r else
  aI (gC G 0) 0 r
def en (G : GT) (d : DD) (c : Nat) : va_E := ec G c (d c)
def okc (n c : Nat) : Prop := c = 0 ∨ c = 1 ∨ c = 2 ∨ c = 3 ∨ c = 4 ∨ c = 5 ∨ c = 6 ∨ c = 7 ∨ c = 8 ∨ c = 9 ∨ (10 ≤ c ∧ c < 13) ∨ (20 ≤ c ∧ c < 23) ∨ (30 ≤ c ∧ c < 33) ∨ (40 ≤ c ∧ c < 43) ∨ (50 ≤ c ∧ c < 53) ∨ (60 ≤ c ∧ c < 63) ∨ (70 ≤ c ∧ c < 94) ∨ (100 ≤ c ∧ c < 100 + n) ∨ (110 ≤ c ∧ c < 110 + n) ∨ (120 ≤ c ∧ c < 120 + n) ∨ (130 ≤ c ∧ c < 130 + 8 * n) ∨ (160 ≤ c ∧ c < 160 + 8 * n) ∨ (200 ≤ c ∧ c < 216) ∨ (220 ≤ c ∧ c < 236) ∨ (240 ≤ c ∧ c < 256) ∨ (260 ≤ c ∧ c < 276) ∨ (280 ≤ c ∧ c < 344 ∧ (c - 280) % 4 < n) ∨ (350 ≤ c ∧ c < 414 ∧ (c - 350) % 4 < n) ∨ (420 ≤ c ∧ c < 482) ∨ (490 ≤ c ∧ c < 552) ∨ c = 600 ∨ c = 602 ∨ c = 603 ∨ c = 604 ∨ c = 605 ∨ c = 606 ∨ c = 608 ∨ c = 609 ∨ c = 610 ∨ c = 611 ∨ c = 612 ∨ c = 613 ∨ c = 614 ∨ c = 615 ∨ c = 616 ∨ c = 617 ∨ c = 618 ∨ c = 619 ∨ c = 620 ∨ c = 621 ∨ c = 622 ∨ c = 623 ∨ c = 624
noncomputable def Cs (G : GT) : List Nat := (List.range 900).filter (fun c => @decide (okc (gn G) c ∧ gad G c ≠ 0) (Classical.propDecidable _))
/-- all cells are there: of the row of the law (9) nothing is said; what comes from 700 on is for texts -/
def GOK (G : GT) : Prop := gn G ≤ 3 ∧ 1 ≤ gn G ∧ ∀ c, okc (gn G) c → c ≠ 9 → c < 700 → gad G c ≠ 0
theorem mem_Cs {G : GT} {c : Nat} (h1 : c < 900) (h2 : okc (gn G) c) (h3 : gad G c ≠ 0) : c ∈ Cs G := List.mem_filter.mpr ⟨List.mem_range.mpr h1, @decide_eq_true _ (Classical.propDecidable _) ⟨h2, h3⟩⟩
noncomputable def wl (G : GT) (d : DD) : va_W := (Cs G).map (fun c => (gad G c, en G d c))
def tys (G : GT) : List (ClassId × FieldType) := [(gC G 0, .int), (gC G 1, .boolean), (gC G 2, .long), (gC G 3, .array .int), (gC G 4, .object "PaxosCommit$Store"), (gC G 5, .object "PaxosCommit$Acceptor"), (gC G 6, .object "PaxosCommit$Ledger"), (gC G 7, .object "PaxosCommit$Message"), (gC G 8, .byte)]
def WD (G : GT) (H0 : Heap) (d : DD) (H : Heap) (locs : List Loc) : Prop := va_P G.1 gcl (wl G d) H ∧ va_D (gAb G) (wl G d) ∧ va_S (gAb G) H0 H locs
/-- what kind of cell a number is -/
def IA (G : GT) (cn n : Nat) : Prop := cn ∈ Cs G ∧ n < 2 ^ 31 ∧ ∀ r : Nat → Int32, ec G cn r = aI (gC G 0) n r
def ZA (G : GT) (cn n : Nat) : Prop := cn ∈ Cs G ∧ n < 2 ^ 31 ∧ ∀ r : Nat → Int32, ec G cn r = aI (gC G 1) n r
def JA (G : GT) (cn n : Nat) : Prop := cn ∈ Cs G ∧ n < 2 ^ 31 ∧ ∀ r : Nat → Int32, ec G cn r = aJ (gC G 2) n (fun j => (r j).toInt64)
def QA (G : GT) (cn n t0 : Nat) (C : String) (f : (Nat → Int32) → Nat → Nat) : Prop := cn ∈ Cs G ∧ n < 2 ^ 31 ∧ (tys G)[t0]? = some (gC G t0, .object C) ∧ ∀ r : Nat → Int32, ec G cn r = aR (gC G t0) n (fun j => some (gad G (f r j)))
def AA (G : GT) (cn n : Nat) (f : Nat → Nat) : Prop := cn ∈ Cs G ∧ n < 2 ^ 31 ∧ ∀ r : Nat → Int32, ec G cn r = aR (gC G 3) n (fun j => some (gad G (f j)))
def OB (G : GT) (cn ci : Nat) (fs : (Nat → Int32) → List Value) : Prop := cn ∈ Cs G ∧ ∀ r : Nat → Int32, ec G cn r = .inr (ci, fs r)
theorem F_PC (G : GT) (hG : GOK G)  : OB G (0) iPC (fsPC G) := by
  have h7 := hG.1
  have ho : okc (gn G) (0) := (Or.inl (by omega))
  have hm : 0 ∈ Cs G := mem_Cs (by omega) ho (hG.2.2 _ ho (by omega) (by omega))
  exact ⟨hm, fun r => by
    unfold ec
    rw [if_pos (show 0 < 1 by omega)]⟩
theorem F_Stores (G : GT) (hG : GOK G)  : QA G (1) (3) 4 "PaxosCommit$Store" (fun _ j => j + 10) := by
  have h7 := hG.1
  have ho : okc (gn G) (1) := (Or.inr (Or.inl (by omega)))
  have hm : 1 ∈ Cs G := mem_Cs (by omega) ho (hG.2.2 _ ho (by omega) (by omega))
  exact ⟨hm, by decide, rfl, fun r => by
    unfold ec
    rw [if_neg (show ¬ 1 < 1 by omega), if_pos (show 1 < 2 by omega)]⟩
theorem F_Accs (G : GT) (hG : GOK G)  : QA G (2) (gn G) 5 "PaxosCommit$Acceptor" (fun _ j => j + 100) := by
  have h7 := hG.1
  have ho : okc (gn G) (2) := (Or.inr (Or.inr (Or.inl (by omega))))
  have hm : 2 ∈ Cs G := mem_Cs (by omega) ho (hG.2.2 _ ho (by omega) (by omega))
  exact ⟨hm, by omega, rfl, fun r => by
    unfold ec
    rw [if_neg (show ¬ 2 < 1 by omega), if_neg (show ¬ 2 < 2 by omega), if_pos (show 2 < 3 by omega)]⟩
theorem F_Leds (G : GT) (hG : GOK G)  : QA G (3) (16) 6 "PaxosCommit$Ledger" (fun _ j => j + 200) := by
  have h7 := hG.1
  have ho : okc (gn G) (3) := (Or.inr (Or.inr (Or.inr (Or.inl (by omega)))))
  have hm : 3 ∈ Cs G := mem_Cs (by omega) ho (hG.2.2 _ ho (by omega) (by omega))
  exact ⟨hm, by decide, rfl, fun r => by
    unfold ec
    rw [if_neg (show ¬ 3 < 1 by omega), if_neg (show ¬ 3 < 2 by omega), if_neg (show ¬ 3 < 3 by omega), if_pos (show 3 < 4 by omega)]⟩
theorem F_UpS (G : GT) (hG : GOK G)  : IA G (4) (3) := by
  have h7 := hG.1
  have ho : okc (gn G) (4) := (Or.inr (Or.inr (Or.inr (Or.inr (Or.inl (by omega))))))
  have hm : 4 ∈ Cs G := mem_Cs (by omega) ho (hG.2.2 _ ho (by omega) (by omega))
  exact ⟨hm, by decide, fun r => by
    unfold ec
    rw [if_neg (show ¬ 4 < 1 by omega), if_neg (show ¬ 4 < 2 by omega), if_neg (show ¬ 4 < 3 by omega), if_neg (show ¬ 4 < 4 by omega), if_pos (show 4 < 5 by omega)]⟩
theorem F_Net (G : GT) (hG : GOK G)  : OB G (5) iNet (fsNet G) := by
  have h7 := hG.1
  have ho : okc (gn G) (5) := (Or.inr (Or.inr (Or.inr (Or.inr (Or.inr (Or.inl (by omega)))))))
  have hm : 5 ∈ Cs G := mem_Cs (by omega) ho (hG.2.2 _ ho (by omega) (by omega))
  exact ⟨hm, fun r => by
    unfold ec
    rw [if_neg (show ¬ 5 < 1 by omega), if_neg (show ¬ 5 < 2 by omega), if_neg (show ¬ 5 < 3 by omega), if_neg (show ¬ 5 < 4 by omega), if_neg (show ¬ 5 < 5 by omega), if_pos (show 5 < 6 by omega)]⟩
theorem F_Mem (G : GT) (hG : GOK G)  : IA G (6) (8) := by
  have h7 := hG.1
  have ho : okc (gn G) (6) := (Or.inr (Or.inr (Or.inr (Or.inr (Or.inr (Or.inr (Or.inl (by omega))))))))
  have hm : 6 ∈ Cs G := mem_Cs (by omega) ho (hG.2.2 _ ho (by omega) (by omega))
  exact ⟨hm, by decide, fun r => by
    unfold ec
    rw [if_neg (show ¬ 6 < 1 by omega), if_neg (show ¬ 6 < 2 by omega), if_neg (show ¬ 6 < 3 by omega), if_neg (show ¬ 6 < 4 by omega), if_neg (show ¬ 6 < 5 by omega), if_neg (show ¬ 6 < 6 by omega), if_pos (show 6 < 7 by omega)]⟩
theorem F_Clo (G : GT) (hG : GOK G)  : ZA G (7) (8) := by
  have h7 := hG.1
  have ho : okc (gn G) (7) := (Or.inr (Or.inr (Or.inr (Or.inr (Or.inr (Or.inr (Or.inr (Or.inl (by omega)))))))))
  have hm : 7 ∈ Cs G := mem_Cs (by omega) ho (hG.2.2 _ ho (by omega) (by omega))
  exact ⟨hm, by decide, fun r => by
    unfold ec
    rw [if_neg (show ¬ 7 < 1 by omega), if_neg (show ¬ 7 < 2 by omega), if_neg (show ¬ 7 < 3 by omega), if_neg (show ¬ 7 < 4 by omega), if_neg (show ¬ 7 < 5 by omega), if_neg (show ¬ 7 < 6 by omega), if_neg (show ¬ 7 < 7 by omega), if_pos (show 7 < 8 by omega)]⟩
theorem F_Row (G : GT) (hG : GOK G)  : QA G (8) (60) 7 "PaxosCommit$Message" (fun r j => (r j).toNatClampNeg + 420) := by
  have h7 := hG.1
  have ho : okc (gn G) (8) := (Or.inr (Or.inr (Or.inr (Or.inr (Or.inr (Or.inr (Or.inr (Or.inr (Or.inl (by omega))))))))))
  have hm : 8 ∈ Cs G := mem_Cs (by omega) ho (hG.2.2 _ ho (by omega) (by omega))
  exact ⟨hm, by decide, rfl, fun r => by
    unfold ec
    rw [if_neg (show ¬ 8 < 1 by omega), if_neg (show ¬ 8 < 2 by omega), if_neg (show ¬ 8 < 3 by omega), if_neg (show ¬ 8 < 4 by omega), if_neg (show ¬ 8 < 5 by omega), if_neg (show ¬ 8 < 6 by omega), if_neg (show ¬ 8 < 7 by omega), if_neg (show ¬ 8 < 8 by omega), if_pos (show 8 < 9 by omega)]⟩
theorem F_Out (G : GT) (hG : GOK G) (h9 : gad G 9 ≠ 0) : JA G (9) (1) := by
  have h7 := hG.1
  have ho : okc (gn G) (9) := (Or.inr (Or.inr (Or.inr (Or.inr (Or.inr (Or.inr (Or.inr (Or.inr (Or.inr (Or.inl (by omega)))))))))))
  have hm : 9 ∈ Cs G := mem_Cs (by omega) ho h9
  exact ⟨hm, by decide, fun r => by
    unfold ec
    rw [if_neg (show ¬ 9 < 1 by omega), if_neg (show ¬ 9 < 2 by omega), if_neg (show ¬ 9 < 3 by omega), if_neg (show ¬ 9 < 4 by omega), if_neg (show ¬ 9 < 5 by omega), if_neg (show ¬ 9 < 6 by omega), if_neg (show ¬ 9 < 7 by omega), if_neg (show ¬ 9 < 8 by omega), if_neg (show ¬ 9 < 9 by omega), if_pos (show 9 < 10 by omega)]⟩
theorem F_Store (G : GT) (hG : GOK G) {i0 : Nat} (h0 : i0 < 3) : OB G (i0 + 10) iStore (fun _ => [.ref (gad G (i0 + 20)), .ref (gad G (i0 + 30)), .ref (gad G (i0 + 40)), .ref (gad G (i0 + 50)), .ref (gad G (i0 + 60))]) := by
  have h7 := hG.1
  have ho : okc (gn G) (i0 + 10) := (Or.inr (Or.inr (Or.inr (Or.inr (Or.inr (Or.inr (Or.inr (Or.inr (Or.inr (Or.inr (Or.inl (by omega))))))))))))
  have hm : i0 + 10 ∈ Cs G := mem_Cs (by omega) ho (hG.2.2 _ ho (by omega) (by omega))
  exact ⟨hm, fun r => by
    unfold ec
    rw [if_neg (show ¬ i0 + 10 < 1 by omega), if_neg (show ¬ i0 + 10 < 2 by omega), if_neg (show ¬ i0 + 10 < 3 by omega), if_neg (show ¬ i0 + 10 < 4 by omega), if_neg (show ¬ i0 + 10 < 5 by omega), if_neg (show ¬ i0 + 10 < 6 by omega), if_neg (show ¬ i0 + 10 < 7 by omega), if_neg (show ¬ i0 + 10 < 8 by omega), if_neg (show ¬ i0 + 10 < 9 by omega), if_neg (show ¬ i0 + 10 < 10 by omega), if_pos (show i0 + 10 < 20 by omega)]⟩
theorem F_Val (G : GT) (hG : GOK G) {i0 : Nat} (h0 : i0 < 3) : IA G (i0 + 20) (4) := by
  have h7 := hG.1
  have ho : okc (gn G) (i0 + 20) := (Or.inr (Or.inr (Or.inr (Or.inr (Or.inr (Or.inr (Or.inr (Or.inr (Or.inr (Or.inr (Or.inr (Or.inl (by omega)))))))))))))
  have hm : i0 + 20 ∈ Cs G := mem_Cs (by omega) ho (hG.2.2 _ ho (by omega) (by omega))
  exact ⟨hm, by decide, fun r => by
    unfold ec
    rw [if_neg (show ¬ i0 + 20 < 1 by omega), if_neg (show ¬ i0 + 20 < 2 by omega), if_neg (show ¬ i0 + 20 < 3 by omega), if_neg (show ¬ i0 + 20 < 4 by omega), if_neg (show ¬ i0 + 20 < 5 by omega), if_neg (show ¬ i0 + 20 < 6 by omega), if_neg (show ¬ i0 + 20 < 7 by omega), if_neg (show ¬ i0 + 20 < 8 by omega), if_neg (show ¬ i0 + 20 < 9 by omega), if_neg (show ¬ i0 + 20 < 10 by omega), if_neg (show ¬ i0 + 20 < 20 by omega), if_pos (show i0 + 20 < 30 by omega)]⟩
theorem F_Loc (G : GT) (hG : GOK G) {i0 : Nat} (h0 : i0 < 3) : IA G (i0 + 30) (4) := by
  have h7 := hG.1
  have ho : okc (gn G) (i0 + 30) := (Or.inr (Or.inr (Or.inr (Or.inr (Or.inr (Or.inr (Or.inr (Or.inr (Or.inr (Or.inr (Or.inr (Or.inr (Or.inl (by omega))))))))))))))
  have hm : i0 + 30 ∈ Cs G := mem_Cs (by omega) ho (hG.2.2 _ ho (by omega) (by omega))
  exact ⟨hm, by decide, fun r => by
    unfold ec
    rw [if_neg (show ¬ i0 + 30 < 1 by omega), if_neg (show ¬ i0 + 30 < 2 by omega), if_neg (show ¬ i0 + 30 < 3 by omega), if_neg (show ¬ i0 + 30 < 4 by omega), if_neg (show ¬ i0 + 30 < 5 by omega), if_neg (show ¬ i0 + 30 < 6 by omega), if_neg (show ¬ i0 + 30 < 7 by omega), if_neg (show ¬ i0 + 30 < 8 by omega), if_neg (show ¬ i0 + 30 < 9 by omega), if_neg (show ¬ i0 + 30 < 10 by omega), if_neg (show ¬ i0 + 30 < 20 by omega), if_neg (show ¬ i0 + 30 < 30 by omega), if_pos (show i0 + 30 < 40 by omega)]⟩
theorem F_Sta (G : GT) (hG : GOK G) {i0 : Nat} (h0 : i0 < 3) : IA G (i0 + 40) (8) := by
  have h7 := hG.1
  have ho : okc (gn G) (i0 + 40) := (Or.inr (Or.inr (Or.inr (Or.inr (Or.inr (Or.inr (Or.inr (Or.inr (Or.inr (Or.inr (Or.inr (Or.inr (Or.inr (Or.inl (by omega)))))))))))))))
  have hm : i0 + 40 ∈ Cs G := mem_Cs (by omega) ho (hG.2.2 _ ho (by omega) (by omega))
  exact ⟨hm, by decide, fun r => by
    unfold ec
    rw [if_neg (show ¬ i0 + 40 < 1 by omega), if_neg (show ¬ i0 + 40 < 2 by omega), if_neg (show ¬ i0 + 40 < 3 by omega), if_neg (show ¬ i0 + 40 < 4 by omega), if_neg (show ¬ i0 + 40 < 5 by omega), if_neg (show ¬ i0 + 40 < 6 by omega), if_neg (show ¬ i0 + 40 < 7 by omega), if_neg (show ¬ i0 + 40 < 8 by omega), if_neg (show ¬ i0 + 40 < 9 by omega), if_neg (show ¬ i0 + 40 < 10 by omega), if_neg (show ¬ i0 + 40 < 20 by omega), if_neg (show ¬ i0 + 40 < 30 by omega), if_neg (show ¬ i0 + 40 < 40 by omega), if_pos (show i0 + 40 < 50 by omega)]⟩
theorem F_Wrt (G : GT) (hG : GOK G) {i0 : Nat} (h0 : i0 < 3) : IA G (i0 + 50) (8) := by
  have h7 := hG.1
  have ho : okc (gn G) (i0 + 50) := (Or.inr (Or.inr (Or.inr (Or.inr (Or.inr (Or.inr (Or.inr (Or.inr (Or.inr (Or.inr (Or.inr (Or.inr (Or.inr (Or.inr (Or.inl (by omega))))))))))))))))
  have hm : i0 + 50 ∈ Cs G := mem_Cs (by omega) ho (hG.2.2 _ ho (by omega) (by omega))
  exact ⟨hm, by decide, fun r => by
    unfold ec
    rw [if_neg (show ¬ i0 + 50 < 1 by omega), if_neg (show ¬ i0 + 50 < 2 by omega), if_neg (show ¬ i0 + 50 < 3 by omega), if_neg (show ¬ i0 + 50 < 4 by omega), if_neg (show ¬ i0 + 50 < 5 by omega), if_neg (show ¬ i0 + 50 < 6 by omega), if_neg (show ¬ i0 + 50 < 7 by omega), if_neg (show ¬ i0 + 50 < 8 by omega), if_neg (show ¬ i0 + 50 < 9 by omega), if_neg (show ¬ i0 + 50 < 10 by omega), if_neg (show ¬ i0 + 50 < 20 by omega), if_neg (show ¬ i0 + 50 < 30 by omega), if_neg (show ¬ i0 + 50 < 40 by omega), if_neg (show ¬ i0 + 50 < 50 by omega), if_pos (show i0 + 50 < 60 by omega)]⟩
theorem F_Wrs (G : GT) (hG : GOK G) {i0 : Nat} (h0 : i0 < 3) : AA G (i0 + 60) (8) (fun j => 8 * i0 + j + 70) := by
  have h7 := hG.1
  have ho : okc (gn G) (i0 + 60) := (Or.inr (Or.inr (Or.inr (Or.inr (Or.inr (Or.inr (Or.inr (Or.inr (Or.inr (Or.inr (Or.inr (Or.inr (Or.inr (Or.inr (Or.inr (Or.inl (by omega)))))))))))))))))
  have hm : i0 + 60 ∈ Cs G := mem_Cs (by omega) ho (hG.2.2 _ ho (by omega) (by omega))
  exact ⟨hm, by decide, fun r => by
    unfold ec
    rw [if_neg (show ¬ i0 + 60 < 1 by omega), if_neg (show ¬ i0 + 60 < 2 by omega), if_neg (show ¬ i0 + 60 < 3 by omega), if_neg (show ¬ i0 + 60 < 4 by omega), if_neg (show ¬ i0 + 60 < 5 by omega), if_neg (show ¬ i0 + 60 < 6 by omega), if_neg (show ¬ i0 + 60 < 7 by omega), if_neg (show ¬ i0 + 60 < 8 by omega), if_neg (show ¬ i0 + 60 < 9 by omega), if_neg (show ¬ i0 + 60 < 10 by omega), if_neg (show ¬ i0 + 60 < 20 by omega), if_neg (show ¬ i0 + 60 < 30 by omega), if_neg (show ¬ i0 + 60 < 40 by omega), if_neg (show ¬ i0 + 60 < 50 by omega), if_neg (show ¬ i0 + 60 < 60 by omega), if_pos (show i0 + 60 < 70 by omega)]
    simp only [Nat.add_sub_cancel]⟩
theorem F_Wr (G : GT) (hG : GOK G) {i0 i1 : Nat} (h0 : i0 < 3) (h1 : i1 < 8) : IA G (8 * i0 + i1 + 70) (4) := by
  have h7 := hG.1
  have ho : okc (gn G) (8 * i0 + i1 + 70) := (Or.inr (Or.inr (Or.inr (Or.inr (Or.inr (Or.inr (Or.inr (Or.inr (Or.inr (Or.inr (Or.inr (Or.inr (Or.inr (Or.inr (Or.inr (Or.inr (Or.inl (by omega))))))))))))))))))
  have hm : 8 * i0 + i1 + 70 ∈ Cs G := mem_Cs (by omega) ho (hG.2.2 _ ho (by omega) (by omega))
  exact ⟨hm, by decide, fun r => by
    unfold ec
    rw [if_neg (show ¬ 8 * i0 + i1 + 70 < 1 by omega), if_neg (show ¬ 8 * i0 + i1 + 70 < 2 by omega), if_neg (show ¬ 8 * i0 + i1 + 70 < 3 by omega), if_neg (show ¬ 8 * i0 + i1 + 70 < 4 by omega), if_neg (show ¬ 8 * i0 + i1 + 70 < 5 by omega), if_neg (show ¬ 8 * i0 + i1 + 70 < 6 by omega), if_neg (show ¬ 8 * i0 + i1 + 70 < 7 by omega), if_neg (show ¬ 8 * i0 + i1 + 70 < 8 by omega), if_neg (show ¬ 8 * i0 + i1 + 70 < 9 by omega), if_neg (show ¬ 8 * i0 + i1 + 70 < 10 by omega), if_neg (show ¬ 8 * i0 + i1 + 70 < 20 by omega), if_neg (show ¬ 8 * i0 + i1 + 70 < 30 by omega), if_neg (show ¬ 8 * i0 + i1 + 70 < 40 by omega), if_neg (show ¬ 8 * i0 + i1 + 70 < 50 by omega), if_neg (show ¬ 8 * i0 + i1 + 70 < 60 by omega), if_neg (show ¬ 8 * i0 + i1 + 70 < 70 by omega), if_pos (show 8 * i0 + i1 + 70 < 100 by omega)]⟩
theorem F_Acc (G : GT) (hG : GOK G) {i0 : Nat} (h0 : i0 < gn G) : OB G (i0 + 100) iAcc (fun _ => [.ref (gad G (i0 + 110)), .ref (gad G (i0 + 120))]) := by
  have h7 := hG.1
  have ho : okc (gn G) (i0 + 100) := (Or.inr (Or.inr (Or.inr (Or.inr (Or.inr (Or.inr (Or.inr (Or.inr (Or.inr (Or.inr (Or.inr (Or.inr (Or.inr (Or.inr (Or.inr (Or.inr (Or.inr (Or.inl (by omega)))))))))))))))))))
  have hm : i0 + 100 ∈ Cs G := mem_Cs (by omega) ho (hG.2.2 _ ho (by omega) (by omega))
  exact ⟨hm, fun r => by
    unfold ec
    rw [if_neg (show ¬ i0 + 100 < 1 by omega), if_neg (show ¬ i0 + 100 < 2 by omega), if_neg (show ¬ i0 + 100 < 3 by omega), if_neg (show ¬ i0 + 100 < 4 by omega), if_neg (show ¬ i0 + 100 < 5 by omega), if_neg (show ¬ i0 + 100 < 6 by omega), if_neg (show ¬ i0 + 100 < 7 by omega), if_neg (show ¬ i0 + 100 < 8 by omega), if_neg (show ¬ i0 + 100 < 9 by omega), if_neg (show ¬ i0 + 100 < 10 by omega), if_neg (show ¬ i0 + 100 < 20 by omega), if_neg (show ¬ i0 + 100 < 30 by omega), if_neg (show ¬ i0 + 100 < 40 by omega), if_neg (show ¬ i0 + 100 < 50 by omega), if_neg (show ¬ i0 + 100 < 60 by omega), if_neg (show ¬ i0 + 100 < 70 by omega), if_neg (show ¬ i0 + 100 < 100 by omega), if_pos (show i0 + 100 < 110 by omega)]⟩
theorem F_Pro (G : GT) (hG : GOK G) {i0 : Nat} (h0 : i0 < gn G) : AA G (i0 + 110) (8) (fun j => 8 * i0 + j + 130) := by
  have h7 := hG.1
  have ho : okc (gn G) (i0 + 110) := (Or.inr (Or.inr (Or.inr (Or.inr (Or.inr (Or.inr (Or.inr (Or.inr (Or.inr (Or.inr (Or.inr (Or.inr (Or.inr (Or.inr (Or.inr (Or.inr (Or.inr (Or.inr (Or.inl (by omega))))))))))))))))))))
  have hm : i0 + 110 ∈ Cs G := mem_Cs (by omega) ho (hG.2.2 _ ho (by omega) (by omega))
  exact ⟨hm, by decide, fun r => by
    unfold ec
    rw [if_neg (show ¬ i0 + 110 < 1 by omega), if_neg (show ¬ i0 + 110 < 2 by omega), if_neg (show ¬ i0 + 110 < 3 by omega), if_neg (show ¬ i0 + 110 < 4 by omega), if_neg (show ¬ i0 + 110 < 5 by omega), if_neg (show ¬ i0 + 110 < 6 by omega), if_neg (show ¬ i0 + 110 < 7 by omega), if_neg (show ¬ i0 + 110 < 8 by omega), if_neg (show ¬ i0 + 110 < 9 by omega), if_neg (show ¬ i0 + 110 < 10 by omega), if_neg (show ¬ i0 + 110 < 20 by omega), if_neg (show ¬ i0 + 110 < 30 by omega), if_neg (show ¬ i0 + 110 < 40 by omega), if_neg (show ¬ i0 + 110 < 50 by omega), if_neg (show ¬ i0 + 110 < 60 by omega), if_neg (show ¬ i0 + 110 < 70 by omega), if_neg (show ¬ i0 + 110 < 100 by omega), if_neg (show ¬ i0 + 110 < 110 by omega), if_pos (show i0 + 110 < 120 by omega)]
    simp only [Nat.add_sub_cancel]⟩
theorem F_Tak (G : GT) (hG : GOK G) {i0 : Nat} (h0 : i0 < gn G) : AA G (i0 + 120) (8) (fun j => 8 * i0 + j + 160) := by
  have h7 := hG.1
  have ho : okc (gn G) (i0 + 120) := (Or.inr (Or.inr (Or.inr (Or.inr (Or.inr (Or.inr (Or.inr (Or.inr (Or.inr (Or.inr (Or.inr (Or.inr (Or.inr (Or.inr (Or.inr (Or.inr (Or.inr (Or.inr (Or.inr (Or.inl (by omega)))))))))))))))))))))
  have hm : i0 + 120 ∈ Cs G := mem_Cs (by omega) ho (hG.2.2 _ ho (by omega) (by omega))
  exact ⟨hm, by decide, fun r => by
    unfold ec
    rw [if_neg (show ¬ i0 + 120 < 1 by omega), if_neg (show ¬ i0 + 120 < 2 by omega), if_neg (show ¬ i0 + 120 < 3 by omega), if_neg (show ¬ i0 + 120 < 4 by omega), if_neg (show ¬ i0 + 120 < 5 by omega), if_neg (show ¬ i0 + 120 < 6 by omega), if_neg (show ¬ i0 + 120 < 7 by omega), if_neg (show ¬ i0 + 120 < 8 by omega), if_neg (show ¬ i0 + 120 < 9 by omega), if_neg (show ¬ i0 + 120 < 10 by omega), if_neg (show ¬ i0 + 120 < 20 by omega), if_neg (show ¬ i0 + 120 < 30 by omega), if_neg (show ¬ i0 + 120 < 40 by omega), if_neg (show ¬ i0 + 120 < 50 by omega), if_neg (show ¬ i0 + 120 < 60 by omega), if_neg (show ¬ i0 + 120 < 70 by omega), if_neg (show ¬ i0 + 120 < 100 by omega), if_neg (show ¬ i0 + 120 < 110 by omega), if_neg (show ¬ i0 + 120 < 120 by omega), if_pos (show i0 + 120 < 130 by omega)]
    simp only [Nat.add_sub_cancel]⟩
theorem F_PrR (G : GT) (hG : GOK G) {i0 i1 : Nat} (h0 : i0 < gn G) (h1 : i1 < 8) : IA G (8 * i0 + i1 + 130) (3) := by
  have h7 := hG.1
  have ho : okc (gn G) (8 * i0 + i1 + 130) := (Or.inr (Or.inr (Or.inr (Or.inr (Or.inr (Or.inr (Or.inr (Or.inr (Or.inr (Or.inr (Or.inr (Or.inr (Or.inr (Or.inr (Or.inr (Or.inr (Or.inr (Or.inr (Or.inr (Or.inr (Or.inl (by omega))))))))))))))))))))))
  have hm : 8 * i0 + i1 + 130 ∈ Cs G := mem_Cs (by omega) ho (hG.2.2 _ ho (by omega) (by omega))
  exact ⟨hm, by decide, fun r => by
    unfold ec
    rw [if_neg (show ¬ 8 * i0 + i1 + 130 < 1 by omega), if_neg (show ¬ 8 * i0 + i1 + 130 < 2 by omega), if_neg (show ¬ 8 * i0 + i1 + 130 < 3 by omega), if_neg (show ¬ 8 * i0 + i1 + 130 < 4 by omega), if_neg (show ¬ 8 * i0 + i1 + 130 < 5 by omega), if_neg (show ¬ 8 * i0 + i1 + 130 < 6 by omega), if_neg (show ¬ 8 * i0 + i1 + 130 < 7 by omega), if_neg (show ¬ 8 * i0 + i1 + 130 < 8 by omega), if_neg (show ¬ 8 * i0 + i1 + 130 < 9 by omega), if_neg (show ¬ 8 * i0 + i1 + 130 < 10 by omega), if_neg (show ¬ 8 * i0 + i1 + 130 < 20 by omega), if_neg (show ¬ 8 * i0 + i1 + 130 < 30 by omega), if_neg (show ¬ 8 * i0 + i1 + 130 < 40 by omega), if_neg (show ¬ 8 * i0 + i1 + 130 < 50 by omega), if_neg (show ¬ 8 * i0 + i1 + 130 < 60 by omega), if_neg (show ¬ 8 * i0 + i1 + 130 < 70 by omega), if_neg (show ¬ 8 * i0 + i1 + 130 < 100 by omega), if_neg (show ¬ 8 * i0 + i1 + 130 < 110 by omega), if_neg (show ¬ 8 * i0 + i1 + 130 < 120 by omega), if_neg (show ¬ 8 * i0 + i1 + 130 < 130 by omega), if_pos (show 8 * i0 + i1 + 130 < 160 by omega)]⟩
theorem F_TkR (G : GT) (hG : GOK G) {i0 i1 : Nat} (h0 : i0 < gn G) (h1 : i1 < 8) : IA G (8 * i0 + i1 + 160) (3) := by
  have h7 := hG.1
  have ho : okc (gn G) (8 * i0 + i1 + 160) := (Or.inr (Or.inr (Or.inr (Or.inr (Or.inr (Or.inr (Or.inr (Or.inr (Or.inr (Or.inr (Or.inr (Or.inr (Or.inr (Or.inr (Or.inr (Or.inr (Or.inr (Or.inr (Or.inr (Or.inr (Or.inr (Or.inl (by omega)))))))))))))))))))))))
  have hm : 8 * i0 + i1 + 160 ∈ Cs G := mem_Cs (by omega) ho (hG.2.2 _ ho (by omega) (by omega))
  exact ⟨hm, by decide, fun r => by
    unfold ec
    rw [if_neg (show ¬ 8 * i0 + i1 + 160 < 1 by omega), if_neg (show ¬ 8 * i0 + i1 + 160 < 2 by omega), if_neg (show ¬ 8 * i0 + i1 + 160 < 3 by omega), if_neg (show ¬ 8 * i0 + i1 + 160 < 4 by omega), if_neg (show ¬ 8 * i0 + i1 + 160 < 5 by omega), if_neg (show ¬ 8 * i0 + i1 + 160 < 6 by omega), if_neg (show ¬ 8 * i0 + i1 + 160 < 7 by omega), if_neg (show ¬ 8 * i0 + i1 + 160 < 8 by omega), if_neg (show ¬ 8 * i0 + i1 + 160 < 9 by omega), if_neg (show ¬ 8 * i0 + i1 + 160 < 10 by omega), if_neg (show ¬ 8 * i0 + i1 + 160 < 20 by omega), if_neg (show ¬ 8 * i0 + i1 + 160 < 30 by omega), if_neg (show ¬ 8 * i0 + i1 + 160 < 40 by omega), if_neg (show ¬ 8 * i0 + i1 + 160 < 50 by omega), if_neg (show ¬ 8 * i0 + i1 + 160 < 60 by omega), if_neg (show ¬ 8 * i0 + i1 + 160 < 70 by omega), if_neg (show ¬ 8 * i0 + i1 + 160 < 100 by omega), if_neg (show ¬ 8 * i0 + i1 + 160 < 110 by omega), if_neg (show ¬ 8 * i0 + i1 + 160 < 120 by omega), if_neg (show ¬ 8 * i0 + i1 + 160 < 130 by omega), if_neg (show ¬ 8 * i0 + i1 + 160 < 160 by omega), if_pos (show 8 * i0 + i1 + 160 < 200 by omega)]⟩
theorem F_Led (G : GT) (hG : GOK G) {i0 : Nat} (h0 : i0 < 16) : OB G (i0 + 200) iLed (fun r => [.int (r 0), .int (r 1), .int (r 2), .ref (gad G (i0 + 220)), .ref (gad G (i0 + 240)), .ref (gad G (i0 + 260))]) := by
  have h7 := hG.1
  have ho : okc (gn G) (i0 + 200) := (Or.inr (Or.inr (Or.inr (Or.inr (Or.inr (Or.inr (Or.inr (Or.inr (Or.inr (Or.inr (Or.inr (Or.inr (Or.inr (Or.inr (Or.inr (Or.inr (Or.inr (Or.inr (Or.inr (Or.inr (Or.inr (Or.inr (Or.inl (by omega))))))))))))))))))))))))
  have hm : i0 + 200 ∈ Cs G := mem_Cs (by omega) ho (hG.2.2 _ ho (by omega) (by omega))
  exact ⟨hm, fun r => by
    unfold ec
    rw [if_neg (show ¬ i0 + 200 < 1 by omega), if_neg (show ¬ i0 + 200 < 2 by omega), if_neg (show ¬ i0 + 200 < 3 by omega), if_neg (show ¬ i0 + 200 < 4 by omega), if_neg (show ¬ i0 + 200 < 5 by omega), if_neg (show ¬ i0 + 200 < 6 by omega), if_neg (show ¬ i0 + 200 < 7 by omega), if_neg (show ¬ i0 + 200 < 8 by omega), if_neg (show ¬ i0 + 200 < 9 by omega), if_neg (show ¬ i0 + 200 < 10 by omega), if_neg (show ¬ i0 + 200 < 20 by omega), if_neg (show ¬ i0 + 200 < 30 by omega), if_neg (show ¬ i0 + 200 < 40 by omega), if_neg (show ¬ i0 + 200 < 50 by omega), if_neg (show ¬ i0 + 200 < 60 by omega), if_neg (show ¬ i0 + 200 < 70 by omega), if_neg (show ¬ i0 + 200 < 100 by omega), if_neg (show ¬ i0 + 200 < 110 by omega), if_neg (show ¬ i0 + 200 < 120 by omega), if_neg (show ¬ i0 + 200 < 130 by omega), if_neg (show ¬ i0 + 200 < 160 by omega), if_neg (show ¬ i0 + 200 < 200 by omega), if_pos (show i0 + 200 < 220 by omega)]⟩
theorem F_HR (G : GT) (hG : GOK G) {i0 : Nat} (h0 : i0 < 16) : ZA G (i0 + 220) (gn G) := by
  have h7 := hG.1
  have ho : okc (gn G) (i0 + 220) := (Or.inr (Or.inr (Or.inr (Or.inr (Or.inr (Or.inr (Or.inr (Or.inr (Or.inr (Or.inr (Or.inr (Or.inr (Or.inr (Or.inr (Or.inr (Or.inr (Or.inr (Or.inr (Or.inr (Or.inr (Or.inr (Or.inr (Or.inr (Or.inl (by omega)))))))))))))))))))))))))
  have hm : i0 + 220 ∈ Cs G := mem_Cs (by omega) ho (hG.2.2 _ ho (by omega) (by omega))
  exact ⟨hm, by omega, fun r => by
    unfold ec
    rw [if_neg (show ¬ i0 + 220 < 1 by omega), if_neg (show ¬ i0 + 220 < 2 by omega), if_neg (show ¬ i0 + 220 < 3 by omega), if_neg (show ¬ i0 + 220 < 4 by omega), if_neg (show ¬ i0 + 220 < 5 by omega), if_neg (show ¬ i0 + 220 < 6 by omega), if_neg (show ¬ i0 + 220 < 7 by omega), if_neg (show ¬ i0 + 220 < 8 by omega), if_neg (show ¬ i0 + 220 < 9 by omega), if_neg (show ¬ i0 + 220 < 10 by omega), if_neg (show ¬ i0 + 220 < 20 by omega), if_neg (show ¬ i0 + 220 < 30 by omega), if_neg (show ¬ i0 + 220 < 40 by omega), if_neg (show ¬ i0 + 220 < 50 by omega), if_neg (show ¬ i0 + 220 < 60 by omega), if_neg (show ¬ i0 + 220 < 70 by omega), if_neg (show ¬ i0 + 220 < 100 by omega), if_neg (show ¬ i0 + 220 < 110 by omega), if_neg (show ¬ i0 + 220 < 120 by omega), if_neg (show ¬ i0 + 220 < 130 by omega), if_neg (show ¬ i0 + 220 < 160 by omega), if_neg (show ¬ i0 + 220 < 200 by omega), if_neg (show ¬ i0 + 220 < 220 by omega), if_pos (show i0 + 220 < 240 by omega)]⟩
theorem F_Rpl (G : GT) (hG : GOK G) {i0 : Nat} (h0 : i0 < 16) : AA G (i0 + 240) (gn G) (fun j => 4 * i0 + j + 280) := by
  have h7 := hG.1
  have ho : okc (gn G) (i0 + 240) := (Or.inr (Or.inr (Or.inr (Or.inr (Or.inr (Or.inr (Or.inr (Or.inr (Or.inr (Or.inr (Or.inr (Or.inr (Or.inr (Or.inr (Or.inr (Or.inr (Or.inr (Or.inr (Or.inr (Or.inr (Or.inr (Or.inr (Or.inr (Or.inr (Or.inl (by omega))))))))))))))))))))))))))
  have hm : i0 + 240 ∈ Cs G := mem_Cs (by omega) ho (hG.2.2 _ ho (by omega) (by omega))
  exact ⟨hm, by omega, fun r => by
    unfold ec
    rw [if_neg (show ¬ i0 + 240 < 1 by omega), if_neg (show ¬ i0 + 240 < 2 by omega), if_neg (show ¬ i0 + 240 < 3 by omega), if_neg (show ¬ i0 + 240 < 4 by omega), if_neg (show ¬ i0 + 240 < 5 by omega), if_neg (show ¬ i0 + 240 < 6 by omega), if_neg (show ¬ i0 + 240 < 7 by omega), if_neg (show ¬ i0 + 240 < 8 by omega), if_neg (show ¬ i0 + 240 < 9 by omega), if_neg (show ¬ i0 + 240 < 10 by omega), if_neg (show ¬ i0 + 240 < 20 by omega), if_neg (show ¬ i0 + 240 < 30 by omega), if_neg (show ¬ i0 + 240 < 40 by omega), if_neg (show ¬ i0 + 240 < 50 by omega), if_neg (show ¬ i0 + 240 < 60 by omega), if_neg (show ¬ i0 + 240 < 70 by omega), if_neg (show ¬ i0 + 240 < 100 by omega), if_neg (show ¬ i0 + 240 < 110 by omega), if_neg (show ¬ i0 + 240 < 120 by omega), if_neg (show ¬ i0 + 240 < 130 by omega), if_neg (show ¬ i0 + 240 < 160 by omega), if_neg (show ¬ i0 + 240 < 200 by omega), if_neg (show ¬ i0 + 240 < 220 by omega), if_neg (show ¬ i0 + 240 < 240 by omega), if_pos (show i0 + 240 < 260 by omega)]
    simp only [Nat.add_sub_cancel]⟩
theorem F_Lat (G : GT) (hG : GOK G) {i0 : Nat} (h0 : i0 < 16) : AA G (i0 + 260) (gn G) (fun j => 4 * i0 + j + 350) := by
  have h7 := hG.1
  have ho : okc (gn G) (i0 + 260) := (Or.inr (Or.inr (Or.inr (Or.inr (Or.inr (Or.inr (Or.inr (Or.inr (Or.inr (Or.inr (Or.inr (Or.inr (Or.inr (Or.inr (Or.inr (Or.inr (Or.inr (Or.inr (Or.inr (Or.inr (Or.inr (Or.inr (Or.inr (Or.inr (Or.inr (Or.inl (by omega)))))))))))))))))))))))))))
  have hm : i0 + 260 ∈ Cs G := mem_Cs (by omega) ho (hG.2.2 _ ho (by omega) (by omega))
  exact ⟨hm, by omega, fun r => by
    unfold ec
    rw [if_neg (show ¬ i0 + 260 < 1 by omega), if_neg (show ¬ i0 + 260 < 2 by omega), if_neg (show ¬ i0 + 260 < 3 by omega), if_neg (show ¬ i0 + 260 < 4 by omega), if_neg (show ¬ i0 + 260 < 5 by omega), if_neg (show ¬ i0 + 260 < 6 by omega), if_neg (show ¬ i0 + 260 < 7 by omega), if_neg (show ¬ i0 + 260 < 8 by omega), if_neg (show ¬ i0 + 260 < 9 by omega), if_neg (show ¬ i0 + 260 < 10 by omega), if_neg (show ¬ i0 + 260 < 20 by omega), if_neg (show ¬ i0 + 260 < 30 by omega), if_neg (show ¬ i0 + 260 < 40 by omega), if_neg (show ¬ i0 + 260 < 50 by omega), if_neg (show ¬ i0 + 260 < 60 by omega), if_neg (show ¬ i0 + 260 < 70 by omega), if_neg (show ¬ i0 + 260 < 100 by omega), if_neg (show ¬ i0 + 260 < 110 by omega), if_neg (show ¬ i0 + 260 < 120 by omega), if_neg (show ¬ i0 + 260 < 130 by omega), if_neg (show ¬ i0 + 260 < 160 by omega), if_neg (show ¬ i0 + 260 < 200 by omega), if_neg (show ¬ i0 + 260 < 220 by omega), if_neg (show ¬ i0 + 260 < 240 by omega), if_neg (show ¬ i0 + 260 < 260 by omega), if_pos (show i0 + 260 < 280 by omega)]
    simp only [Nat.add_sub_cancel]⟩
theorem F_RpR (G : GT) (hG : GOK G) {i0 i1 : Nat} (h0 : i0 < 16) (h1 : i1 < gn G) : IA G (4 * i0 + i1 + 280) (3) := by
  have h7 := hG.1
  have ho : okc (gn G) (4 * i0 + i1 + 280) := (Or.inr (Or.inr (Or.inr (Or.inr (Or.inr (Or.inr (Or.inr (Or.inr (Or.inr (Or.inr (Or.inr (Or.inr (Or.inr (Or.inr (Or.inr (Or.inr (Or.inr (Or.inr (Or.inr (Or.inr (Or.inr (Or.inr (Or.inr (Or.inr (Or.inr (Or.inr (Or.inl (by omega))))))))))))))))))))))))))))
  have hm : 4 * i0 + i1 + 280 ∈ Cs G := mem_Cs (by omega) ho (hG.2.2 _ ho (by omega) (by omega))
  exact ⟨hm, by decide, fun r => by
    unfold ec
    rw [if_neg (show ¬ 4 * i0 + i1 + 280 < 1 by omega), if_neg (show ¬ 4 * i0 + i1 + 280 < 2 by omega), if_neg (show ¬ 4 * i0 + i1 + 280 < 3 by omega), if_neg (show ¬ 4 * i0 + i1 + 280 < 4 by omega), if_neg (show ¬ 4 * i0 + i1 + 280 < 5 by omega), if_neg (show ¬ 4 * i0 + i1 + 280 < 6 by omega), if_neg (show ¬ 4 * i0 + i1 + 280 < 7 by omega), if_neg (show ¬ 4 * i0 + i1 + 280 < 8 by omega), if_neg (show ¬ 4 * i0 + i1 + 280 < 9 by omega), if_neg (show ¬ 4 * i0 + i1 + 280 < 10 by omega), if_neg (show ¬ 4 * i0 + i1 + 280 < 20 by omega), if_neg (show ¬ 4 * i0 + i1 + 280 < 30 by omega), if_neg (show ¬ 4 * i0 + i1 + 280 < 40 by omega), if_neg (show ¬ 4 * i0 + i1 + 280 < 50 by omega), if_neg (show ¬ 4 * i0 + i1 + 280 < 60 by omega), if_neg (show ¬ 4 * i0 + i1 + 280 < 70 by omega), if_neg (show ¬ 4 * i0 + i1 + 280 < 100 by omega), if_neg (show ¬ 4 * i0 + i1 + 280 < 110 by omega), if_neg (show ¬ 4 * i0 + i1 + 280 < 120 by omega), if_neg (show ¬ 4 * i0 + i1 + 280 < 130 by omega), if_neg (show ¬ 4 * i0 + i1 + 280 < 160 by omega), if_neg (show ¬ 4 * i0 + i1 + 280 < 200 by omega), if_neg (show ¬ 4 * i0 + i1 + 280 < 220 by omega), if_neg (show ¬ 4 * i0 + i1 + 280 < 240 by omega), if_neg (show ¬ 4 * i0 + i1 + 280 < 260 by omega), if_neg (show ¬ 4 * i0 + i1 + 280 < 280 by omega), if_pos (show 4 * i0 + i1 + 280 < 350 by omega)]⟩
theorem F_LtR (G : GT) (hG : GOK G) {i0 i1 : Nat} (h0 : i0 < 16) (h1 : i1 < gn G) : IA G (4 * i0 + i1 + 350) (3) := by
  have h7 := hG.1
  have ho : okc (gn G) (4 * i0 + i1 + 350) := (Or.inr (Or.inr (Or.inr (Or.inr (Or.inr (Or.inr (Or.inr (Or.inr (Or.inr (Or.inr (Or.inr (Or.inr (Or.inr (Or.inr (Or.inr (Or.inr (Or.inr (Or.inr (Or.inr (Or.inr (Or.inr (Or.inr (Or.inr (Or.inr (Or.inr (Or.inr (Or.inr (Or.inl (by omega)))))))))))))))))))))))))))))
  have hm : 4 * i0 + i1 + 350 ∈ Cs G := mem_Cs (by omega) ho (hG.2.2 _ ho (by omega) (by omega))
  exact ⟨hm, by decide, fun r => by
    unfold ec
    rw [if_neg (show ¬ 4 * i0 + i1 + 350 < 1 by omega), if_neg (show ¬ 4 * i0 + i1 + 350 < 2 by omega), if_neg (show ¬ 4 * i0 + i1 + 350 < 3 by omega), if_neg (show ¬ 4 * i0 + i1 + 350 < 4 by omega), if_neg (show ¬ 4 * i0 + i1 + 350 < 5 by omega), if_neg (show ¬ 4 * i0 + i1 + 350 < 6 by omega), if_neg (show ¬ 4 * i0 + i1 + 350 < 7 by omega), if_neg (show ¬ 4 * i0 + i1 + 350 < 8 by omega), if_neg (show ¬ 4 * i0 + i1 + 350 < 9 by omega), if_neg (show ¬ 4 * i0 + i1 + 350 < 10 by omega), if_neg (show ¬ 4 * i0 + i1 + 350 < 20 by omega), if_neg (show ¬ 4 * i0 + i1 + 350 < 30 by omega), if_neg (show ¬ 4 * i0 + i1 + 350 < 40 by omega), if_neg (show ¬ 4 * i0 + i1 + 350 < 50 by omega), if_neg (show ¬ 4 * i0 + i1 + 350 < 60 by omega), if_neg (show ¬ 4 * i0 + i1 + 350 < 70 by omega), if_neg (show ¬ 4 * i0 + i1 + 350 < 100 by omega), if_neg (show ¬ 4 * i0 + i1 + 350 < 110 by omega), if_neg (show ¬ 4 * i0 + i1 + 350 < 120 by omega), if_neg (show ¬ 4 * i0 + i1 + 350 < 130 by omega), if_neg (show ¬ 4 * i0 + i1 + 350 < 160 by omega), if_neg (show ¬ 4 * i0 + i1 + 350 < 200 by omega), if_neg (show ¬ 4 * i0 + i1 + 350 < 220 by omega), if_neg (show ¬ 4 * i0 + i1 + 350 < 240 by omega), if_neg (show ¬ 4 * i0 + i1 + 350 < 260 by omega), if_neg (show ¬ 4 * i0 + i1 + 350 < 280 by omega), if_neg (show ¬ 4 * i0 + i1 + 350 < 350 by omega), if_pos (show 4 * i0 + i1 + 350 < 420 by omega)]⟩
theorem F_Msg (G : GT) (hG : GOK G) {i0 : Nat} (h0 : i0 < 62) : OB G (i0 + 420) iMsg (fun r => [.int (r 0), .int (r 1), .int (r 2), .int (r 3), .int (r 4), .int (r 5), .int (r 6), .ref (gad G (i0 + 490))]) := by
  have h7 := hG.1
  have ho : okc (gn G) (i0 + 420) := (Or.inr (Or.inr (Or.inr (Or.inr (Or.inr (Or.inr (Or.inr (Or.inr (Or.inr (Or.inr (Or.inr (Or.inr (Or.inr (Or.inr (Or.inr (Or.inr (Or.inr (Or.inr (Or.inr (Or.inr (Or.inr (Or.inr (Or.inr (Or.inr (Or.inr (Or.inr (Or.inr (Or.inr (Or.inl (by omega))))))))))))))))))))))))))))))
  have hm : i0 + 420 ∈ Cs G := mem_Cs (by omega) ho (hG.2.2 _ ho (by omega) (by omega))
  exact ⟨hm, fun r => by
    unfold ec
    rw [if_neg (show ¬ i0 + 420 < 1 by omega), if_neg (show ¬ i0 + 420 < 2 by omega), if_neg (show ¬ i0 + 420 < 3 by omega), if_neg (show ¬ i0 + 420 < 4 by omega), if_neg (show ¬ i0 + 420 < 5 by omega), if_neg (show ¬ i0 + 420 < 6 by omega), if_neg (show ¬ i0 + 420 < 7 by omega), if_neg (show ¬ i0 + 420 < 8 by omega), if_neg (show ¬ i0 + 420 < 9 by omega), if_neg (show ¬ i0 + 420 < 10 by omega), if_neg (show ¬ i0 + 420 < 20 by omega), if_neg (show ¬ i0 + 420 < 30 by omega), if_neg (show ¬ i0 + 420 < 40 by omega), if_neg (show ¬ i0 + 420 < 50 by omega), if_neg (show ¬ i0 + 420 < 60 by omega), if_neg (show ¬ i0 + 420 < 70 by omega), if_neg (show ¬ i0 + 420 < 100 by omega), if_neg (show ¬ i0 + 420 < 110 by omega), if_neg (show ¬ i0 + 420 < 120 by omega), if_neg (show ¬ i0 + 420 < 130 by omega), if_neg (show ¬ i0 + 420 < 160 by omega), if_neg (show ¬ i0 + 420 < 200 by omega), if_neg (show ¬ i0 + 420 < 220 by omega), if_neg (show ¬ i0 + 420 < 240 by omega), if_neg (show ¬ i0 + 420 < 260 by omega), if_neg (show ¬ i0 + 420 < 280 by omega), if_neg (show ¬ i0 + 420 < 350 by omega), if_neg (show ¬ i0 + 420 < 420 by omega), if_pos (show i0 + 420 < 490 by omega)]⟩
theorem F_Rep (G : GT) (hG : GOK G) {i0 : Nat} (h0 : i0 < 62) : IA G (i0 + 490) (3) := by
  have h7 := hG.1
  have ho : okc (gn G) (i0 + 490) := (Or.inr (Or.inr (Or.inr (Or.inr (Or.inr (Or.inr (Or.inr (Or.inr (Or.inr (Or.inr (Or.inr (Or.inr (Or.inr (Or.inr (Or.inr (Or.inr (Or.inr (Or.inr (Or.inr (Or.inr (Or.inr (Or.inr (Or.inr (Or.inr (Or.inr (Or.inr (Or.inr (Or.inr (Or.inr (Or.inl (by omega)))))))))))))))))))))))))))))))
  have hm : i0 + 490 ∈ Cs G := mem_Cs (by omega) ho (hG.2.2 _ ho (by omega) (by omega))
  exact ⟨hm, by decide, fun r => by
    unfold ec
    rw [if_neg (show ¬ i0 + 490 < 1 by omega), if_neg (show ¬ i0 + 490 < 2 by omega), if_neg (show ¬ i0 + 490 < 3 by omega), if_neg (show ¬ i0 + 490 < 4 by omega), if_neg (show ¬ i0 + 490 < 5 by omega), if_neg (show ¬ i0 + 490 < 6 by omega), if_neg (show ¬ i0 + 490 < 7 by omega), if_neg (show ¬ i0 + 490 < 8 by omega), if_neg (show ¬ i0 + 490 < 9 by omega), if_neg (show ¬ i0 + 490 < 10 by omega), if_neg (show ¬ i0 + 490 < 20 by omega), if_neg (show ¬ i0 + 490 < 30 by omega), if_neg (show ¬ i0 + 490 < 40 by omega), if_neg (show ¬ i0 + 490 < 50 by omega), if_neg (show ¬ i0 + 490 < 60 by omega), if_neg (show ¬ i0 + 490 < 70 by omega), if_neg (show ¬ i0 + 490 < 100 by omega), if_neg (show ¬ i0 + 490 < 110 by omega), if_neg (show ¬ i0 + 490 < 120 by omega), if_neg (show ¬ i0 + 490 < 130 by omega), if_neg (show ¬ i0 + 490 < 160 by omega), if_neg (show ¬ i0 + 490 < 200 by omega), if_neg (show ¬ i0 + 490 < 220 by omega), if_neg (show ¬ i0 + 490 < 240 by omega), if_neg (show ¬ i0 + 490 < 260 by omega), if_neg (show ¬ i0 + 490 < 280 by omega), if_neg (show ¬ i0 + 490 < 350 by omega), if_neg (show ¬ i0 + 490 < 420 by omega), if_neg (show ¬ i0 + 490 < 490 by omega), if_pos (show i0 + 490 < 600 by omega)]⟩
theorem F_Mo (G : GT) (hG : GOK G)  : OB G (600) iMo (fsMo G) := by
  have h7 := hG.1
  have ho : okc (gn G) (600) := (Or.inr (Or.inr (Or.inr (Or.inr (Or.inr (Or.inr (Or.inr (Or.inr (Or.inr (Or.inr (Or.inr (Or.inr (Or.inr (Or.inr (Or.inr (Or.inr (Or.inr (Or.inr (Or.inr (Or.inr (Or.inr (Or.inr (Or.inr (Or.inr (Or.inr (Or.inr (Or.inr (Or.inr (Or.inr (Or.inr (Or.inl (by omega))))))))))))))))))))))))))))))))
  have hm : 600 ∈ Cs G := mem_Cs (by omega) ho (hG.2.2 _ ho (by omega) (by omega))
  exact ⟨hm, fun r => by
    unfold ec
    rw [if_neg (show ¬ 600 < 1 by omega), if_neg (show ¬ 600 < 2 by omega), if_neg (show ¬ 600 < 3 by omega), if_neg (show ¬ 600 < 4 by omega), if_neg (show ¬ 600 < 5 by omega), if_neg (show ¬ 600 < 6 by omega), if_neg (show ¬ 600 < 7 by omega), if_neg (show ¬ 600 < 8 by omega), if_neg (show ¬ 600 < 9 by omega), if_neg (show ¬ 600 < 10 by omega), if_neg (show ¬ 600 < 20 by omega), if_neg (show ¬ 600 < 30 by omega), if_neg (show ¬ 600 < 40 by omega), if_neg (show ¬ 600 < 50 by omega), if_neg (show ¬ 600 < 60 by omega), if_neg (show ¬ 600 < 70 by omega), if_neg (show ¬ 600 < 100 by omega), if_neg (show ¬ 600 < 110 by omega), if_neg (show ¬ 600 < 120 by omega), if_neg (show ¬ 600 < 130 by omega), if_neg (show ¬ 600 < 160 by omega), if_neg (show ¬ 600 < 200 by omega), if_neg (show ¬ 600 < 220 by omega), if_neg (show ¬ 600 < 240 by omega), if_neg (show ¬ 600 < 260 by omega), if_neg (show ¬ 600 < 280 by omega), if_neg (show ¬ 600 < 350 by omega), if_neg (show ¬ 600 < 420 by omega), if_neg (show ¬ 600 < 490 by omega), if_neg (show ¬ 600 < 600 by omega), if_pos (show 600 < 601 by omega)]⟩
theorem F_MstoreDown (G : GT) (hG : GOK G)  : ZA G (602) (3) := by
  have h7 := hG.1
  have ho : okc (gn G) (602) := (Or.inr (Or.inr (Or.inr (Or.inr (Or.inr (Or.inr (Or.inr (Or.inr (Or.inr (Or.inr (Or.inr (Or.inr (Or.inr (Or.inr (Or.inr (Or.inr (Or.inr (Or.inr (Or.inr (Or.inr (Or.inr (Or.inr (Or.inr (Or.inr (Or.inr (Or.inr (Or.inr (Or.inr (Or.inr (Or.inr (Or.inr (Or.inl (by omega)))))))))))))))))))))))))))))))))
  have hm : 602 ∈ Cs G := mem_Cs (by omega) ho (hG.2.2 _ ho (by omega) (by omega))
  exact ⟨hm, by decide, fun r => by
    unfold ec
    rw [if_neg (show ¬ 602 < 1 by omega), if_neg (show ¬ 602 < 2 by omega), if_neg (show ¬ 602 < 3 by omega), if_neg (show ¬ 602 < 4 by omega), if_neg (show ¬ 602 < 5 by omega), if_neg (show ¬ 602 < 6 by omega), if_neg (show ¬ 602 < 7 by omega), if_neg (show ¬ 602 < 8 by omega), if_neg (show ¬ 602 < 9 by omega), if_neg (show ¬ 602 < 10 by omega), if_neg (show ¬ 602 < 20 by omega), if_neg (show ¬ 602 < 30 by omega), if_neg (show ¬ 602 < 40 by omega), if_neg (show ¬ 602 < 50 by omega), if_neg (show ¬ 602 < 60 by omega), if_neg (show ¬ 602 < 70 by omega), if_neg (show ¬ 602 < 100 by omega), if_neg (show ¬ 602 < 110 by omega), if_neg (show ¬ 602 < 120 by omega), if_neg (show ¬ 602 < 130 by omega), if_neg (show ¬ 602 < 160 by omega), if_neg (show ¬ 602 < 200 by omega), if_neg (show ¬ 602 < 220 by omega), if_neg (show ¬ 602 < 240 by omega), if_neg (show ¬ 602 < 260 by omega), if_neg (show ¬ 602 < 280 by omega), if_neg (show ¬ 602 < 350 by omega), if_neg (show ¬ 602 < 420 by omega), if_neg (show ¬ 602 < 490 by omega), if_neg (show ¬ 602 < 600 by omega), if_neg (show ¬ 602 < 601 by omega), if_pos (show 602 < 603 by omega)]⟩
theorem F_MacceptorDown (G : GT) (hG : GOK G)  : ZA G (603) (3) := by
  have h7 := hG.1
  have ho : okc (gn G) (603) := (Or.inr (Or.inr (Or.inr (Or.inr (Or.inr (Or.inr (Or.inr (Or.inr (Or.inr (Or.inr (Or.inr (Or.inr (Or.inr (Or.inr (Or.inr (Or.inr (Or.inr (Or.inr (Or.inr (Or.inr (Or.inr (Or.inr (Or.inr (Or.inr (Or.inr (Or.inr (Or.inr (Or.inr (Or.inr (Or.inr (Or.inr (Or.inr (Or.inl (by omega))))))))))))))))))))))))))))))))))
  have hm : 603 ∈ Cs G := mem_Cs (by omega) ho (hG.2.2 _ ho (by omega) (by omega))
  exact ⟨hm, by decide, fun r => by
    unfold ec
    rw [if_neg (show ¬ 603 < 1 by omega), if_neg (show ¬ 603 < 2 by omega), if_neg (show ¬ 603 < 3 by omega), if_neg (show ¬ 603 < 4 by omega), if_neg (show ¬ 603 < 5 by omega), if_neg (show ¬ 603 < 6 by omega), if_neg (show ¬ 603 < 7 by omega), if_neg (show ¬ 603 < 8 by omega), if_neg (show ¬ 603 < 9 by omega), if_neg (show ¬ 603 < 10 by omega), if_neg (show ¬ 603 < 20 by omega), if_neg (show ¬ 603 < 30 by omega), if_neg (show ¬ 603 < 40 by omega), if_neg (show ¬ 603 < 50 by omega), if_neg (show ¬ 603 < 60 by omega), if_neg (show ¬ 603 < 70 by omega), if_neg (show ¬ 603 < 100 by omega), if_neg (show ¬ 603 < 110 by omega), if_neg (show ¬ 603 < 120 by omega), if_neg (show ¬ 603 < 130 by omega), if_neg (show ¬ 603 < 160 by omega), if_neg (show ¬ 603 < 200 by omega), if_neg (show ¬ 603 < 220 by omega), if_neg (show ¬ 603 < 240 by omega), if_neg (show ¬ 603 < 260 by omega), if_neg (show ¬ 603 < 280 by omega), if_neg (show ¬ 603 < 350 by omega), if_neg (show ¬ 603 < 420 by omega), if_neg (show ¬ 603 < 490 by omega), if_neg (show ¬ 603 < 600 by omega), if_neg (show ¬ 603 < 601 by omega), if_neg (show ¬ 603 < 603 by omega), if_pos (show 603 < 604 by omega)]⟩
theorem F_MleaderDown (G : GT) (hG : GOK G)  : ZA G (604) (2) := by
  have h7 := hG.1
  have ho : okc (gn G) (604) := (Or.inr (Or.inr (Or.inr (Or.inr (Or.inr (Or.inr (Or.inr (Or.inr (Or.inr (Or.inr (Or.inr (Or.inr (Or.inr (Or.inr (Or.inr (Or.inr (Or.inr (Or.inr (Or.inr (Or.inr (Or.inr (Or.inr (Or.inr (Or.inr (Or.inr (Or.inr (Or.inr (Or.inr (Or.inr (Or.inr (Or.inr (Or.inr (Or.inr (Or.inl (by omega)))))))))))))))))))))))))))))))))))
  have hm : 604 ∈ Cs G := mem_Cs (by omega) ho (hG.2.2 _ ho (by omega) (by omega))
  exact ⟨hm, by decide, fun r => by
    unfold ec
    rw [if_neg (show ¬ 604 < 1 by omega), if_neg (show ¬ 604 < 2 by omega), if_neg (show ¬ 604 < 3 by omega), if_neg (show ¬ 604 < 4 by omega), if_neg (show ¬ 604 < 5 by omega), if_neg (show ¬ 604 < 6 by omega), if_neg (show ¬ 604 < 7 by omega), if_neg (show ¬ 604 < 8 by omega), if_neg (show ¬ 604 < 9 by omega), if_neg (show ¬ 604 < 10 by omega), if_neg (show ¬ 604 < 20 by omega), if_neg (show ¬ 604 < 30 by omega), if_neg (show ¬ 604 < 40 by omega), if_neg (show ¬ 604 < 50 by omega), if_neg (show ¬ 604 < 60 by omega), if_neg (show ¬ 604 < 70 by omega), if_neg (show ¬ 604 < 100 by omega), if_neg (show ¬ 604 < 110 by omega), if_neg (show ¬ 604 < 120 by omega), if_neg (show ¬ 604 < 130 by omega), if_neg (show ¬ 604 < 160 by omega), if_neg (show ¬ 604 < 200 by omega), if_neg (show ¬ 604 < 220 by omega), if_neg (show ¬ 604 < 240 by omega), if_neg (show ¬ 604 < 260 by omega), if_neg (show ¬ 604 < 280 by omega), if_neg (show ¬ 604 < 350 by omega), if_neg (show ¬ 604 < 420 by omega), if_neg (show ¬ 604 < 490 by omega), if_neg (show ¬ 604 < 600 by omega), if_neg (show ¬ 604 < 601 by omega), if_neg (show ¬ 604 < 603 by omega), if_neg (show ¬ 604 < 604 by omega), if_pos (show 604 < 605 by omega)]⟩
theorem F_Mvalue (G : GT) (hG : GOK G)  : IA G (605) (12) := by
  have h7 := hG.1
  have ho : okc (gn G) (605) := (Or.inr (Or.inr (Or.inr (Or.inr (Or.inr (Or.inr (Or.inr (Or.inr (Or.inr (Or.inr (Or.inr (Or.inr (Or.inr (Or.inr (Or.inr (Or.inr (Or.inr (Or.inr (Or.inr (Or.inr (Or.inr (Or.inr (Or.inr (Or.inr (Or.inr (Or.inr (Or.inr (Or.inr (Or.inr (Or.inr (Or.inr (Or.inr (Or.inr (Or.inr (Or.inl (by omega))))))))))))))))))))))))))))))))))))
  have hm : 605 ∈ Cs G := mem_Cs (by omega) ho (hG.2.2 _ ho (by omega) (by omega))
  exact ⟨hm, by decide, fun r => by
    unfold ec
    rw [if_neg (show ¬ 605 < 1 by omega), if_neg (show ¬ 605 < 2 by omega), if_neg (show ¬ 605 < 3 by omega), if_neg (show ¬ 605 < 4 by omega), if_neg (show ¬ 605 < 5 by omega), if_neg (show ¬ 605 < 6 by omega), if_neg (show ¬ 605 < 7 by omega), if_neg (show ¬ 605 < 8 by omega), if_neg (show ¬ 605 < 9 by omega), if_neg (show ¬ 605 < 10 by omega), if_neg (show ¬ 605 < 20 by omega), if_neg (show ¬ 605 < 30 by omega), if_neg (show ¬ 605 < 40 by omega), if_neg (show ¬ 605 < 50 by omega), if_neg (show ¬ 605 < 60 by omega), if_neg (show ¬ 605 < 70 by omega), if_neg (show ¬ 605 < 100 by omega), if_neg (show ¬ 605 < 110 by omega), if_neg (show ¬ 605 < 120 by omega), if_neg (show ¬ 605 < 130 by omega), if_neg (show ¬ 605 < 160 by omega), if_neg (show ¬ 605 < 200 by omega), if_neg (show ¬ 605 < 220 by omega), if_neg (show ¬ 605 < 240 by omega), if_neg (show ¬ 605 < 260 by omega), if_neg (show ¬ 605 < 280 by omega), if_neg (show ¬ 605 < 350 by omega), if_neg (show ¬ 605 < 420 by omega), if_neg (show ¬ 605 < 490 by omega), if_neg (show ¬ 605 < 600 by omega), if_neg (show ¬ 605 < 601 by omega), if_neg (show ¬ 605 < 603 by omega), if_neg (show ¬ 605 < 604 by omega), if_neg (show ¬ 605 < 605 by omega), if_pos (show 605 < 606 by omega)]⟩
theorem F_Mlock (G : GT) (hG : GOK G)  : IA G (606) (12) := by
  have h7 := hG.1
  have ho : okc (gn G) (606) := (Or.inr (Or.inr (Or.inr (Or.inr (Or.inr (Or.inr (Or.inr (Or.inr (Or.inr (Or.inr (Or.inr (Or.inr (Or.inr (Or.inr (Or.inr (Or.inr (Or.inr (Or.inr (Or.inr (Or.inr (Or.inr (Or.inr (Or.inr (Or.inr (Or.inr (Or.inr (Or.inr (Or.inr (Or.inr (Or.inr (Or.inr (Or.inr (Or.inr (Or.inr (Or.inr (Or.inl (by omega)))))))))))))))))))))))))))))))))))))
  have hm : 606 ∈ Cs G := mem_Cs (by omega) ho (hG.2.2 _ ho (by omega) (by omega))
  exact ⟨hm, by decide, fun r => by
    unfold ec
    rw [if_neg (show ¬ 606 < 1 by omega), if_neg (show ¬ 606 < 2 by omega), if_neg (show ¬ 606 < 3 by omega), if_neg (show ¬ 606 < 4 by omega), if_neg (show ¬ 606 < 5 by omega), if_neg (show ¬ 606 < 6 by omega), if_neg (show ¬ 606 < 7 by omega), if_neg (show ¬ 606 < 8 by omega), if_neg (show ¬ 606 < 9 by omega), if_neg (show ¬ 606 < 10 by omega), if_neg (show ¬ 606 < 20 by omega), if_neg (show ¬ 606 < 30 by omega), if_neg (show ¬ 606 < 40 by omega), if_neg (show ¬ 606 < 50 by omega), if_neg (show ¬ 606 < 60 by omega), if_neg (show ¬ 606 < 70 by omega), if_neg (show ¬ 606 < 100 by omega), if_neg (show ¬ 606 < 110 by omega), if_neg (show ¬ 606 < 120 by omega), if_neg (show ¬ 606 < 130 by omega), if_neg (show ¬ 606 < 160 by omega), if_neg (show ¬ 606 < 200 by omega), if_neg (show ¬ 606 < 220 by omega), if_neg (show ¬ 606 < 240 by omega), if_neg (show ¬ 606 < 260 by omega), if_neg (show ¬ 606 < 280 by omega), if_neg (show ¬ 606 < 350 by omega), if_neg (show ¬ 606 < 420 by omega), if_neg (show ¬ 606 < 490 by omega), if_neg (show ¬ 606 < 600 by omega), if_neg (show ¬ 606 < 601 by omega), if_neg (show ¬ 606 < 603 by omega), if_neg (show ¬ 606 < 604 by omega), if_neg (show ¬ 606 < 605 by omega), if_neg (show ¬ 606 < 606 by omega), if_pos (show 606 < 607 by omega)]⟩
theorem F_Mmembers (G : GT) (hG : GOK G)  : IA G (608) (8) := by
  have h7 := hG.1
  have ho : okc (gn G) (608) := (Or.inr (Or.inr (Or.inr (Or.inr (Or.inr (Or.inr (Or.inr (Or.inr (Or.inr (Or.inr (Or.inr (Or.inr (Or.inr (Or.inr (Or.inr (Or.inr (Or.inr (Or.inr (Or.inr (Or.inr (Or.inr (Or.inr (Or.inr (Or.inr (Or.inr (Or.inr (Or.inr (Or.inr (Or.inr (Or.inr (Or.inr (Or.inr (Or.inr (Or.inr (Or.inr (Or.inr (Or.inl (by omega))))))))))))))))))))))))))))))))))))))
  have hm : 608 ∈ Cs G := mem_Cs (by omega) ho (hG.2.2 _ ho (by omega) (by omega))
  exact ⟨hm, by decide, fun r => by
    unfold ec
    rw [if_neg (show ¬ 608 < 1 by omega), if_neg (show ¬ 608 < 2 by omega), if_neg (show ¬ 608 < 3 by omega), if_neg (show ¬ 608 < 4 by omega), if_neg (show ¬ 608 < 5 by omega), if_neg (show ¬ 608 < 6 by omega), if_neg (show ¬ 608 < 7 by omega), if_neg (show ¬ 608 < 8 by omega), if_neg (show ¬ 608 < 9 by omega), if_neg (show ¬ 608 < 10 by omega), if_neg (show ¬ 608 < 20 by omega), if_neg (show ¬ 608 < 30 by omega), if_neg (show ¬ 608 < 40 by omega), if_neg (show ¬ 608 < 50 by omega), if_neg (show ¬ 608 < 60 by omega), if_neg (show ¬ 608 < 70 by omega), if_neg (show ¬ 608 < 100 by omega), if_neg (show ¬ 608 < 110 by omega), if_neg (show ¬ 608 < 120 by omega), if_neg (show ¬ 608 < 130 by omega), if_neg (show ¬ 608 < 160 by omega), if_neg (show ¬ 608 < 200 by omega), if_neg (show ¬ 608 < 220 by omega), if_neg (show ¬ 608 < 240 by omega), if_neg (show ¬ 608 < 260 by omega), if_neg (show ¬ 608 < 280 by omega), if_neg (show ¬ 608 < 350 by omega), if_neg (show ¬ 608 < 420 by omega), if_neg (show ¬ 608 < 490 by omega), if_neg (show ¬ 608 < 600 by omega), if_neg (show ¬ 608 < 601 by omega), if_neg (show ¬ 608 < 603 by omega), if_neg (show ¬ 608 < 604 by omega), if_neg (show ¬ 608 < 605 by omega), if_neg (show ¬ 608 < 606 by omega), if_neg (show ¬ 608 < 607 by omega), if_pos (show 608 < 609 by omega)]⟩
theorem F_Mclosed (G : GT) (hG : GOK G)  : ZA G (609) (8) := by
  have h7 := hG.1
  have ho : okc (gn G) (609) := (Or.inr (Or.inr (Or.inr (Or.inr (Or.inr (Or.inr (Or.inr (Or.inr (Or.inr (Or.inr (Or.inr (Or.inr (Or.inr (Or.inr (Or.inr (Or.inr (Or.inr (Or.inr (Or.inr (Or.inr (Or.inr (Or.inr (Or.inr (Or.inr (Or.inr (Or.inr (Or.inr (Or.inr (Or.inr (Or.inr (Or.inr (Or.inr (Or.inr (Or.inr (Or.inr (Or.inr (Or.inr (Or.inl (by omega)))))))))))))))))))))))))))))))))))))))
  have hm : 609 ∈ Cs G := mem_Cs (by omega) ho (hG.2.2 _ ho (by omega) (by omega))
  exact ⟨hm, by decide, fun r => by
    unfold ec
    rw [if_neg (show ¬ 609 < 1 by omega), if_neg (show ¬ 609 < 2 by omega), if_neg (show ¬ 609 < 3 by omega), if_neg (show ¬ 609 < 4 by omega), if_neg (show ¬ 609 < 5 by omega), if_neg (show ¬ 609 < 6 by omega), if_neg (show ¬ 609 < 7 by omega), if_neg (show ¬ 609 < 8 by omega), if_neg (show ¬ 609 < 9 by omega), if_neg (show ¬ 609 < 10 by omega), if_neg (show ¬ 609 < 20 by omega), if_neg (show ¬ 609 < 30 by omega), if_neg (show ¬ 609 < 40 by omega), if_neg (show ¬ 609 < 50 by omega), if_neg (show ¬ 609 < 60 by omega), if_neg (show ¬ 609 < 70 by omega), if_neg (show ¬ 609 < 100 by omega), if_neg (show ¬ 609 < 110 by omega), if_neg (show ¬ 609 < 120 by omega), if_neg (show ¬ 609 < 130 by omega), if_neg (show ¬ 609 < 160 by omega), if_neg (show ¬ 609 < 200 by omega), if_neg (show ¬ 609 < 220 by omega), if_neg (show ¬ 609 < 240 by omega), if_neg (show ¬ 609 < 260 by omega), if_neg (show ¬ 609 < 280 by omega), if_neg (show ¬ 609 < 350 by omega), if_neg (show ¬ 609 < 420 by omega), if_neg (show ¬ 609 < 490 by omega), if_neg (show ¬ 609 < 600 by omega), if_neg (show ¬ 609 < 601 by omega), if_neg (show ¬ 609 < 603 by omega), if_neg (show ¬ 609 < 604 by omega), if_neg (show ¬ 609 < 605 by omega), if_neg (show ¬ 609 < 606 by omega), if_neg (show ¬ 609 < 607 by omega), if_neg (show ¬ 609 < 609 by omega), if_pos (show 609 < 610 by omega)]⟩
theorem F_Mstate (G : GT) (hG : GOK G)  : IA G (610) (24) := by
  have h7 := hG.1
  have ho : okc (gn G) (610) := (Or.inr (Or.inr (Or.inr (Or.inr (Or.inr (Or.inr (Or.inr (Or.inr (Or.inr (Or.inr (Or.inr (Or.inr (Or.inr (Or.inr (Or.inr (Or.inr (Or.inr (Or.inr (Or.inr (Or.inr (Or.inr (Or.inr (Or.inr (Or.inr (Or.inr (Or.inr (Or.inr (Or.inr (Or.inr (Or.inr (Or.inr (Or.inr (Or.inr (Or.inr (Or.inr (Or.inr (Or.inr (Or.inr (Or.inl (by omega))))))))))))))))))))))))))))))))))))))))
  have hm : 610 ∈ Cs G := mem_Cs (by omega) ho (hG.2.2 _ ho (by omega) (by omega))
  exact ⟨hm, by decide, fun r => by
    unfold ec
    rw [if_neg (show ¬ 610 < 1 by omega), if_neg (show ¬ 610 < 2 by omega), if_neg (show ¬ 610 < 3 by omega), if_neg (show ¬ 610 < 4 by omega), if_neg (show ¬ 610 < 5 by omega), if_neg (show ¬ 610 < 6 by omega), if_neg (show ¬ 610 < 7 by omega), if_neg (show ¬ 610 < 8 by omega), if_neg (show ¬ 610 < 9 by omega), if_neg (show ¬ 610 < 10 by omega), if_neg (show ¬ 610 < 20 by omega), if_neg (show ¬ 610 < 30 by omega), if_neg (show ¬ 610 < 40 by omega), if_neg (show ¬ 610 < 50 by omega), if_neg (show ¬ 610 < 60 by omega), if_neg (show ¬ 610 < 70 by omega), if_neg (show ¬ 610 < 100 by omega), if_neg (show ¬ 610 < 110 by omega), if_neg (show ¬ 610 < 120 by omega), if_neg (show ¬ 610 < 130 by omega), if_neg (show ¬ 610 < 160 by omega), if_neg (show ¬ 610 < 200 by omega), if_neg (show ¬ 610 < 220 by omega), if_neg (show ¬ 610 < 240 by omega), if_neg (show ¬ 610 < 260 by omega), if_neg (show ¬ 610 < 280 by omega), if_neg (show ¬ 610 < 350 by omega), if_neg (show ¬ 610 < 420 by omega), if_neg (show ¬ 610 < 490 by omega), if_neg (show ¬ 610 < 600 by omega), if_neg (show ¬ 610 < 601 by omega), if_neg (show ¬ 610 < 603 by omega), if_neg (show ¬ 610 < 604 by omega), if_neg (show ¬ 610 < 605 by omega), if_neg (show ¬ 610 < 606 by omega), if_neg (show ¬ 610 < 607 by omega), if_neg (show ¬ 610 < 609 by omega), if_neg (show ¬ 610 < 610 by omega), if_pos (show 610 < 611 by omega)]⟩
theorem F_Mwrites (G : GT) (hG : GOK G)  : IA G (611) (24) := by
  have h7 := hG.1
  have ho : okc (gn G) (611) := (Or.inr (Or.inr (Or.inr (Or.inr (Or.inr (Or.inr (Or.inr (Or.inr (Or.inr (Or.inr (Or.inr (Or.inr (Or.inr (Or.inr (Or.inr (Or.inr (Or.inr (Or.inr (Or.inr (Or.inr (Or.inr (Or.inr (Or.inr (Or.inr (Or.inr (Or.inr (Or.inr (Or.inr (Or.inr (Or.inr (Or.inr (Or.inr (Or.inr (Or.inr (Or.inr (Or.inr (Or.inr (Or.inr (Or.inr (Or.inl (by omega)))))))))))))))))))))))))))))))))))))))))
  have hm : 611 ∈ Cs G := mem_Cs (by omega) ho (hG.2.2 _ ho (by omega) (by omega))
  exact ⟨hm, by decide, fun r => by
    unfold ec
    rw [if_neg (show ¬ 611 < 1 by omega), if_neg (show ¬ 611 < 2 by omega), if_neg (show ¬ 611 < 3 by omega), if_neg (show ¬ 611 < 4 by omega), if_neg (show ¬ 611 < 5 by omega), if_neg (show ¬ 611 < 6 by omega), if_neg (show ¬ 611 < 7 by omega), if_neg (show ¬ 611 < 8 by omega), if_neg (show ¬ 611 < 9 by omega), if_neg (show ¬ 611 < 10 by omega), if_neg (show ¬ 611 < 20 by omega), if_neg (show ¬ 611 < 30 by omega), if_neg (show ¬ 611 < 40 by omega), if_neg (show ¬ 611 < 50 by omega), if_neg (show ¬ 611 < 60 by omega), if_neg (show ¬ 611 < 70 by omega), if_neg (show ¬ 611 < 100 by omega), if_neg (show ¬ 611 < 110 by omega), if_neg (show ¬ 611 < 120 by omega), if_neg (show ¬ 611 < 130 by omega), if_neg (show ¬ 611 < 160 by omega), if_neg (show ¬ 611 < 200 by omega), if_neg (show ¬ 611 < 220 by omega), if_neg (show ¬ 611 < 240 by omega), if_neg (show ¬ 611 < 260 by omega), if_neg (show ¬ 611 < 280 by omega), if_neg (show ¬ 611 < 350 by omega), if_neg (show ¬ 611 < 420 by omega), if_neg (show ¬ 611 < 490 by omega), if_neg (show ¬ 611 < 600 by omega), if_neg (show ¬ 611 < 601 by omega), if_neg (show ¬ 611 < 603 by omega), if_neg (show ¬ 611 < 604 by omega), if_neg (show ¬ 611 < 605 by omega), if_neg (show ¬ 611 < 606 by omega), if_neg (show ¬ 611 < 607 by omega), if_neg (show ¬ 611 < 609 by omega), if_neg (show ¬ 611 < 610 by omega), if_neg (show ¬ 611 < 611 by omega), if_pos (show 611 < 612 by omega)]⟩
theorem F_Mwritten (G : GT) (hG : GOK G)  : IA G (612) (96) := by
  have h7 := hG.1
  have ho : okc (gn G) (612) := (Or.inr (Or.inr (Or.inr (Or.inr (Or.inr (Or.inr (Or.inr (Or.inr (Or.inr (Or.inr (Or.inr (Or.inr (Or.inr (Or.inr (Or.inr (Or.inr (Or.inr (Or.inr (Or.inr (Or.inr (Or.inr (Or.inr (Or.inr (Or.inr (Or.inr (Or.inr (Or.inr (Or.inr (Or.inr (Or.inr (Or.inr (Or.inr (Or.inr (Or.inr (Or.inr (Or.inr (Or.inr (Or.inr (Or.inr (Or.inr (Or.inl (by omega))))))))))))))))))))))))))))))))))))))))))
  have hm : 612 ∈ Cs G := mem_Cs (by omega) ho (hG.2.2 _ ho (by omega) (by omega))
  exact ⟨hm, by decide, fun r => by
    unfold ec
    rw [if_neg (show ¬ 612 < 1 by omega), if_neg (show ¬ 612 < 2 by omega), if_neg (show ¬ 612 < 3 by omega), if_neg (show ¬ 612 < 4 by omega), if_neg (show ¬ 612 < 5 by omega), if_neg (show ¬ 612 < 6 by omega), if_neg (show ¬ 612 < 7 by omega), if_neg (show ¬ 612 < 8 by omega), if_neg (show ¬ 612 < 9 by omega), if_neg (show ¬ 612 < 10 by omega), if_neg (show ¬ 612 < 20 by omega), if_neg (show ¬ 612 < 30 by omega), if_neg (show ¬ 612 < 40 by omega), if_neg (show ¬ 612 < 50 by omega), if_neg (show ¬ 612 < 60 by omega), if_neg (show ¬ 612 < 70 by omega), if_neg (show ¬ 612 < 100 by omega), if_neg (show ¬ 612 < 110 by omega), if_neg (show ¬ 612 < 120 by omega), if_neg (show ¬ 612 < 130 by omega), if_neg (show ¬ 612 < 160 by omega), if_neg (show ¬ 612 < 200 by omega), if_neg (show ¬ 612 < 220 by omega), if_neg (show ¬ 612 < 240 by omega), if_neg (show ¬ 612 < 260 by omega), if_neg (show ¬ 612 < 280 by omega), if_neg (show ¬ 612 < 350 by omega), if_neg (show ¬ 612 < 420 by omega), if_neg (show ¬ 612 < 490 by omega), if_neg (show ¬ 612 < 600 by omega), if_neg (show ¬ 612 < 601 by omega), if_neg (show ¬ 612 < 603 by omega), if_neg (show ¬ 612 < 604 by omega), if_neg (show ¬ 612 < 605 by omega), if_neg (show ¬ 612 < 606 by omega), if_neg (show ¬ 612 < 607 by omega), if_neg (show ¬ 612 < 609 by omega), if_neg (show ¬ 612 < 610 by omega), if_neg (show ¬ 612 < 611 by omega), if_neg (show ¬ 612 < 612 by omega), if_pos (show 612 < 613 by omega)]⟩
theorem F_Mpromised (G : GT) (hG : GOK G)  : IA G (613) (72) := by
  have h7 := hG.1
  have ho : okc (gn G) (613) := (Or.inr (Or.inr (Or.inr (Or.inr (Or.inr (Or.inr (Or.inr (Or.inr (Or.inr (Or.inr (Or.inr (Or.inr (Or.inr (Or.inr (Or.inr (Or.inr (Or.inr (Or.inr (Or.inr (Or.inr (Or.inr (Or.inr (Or.inr (Or.inr (Or.inr (Or.inr (Or.inr (Or.inr (Or.inr (Or.inr (Or.inr (Or.inr (Or.inr (Or.inr (Or.inr (Or.inr (Or.inr (Or.inr (Or.inr (Or.inr (Or.inr (Or.inl (by omega)))))))))))))))))))))))))))))))))))))))))))
  have hm : 613 ∈ Cs G := mem_Cs (by omega) ho (hG.2.2 _ ho (by omega) (by omega))
  exact ⟨hm, by decide, fun r => by
    unfold ec
    rw [if_neg (show ¬ 613 < 1 by omega), if_neg (show ¬ 613 < 2 by omega), if_neg (show ¬ 613 < 3 by omega), if_neg (show ¬ 613 < 4 by omega), if_neg (show ¬ 613 < 5 by omega), if_neg (show ¬ 613 < 6 by omega), if_neg (show ¬ 613 < 7 by omega), if_neg (show ¬ 613 < 8 by omega), if_neg (show ¬ 613 < 9 by omega), if_neg (show ¬ 613 < 10 by omega), if_neg (show ¬ 613 < 20 by omega), if_neg (show ¬ 613 < 30 by omega), if_neg (show ¬ 613 < 40 by omega), if_neg (show ¬ 613 < 50 by omega), if_neg (show ¬ 613 < 60 by omega), if_neg (show ¬ 613 < 70 by omega), if_neg (show ¬ 613 < 100 by omega), if_neg (show ¬ 613 < 110 by omega), if_neg (show ¬ 613 < 120 by omega), if_neg (show ¬ 613 < 130 by omega), if_neg (show ¬ 613 < 160 by omega), if_neg (show ¬ 613 < 200 by omega), if_neg (show ¬ 613 < 220 by omega), if_neg (show ¬ 613 < 240 by omega), if_neg (show ¬ 613 < 260 by omega), if_neg (show ¬ 613 < 280 by omega), if_neg (show ¬ 613 < 350 by omega), if_neg (show ¬ 613 < 420 by omega), if_neg (show ¬ 613 < 490 by omega), if_neg (show ¬ 613 < 600 by omega), if_neg (show ¬ 613 < 601 by omega), if_neg (show ¬ 613 < 603 by omega), if_neg (show ¬ 613 < 604 by omega), if_neg (show ¬ 613 < 605 by omega), if_neg (show ¬ 613 < 606 by omega), if_neg (show ¬ 613 < 607 by omega), if_neg (show ¬ 613 < 609 by omega), if_neg (show ¬ 613 < 610 by omega), if_neg (show ¬ 613 < 611 by omega), if_neg (show ¬ 613 < 612 by omega), if_neg (show ¬ 613 < 613 by omega), if_pos (show 613 < 614 by omega)]⟩
theorem F_MtakenBallot (G : GT) (hG : GOK G)  : IA G (614) (72) := by
  have h7 := hG.1
  have ho : okc (gn G) (614) := (Or.inr (Or.inr (Or.inr (Or.inr (Or.inr (Or.inr (Or.inr (Or.inr (Or.inr (Or.inr (Or.inr (Or.inr (Or.inr (Or.inr (Or.inr (Or.inr (Or.inr (Or.inr (Or.inr (Or.inr (Or.inr (Or.inr (Or.inr (Or.inr (Or.inr (Or.inr (Or.inr (Or.inr (Or.inr (Or.inr (Or.inr (Or.inr (Or.inr (Or.inr (Or.inr (Or.inr (Or.inr (Or.inr (Or.inr (Or.inr (Or.inr (Or.inr (Or.inl (by omega))))))))))))))))))))))))))))))))))))))))))))
  have hm : 614 ∈ Cs G := mem_Cs (by omega) ho (hG.2.2 _ ho (by omega) (by omega))
  exact ⟨hm, by decide, fun r => by
    unfold ec
    rw [if_neg (show ¬ 614 < 1 by omega), if_neg (show ¬ 614 < 2 by omega), if_neg (show ¬ 614 < 3 by omega), if_neg (show ¬ 614 < 4 by omega), if_neg (show ¬ 614 < 5 by omega), if_neg (show ¬ 614 < 6 by omega), if_neg (show ¬ 614 < 7 by omega), if_neg (show ¬ 614 < 8 by omega), if_neg (show ¬ 614 < 9 by omega), if_neg (show ¬ 614 < 10 by omega), if_neg (show ¬ 614 < 20 by omega), if_neg (show ¬ 614 < 30 by omega), if_neg (show ¬ 614 < 40 by omega), if_neg (show ¬ 614 < 50 by omega), if_neg (show ¬ 614 < 60 by omega), if_neg (show ¬ 614 < 70 by omega), if_neg (show ¬ 614 < 100 by omega), if_neg (show ¬ 614 < 110 by omega), if_neg (show ¬ 614 < 120 by omega), if_neg (show ¬ 614 < 130 by omega), if_neg (show ¬ 614 < 160 by omega), if_neg (show ¬ 614 < 200 by omega), if_neg (show ¬ 614 < 220 by omega), if_neg (show ¬ 614 < 240 by omega), if_neg (show ¬ 614 < 260 by omega), if_neg (show ¬ 614 < 280 by omega), if_neg (show ¬ 614 < 350 by omega), if_neg (show ¬ 614 < 420 by omega), if_neg (show ¬ 614 < 490 by omega), if_neg (show ¬ 614 < 600 by omega), if_neg (show ¬ 614 < 601 by omega), if_neg (show ¬ 614 < 603 by omega), if_neg (show ¬ 614 < 604 by omega), if_neg (show ¬ 614 < 605 by omega), if_neg (show ¬ 614 < 606 by omega), if_neg (show ¬ 614 < 607 by omega), if_neg (show ¬ 614 < 609 by omega), if_neg (show ¬ 614 < 610 by omega), if_neg (show ¬ 614 < 611 by omega), if_neg (show ¬ 614 < 612 by omega), if_neg (show ¬ 614 < 613 by omega), if_neg (show ¬ 614 < 614 by omega), if_pos (show 614 < 615 by omega)]⟩
theorem F_MtakenVote (G : GT) (hG : GOK G)  : IA G (615) (72) := by
  have h7 := hG.1
  have ho : okc (gn G) (615) := (Or.inr (Or.inr (Or.inr (Or.inr (Or.inr (Or.inr (Or.inr (Or.inr (Or.inr (Or.inr (Or.inr (Or.inr (Or.inr (Or.inr (Or.inr (Or.inr (Or.inr (Or.inr (Or.inr (Or.inr (Or.inr (Or.inr (Or.inr (Or.inr (Or.inr (Or.inr (Or.inr (Or.inr (Or.inr (Or.inr (Or.inr (Or.inr (Or.inr (Or.inr (Or.inr (Or.inr (Or.inr (Or.inr (Or.inr (Or.inr (Or.inr (Or.inr (Or.inr (Or.inl (by omega)))))))))))))))))))))))))))))))))))))))))))))
  have hm : 615 ∈ Cs G := mem_Cs (by omega) ho (hG.2.2 _ ho (by omega) (by omega))
  exact ⟨hm, by decide, fun r => by
    unfold ec
    rw [if_neg (show ¬ 615 < 1 by omega), if_neg (show ¬ 615 < 2 by omega), if_neg (show ¬ 615 < 3 by omega), if_neg (show ¬ 615 < 4 by omega), if_neg (show ¬ 615 < 5 by omega), if_neg (show ¬ 615 < 6 by omega), if_neg (show ¬ 615 < 7 by omega), if_neg (show ¬ 615 < 8 by omega), if_neg (show ¬ 615 < 9 by omega), if_neg (show ¬ 615 < 10 by omega), if_neg (show ¬ 615 < 20 by omega), if_neg (show ¬ 615 < 30 by omega), if_neg (show ¬ 615 < 40 by omega), if_neg (show ¬ 615 < 50 by omega), if_neg (show ¬ 615 < 60 by omega), if_neg (show ¬ 615 < 70 by omega), if_neg (show ¬ 615 < 100 by omega), if_neg (show ¬ 615 < 110 by omega), if_neg (show ¬ 615 < 120 by omega), if_neg (show ¬ 615 < 130 by omega), if_neg (show ¬ 615 < 160 by omega), if_neg (show ¬ 615 < 200 by omega), if_neg (show ¬ 615 < 220 by omega), if_neg (show ¬ 615 < 240 by omega), if_neg (show ¬ 615 < 260 by omega), if_neg (show ¬ 615 < 280 by omega), if_neg (show ¬ 615 < 350 by omega), if_neg (show ¬ 615 < 420 by omega), if_neg (show ¬ 615 < 490 by omega), if_neg (show ¬ 615 < 600 by omega), if_neg (show ¬ 615 < 601 by omega), if_neg (show ¬ 615 < 603 by omega), if_neg (show ¬ 615 < 604 by omega), if_neg (show ¬ 615 < 605 by omega), if_neg (show ¬ 615 < 606 by omega), if_neg (show ¬ 615 < 607 by omega), if_neg (show ¬ 615 < 609 by omega), if_neg (show ¬ 615 < 610 by omega), if_neg (show ¬ 615 < 611 by omega), if_neg (show ¬ 615 < 612 by omega), if_neg (show ¬ 615 < 613 by omega), if_neg (show ¬ 615 < 614 by omega), if_neg (show ¬ 615 < 615 by omega), if_pos (show 615 < 616 by omega)]⟩
theorem F_Mballot (G : GT) (hG : GOK G)  : IA G (616) (16) := by
  have h7 := hG.1
  have ho : okc (gn G) (616) := (Or.inr (Or.inr (Or.inr (Or.inr (Or.inr (Or.inr (Or.inr (Or.inr (Or.inr (Or.inr (Or.inr (Or.inr (Or.inr (Or.inr (Or.inr (Or.inr (Or.inr (Or.inr (Or.inr (Or.inr (Or.inr (Or.inr (Or.inr (Or.inr (Or.inr (Or.inr (Or.inr (Or.inr (Or.inr (Or.inr (Or.inr (Or.inr (Or.inr (Or.inr (Or.inr (Or.inr (Or.inr (Or.inr (Or.inr (Or.inr (Or.inr (Or.inr (Or.inr (Or.inr (Or.inl (by omega))))))))))))))))))))))))))))))))))))))))))))))
  have hm : 616 ∈ Cs G := mem_Cs (by omega) ho (hG.2.2 _ ho (by omega) (by omega))
  exact ⟨hm, by decide, fun r => by
    unfold ec
    rw [if_neg (show ¬ 616 < 1 by omega), if_neg (show ¬ 616 < 2 by omega), if_neg (show ¬ 616 < 3 by omega), if_neg (show ¬ 616 < 4 by omega), if_neg (show ¬ 616 < 5 by omega), if_neg (show ¬ 616 < 6 by omega), if_neg (show ¬ 616 < 7 by omega), if_neg (show ¬ 616 < 8 by omega), if_neg (show ¬ 616 < 9 by omega), if_neg (show ¬ 616 < 10 by omega), if_neg (show ¬ 616 < 20 by omega), if_neg (show ¬ 616 < 30 by omega), if_neg (show ¬ 616 < 40 by omega), if_neg (show ¬ 616 < 50 by omega), if_neg (show ¬ 616 < 60 by omega), if_neg (show ¬ 616 < 70 by omega), if_neg (show ¬ 616 < 100 by omega), if_neg (show ¬ 616 < 110 by omega), if_neg (show ¬ 616 < 120 by omega), if_neg (show ¬ 616 < 130 by omega), if_neg (show ¬ 616 < 160 by omega), if_neg (show ¬ 616 < 200 by omega), if_neg (show ¬ 616 < 220 by omega), if_neg (show ¬ 616 < 240 by omega), if_neg (show ¬ 616 < 260 by omega), if_neg (show ¬ 616 < 280 by omega), if_neg (show ¬ 616 < 350 by omega), if_neg (show ¬ 616 < 420 by omega), if_neg (show ¬ 616 < 490 by omega), if_neg (show ¬ 616 < 600 by omega), if_neg (show ¬ 616 < 601 by omega), if_neg (show ¬ 616 < 603 by omega), if_neg (show ¬ 616 < 604 by omega), if_neg (show ¬ 616 < 605 by omega), if_neg (show ¬ 616 < 606 by omega), if_neg (show ¬ 616 < 607 by omega), if_neg (show ¬ 616 < 609 by omega), if_neg (show ¬ 616 < 610 by omega), if_neg (show ¬ 616 < 611 by omega), if_neg (show ¬ 616 < 612 by omega), if_neg (show ¬ 616 < 613 by omega), if_neg (show ¬ 616 < 614 by omega), if_neg (show ¬ 616 < 615 by omega), if_neg (show ¬ 616 < 616 by omega), if_pos (show 616 < 617 by omega)]⟩
theorem F_Mproposed (G : GT) (hG : GOK G)  : ZA G (617) (16) := by
  have h7 := hG.1
  have ho : okc (gn G) (617) := (Or.inr (Or.inr (Or.inr (Or.inr (Or.inr (Or.inr (Or.inr (Or.inr (Or.inr (Or.inr (Or.inr (Or.inr (Or.inr (Or.inr (Or.inr (Or.inr (Or.inr (Or.inr (Or.inr (Or.inr (Or.inr (Or.inr (Or.inr (Or.inr (Or.inr (Or.inr (Or.inr (Or.inr (Or.inr (Or.inr (Or.inr (Or.inr (Or.inr (Or.inr (Or.inr (Or.inr (Or.inr (Or.inr (Or.inr (Or.inr (Or.inr (Or.inr (Or.inr (Or.inr (Or.inr (Or.inl (by omega)))))))))))))))))))))))))))))))))))))))))))))))
  have hm : 617 ∈ Cs G := mem_Cs (by omega) ho (hG.2.2 _ ho (by omega) (by omega))
  exact ⟨hm, by decide, fun r => by
    unfold ec
    rw [if_neg (show ¬ 617 < 1 by omega), if_neg (show ¬ 617 < 2 by omega), if_neg (show ¬ 617 < 3 by omega), if_neg (show ¬ 617 < 4 by omega), if_neg (show ¬ 617 < 5 by omega), if_neg (show ¬ 617 < 6 by omega), if_neg (show ¬ 617 < 7 by omega), if_neg (show ¬ 617 < 8 by omega), if_neg (show ¬ 617 < 9 by omega), if_neg (show ¬ 617 < 10 by omega), if_neg (show ¬ 617 < 20 by omega), if_neg (show ¬ 617 < 30 by omega), if_neg (show ¬ 617 < 40 by omega), if_neg (show ¬ 617 < 50 by omega), if_neg (show ¬ 617 < 60 by omega), if_neg (show ¬ 617 < 70 by omega), if_neg (show ¬ 617 < 100 by omega), if_neg (show ¬ 617 < 110 by omega), if_neg (show ¬ 617 < 120 by omega), if_neg (show ¬ 617 < 130 by omega), if_neg (show ¬ 617 < 160 by omega), if_neg (show ¬ 617 < 200 by omega), if_neg (show ¬ 617 < 220 by omega), if_neg (show ¬ 617 < 240 by omega), if_neg (show ¬ 617 < 260 by omega), if_neg (show ¬ 617 < 280 by omega), if_neg (show ¬ 617 < 350 by omega), if_neg (show ¬ 617 < 420 by omega), if_neg (show ¬ 617 < 490 by omega), if_neg (show ¬ 617 < 600 by omega), if_neg (show ¬ 617 < 601 by omega), if_neg (show ¬ 617 < 603 by omega), if_neg (show ¬ 617 < 604 by omega), if_neg (show ¬ 617 < 605 by omega), if_neg (show ¬ 617 < 606 by omega), if_neg (show ¬ 617 < 607 by omega), if_neg (show ¬ 617 < 609 by omega), if_neg (show ¬ 617 < 610 by omega), if_neg (show ¬ 617 < 611 by omega), if_neg (show ¬ 617 < 612 by omega), if_neg (show ¬ 617 < 613 by omega), if_neg (show ¬ 617 < 614 by omega), if_neg (show ¬ 617 < 615 by omega), if_neg (show ¬ 617 < 616 by omega), if_neg (show ¬ 617 < 617 by omega), if_pos (show 617 < 618 by omega)]⟩
theorem F_Mknown (G : GT) (hG : GOK G)  : IA G (618) (16) := by
  have h7 := hG.1
  have ho : okc (gn G) (618) := (Or.inr (Or.inr (Or.inr (Or.inr (Or.inr (Or.inr (Or.inr (Or.inr (Or.inr (Or.inr (Or.inr (Or.inr (Or.inr (Or.inr (Or.inr (Or.inr (Or.inr (Or.inr (Or.inr (Or.inr (Or.inr (Or.inr (Or.inr (Or.inr (Or.inr (Or.inr (Or.inr (Or.inr (Or.inr (Or.inr (Or.inr (Or.inr (Or.inr (Or.inr (Or.inr (Or.inr (Or.inr (Or.inr (Or.inr (Or.inr (Or.inr (Or.inr (Or.inr (Or.inr (Or.inr (Or.inr (Or.inl (by omega))))))))))))))))))))))))))))))))))))))))))))))))
  have hm : 618 ∈ Cs G := mem_Cs (by omega) ho (hG.2.2 _ ho (by omega) (by omega))
  exact ⟨hm, by decide, fun r => by
    unfold ec
    rw [if_neg (show ¬ 618 < 1 by omega), if_neg (show ¬ 618 < 2 by omega), if_neg (show ¬ 618 < 3 by omega), if_neg (show ¬ 618 < 4 by omega), if_neg (show ¬ 618 < 5 by omega), if_neg (show ¬ 618 < 6 by omega), if_neg (show ¬ 618 < 7 by omega), if_neg (show ¬ 618 < 8 by omega), if_neg (show ¬ 618 < 9 by omega), if_neg (show ¬ 618 < 10 by omega), if_neg (show ¬ 618 < 20 by omega), if_neg (show ¬ 618 < 30 by omega), if_neg (show ¬ 618 < 40 by omega), if_neg (show ¬ 618 < 50 by omega), if_neg (show ¬ 618 < 60 by omega), if_neg (show ¬ 618 < 70 by omega), if_neg (show ¬ 618 < 100 by omega), if_neg (show ¬ 618 < 110 by omega), if_neg (show ¬ 618 < 120 by omega), if_neg (show ¬ 618 < 130 by omega), if_neg (show ¬ 618 < 160 by omega), if_neg (show ¬ 618 < 200 by omega), if_neg (show ¬ 618 < 220 by omega), if_neg (show ¬ 618 < 240 by omega), if_neg (show ¬ 618 < 260 by omega), if_neg (show ¬ 618 < 280 by omega), if_neg (show ¬ 618 < 350 by omega), if_neg (show ¬ 618 < 420 by omega), if_neg (show ¬ 618 < 490 by omega), if_neg (show ¬ 618 < 600 by omega), if_neg (show ¬ 618 < 601 by omega), if_neg (show ¬ 618 < 603 by omega), if_neg (show ¬ 618 < 604 by omega), if_neg (show ¬ 618 < 605 by omega), if_neg (show ¬ 618 < 606 by omega), if_neg (show ¬ 618 < 607 by omega), if_neg (show ¬ 618 < 609 by omega), if_neg (show ¬ 618 < 610 by omega), if_neg (show ¬ 618 < 611 by omega), if_neg (show ¬ 618 < 612 by omega), if_neg (show ¬ 618 < 613 by omega), if_neg (show ¬ 618 < 614 by omega), if_neg (show ¬ 618 < 615 by omega), if_neg (show ¬ 618 < 616 by omega), if_neg (show ¬ 618 < 617 by omega), if_neg (show ¬ 618 < 618 by omega), if_pos (show 618 < 619 by omega)]⟩
theorem F_Mreplied (G : GT) (hG : GOK G)  : ZA G (619) (48) := by
  have h7 := hG.1
  have ho : okc (gn G) (619) := (Or.inr (Or.inr (Or.inr (Or.inr (Or.inr (Or.inr (Or.inr (Or.inr (Or.inr (Or.inr (Or.inr (Or.inr (Or.inr (Or.inr (Or.inr (Or.inr (Or.inr (Or.inr (Or.inr (Or.inr (Or.inr (Or.inr (Or.inr (Or.inr (Or.inr (Or.inr (Or.inr (Or.inr (Or.inr (Or.inr (Or.inr (Or.inr (Or.inr (Or.inr (Or.inr (Or.inr (Or.inr (Or.inr (Or.inr (Or.inr (Or.inr (Or.inr (Or.inr (Or.inr (Or.inr (Or.inr (Or.inr (Or.inl (by omega)))))))))))))))))))))))))))))))))))))))))))))))))
  have hm : 619 ∈ Cs G := mem_Cs (by omega) ho (hG.2.2 _ ho (by omega) (by omega))
  exact ⟨hm, by decide, fun r => by
    unfold ec
    rw [if_neg (show ¬ 619 < 1 by omega), if_neg (show ¬ 619 < 2 by omega), if_neg (show ¬ 619 < 3 by omega), if_neg (show ¬ 619 < 4 by omega), if_neg (show ¬ 619 < 5 by omega), if_neg (show ¬ 619 < 6 by omega), if_neg (show ¬ 619 < 7 by omega), if_neg (show ¬ 619 < 8 by omega), if_neg (show ¬ 619 < 9 by omega), if_neg (show ¬ 619 < 10 by omega), if_neg (show ¬ 619 < 20 by omega), if_neg (show ¬ 619 < 30 by omega), if_neg (show ¬ 619 < 40 by omega), if_neg (show ¬ 619 < 50 by omega), if_neg (show ¬ 619 < 60 by omega), if_neg (show ¬ 619 < 70 by omega), if_neg (show ¬ 619 < 100 by omega), if_neg (show ¬ 619 < 110 by omega), if_neg (show ¬ 619 < 120 by omega), if_neg (show ¬ 619 < 130 by omega), if_neg (show ¬ 619 < 160 by omega), if_neg (show ¬ 619 < 200 by omega), if_neg (show ¬ 619 < 220 by omega), if_neg (show ¬ 619 < 240 by omega), if_neg (show ¬ 619 < 260 by omega), if_neg (show ¬ 619 < 280 by omega), if_neg (show ¬ 619 < 350 by omega), if_neg (show ¬ 619 < 420 by omega), if_neg (show ¬ 619 < 490 by omega), if_neg (show ¬ 619 < 600 by omega), if_neg (show ¬ 619 < 601 by omega), if_neg (show ¬ 619 < 603 by omega), if_neg (show ¬ 619 < 604 by omega), if_neg (show ¬ 619 < 605 by omega), if_neg (show ¬ 619 < 606 by omega), if_neg (show ¬ 619 < 607 by omega), if_neg (show ¬ 619 < 609 by omega), if_neg (show ¬ 619 < 610 by omega), if_neg (show ¬ 619 < 611 by omega), if_neg (show ¬ 619 < 612 by omega), if_neg (show ¬ 619 < 613 by omega), if_neg (show ¬ 619 < 614 by omega), if_neg (show ¬ 619 < 615 by omega), if_neg (show ¬ 619 < 616 by omega), if_neg (show ¬ 619 < 617 by omega), if_neg (show ¬ 619 < 618 by omega), if_neg (show ¬ 619 < 619 by omega), if_pos (show 619 < 620 by omega)]⟩
theorem F_MreplyBallot (G : GT) (hG : GOK G)  : IA G (620) (144) := by
  have h7 := hG.1
  have ho : okc (gn G) (620) := (Or.inr (Or.inr (Or.inr (Or.inr (Or.inr (Or.inr (Or.inr (Or.inr (Or.inr (Or.inr (Or.inr (Or.inr (Or.inr (Or.inr (Or.inr (Or.inr (Or.inr (Or.inr (Or.inr (Or.inr (Or.inr (Or.inr (Or.inr (Or.inr (Or.inr (Or.inr (Or.inr (Or.inr (Or.inr (Or.inr (Or.inr (Or.inr (Or.inr (Or.inr (Or.inr (Or.inr (Or.inr (Or.inr (Or.inr (Or.inr (Or.inr (Or.inr (Or.inr (Or.inr (Or.inr (Or.inr (Or.inr (Or.inr (Or.inl (by omega))))))))))))))))))))))))))))))))))))))))))))))))))
  have hm : 620 ∈ Cs G := mem_Cs (by omega) ho (hG.2.2 _ ho (by omega) (by omega))
  exact ⟨hm, by decide, fun r => by
    unfold ec
    rw [if_neg (show ¬ 620 < 1 by omega), if_neg (show ¬ 620 < 2 by omega), if_neg (show ¬ 620 < 3 by omega), if_neg (show ¬ 620 < 4 by omega), if_neg (show ¬ 620 < 5 by omega), if_neg (show ¬ 620 < 6 by omega), if_neg (show ¬ 620 < 7 by omega), if_neg (show ¬ 620 < 8 by omega), if_neg (show ¬ 620 < 9 by omega), if_neg (show ¬ 620 < 10 by omega), if_neg (show ¬ 620 < 20 by omega), if_neg (show ¬ 620 < 30 by omega), if_neg (show ¬ 620 < 40 by omega), if_neg (show ¬ 620 < 50 by omega), if_neg (show ¬ 620 < 60 by omega), if_neg (show ¬ 620 < 70 by omega), if_neg (show ¬ 620 < 100 by omega), if_neg (show ¬ 620 < 110 by omega), if_neg (show ¬ 620 < 120 by omega), if_neg (show ¬ 620 < 130 by omega), if_neg (show ¬ 620 < 160 by omega), if_neg (show ¬ 620 < 200 by omega), if_neg (show ¬ 620 < 220 by omega), if_neg (show ¬ 620 < 240 by omega), if_neg (show ¬ 620 < 260 by omega), if_neg (show ¬ 620 < 280 by omega), if_neg (show ¬ 620 < 350 by omega), if_neg (show ¬ 620 < 420 by omega), if_neg (show ¬ 620 < 490 by omega), if_neg (show ¬ 620 < 600 by omega), if_neg (show ¬ 620 < 601 by omega), if_neg (show ¬ 620 < 603 by omega), if_neg (show ¬ 620 < 604 by omega), if_neg (show ¬ 620 < 605 by omega), if_neg (show ¬ 620 < 606 by omega), if_neg (show ¬ 620 < 607 by omega), if_neg (show ¬ 620 < 609 by omega), if_neg (show ¬ 620 < 610 by omega), if_neg (show ¬ 620 < 611 by omega), if_neg (show ¬ 620 < 612 by omega), if_neg (show ¬ 620 < 613 by omega), if_neg (show ¬ 620 < 614 by omega), if_neg (show ¬ 620 < 615 by omega), if_neg (show ¬ 620 < 616 by omega), if_neg (show ¬ 620 < 617 by omega), if_neg (show ¬ 620 < 618 by omega), if_neg (show ¬ 620 < 619 by omega), if_neg (show ¬ 620 < 620 by omega), if_pos (show 620 < 621 by omega)]⟩
theorem F_MreplyVote (G : GT) (hG : GOK G)  : IA G (621) (144) := by
  have h7 := hG.1
  have ho : okc (gn G) (621) := (Or.inr (Or.inr (Or.inr (Or.inr (Or.inr (Or.inr (Or.inr (Or.inr (Or.inr (Or.inr (Or.inr (Or.inr (Or.inr (Or.inr (Or.inr (Or.inr (Or.inr (Or.inr (Or.inr (Or.inr (Or.inr (Or.inr (Or.inr (Or.inr (Or.inr (Or.inr (Or.inr (Or.inr (Or.inr (Or.inr (Or.inr (Or.inr (Or.inr (Or.inr (Or.inr (Or.inr (Or.inr (Or.inr (Or.inr (Or.inr (Or.inr (Or.inr (Or.inr (Or.inr (Or.inr (Or.inr (Or.inr (Or.inr (Or.inr (Or.inl (by omega)))))))))))))))))))))))))))))))))))))))))))))))))))
  have hm : 621 ∈ Cs G := mem_Cs (by omega) ho (hG.2.2 _ ho (by omega) (by omega))
  exact ⟨hm, by decide, fun r => by
    unfold ec
    rw [if_neg (show ¬ 621 < 1 by omega), if_neg (show ¬ 621 < 2 by omega), if_neg (show ¬ 621 < 3 by omega), if_neg (show ¬ 621 < 4 by omega), if_neg (show ¬ 621 < 5 by omega), if_neg (show ¬ 621 < 6 by omega), if_neg (show ¬ 621 < 7 by omega), if_neg (show ¬ 621 < 8 by omega), if_neg (show ¬ 621 < 9 by omega), if_neg (show ¬ 621 < 10 by omega), if_neg (show ¬ 621 < 20 by omega), if_neg (show ¬ 621 < 30 by omega), if_neg (show ¬ 621 < 40 by omega), if_neg (show ¬ 621 < 50 by omega), if_neg (show ¬ 621 < 60 by omega), if_neg (show ¬ 621 < 70 by omega), if_neg (show ¬ 621 < 100 by omega), if_neg (show ¬ 621 < 110 by omega), if_neg (show ¬ 621 < 120 by omega), if_neg (show ¬ 621 < 130 by omega), if_neg (show ¬ 621 < 160 by omega), if_neg (show ¬ 621 < 200 by omega), if_neg (show ¬ 621 < 220 by omega), if_neg (show ¬ 621 < 240 by omega), if_neg (show ¬ 621 < 260 by omega), if_neg (show ¬ 621 < 280 by omega), if_neg (show ¬ 621 < 350 by omega), if_neg (show ¬ 621 < 420 by omega), if_neg (show ¬ 621 < 490 by omega), if_neg (show ¬ 621 < 600 by omega), if_neg (show ¬ 621 < 601 by omega), if_neg (show ¬ 621 < 603 by omega), if_neg (show ¬ 621 < 604 by omega), if_neg (show ¬ 621 < 605 by omega), if_neg (show ¬ 621 < 606 by omega), if_neg (show ¬ 621 < 607 by omega), if_neg (show ¬ 621 < 609 by omega), if_neg (show ¬ 621 < 610 by omega), if_neg (show ¬ 621 < 611 by omega), if_neg (show ¬ 621 < 612 by omega), if_neg (show ¬ 621 < 613 by omega), if_neg (show ¬ 621 < 614 by omega), if_neg (show ¬ 621 < 615 by omega), if_neg (show ¬ 621 < 616 by omega), if_neg (show ¬ 621 < 617 by omega), if_neg (show ¬ 621 < 618 by omega), if_neg (show ¬ 621 < 619 by omega), if_neg (show ¬ 621 < 620 by omega), if_neg (show ¬ 621 < 621 by omega), if_pos (show 621 < 622 by omega)]⟩
theorem F_MlatestBallot (G : GT) (hG : GOK G)  : IA G (622) (144) := by
  have h7 := hG.1
  have ho : okc (gn G) (622) := (Or.inr (Or.inr (Or.inr (Or.inr (Or.inr (Or.inr (Or.inr (Or.inr (Or.inr (Or.inr (Or.inr (Or.inr (Or.inr (Or.inr (Or.inr (Or.inr (Or.inr (Or.inr (Or.inr (Or.inr (Or.inr (Or.inr (Or.inr (Or.inr (Or.inr (Or.inr (Or.inr (Or.inr (Or.inr (Or.inr (Or.inr (Or.inr (Or.inr (Or.inr (Or.inr (Or.inr (Or.inr (Or.inr (Or.inr (Or.inr (Or.inr (Or.inr (Or.inr (Or.inr (Or.inr (Or.inr (Or.inr (Or.inr (Or.inr (Or.inr (Or.inl (by omega))))))))))))))))))))))))))))))))))))))))))))))))))))
  have hm : 622 ∈ Cs G := mem_Cs (by omega) ho (hG.2.2 _ ho (by omega) (by omega))
  exact ⟨hm, by decide, fun r => by
    unfold ec
    rw [if_neg (show ¬ 622 < 1 by omega), if_neg (show ¬ 622 < 2 by omega), if_neg (show ¬ 622 < 3 by omega), if_neg (show ¬ 622 < 4 by omega), if_neg (show ¬ 622 < 5 by omega), if_neg (show ¬ 622 < 6 by omega), if_neg (show ¬ 622 < 7 by omega), if_neg (show ¬ 622 < 8 by omega), if_neg (show ¬ 622 < 9 by omega), if_neg (show ¬ 622 < 10 by omega), if_neg (show ¬ 622 < 20 by omega), if_neg (show ¬ 622 < 30 by omega), if_neg (show ¬ 622 < 40 by omega), if_neg (show ¬ 622 < 50 by omega), if_neg (show ¬ 622 < 60 by omega), if_neg (show ¬ 622 < 70 by omega), if_neg (show ¬ 622 < 100 by omega), if_neg (show ¬ 622 < 110 by omega), if_neg (show ¬ 622 < 120 by omega), if_neg (show ¬ 622 < 130 by omega), if_neg (show ¬ 622 < 160 by omega), if_neg (show ¬ 622 < 200 by omega), if_neg (show ¬ 622 < 220 by omega), if_neg (show ¬ 622 < 240 by omega), if_neg (show ¬ 622 < 260 by omega), if_neg (show ¬ 622 < 280 by omega), if_neg (show ¬ 622 < 350 by omega), if_neg (show ¬ 622 < 420 by omega), if_neg (show ¬ 622 < 490 by omega), if_neg (show ¬ 622 < 600 by omega), if_neg (show ¬ 622 < 601 by omega), if_neg (show ¬ 622 < 603 by omega), if_neg (show ¬ 622 < 604 by omega), if_neg (show ¬ 622 < 605 by omega), if_neg (show ¬ 622 < 606 by omega), if_neg (show ¬ 622 < 607 by omega), if_neg (show ¬ 622 < 609 by omega), if_neg (show ¬ 622 < 610 by omega), if_neg (show ¬ 622 < 611 by omega), if_neg (show ¬ 622 < 612 by omega), if_neg (show ¬ 622 < 613 by omega), if_neg (show ¬ 622 < 614 by omega), if_neg (show ¬ 622 < 615 by omega), if_neg (show ¬ 622 < 616 by omega), if_neg (show ¬ 622 < 617 by omega), if_neg (show ¬ 622 < 618 by omega), if_neg (show ¬ 622 < 619 by omega), if_neg (show ¬ 622 < 620 by omega), if_neg (show ¬ 622 < 621 by omega), if_neg (show ¬ 622 < 622 by omega), if_pos (show 622 < 623 by omega)]⟩
theorem F_MlatestVote (G : GT) (hG : GOK G)  : IA G (623) (144) := by
  have h7 := hG.1
  have ho : okc (gn G) (623) := (Or.inr (Or.inr (Or.inr (Or.inr (Or.inr (Or.inr (Or.inr (Or.inr (Or.inr (Or.inr (Or.inr (Or.inr (Or.inr (Or.inr (Or.inr (Or.inr (Or.inr (Or.inr (Or.inr (Or.inr (Or.inr (Or.inr (Or.inr (Or.inr (Or.inr (Or.inr (Or.inr (Or.inr (Or.inr (Or.inr (Or.inr (Or.inr (Or.inr (Or.inr (Or.inr (Or.inr (Or.inr (Or.inr (Or.inr (Or.inr (Or.inr (Or.inr (Or.inr (Or.inr (Or.inr (Or.inr (Or.inr (Or.inr (Or.inr (Or.inr (Or.inr (Or.inl (by omega)))))))))))))))))))))))))))))))))))))))))))))))))))))
  have hm : 623 ∈ Cs G := mem_Cs (by omega) ho (hG.2.2 _ ho (by omega) (by omega))
  exact ⟨hm, by decide, fun r => by
    unfold ec
    rw [if_neg (show ¬ 623 < 1 by omega), if_neg (show ¬ 623 < 2 by omega), if_neg (show ¬ 623 < 3 by omega), if_neg (show ¬ 623 < 4 by omega), if_neg (show ¬ 623 < 5 by omega), if_neg (show ¬ 623 < 6 by omega), if_neg (show ¬ 623 < 7 by omega), if_neg (show ¬ 623 < 8 by omega), if_neg (show ¬ 623 < 9 by omega), if_neg (show ¬ 623 < 10 by omega), if_neg (show ¬ 623 < 20 by omega), if_neg (show ¬ 623 < 30 by omega), if_neg (show ¬ 623 < 40 by omega), if_neg (show ¬ 623 < 50 by omega), if_neg (show ¬ 623 < 60 by omega), if_neg (show ¬ 623 < 70 by omega), if_neg (show ¬ 623 < 100 by omega), if_neg (show ¬ 623 < 110 by omega), if_neg (show ¬ 623 < 120 by omega), if_neg (show ¬ 623 < 130 by omega), if_neg (show ¬ 623 < 160 by omega), if_neg (show ¬ 623 < 200 by omega), if_neg (show ¬ 623 < 220 by omega), if_neg (show ¬ 623 < 240 by omega), if_neg (show ¬ 623 < 260 by omega), if_neg (show ¬ 623 < 280 by omega), if_neg (show ¬ 623 < 350 by omega), if_neg (show ¬ 623 < 420 by omega), if_neg (show ¬ 623 < 490 by omega), if_neg (show ¬ 623 < 600 by omega), if_neg (show ¬ 623 < 601 by omega), if_neg (show ¬ 623 < 603 by omega), if_neg (show ¬ 623 < 604 by omega), if_neg (show ¬ 623 < 605 by omega), if_neg (show ¬ 623 < 606 by omega), if_neg (show ¬ 623 < 607 by omega), if_neg (show ¬ 623 < 609 by omega), if_neg (show ¬ 623 < 610 by omega), if_neg (show ¬ 623 < 611 by omega), if_neg (show ¬ 623 < 612 by omega), if_neg (show ¬ 623 < 613 by omega), if_neg (show ¬ 623 < 614 by omega), if_neg (show ¬ 623 < 615 by omega), if_neg (show ¬ 623 < 616 by omega), if_neg (show ¬ 623 < 617 by omega), if_neg (show ¬ 623 < 618 by omega), if_neg (show ¬ 623 < 619 by omega), if_neg (show ¬ 623 < 620 by omega), if_neg (show ¬ 623 < 621 by omega), if_neg (show ¬ 623 < 622 by omega), if_neg (show ¬ 623 < 623 by omega), if_pos (show 623 < 624 by omega)]⟩
theorem F_Mnet (G : GT) (hG : GOK G)  : IA G (624) (793) := by
  have h7 := hG.1
  have ho : okc (gn G) (624) := (Or.inr (Or.inr (Or.inr (Or.inr (Or.inr (Or.inr (Or.inr (Or.inr (Or.inr (Or.inr (Or.inr (Or.inr (Or.inr (Or.inr (Or.inr (Or.inr (Or.inr (Or.inr (Or.inr (Or.inr (Or.inr (Or.inr (Or.inr (Or.inr (Or.inr (Or.inr (Or.inr (Or.inr (Or.inr (Or.inr (Or.inr (Or.inr (Or.inr (Or.inr (Or.inr (Or.inr (Or.inr (Or.inr (Or.inr (Or.inr (Or.inr (Or.inr (Or.inr (Or.inr (Or.inr (Or.inr (Or.inr (Or.inr (Or.inr (Or.inr (Or.inr (Or.inr (by omega)))))))))))))))))))))))))))))))))))))))))))))))))))))
  have hm : 624 ∈ Cs G := mem_Cs (by omega) ho (hG.2.2 _ ho (by omega) (by omega))
  exact ⟨hm, by decide, fun r => by
    unfold ec
    rw [if_neg (show ¬ 624 < 1 by omega), if_neg (show ¬ 624 < 2 by omega), if_neg (show ¬ 624 < 3 by omega), if_neg (show ¬ 624 < 4 by omega), if_neg (show ¬ 624 < 5 by omega), if_neg (show ¬ 624 < 6 by omega), if_neg (show ¬ 624 < 7 by omega), if_neg (show ¬ 624 < 8 by omega), if_neg (show ¬ 624 < 9 by omega), if_neg (show ¬ 624 < 10 by omega), if_neg (show ¬ 624 < 20 by omega), if_neg (show ¬ 624 < 30 by omega), if_neg (show ¬ 624 < 40 by omega), if_neg (show ¬ 624 < 50 by omega), if_neg (show ¬ 624 < 60 by omega), if_neg (show ¬ 624 < 70 by omega), if_neg (show ¬ 624 < 100 by omega), if_neg (show ¬ 624 < 110 by omega), if_neg (show ¬ 624 < 120 by omega), if_neg (show ¬ 624 < 130 by omega), if_neg (show ¬ 624 < 160 by omega), if_neg (show ¬ 624 < 200 by omega), if_neg (show ¬ 624 < 220 by omega), if_neg (show ¬ 624 < 240 by omega), if_neg (show ¬ 624 < 260 by omega), if_neg (show ¬ 624 < 280 by omega), if_neg (show ¬ 624 < 350 by omega), if_neg (show ¬ 624 < 420 by omega), if_neg (show ¬ 624 < 490 by omega), if_neg (show ¬ 624 < 600 by omega), if_neg (show ¬ 624 < 601 by omega), if_neg (show ¬ 624 < 603 by omega), if_neg (show ¬ 624 < 604 by omega), if_neg (show ¬ 624 < 605 by omega), if_neg (show ¬ 624 < 606 by omega), if_neg (show ¬ 624 < 607 by omega), if_neg (show ¬ 624 < 609 by omega), if_neg (show ¬ 624 < 610 by omega), if_neg (show ¬ 624 < 611 by omega), if_neg (show ¬ 624 < 612 by omega), if_neg (show ¬ 624 < 613 by omega), if_neg (show ¬ 624 < 614 by omega), if_neg (show ¬ 624 < 615 by omega), if_neg (show ¬ 624 < 616 by omega), if_neg (show ¬ 624 < 617 by omega), if_neg (show ¬ 624 < 618 by omega), if_neg (show ¬ 624 < 619 by omega), if_neg (show ¬ 624 < 620 by omega), if_neg (show ¬ 624 < 621 by omega), if_neg (show ¬ 624 < 622 by omega), if_neg (show ¬ 624 < 623 by omega), if_neg (show ¬ 624 < 624 by omega), if_pos (show 624 < 625 by omega)]⟩
end
section
/-! Rows of my own over the kit: ONE world for everything, its cells told by numbers (wl), what they hold by d. -/
theorem up2_self {d : DD} {c k : Nat} {v : Int32} : up2 d c k v c k = v := by simp [up2]
theorem up2_nc {d : DD} {c k c' k' : Nat} {v : Int32} (h : c' ≠ c) : up2 d c k v c' k' = d c' k' := by simp [up2, h]
theorem up2_nk {d : DD} {c k c' k' : Nat} {v : Int32} (h : k' ≠ k) : up2 d c k v c' k' = d c' k' := by simp [up2, h]
theorem up2_off {d : DD} {c k c' : Nat} {v : Int32} (h : c' ≠ c) : up2 d c k v c' = d c' := funext fun k' => up2_nc h
theorem up2_row {d : DD} {c k : Nat} {v : Int32} : up2 d c k v c = upd (d c) k v := by
  funext k'
  by_cases h : k' = k
  · subst h; rw [up2_self, pk_us]
  · rw [up2_nk h, pk_un h]
theorem wl_get {G : GT} {d : DD} {c : Nat} (h : c ∈ Cs G) : ∃ k : Nat, (wl G d)[k]? = some (gad G c, en G d c) := List.getElem?_of_mem (List.mem_map.mpr ⟨c, h, rfl⟩)
theorem wl_set {G : GT} {A : Nat → Prop} {d d' : DD} {c k : Nat} {e' : va_E} (hD : va_D A (wl G d)) (hc : c ∈ Cs G) (hk : (wl G d)[k]? = some (gad G c, en G d c)) (he : en G d' c = e') (ho : ∀ c', c' ≠ c → d' c' = d c') : (wl G d).set k (gad G c, e') = wl G d' := by
  have hl := (List.getElem?_eq_some_iff.mp hk).1
  have key : ∀ j : Nat, (Cs G)[j]? = some c → j = k := by
    intro j hj
    have h2 : (wl G d)[j]? = some (gad G c, en G d c) := by rw [wl, List.getElem?_map, hj]; rfl
    exact hD.1 j k _ _ h2 hk rfl
  obtain ⟨i, hi⟩ := List.getElem?_of_mem hc
  have hik := key i hi
  subst hik
  apply List.ext_getElem?
  intro j
  by_cases hj : j = i
  · subst hj
    rw [List.getElem?_set_self hl, wl, List.getElem?_map, hi, ← he]
    rfl
  · rw [List.getElem?_set_ne (Ne.symm hj)]
    simp only [wl, List.getElem?_map]
    cases hb : (Cs G)[j]? with
    | none => rfl
    | some b =>
      have hbc : b ≠ c := fun q => hj (key j (by rw [hb, q]))
      simp only [Option.map_some, en]
      rw [ho b hbc]
theorem rw_at {x : Int32} {q : Nat} (h : x = nI q) (hq : q < 2 ^ 31) : x.toNatClampNeg + 420 = q + 420 := by rw [h, nI_clamp hq]
section EB
variable {p : Program} {l : Launch} {e : Env} {R : Room} {s : State} {m : MethodId} {args : Array Value} {below : List Frame} {meth : Method} {c : Code} {H : Heap} {locs : List Loc} {cells slots : Nat} {Q : State → Prop}
variable {cc : ByteArray} {pc : Nat} {ls : Array Slot} {rest : List Value} {G : GT} {H0 : Heap} {d : DD}
theorem e_top {x v : Int32} (h : x = v) (kk : W p l e R s m args below meth c H locs cells slots Q (F0 m pc ls (.int v :: rest))) : W p l e R s m args below meth c H locs cells slots Q (F0 m pc ls (.int x :: rest)) := by
  rw [h]; exact kk
theorem e_iald (hx : p.tables.exec = Jvm.exec) (hb : c.code = cc) (hK : va_K G.1 gcl (tys G) s) (hW : WD G H0 d H locs) {cn n : Nat} (hF : IA G cn n) {j : Nat} (hj : j < n) {x : Int32} (hv : d cn j = x) {i : Int32} (hi : i = nI j) (hdg : decode cc pc = .ok (.iaload, 1))
    (kk : W p l e R s m args below meth c H locs cells slots Q (F0 m (pc + 1) ls (.int x :: rest))) : W p l e R s m args below meth c H locs cells slots Q (F0 m pc ls (.int i :: .ref (gad G cn) :: rest)) := by
  obtain ⟨k, hk⟩ := wl_get (G := G) (d := d) hF.1
  subst hi
  refine va_iald hx hb hK hW.1 k 0 (cA := gC G 0) (n := n) (f := d cn) (by rw [hk, en, hF.2.2]) rfl (vp_in_nI hj hF.2.1) hdg ?_
  rw [nI_clamp (by have := hF.2.1; omega), hv]
  exact kk
theorem e_zald (hx : p.tables.exec = Jvm.exec) (hb : c.code = cc) (hK : va_K G.1 gcl (tys G) s) (hW : WD G H0 d H locs) {cn n : Nat} (hF : ZA G cn n) {j : Nat} (hj : j < n) {x : Int32} (hv : d cn j = x) {i : Int32} (hi : i = nI j) (hdg : decode cc pc = .ok (.baload, 1))
    (kk : W p l e R s m args below meth c H locs cells slots Q (F0 m (pc + 1) ls (.int x :: rest))) : W p l e R s m args below meth c H locs cells slots Q (F0 m pc ls (.int i :: .ref (gad G cn) :: rest)) := by
  obtain ⟨k, hk⟩ := wl_get (G := G) (d := d) hF.1
  subst hi
  refine va_zald hx hb hK hW.1 k 1 (cA := gC G 1) (n := n) (f := d cn) (by rw [hk, en, hF.2.2]) rfl (vp_in_nI hj hF.2.1) hdg ?_
  rw [nI_clamp (by have := hF.2.1; omega), hv]
  exact kk
theorem e_iast (hx : p.tables.exec = Jvm.exec) (hb : c.code = cc) (hK : va_K G.1 gcl (tys G) s) (hW : WD G H0 d H locs) {cn n : Nat} (hF : IA G cn n) {j : Nat} (hj : j < n) {i x : Int32} (hi : i = nI j) (hdg : decode cc pc = .ok (.iastore, 1))
    (kk : ∀ (H1 : Heap) (locs1 : List Loc), WD G H0 (up2 d cn j x) H1 locs1 → W p l e R s m args below meth c H1 locs1 cells slots Q (F0 m (pc + 1) ls rest)) : W p l e R s m args below meth c H locs cells slots Q (F0 m pc ls (.int x :: .int i :: .ref (gad G cn) :: rest)) := by
  obtain ⟨k, hk⟩ := wl_get (G := G) (d := d) hF.1
  subst hi
  refine va_iast hx hb hK hW.1 hW.2.1 hW.2.2 k 0 (cA := gC G 0) (n := n) (f := d cn) (by rw [hk, en, hF.2.2]) rfl (vp_in_nI hj hF.2.1) hdg (fun H1 locs1 h1 h2 h3 => kk H1 locs1 ?_)
  rw [nI_clamp (by have := hF.2.1; omega)] at h1 h2
  have he := wl_set (d' := up2 d cn j x) hW.2.1 hF.1 hk (by rw [en, hF.2.2, up2_row]) (fun c' h => up2_off h)
  rw [he] at h1 h2
  exact ⟨h1, h2, h3⟩
theorem e_zast (hx : p.tables.exec = Jvm.exec) (hb : c.code = cc) (hK : va_K G.1 gcl (tys G) s) (hW : WD G H0 d H locs) {cn n : Nat} (hF : ZA G cn n) {j : Nat} (hj : j < n) {i x : Int32} (hi : i = nI j) (h01 : x = 0 ∨ x = 1) (hdg : decode cc pc = .ok (.bastore, 1))
    (kk : ∀ (H1 : Heap) (locs1 : List Loc), WD G H0 (up2 d cn j x) H1 locs1 → W p l e R s m args below meth c H1 locs1 cells slots Q (F0 m (pc + 1) ls rest)) : W p l e R s m args below meth c H locs cells slots Q (F0 m pc ls (.int x :: .int i :: .ref (gad G cn) :: rest)) := by
  obtain ⟨k, hk⟩ := wl_get (G := G) (d := d) hF.1
  subst hi
  refine va_zast hx hb hK hW.1 hW.2.1 hW.2.2 k 1 (cA := gC G 1) (n := n) (f := d cn) (by rw [hk, en, hF.2.2]) rfl (vp_in_nI hj hF.2.1) hdg (fun H1 locs1 h1 h2 h3 => kk H1 locs1 ?_)
  have hx0 : vp_nar .boolean x = x := by rcases h01 with rfl | rfl <;> decide
  rw [nI_clamp (by have := hF.2.1; omega), hx0] at h1 h2
  have he := wl_set (d' := up2 d cn j x) hW.2.1 hF.1 hk (by rw [en, hF.2.2, up2_row]) (fun c' h => up2_off h)
  rw [he] at h1 h2
  exact ⟨h1, h2, h3⟩
/-- an array of objects: element j is the cell f j -/
theorem e_aldq (hx : p.tables.exec = Jvm.exec) (hb : c.code = cc) (hK : va_K G.1 gcl (tys G) s) (hW : WD G H0 d H locs) {cn n t0 : Nat} {C : String} {f : (Nat → Int32) → Nat → Nat} (hF : QA G cn n t0 C f) {j : Nat} (hj : j < n) {q : Nat} (hq : f (d cn) j = q) {i : Int32} (hi : i = nI j) (hdg : decode cc pc = .ok (.aaload, 1))
    (kk : W p l e R s m args below meth c H locs cells slots Q (F0 m (pc + 1) ls (.ref (gad G q) :: rest))) : W p l e R s m args below meth c H locs cells slots Q (F0 m pc ls (.int i :: .ref (gad G cn) :: rest)) := by
  obtain ⟨k, hk⟩ := wl_get (G := G) (d := d) hF.1
  subst hi; subst hq
  refine va_aldq hx hb hK hW.1 k t0 (cA := gC G t0) (n := n) (C := C) (f := fun j => some (gad G (f (d cn) j))) (by rw [hk, en, hF.2.2.2]) hF.2.2.1 (vp_in_nI hj hF.2.1) hdg ?_
  rw [nI_clamp (by have := hF.2.1; omega)]
  exact kk
/-- an array of int arrays: row j is the cell f j -/
theorem e_aldA (hx : p.tables.exec = Jvm.exec) (hb : c.code = cc) (hK : va_K G.1 gcl (tys G) s) (hW : WD G H0 d H locs) {cn n : Nat} {f : Nat → Nat} (hF : AA G cn n f) {j : Nat} (hj : j < n) {q : Nat} (hq : f j = q) {i : Int32} (hi : i = nI j) (hdg : decode cc pc = .ok (.aaload, 1))
    (kk : W p l e R s m args below meth c H locs cells slots Q (F0 m (pc + 1) ls (.ref (gad G q) :: rest))) : W p l e R s m args below meth c H locs cells slots Q (F0 m pc ls (.int i :: .ref (gad G cn) :: rest)) := by
  obtain ⟨k, hk⟩ := wl_get (G := G) (d := d) hF.1
  subst hi; subst hq
  have hk' : (wl G d)[k]? = some (gad G cn, aR (gC G 3) n (fun j => some (gad G (f j)))) := by rw [hk, en, hF.2.2]
  have hn31 : (nI j).toNatClampNeg = j := nI_clamp (by have := hF.2.1; omega)
  exact W.aald (v := .ref (gad G (f j))) (ty := .array .int) hx hb (hW.1 k _ hk') ((hK.2 3 _ rfl).1 n (fun j => va_rf (some (gad G (f j))))) rfl (fun q => by cases q) (by show ¬ (nI j < 0 ∨ (arrV _ _ _).slots.size ≤ _); rw [arrV_size]; exact vp_in_nI hj hF.2.1) (by show (arrV _ _ _).slots[_]? = _; rw [hn31, arrV_read _ _ hj]; rfl) rfl rfl hdg kk
theorem e_lenI (hx : p.tables.exec = Jvm.exec) (hb : c.code = cc) (hK : va_K G.1 gcl (tys G) s) (hW : WD G H0 d H locs) {cn n : Nat} (hF : IA G cn n) (hdg : decode cc pc = .ok (.arraylength, 1))
    (kk : W p l e R s m args below meth c H locs cells slots Q (F0 m (pc + 1) ls (.int (nI n) :: rest))) : W p l e R s m args below meth c H locs cells slots Q (F0 m pc ls (.ref (gad G cn) :: rest)) := by
  obtain ⟨k, hk⟩ := wl_get (G := G) (d := d) hF.1
  exact va_alen hx hb hK hW.1 k 0 (cA := gC G 0) (x := (n, .inl (d cn))) (by rw [hk, en, hF.2.2]) (ty := .int) rfl rfl hdg kk
theorem e_lenZ (hx : p.tables.exec = Jvm.exec) (hb : c.code = cc) (hK : va_K G.1 gcl (tys G) s) (hW : WD G H0 d H locs) {cn n : Nat} (hF : ZA G cn n) (hdg : decode cc pc = .ok (.arraylength, 1))
    (kk : W p l e R s m args below meth c H locs cells slots Q (F0 m (pc + 1) ls (.int (nI n) :: rest))) : W p l e R s m args below meth c H locs cells slots Q (F0 m pc ls (.ref (gad G cn) :: rest)) := by
  obtain ⟨k, hk⟩ := wl_get (G := G) (d := d) hF.1
  exact va_alen hx hb hK hW.1 k 1 (cA := gC G 1) (x := (n, .inl (d cn))) (by rw [hk, en, hF.2.2]) (ty := .boolean) rfl rfl hdg kk
theorem e_lenQ (hx : p.tables.exec = Jvm.exec) (hb : c.code = cc) (hK : va_K G.1 gcl (tys G) s) (hW : WD G H0 d H locs) {cn n t0 : Nat} {C : String} {f : (Nat → Int32) → Nat → Nat} (hF : QA G cn n t0 C f) (hdg : decode cc pc = .ok (.arraylength, 1))
    (kk : W p l e R s m args below meth c H locs cells slots Q (F0 m (pc + 1) ls (.int (nI n) :: rest))) : W p l e R s m args below meth c H locs cells slots Q (F0 m pc ls (.ref (gad G cn) :: rest)) := by
  obtain ⟨k, hk⟩ := wl_get (G := G) (d := d) hF.1
  exact va_alen hx hb hK hW.1 k t0 (cA := gC G t0) (x := (n, .inr (.inr (.inr (.inr (fun j => some (gad G (f (d cn) j)))))))) (by rw [hk, en, hF.2.2.2]) (ty := .object C) hF.2.2.1 rfl hdg kk
theorem e_lenA (hx : p.tables.exec = Jvm.exec) (hb : c.code = cc) (hK : va_K G.1 gcl (tys G) s) (hW : WD G H0 d H locs) {cn n : Nat} {f : Nat → Nat} (hF : AA G cn n f) (hdg : decode cc pc = .ok (.arraylength, 1))
    (kk : W p l e R s m args below meth c H locs cells slots Q (F0 m (pc + 1) ls (.int (nI n) :: rest))) : W p l e R s m args below meth c H locs cells slots Q (F0 m pc ls (.ref (gad G cn) :: rest)) := by
  obtain ⟨k, hk⟩ := wl_get (G := G) (d := d) hF.1
  exact va_alen hx hb hK hW.1 k 3 (cA := gC G 3) (x := (n, .inr (.inr (.inr (.inr (fun j => some (gad G (f j)))))))) (by rw [hk, en, hF.2.2]) (ty := .array .int) rfl rfl hdg kk
/-- fields -/
theorem e_get (hx : p.tables.exec = Jvm.exec) (hb : c.code = cc) {own ref C : String} {T : u_T} {N ci index : Nat} (hts : ∀ w ∈ WS, w.before args s = true) (hown : s.vm.findClass own = some m.cls) (hK : va_K G.1 gcl (tys G) s) (hW : WD G H0 d H locs) {cn : Nat} {fs : (Nat → Int32) → List Value} (hF : OB G cn ci fs) (hin : ∀ w ∈ u_ws C T N, w ∈ WS) (hc : gcl[ci]? = some (C, T, N)) (k : Nat) (hk : k < N) (hlink : (Cond.fieldLink own index ref (T k).2.1 (T k).2.2.1).before args s = true) (hsame : ∀ x, s.fieldFound? (T k).1 (T k).2.1 (T k).2.2.1 = some x → s.fieldFound? ref (T k).2.1 (T k).2.2.1 = some x) {v : Value} (hv : (fs (d cn))[k]? = some v) (hdg : decode cc pc = .ok (.getfield index, 3))
    (kk : W p l e R s m args below meth c H locs cells slots Q (F0 m (pc + 3) ls (v :: rest))) : W p l e R s m args below meth c H locs cells slots Q (F0 m pc ls (.ref (gad G cn) :: rest)) := by
  obtain ⟨k0, hk0⟩ := wl_get (G := G) (d := d) hF.1
  exact va_get hx hb hts hin hown hK hW.1 k0 (by rw [hk0, en, hF.2]) hc k hk hlink hsame hv hdg kk
theorem e_getN (hx : p.tables.exec = Jvm.exec) (hb : c.code = cc) {own ref C host : String} {T : u_T} {N ci index : Nat} (hts : ∀ w ∈ WS, w.before args s = true) (hown : s.vm.findClass own = some m.cls) (hK : va_K G.1 gcl (tys G) s) (hW : WD G H0 d H locs) {cn : Nat} {fs : (Nat → Int32) → List Value} (hF : OB G cn ci fs) (hin : ∀ w ∈ u_ws C T N, w ∈ WS) (hc : gcl[ci]? = some (C, T, N)) (k : Nat) (hk : k < N) (hlink : va_Nw (Cond.fieldLinkNest own index ref (T k).2.1 (T k).2.2.1 host) s) (hsame : ∀ x, s.fieldFound? (T k).1 (T k).2.1 (T k).2.2.1 = some x → s.fieldFound? ref (T k).2.1 (T k).2.2.1 = some x) {v : Value} (hv : (fs (d cn))[k]? = some v) (hdg : decode cc pc = .ok (.getfield index, 3))
    (kk : W p l e R s m args below meth c H locs cells slots Q (F0 m (pc + 3) ls (v :: rest))) : W p l e R s m args below meth c H locs cells slots Q (F0 m pc ls (.ref (gad G cn) :: rest)) := by
  obtain ⟨k0, hk0⟩ := wl_get (G := G) (d := d) hF.1
  exact va_getN hx hb hts hin hown hK hW.1 k0 (by rw [hk0, en, hF.2]) hc k hk (va_Nw.use rfl hlink) hsame hv hdg kk
theorem e_put (hx : p.tables.exec = Jvm.exec) (hb : c.code = cc) {own ref C : String} {T : u_T} {N ci index : Nat} (hts : ∀ w ∈ WS, w.before args s = true) (hown : s.vm.findClass own = some m.cls) (hK : va_K G.1 gcl (tys G) s) (hW : WD G H0 d H locs) {cn : Nat} {fs : (Nat → Int32) → List Value} (hF : OB G cn ci fs) (hin : ∀ w ∈ u_ws C T N, w ∈ WS) (ty0 : Nat → FieldType) (hty : ∀ k, k < N → parseFieldDescriptor (T k).2.2.1 = some (ty0 k)) (hnm : ∀ a, a < N → ∀ b, b < N → a ≠ b → (T a).2.1 ≠ (T b).2.1) (hc : gcl[ci]? = some (C, T, N)) (k : Nat) (hk : k < N) (hlink : (Cond.fieldLink own index ref (T k).2.1 (T k).2.2.1).before args s = true) (hsame : ∀ x, s.fieldFound? (T k).1 (T k).2.1 (T k).2.2.1 = some x → s.fieldFound? ref (T k).2.1 (T k).2.2.1 = some x) (hfin : (T k).2.2.2 = false) (hd : parseFieldDescriptor (T k).2.2.1 = some .int) {v : Int32}
    (hset : ∀ r : Nat → Int32, (fs r).set k (.int v) = fs (upd r k v)) (hlen : ∀ r : Nat → Int32, (fs r).length = N) (hdg : decode cc pc = .ok (.putfield index, 3))
    (kk : ∀ (H1 : Heap) (locs1 : List Loc), WD G H0 (up2 d cn k v) H1 locs1 → W p l e R s m args below meth c H1 locs1 cells slots Q (F0 m (pc + 3) ls rest)) : W p l e R s m args below meth c H locs cells slots Q (F0 m pc ls (.int v :: .ref (gad G cn) :: rest)) := by
  obtain ⟨k0, hk0⟩ := wl_get (G := G) (d := d) hF.1
  refine va_put hx hb hts hin ty0 hty hnm hown hK hW.1 hW.2.1 hW.2.2 k0 (fs := fs (d cn)) (by rw [hk0, en, hF.2]) hc k hk hlink hsame hfin hd rfl rfl (by rw [hlen]; exact hk) hdg (fun H1 locs1 h1 h2 h3 => kk H1 locs1 ?_)
  have he := wl_set (d' := up2 d cn k v) (e' := .inr (ci, (fs (d cn)).set k (.int v))) hW.2.1 hF.1 hk0 (by rw [en, hF.2, up2_row, hset]) (fun c' h => up2_off h)
  rw [he] at h1 h2
  exact ⟨h1, h2, h3⟩
theorem e_putN (hx : p.tables.exec = Jvm.exec) (hb : c.code = cc) {own ref C host : String} {T : u_T} {N ci index : Nat} (hts : ∀ w ∈ WS, w.before args s = true) (hown : s.vm.findClass own = some m.cls) (hK : va_K G.1 gcl (tys G) s) (hW : WD G H0 d H locs) {cn : Nat} {fs : (Nat → Int32) → List Value} (hF : OB G cn ci fs) (hin : ∀ w ∈ u_ws C T N, w ∈ WS) (ty0 : Nat → FieldType) (hty : ∀ k, k < N → parseFieldDescriptor (T k).2.2.1 = some (ty0 k)) (hnm : ∀ a, a < N → ∀ b, b < N → a ≠ b → (T a).2.1 ≠ (T b).2.1) (hc : gcl[ci]? = some (C, T, N)) (k : Nat) (hk : k < N) (hlink : va_Nw (Cond.fieldLinkNest own index ref (T k).2.1 (T k).2.2.1 host) s) (hsame : ∀ x, s.fieldFound? (T k).1 (T k).2.1 (T k).2.2.1 = some x → s.fieldFound? ref (T k).2.1 (T k).2.2.1 = some x) (hfin : (T k).2.2.2 = false) (hd : parseFieldDescriptor (T k).2.2.1 = some .int) {v : Int32}
    (hset : ∀ r : Nat → Int32, (fs r).set k (.int v) = fs (upd r k v)) (hlen : ∀ r : Nat → Int32, (fs r).length = N) (hdg : decode cc pc = .ok (.putfield index, 3))
    (kk : ∀ (H1 : Heap) (locs1 : List Loc), WD G H0 (up2 d cn k v) H1 locs1 → W p l e R s m args below meth c H1 locs1 cells slots Q (F0 m (pc + 3) ls rest)) : W p l e R s m args below meth c H locs cells slots Q (F0 m pc ls (.int v :: .ref (gad G cn) :: rest)) := by
  obtain ⟨k0, hk0⟩ := wl_get (G := G) (d := d) hF.1
  refine va_putN hx hb hts hin ty0 hty hnm hown hK hW.1 hW.2.1 hW.2.2 k0 (fs := fs (d cn)) (by rw [hk0, en, hF.2]) hc k hk (va_Nw.use rfl hlink) hsame hfin hd rfl rfl (by rw [hlen]; exact hk) hdg (fun H1 locs1 h1 h2 h3 => kk H1 locs1 ?_)
  have he := wl_set (d' := up2 d cn k v) (e' := .inr (ci, (fs (d cn)).set k (.int v))) hW.2.1 hF.1 hk0 (by rw [en, hF.2, up2_row, hset]) (fun c' h => up2_off h)
  rw [he] at h1 h2
  exact ⟨h1, h2, h3⟩
theorem e_putz (hx : p.tables.exec = Jvm.exec) (hb : c.code = cc) {own ref C : String} {T : u_T} {N ci index : Nat} (hts : ∀ w ∈ WS, w.before args s = true) (hown : s.vm.findClass own = some m.cls) (hK : va_K G.1 gcl (tys G) s) (hW : WD G H0 d H locs) {cn : Nat} {fs : (Nat → Int32) → List Value} (hF : OB G cn ci fs) (hin : ∀ w ∈ u_ws C T N, w ∈ WS) (ty0 : Nat → FieldType) (hty : ∀ k, k < N → parseFieldDescriptor (T k).2.2.1 = some (ty0 k)) (hnm : ∀ a, a < N → ∀ b, b < N → a ≠ b → (T a).2.1 ≠ (T b).2.1) (hc : gcl[ci]? = some (C, T, N)) (k : Nat) (hk : k < N) (hlink : (Cond.fieldLink own index ref (T k).2.1 (T k).2.2.1).before args s = true) (hsame : ∀ x, s.fieldFound? (T k).1 (T k).2.1 (T k).2.2.1 = some x → s.fieldFound? ref (T k).2.1 (T k).2.2.1 = some x) (hfin : (T k).2.2.2 = false) (hd : parseFieldDescriptor (T k).2.2.1 = some .boolean) {v : Int32}
    (hset : ∀ r : Nat → Int32, (fs r).set k (.int v) = fs (upd r k v)) (hlen : ∀ r : Nat → Int32, (fs r).length = N) (h01 : v = 0 ∨ v = 1) (hdg : decode cc pc = .ok (.putfield index, 3))
    (kk : ∀ (H1 : Heap) (locs1 : List Loc), WD G H0 (up2 d cn k v) H1 locs1 → W p l e R s m args below meth c H1 locs1 cells slots Q (F0 m (pc + 3) ls rest)) : W p l e R s m args below meth c H locs cells slots Q (F0 m pc ls (.int v :: .ref (gad G cn) :: rest)) := by
  obtain ⟨k0, hk0⟩ := wl_get (G := G) (d := d) hF.1
  refine va_put hx hb hts hin ty0 hty hnm hown hK hW.1 hW.2.1 hW.2.2 k0 (fs := fs (d cn)) (by rw [hk0, en, hF.2]) hc k hk hlink hsame hfin hd (by rcases h01 with rfl | rfl <;> rfl) (by rcases h01 with rfl | rfl <;> rfl) (by rw [hlen]; exact hk) hdg (fun H1 locs1 h1 h2 h3 => kk H1 locs1 ?_)
  have he := wl_set (d' := up2 d cn k v) (e' := .inr (ci, (fs (d cn)).set k (.int v))) hW.2.1 hF.1 hk0 (by rw [en, hF.2, up2_row, hset]) (fun c' h => up2_off h)
  rw [he] at h1 h2
  exact ⟨h1, h2, h3⟩
theorem e_putNz (hx : p.tables.exec = Jvm.exec) (hb : c.code = cc) {own ref C host : String} {T : u_T} {N ci index : Nat} (hts : ∀ w ∈ WS, w.before args s = true) (hown : s.vm.findClass own = some m.cls) (hK : va_K G.1 gcl (tys G) s) (hW : WD G H0 d H locs) {cn : Nat} {fs : (Nat → Int32) → List Value} (hF : OB G cn ci fs) (hin : ∀ w ∈ u_ws C T N, w ∈ WS) (ty0 : Nat → FieldType) (hty : ∀ k, k < N → parseFieldDescriptor (T k).2.2.1 = some (ty0 k)) (hnm : ∀ a, a < N → ∀ b, b < N → a ≠ b → (T a).2.1 ≠ (T b).2.1) (hc : gcl[ci]? = some (C, T, N)) (k : Nat) (hk : k < N) (hlink : va_Nw (Cond.fieldLinkNest own index ref (T k).2.1 (T k).2.2.1 host) s) (hsame : ∀ x, s.fieldFound? (T k).1 (T k).2.1 (T k).2.2.1 = some x → s.fieldFound? ref (T k).2.1 (T k).2.2.1 = some x) (hfin : (T k).2.2.2 = false) (hd : parseFieldDescriptor (T k).2.2.1 = some .boolean) {v : Int32}
    (hset : ∀ r : Nat → Int32, (fs r).set k (.int v) = fs (upd r k v)) (hlen : ∀ r : Nat → Int32, (fs r).length = N) (h01 : v = 0 ∨ v = 1) (hdg : decode cc pc = .ok (.putfield index, 3))
    (kk : ∀ (H1 : Heap) (locs1 : List Loc), WD G H0 (up2 d cn k v) H1 locs1 → W p l e R s m args below meth c H1 locs1 cells slots Q (F0 m (pc + 3) ls rest)) : W p l e R s m args below meth c H locs cells slots Q (F0 m pc ls (.int v :: .ref (gad G cn) :: rest)) := by
  obtain ⟨k0, hk0⟩ := wl_get (G := G) (d := d) hF.1
  refine va_putN hx hb hts hin ty0 hty hnm hown hK hW.1 hW.2.1 hW.2.2 k0 (fs := fs (d cn)) (by rw [hk0, en, hF.2]) hc k hk (va_Nw.use rfl hlink) hsame hfin hd (by rcases h01 with rfl | rfl <;> rfl) (by rcases h01 with rfl | rfl <;> rfl) (by rw [hlen]; exact hk) hdg (fun H1 locs1 h1 h2 h3 => kk H1 locs1 ?_)
  have he := wl_set (d' := up2 d cn k v) (e' := .inr (ci, (fs (d cn)).set k (.int v))) hW.2.1 hF.1 hk0 (by rw [en, hF.2, up2_row, hset]) (fun c' h => up2_off h)
  rw [he] at h1 h2
  exact ⟨h1, h2, h3⟩
/-- row[j] = a message -/
theorem e_astR (hG : GOK G) (hx : p.tables.exec = Jvm.exec) (hb : c.code = cc) (hK : va_K G.1 gcl (tys G) s) (hW : WD G H0 d H locs) {j : Nat} (hj : j < 60) {q : Nat} (hq : q < 62) {i : Int32} (hi : i = nI j) (hdg : decode cc pc = .ok (.aastore, 1))
    (kk : ∀ (H1 : Heap) (locs1 : List Loc), WD G H0 (up2 d 8 j (nI q)) H1 locs1 → W p l e R s m args below meth c H1 locs1 cells slots Q (F0 m (pc + 1) ls rest)) : W p l e R s m args below meth c H locs cells slots Q (F0 m pc ls (.ref (gad G (q + 420)) :: .int i :: .ref (gad G 8) :: rest)) := by
  have hF := F_Row G hG
  have hM := F_Msg G hG hq
  obtain ⟨k, hk⟩ := wl_get (G := G) (d := d) hF.1
  obtain ⟨k2, hk2⟩ := wl_get (G := G) (d := d) hM.1
  subst hi
  refine va_astq hx hb hK hW.1 hW.2.1 hW.2.2 k 7 k2 iMsg (cA := gC G 7) (r := gclMsg) (n := 60) (f := fun j => some (gad G ((d 8 j).toNatClampNeg + 420))) (by rw [hk, en, hF.2.2.2]) rfl (by rw [hk2, en, hM.2]) rfl (vp_in_nI hj (by decide)) hdg (fun H1 locs1 h1 h2 h3 => kk H1 locs1 ?_)
  rw [nI_clamp (by omega)] at h1 h2
  have he := wl_set (d' := up2 d 8 j (nI q)) (e' := aR (gC G 7) 60 (va_up (fun j => some (gad G ((d 8 j).toNatClampNeg + 420))) j (some (gad G (q + 420))))) hW.2.1 hF.1 hk (by
    rw [en, hF.2.2.2]
    refine congrArg (fun f => aR (gC G 7) 60 f) (funext fun j' => ?_)
    show some (gad G ((up2 d 8 j (nI q) 8 j').toNatClampNeg + 420)) = _
    by_cases h : j' = j
    · subst h; rw [va_up_self, up2_self, nI_clamp (by omega)]
    · rw [va_up_ne _ _ h, up2_nk h]) (fun c' h => up2_off h)
  rw [he] at h1 h2
  exact ⟨h1, h2, h3⟩
/-- System.arraycopy(a, 0, b, 0, n) of ints -/
theorem e_cp (hx : p.tables.exec = Jvm.exec) (hb : c.code = cc) (hml : c.maxLocals = ls.size) {own : String} {index : Nat} (hown : s.vm.findClass own = some m.cls) (hts : ∀ w ∈ WS, w.before args s = true) (k1 : Cond.methodLink own index arraycopyName ∈ WS) (k2 : Cond.native arraycopyName ∈ WS) (k3 : Cond.static arraycopyName ∈ WS) (k4 : Cond.initialized "java/lang/System" ∈ WS)
    (hK : va_K G.1 gcl (tys G) s) (hW : WD G H0 d H locs) {ca cb na nb n : Nat} (hA : IA G ca na) (hB : IA G cb nb) (h4 : n ≤ na) (h5 : n ≤ nb) {x : Int32} (hn : x = nI n) (hframes : 1 ≤ R.frames) (hlocals : (rest.map fun v => v.category).sum + (nativeFrameWords "java/lang/System" "arraycopy" 5 + 11) ≤ R.locals) (hdg : decode cc pc = .ok (.invokestatic index, 3))
    (kk : ∀ (H1 : Heap) (locs1 : List Loc), WD G H0 (f_cp3 d ca cb n) H1 locs1 → W p l e R s m args below meth c H1 locs1 cells slots Q (F0 m (pc + 3) ls rest)) : W p l e R s m args below meth c H locs cells slots Q (F0 m pc ls (.int x :: .int 0 :: .ref (gad G cb) :: .int 0 :: .ref (gad G ca) :: rest)) := by
  obtain ⟨qa, hqa⟩ := wl_get (G := G) (d := d) hA.1
  obtain ⟨qb, hqb⟩ := wl_get (G := G) (d := d) hB.1
  subst hn
  have hn31 : n < 2 ^ 31 := Nat.lt_of_le_of_lt h4 hA.2.1
  have z0 : (0 : Int32).toNatClampNeg = 0 := sb_cl0
  refine va_copyi hx hb hml hown (hts _ k1) (hts _ k2) (hts _ k3) (hts _ k4) hK hW.1 hW.2.1 hW.2.2 qa qb 0 0 (c0 := gC G 0) (c1 := gC G 0) (n0 := na) (n1 := nb) (f := d ca) (g := d cb) (ty := .int) (by rw [hqa, en, hA.2.2]) (by rw [hqb, en, hB.2.2]) rfl rfl rfl (by decide) (by decide) (nI_pos hn31) (by rw [z0, nI_clamp hn31]; omega) (by rw [z0, nI_clamp hn31]; omega) (fun _ _ => rfl) hframes hlocals hdg (fun H1 locs1 h1 h2 h3 => kk H1 locs1 ?_)
  rw [z0, nI_clamp hn31] at h1 h2
  have he := wl_set (d' := f_cp3 d ca cb n) (e' := aI (gC G 0) nb (va_cpy (d ca) (d cb) 0 0 n)) hW.2.1 hB.1 hqb (by
    rw [en, hB.2.2]
    refine congrArg (fun f => aI (gC G 0) nb f) (funext fun k => ?_)
    by_cases h : k < n
    · rw [pk_cpy_in (Nat.zero_le _) (by omega)]; simp [f_cp3, h]
    · rw [pk_cpy_out (Or.inr (by omega))]; simp [f_cp3, h]) (fun c' h => funext fun k => by simp [f_cp3, h])
  rw [he] at h1 h2
  exact ⟨h1, h2, h3⟩
end EB
end
section
/-- what stands outside the world: two statics of Throwable, the texts of the throws -/
abbrev STRS : List (String × Nat × String) := [(R_PC, 59, "all transactions are begun"), (R_PC, 213, "a number out of range"), (R_PC, 217, "there is no such transaction"), (R_PC, 220, "it is not up"), (R_PC, 78, "another transaction has the lock"), (R_PC, 86, "the transaction writes no more here"), (R_PC, 101, "the transaction has no members"), (R_PC, 103, "the transaction is closed"), (R_PC, 120, "the store is not working"), (R_PC, 128, "the transaction is not closed"), (R_PC, 224, "there is no such message"), (R_PC, 168, "no character below 0"), (R_Msg, 53, "PARVTO"), (R_PC, 201, "the leader knows no outcome")]
theorem ks_59 : (R_PC, 59, "all transactions are begun") ∈ STRS := List.mem_of_getElem? (i := 0) rfl
theorem ks_213 : (R_PC, 213, "a number out of range") ∈ STRS := List.mem_of_getElem? (i := 1) rfl
theorem ks_217 : (R_PC, 217, "there is no such transaction") ∈ STRS := List.mem_of_getElem? (i := 2) rfl
theorem ks_220 : (R_PC, 220, "it is not up") ∈ STRS := List.mem_of_getElem? (i := 3) rfl
theorem ks_78 : (R_PC, 78, "another transaction has the lock") ∈ STRS := List.mem_of_getElem? (i := 4) rfl
theorem ks_86 : (R_PC, 86, "the transaction writes no more here") ∈ STRS := List.mem_of_getElem? (i := 5) rfl
theorem ks_101 : (R_PC, 101, "the transaction has no members") ∈ STRS := List.mem_of_getElem? (i := 6) rfl
theorem ks_103 : (R_PC, 103, "the transaction is closed") ∈ STRS := List.mem_of_getElem? (i := 7) rfl
theorem ks_120 : (R_PC, 120, "the store is not working") ∈ STRS := List.mem_of_getElem? (i := 8) rfl
theorem ks_128 : (R_PC, 128, "the transaction is not closed") ∈ STRS := List.mem_of_getElem? (i := 9) rfl
theorem ks_224 : (R_PC, 224, "there is no such message") ∈ STRS := List.mem_of_getElem? (i := 10) rfl
theorem ks_168 : (R_PC, 168, "no character below 0") ∈ STRS := List.mem_of_getElem? (i := 11) rfl
theorem ks_201 : (R_PC, 201, "the leader knows no outcome") ∈ STRS := List.mem_of_getElem? (i := 13) rfl
abbrev XN : List String := ["java/lang/RuntimeException", "java/lang/Exception"]
abbrev DCL : List MethodName := [⟨"java/lang/RuntimeException", "<init>", "(Ljava/lang/String;)V"⟩, ⟨"java/lang/Exception", "<init>", "(Ljava/lang/String;)V"⟩, ⟨"java/lang/Throwable", "<init>", "(Ljava/lang/String;)V"⟩]
abbrev EXC : List String := ["java/lang/IllegalStateException", "java/lang/IllegalArgumentException", "java/util/NoSuchElementException", "java/lang/UnsupportedOperationException", "java/lang/IndexOutOfBoundsException"]
theorem va_AOA.moved {t : FieldType} {u U : State} (hvm : u.vm.Alike U.vm) (h : va_AOA t u) : va_AOA t U := by
  unfold va_AOA Cond.before Cond.holds at h
  simp only [Cond.value, beq_iff_eq] at h
  cases hc : u.vm.findClass (FieldType.array t).toString with
  | none => simp [hc] at h
  | some comp =>
    simp only [hc, Option.bind_some, Option.bind_eq_some_iff, Option.map_eq_some_iff] at h
    obtain ⟨c, hi0, k, hk, hb⟩ := h
    obtain ⟨k', hk', he⟩ := hvm.2.2 _ _ hk
    have hb2 : U.vm.bare = u.vm.bare := by first | exact hvm.bare_eq | exact hvm.bare_eq.symm
    have hi : (U.vm.classes.findIdx? fun (x : Class) => match x.kind with | .array component _ => component == comp | _ => false) = some c := by
      refine Eq.trans (va_idx_bare U.vm comp).symm ?_
      rw [hb2]
      exact (va_idx_bare u.vm comp).trans hi0
    have f1 : U.vm.findClass (FieldType.array t).toString = some comp := by rw [hvm.findClass]; exact hc
    unfold va_AOA Cond.before Cond.holds
    simp only [Cond.value]
    rw [f1, Option.bind_some]
    refine (congrArg (fun o : Option Nat => (o.bind (fun c => (U.vm.classes[c]?).map fun (k : Class) => match k.kind with | .array _ ty => decide (ty = FieldType.array t) && decide (U.vm.findClass ("[" ++ (FieldType.array t).toString) = some c) | _ => false) == some true)) hi).trans ?_
    have hkk : k'.kind = k.kind := by rw [he]
    have ff : U.vm.findClass ("[" ++ (FieldType.array t).toString) = u.vm.findClass ("[" ++ (FieldType.array t).toString) := hvm.findClass _ _
    cases hkind : k.kind with
    | array component ty => rw [hkind] at hb; simp at hb; simp [hk', hkk, hkind, ff, hb.1, hb.2]
    | _ => rw [hkind] at hb; simp at hb
/-- array classes by name -/
abbrev ARN : List (String × Nat) := [("[I", 0), ("[Z", 1), ("[J", 2), ("[[I", 3), ("[LPaxosCommit$Store;", 4), ("[LPaxosCommit$Acceptor;", 5), ("[LPaxosCommit$Ledger;", 6), ("[LPaxosCommit$Message;", 7), ("[B", 8)]
abbrev AOs : List String := [R_Store, R_Acc, R_Led, R_Msg]
abbrev PRV : List MethodName := [y_AbstractStringBuilder_ensureCapacityInternal, y_AbstractStringBuilder_newCapacity]
/-- what texts and new arrays ask -/
def EnvS (G : GT) (U : State) : Prop := va_Z "java/lang/String" "COMPACT_STRINGS" "Z" (.int 1) (gAb G) U U.heap ∧ va_Zq "jdk/internal/util/Preconditions" "SIOOBE_FORMATTER" "Ljava/util/function/BiFunction;" (gAb G) U U.heap
  ∧ (∃ t : Nat, va_Z "java/lang/Integer" "DigitOnes" "[B" (.ref t) (gAb G) U U.heap ∧ va_T .byte t 100 (fun j => .int (nI (48 + j % 10))) (gAb G) U U.heap)
  ∧ (∃ t : Nat, va_Z "java/lang/Integer" "DigitTens" "[B" (.ref t) (gAb G) U U.heap ∧ va_T .byte t 100 (fun j => .int (nI (48 + j / 10))) (gAb G) U U.heap)
  ∧ (∃ adK adV : Nat → Nat, vk_S 1 [6] [[80, 65, 82, 86, 84, 79]] adK adV (gAb G) U U.heap ∧ vk_R R_Msg 53 "PARVTO" (adK 0) U)
  ∧ (∀ q ∈ ARN, U.vm.findClass q.1 = some (gC G q.2)) ∧ (∀ C ∈ AOs, va_AO C U) ∧ va_AOA .int U ∧ ∀ y ∈ PRV, va_Nw (.selects R_SB y y) U
theorem envs_mv {G : GT} {s U : State} (h : EnvS G s) (hk : ∀ a : Nat, a < s.heap.size → ¬ gAb G a → U.heap[a]? = s.heap[a]?) (hv : s.vm.Alike U.vm) (hr : ∀ (o t : String) (k a : Nat), vk_R o k t a s → vk_R o k t a U) (hao : ∀ C, va_AO C s → va_AO C U) (haa : va_AOA .int s → va_AOA .int U) (hsl : ∀ y, va_Nw (.selects R_SB y y) s → va_Nw (.selects R_SB y y) U) : EnvS G U := by
  obtain ⟨h1, h2, ⟨t3, h3, h3'⟩, ⟨t4, h4, h4'⟩, ⟨aK, aV, h5, h5'⟩, h6, h7, h8, h9⟩ := h
  exact ⟨va_Z.moved hv (h1.kept hk), va_Zq.moved hv (h2.kept hk), ⟨t3, va_Z.moved hv (h3.kept hk), va_T.moved hv (h3'.kept hk)⟩, ⟨t4, va_Z.moved hv (h4.kept hk), va_T.moved hv (h4'.kept hk)⟩, ⟨aK, aV, vk_S.moved hv (h5.kept hk), hr _ _ _ _ h5'⟩, fun q hq => by rw [hv.findClass]; exact h6 q hq, fun C hC => hao C (h7 C hC), haa h8, fun y hy => hsl y (h9 y hy)⟩
def EnvX (G : GT) (U : State) : Prop := vx_Zq Bundle.tN "UNASSIGNED_STACK" Bundle.steD (gAb G) U U.heap ∧ vx_Zq Bundle.tN "SUPPRESSED_SENTINEL" Bundle.listD (gAb G) U U.heap ∧ (∀ q ∈ STRS, ∃ sa : Nat, vk_R q.1 q.2.1 q.2.2 sa U) ∧ (∀ x ∈ DCL, va_Nw (.declares x) U) ∧ (∀ E ∈ EXC, va_Nw (.castable E E) U) ∧ (∀ E ∈ EXC, ∀ T ∈ EXC, E ≠ T → va_Nc E T U) ∧ EnvS G U
theorem envx_move {G : GT} {s U : State} {H : Heap} {locs : List Loc} (h : EnvX G s) (hS : va_S (gAb G) s.heap H locs) (hU : U.heap = H) (hW : s.WarmedH U.vm) : EnvX G U := by
  refine ⟨?_, ?_, fun q hq => (h.2.2.1 q hq).imp fun sa h => vk_R.warm hW h, fun x hx => va_Nw.warmD hW (h.2.2.2.1 x hx), fun E hE => va_Nw.warmC hW (h.2.2.2.2.1 E hE), fun E hE T hT hne => va_Nc.moved hW.alike (h.2.2.2.2.2.1 E hE T hT hne), envs_mv h.2.2.2.2.2.2 (by rw [hU]; exact hS.2.1) hW.alike (fun _ _ _ _ q => vk_R.warm hW q) (fun C q => va_AO.moved hW.alike q) (fun q => va_AOA.moved hW.alike q) (fun y q => word_at (args := #[]) hW (Or.inl rfl) q)⟩
  · rw [hU]; exact vx_Zq.moved hW.alike (h.1.kept hS.2.1)
  · rw [hU]; exact vx_Zq.moved hW.alike (h.2.1.kept hS.2.1)
theorem envx_calling {G : GT} {U : State} {g : JFrame} {mk : MethodId} {a : Array Value} (h : EnvX G U) : EnvX G (U.calling g mk a) :=
  ⟨vx_Zq.moved (u := U) (U := U.calling g mk a) (Vm.Alike.refl U.vm) h.1, vx_Zq.moved (u := U) (U := U.calling g mk a) (Vm.Alike.refl U.vm) h.2.1, fun q hq => (h.2.2.1 q hq).imp fun sa h => vk_R.same (u := U) (U := U.calling g mk a) rfl h, fun x hx => va_Nw.same (u := U) (U := U.calling g mk a) rfl rfl (h.2.2.2.1 x hx), fun E hE => va_Nw.same (u := U) (U := U.calling g mk a) rfl rfl (h.2.2.2.2.1 E hE), fun E hE T hT hne => va_Nc.moved (u := U) (U := U.calling g mk a) (Vm.Alike.refl U.vm) (h.2.2.2.2.2.1 E hE T hT hne), envs_mv (U := U.calling g mk a) h.2.2.2.2.2.2 (fun _ _ _ => rfl) (Vm.Alike.refl U.vm) (fun _ _ _ _ q => vk_R.same (u := U) (U := U.calling g mk a) rfl q) (fun C q => va_AO.moved (u := U) (U := U.calling g mk a) (Vm.Alike.refl U.vm) q) (fun q => va_AOA.moved (u := U) (U := U.calling g mk a) (Vm.Alike.refl U.vm) q) (fun y q => va_Nw.same (u := U) (U := U.calling g mk a) rfl rfl q)⟩
/-! Contracts over the one world: how they begin, end, and are called. -/
theorem goodWS {w0 : Cond} (h0 : w0 ∈ WS) : GoodIn WS (w0 :: WS) := by
  have hg : ∀ w ∈ WS, w ∈ WS ∧ ((w.onTables && w.keeps) = true ∨ ∃ ty, w = .arrayClass ty) := fun w h => ⟨h, good_of_word (List.all_eq_true.mp WS_good w h)⟩
  intro w hw
  rcases List.mem_cons.mp hw with h | h
  · rw [h]; exact hg w0 h0
  · exact hg w h
/-- what every method has of the tables and of what lies outside the world -/
def EnvP (G : GT) (U : State) : Prop := va_K G.1 gcl (tys G) U ∧ (∀ q ∈ NWf, va_Nw (.fieldLinkNest q.1 q.2.1 q.2.2.1 q.2.2.2.1 q.2.2.2.2.1 q.2.2.2.2.2) U) ∧ (∀ q ∈ NWm, va_Nw (.methodLinkNest q.1 q.2.1 q.2.2.1 q.2.2.2) U) ∧ EnvX G U
theorem env_move {G : GT} {s U : State} {H : Heap} {locs : List Loc} (h : EnvP G s) (hS : va_S (gAb G) s.heap H locs) (hU : U.heap = H) (hW : s.WarmedH U.vm) : EnvP G U :=
  ⟨va_K.moved hW.alike h.1, fun q hq => va_Nw.warmF hW (h.2.1 q hq), fun q hq => va_Nw.warmM hW (h.2.2.1 q hq), envx_move h.2.2.2 hS hU hW⟩
theorem env_calling {G : GT} {U : State} {g : JFrame} {mk : MethodId} {a : Array Value} (h : EnvP G U) : EnvP G (U.calling g mk a) :=
  ⟨va_K.moved (u := U) (U := U.calling g mk a) (Vm.Alike.refl U.vm) h.1, fun q hq => va_Nw.same (u := U) (U := U.calling g mk a) rfl rfl (h.2.1 q hq), fun q hq => va_Nw.same (u := U) (U := U.calling g mk a) rfl rfl (h.2.2.1 q hq), envx_calling h.2.2.2⟩
def cPre (G : GT) (av : List Value) (d : DD) : Array Value → State → Prop := va_Pc av (fun U => EnvP G U ∧ gbase G ≤ U.heap.size ∧ va_P G.1 gcl (wl G d) U.heap ∧ va_D (gAb G) (wl G d))
def cB (G : GT) (d : DD) (t : State) : Prop := va_P G.1 gcl (wl G d) t.heap ∧ va_D (gAb G) (wl G d)
def cQi (G : GT) (post : Int32 → DD → Prop) : Array Value → State → Outcome → State → Prop := va_Qi post (cB G) (gAb G)
def cQv (G : GT) (post : DD → Prop) : Array Value → State → Outcome → State → Prop := va_Qv post (cB G) (gAb G)
def cQr (G : GT) (post : Nat → DD → Prop) : Array Value → State → Outcome → State → Prop := va_Qr (S := Nat × DD) (fun u => post u.1 u.2) (fun u a t => a = gad G u.1 ∧ cB G u.2 t) (gAb G)
theorem cPre_blind {G : GT} {av : List Value} {d : DD} : FrameBlind (cPre G av d) := fun _ _ _ _ h => ⟨h.1, env_calling h.2.1, h.2.2.1, h.2.2.2⟩
/-- what a body has at its entry -/
def CX (G : GT) (own : String) (cc : ByteArray) (nL : Nat) (ret : Option FieldType) (p : Program) (s : State) (m : MethodId) (args : Array Value) (meth : Method) (c : Code) : Prop :=
  p.tables.exec = Jvm.exec ∧ c.code = cc ∧ meth.sig.returnType = ret ∧ c.maxLocals = nL ∧ s.vm.findClass own = some m.cls ∧ (∀ w ∈ WS, w.before args s = true) ∧ meth.locks = false ∧ EnvP G s ∧ gbase G ≤ s.heap.size
theorem c_start {l : Launch} {G : GT} {y : MethodName} {own : String} {cc : ByteArray} {maxL : Nat} {ret : Option FieldType} {rm : Room} {av : List Value} {d : DD} {Qc : Array Value → State → Outcome → State → Prop} {mc ms : Nat} (hy : plainName y.cls = true) (hown : y.cls = own) (hlen : (lg_sl av).length ≤ maxL)
    (body : ∀ (p : Program) (e : Env) (s : State) (m : MethodId) (below : List Frame) (meth : Method) (c : Code) (ls : Array Slot), CX G own cc maxL ret p s m av.toArray meth c → WD G s.heap d s.heap [] → lv_has ls maxL (lv_args 0 av) → W p l e rm s m av.toArray below meth c s.heap [] 0 0 (MQ below Qc av.toArray s mc ms (gAb G)) (F0 m 0 ls [])) : Met l y (.code y cc maxL ret :: WS) rm (cPre G av d) Qc mc ms (gAb G) := by
  refine Met.ofW (cc := cc) (maxL := maxL) (ret := ret) hy rfl ?_
  intro p e s m args below meth c s₁ B hml hv
  obtain ⟨rfl, hE, hbs, hP, hD⟩ := hv
  have hts := atoms_spec (ws := .code y cc maxL ret :: WS) B.pre
  have ho : s.vm.findClass y.cls = some m.cls := findClass_of_methodNamed B.named
  rw [hown] at ho
  rw [lg_entry_eq]
  exact body p e s m below meth c _ ⟨B.exec, B.bytes, B.returns, hml, ho, fun w h => hts w (List.mem_cons_of_mem _ h), B.notSynchronized, hE, hbs⟩ ⟨hP, hD, va_S.rf⟩ (lv_entry av hlen)
/-- .. of a class that has entries of its own in the machine, a member that has none -/
theorem c_startF {l : Launch} {G : GT} {y : MethodName} {own : String} {cc : ByteArray} {maxL : Nat} {ret : Option FieldType} {rm : Room} {av : List Value} {d : DD} {Qc : Array Value → State → Outcome → State → Prop} {mc ms : Nat} (hy : plainFor y = true) (hown : y.cls = own) (hlen : (lg_sl av).length ≤ maxL)
    (body : ∀ (p : Program) (e : Env) (s : State) (m : MethodId) (below : List Frame) (meth : Method) (c : Code) (ls : Array Slot), CX G own cc maxL ret p s m av.toArray meth c → WD G s.heap d s.heap [] → lv_has ls maxL (lv_args 0 av) → W p l e rm s m av.toArray below meth c s.heap [] 0 0 (MQ below Qc av.toArray s mc ms (gAb G)) (F0 m 0 ls [])) : Met l y (.code y cc maxL ret :: WS) rm (cPre G av d) Qc mc ms (gAb G) := by
  refine va_MetF (cc := cc) (maxL := maxL) (ret := ret) hy rfl ?_
  intro p e s m args below meth c s₁ B hml hv
  obtain ⟨rfl, hE, hbs, hP, hD⟩ := hv
  have hts := atoms_spec (ws := .code y cc maxL ret :: WS) B.pre
  have ho : s.vm.findClass y.cls = some m.cls := findClass_of_methodNamed B.named
  rw [hown] at ho
  rw [lg_entry_eq]
  exact body p e s m below meth c _ ⟨B.exec, B.bytes, B.returns, hml, ho, fun w h => hts w (List.mem_cons_of_mem _ h), B.notSynchronized, hE, hbs⟩ ⟨hP, hD, va_S.rf⟩ (lv_entry av hlen)
section EC
variable {p : Program} {l : Launch} {e : Env} {R : Room} {s : State} {m : MethodId} {args : Array Value} {below : List Frame} {meth : Method} {c : Code} {H : Heap} {locs : List Loc} {cells slots : Nat} {Q : State → Prop}
variable {cc : ByteArray} {pc : Nat} {ls : Array Slot} {rest : List Value} {G : GT} {d : DD}
theorem e_iret {post : Int32 → DD → Prop} (hx : p.tables.exec = Jvm.exec) (hb : c.code = cc) (hr : meth.sig.returnType = some .int) (hlk : meth.locks = false) (hW : WD G s.heap d H locs) {v : Int32} (hp : post v d) {mc ms : Nat} (hc : cells ≤ mc) (hs : slots ≤ ms) (hdg : decode cc pc = .ok (.ireturn, 1)) : W p l e R s m args below meth c H locs cells slots (MQ below (cQi G post) args s mc ms (gAb G)) (F0 m pc ls [.int v]) := by
  refine W.widen hc hs ?_
  exact W.iret hx hb hr (fun t ht _ => ⟨⟨v, d, rfl, hp, by rw [ht]; exact hW.1, hW.2.1⟩, hW.2.2.F ht⟩) hW.2.2.2.2 hdg hlk
theorem e_zret {post : Int32 → DD → Prop} (hx : p.tables.exec = Jvm.exec) (hb : c.code = cc) (hr : meth.sig.returnType = some .boolean) (hlk : meth.locks = false) (hW : WD G s.heap d H locs) {v : Int32} (h01 : v = 0 ∨ v = 1) (hp : post v d) {mc ms : Nat} (hc : cells ≤ mc) (hs : slots ≤ ms) (hdg : decode cc pc = .ok (.ireturn, 1)) : W p l e R s m args below meth c H locs cells slots (MQ below (cQi G post) args s mc ms (gAb G)) (F0 m pc ls [.int v]) := by
  refine W.widen hc hs ?_
  exact W.zret hx hb hr (by rcases h01 with rfl | rfl <;> rfl) (fun t ht _ => ⟨⟨v, d, rfl, hp, by rw [ht]; exact hW.1, hW.2.1⟩, hW.2.2.F ht⟩) hW.2.2.2.2 hdg hlk
theorem e_vret {post : DD → Prop} (hx : p.tables.exec = Jvm.exec) (hb : c.code = cc) (hr : meth.sig.returnType = none) (hlk : meth.locks = false) (hW : WD G s.heap d H locs) (hp : post d) {mc ms : Nat} (hc : cells ≤ mc) (hs : slots ≤ ms) (hdg : decode cc pc = .ok (.return_, 1)) : W p l e R s m args below meth c H locs cells slots (MQ below (cQv G post) args s mc ms (gAb G)) (F0 m pc ls []) := by
  refine W.widen hc hs ?_
  exact W.vret hx hb hr (fun t ht _ => ⟨⟨d, rfl, hp, by rw [ht]; exact hW.1, hW.2.1⟩, hW.2.2.F ht⟩) hW.2.2.2.2 hdg hlk
theorem e_aret {post : Nat → DD → Prop} {nm : String} (hx : p.tables.exec = Jvm.exec) (hb : c.code = cc) (hr : meth.sig.returnType = some (.object nm)) (hlk : meth.locks = false) (hW : WD G s.heap d H locs) {cn : Nat} (hp : post cn d) {mc ms : Nat} (hc : cells ≤ mc) (hs : slots ≤ ms) (hdg : decode cc pc = .ok (.areturn, 1)) : W p l e R s m args below meth c H locs cells slots (MQ below (cQr G post) args s mc ms (gAb G)) (F0 m pc ls [.ref (gad G cn)]) := by
  refine W.widen hc hs ?_
  exact W.aret hx hb hr (Or.inl ⟨_, rfl⟩) (Or.inr ⟨_, rfl⟩) (fun t ht _ => ⟨⟨(cn, d), gad G cn, rfl, hp, rfl, by rw [ht]; exact hW.1, hW.2.1⟩, hW.2.2.F ht⟩) hW.2.2.2.2 hdg hlk
variable {y : MethodName} {bytes : ByteArray} {maxL nL mc ms n index : Nat} {ret : Option FieldType} {rm : Room} {Qc : Array Value → State → Outcome → State → Prop} {own C host : String} {As st0 : List Value}
theorem pre_of {av : List Value} (hE : EnvP G s) (hW : WD G s.heap d H locs) (hbs : gbase G ≤ s.heap.size) : ∀ U : State, U.heap = H → s.WarmedH U.vm → cPre G av d av.toArray U := fun U hU hWm =>
  ⟨rfl, env_move hE hW.2.2 hU hWm, by rw [hU]; exact Nat.le_trans hbs hW.2.2.1, by rw [hU]; exact hW.1, hW.2.1⟩
/-- a static method, of any class, not across a nest by a private name -/
theorem e_runS (hx : p.tables.exec = Jvm.exec) (hb : c.code = cc) (hml : c.maxLocals = nL) (hown : s.vm.findClass own = some m.cls) (hts : ∀ w ∈ WS, w.before args s = true) (hE : EnvP G s) (hbs : gbase G ≤ s.heap.size) (hW : WD G s.heap d H locs) (hM : Met l y (.code y bytes maxL ret :: WS) rm (cPre G As d) Qc mc ms (gAb G))
    (k1 : Cond.methodLink own index y ∈ WS) (k2 : Cond.static y ∈ WS) (k3 : Cond.initialized y.cls ∈ WS) (k4 : Cond.code y bytes maxL ret ∈ WS) (hrc : rm.cells = mc) (hrs : rm.slots = ms) (hd : y.cls ≠ "java/lang/invoke/MethodHandle" ∧ y.cls ≠ "java/lang/invoke/VarHandle" ∧ (parseMethodDescriptor y.desc).map (fun d => d.parameters.length) = some n) (hR : rm.frames + 1 ≤ R.frames ∧ 8 + (maxL + 11) + rm.locals ≤ R.locals)
    (hn : As.length = n) (hsize : ls.size = nL) (hst : st0 = As.reverse ++ rest) (hcat : (rest.map fun v => v.category).sum ≤ 8) (hdg : decode cc pc = .ok (.invokestatic index, 3)) (hf : cells + mc ≤ R.cells ∧ slots + ms ≤ R.slots) :
    va_Run p l e R s m args below meth c H locs cells slots mc ms (F0 m pc ls st0) rest (Qc As.toArray) (gAb G) :=
  va_runS ⟨hx, hb, hml, hown, hts⟩ hM ⟨callB_of n hts (goodWS k4) rfl hrc hrs (hts _ k3) (hts _ k1) hd hR, hts _ k2⟩ ⟨cPre_blind, pre_of hE hW hbs⟩ rfl hn hsize hst (lv_room hcat) hdg hf
/-- .. a private one of a nest mate -/
theorem e_runSN (hx : p.tables.exec = Jvm.exec) (hb : c.code = cc) (hml : c.maxLocals = nL) (hown : s.vm.findClass own = some m.cls) (hts : ∀ w ∈ WS, w.before args s = true) (hE : EnvP G s) (hbs : gbase G ≤ s.heap.size) (hW : WD G s.heap d H locs) (hM : Met l y (.code y bytes maxL ret :: WS) rm (cPre G As d) Qc mc ms (gAb G))
    (k1 : (own, index, y, host) ∈ NWm) (k2 : Cond.static y ∈ WS) (k3 : Cond.initialized y.cls ∈ WS) (k4 : Cond.code y bytes maxL ret ∈ WS) (hrc : rm.cells = mc) (hrs : rm.slots = ms) (hd : y.cls ≠ "java/lang/invoke/MethodHandle" ∧ y.cls ≠ "java/lang/invoke/VarHandle" ∧ (parseMethodDescriptor y.desc).map (fun d => d.parameters.length) = some n) (hR : rm.frames + 1 ≤ R.frames ∧ 8 + (maxL + 11) + rm.locals ≤ R.locals)
    (hn : As.length = n) (hsize : ls.size = nL) (hst : st0 = As.reverse ++ rest) (hcat : (rest.map fun v => v.category).sum ≤ 8) (hdg : decode cc pc = .ok (.invokestatic index, 3)) (hf : cells + mc ≤ R.cells ∧ slots + ms ≤ R.slots) :
    va_Run p l e R s m args below meth c H locs cells slots mc ms (F0 m pc ls st0) rest (Qc As.toArray) (gAb G) :=
  va_runSN ⟨hx, hb, hml, hown, hts⟩ hM ⟨va_cnB n hts (goodWS k4) rfl hrc hrs (hE.2.2.1 _ k1) (hts _ k3) hd hR, hts _ k2, trivial⟩ ⟨cPre_blind, pre_of hE hW hbs⟩ rfl hn hsize hst (lv_room hcat) hdg hf
/-- a method of an object of the world -/
theorem e_runV (hx : p.tables.exec = Jvm.exec) (hb : c.code = cc) (hml : c.maxLocals = nL) (hown : s.vm.findClass own = some m.cls) (hts : ∀ w ∈ WS, w.before args s = true) (hE : EnvP G s) (hbs : gbase G ≤ s.heap.size) (hW : WD G s.heap d H locs) {cn ci : Nat} {fs : (Nat → Int32) → List Value} (hF : OB G cn ci fs) {T : u_T} {N : Nat} (hcl : gcl[ci]? = some (C, T, N)) (hM : Met l y (.code y bytes maxL ret :: WS) rm (cPre G (.ref (gad G cn) :: As) d) Qc mc ms (gAb G))
    (k1 : Cond.methodLink own index y ∈ WS) (k2 : Cond.instanceMethod y ∈ WS) (k5 : Cond.selects C y y ∈ WS) (k3 : Cond.initialized y.cls ∈ WS) (k4 : Cond.code y bytes maxL ret ∈ WS) (hrc : rm.cells = mc) (hrs : rm.slots = ms) (hd : y.cls ≠ "java/lang/invoke/MethodHandle" ∧ y.cls ≠ "java/lang/invoke/VarHandle" ∧ (parseMethodDescriptor y.desc).map (fun d => d.parameters.length) = some n) (hR : rm.frames + 1 ≤ R.frames ∧ 8 + (maxL + 11) + rm.locals ≤ R.locals)
    (hn : As.length = n) (hsize : ls.size = nL) (hst : st0 = As.reverse ++ .ref (gad G cn) :: rest) (hcat : (rest.map fun v => v.category).sum ≤ 8) (hdg : decode cc pc = .ok (.invokevirtual index, 3)) (hf : cells + mc ≤ R.cells ∧ slots + ms ≤ R.slots) :
    va_Run p l e R s m args below meth c H locs cells slots mc ms (F0 m pc ls st0) rest (Qc (Value.ref (gad G cn) :: As).toArray) (gAb G) := by
  obtain ⟨k0, hk0⟩ := wl_get (G := G) (d := d) hF.1
  have hk1 : (wl G d)[k0]? = some (gad G cn, Sum.inr (ci, fs (d cn))) := by rw [hk0, en, hF.2]
  exact va_runV ⟨hx, hb, hml, hown, hts⟩ hM ⟨callB_of n hts (goodWS k4) rfl hrc hrs (hts _ k3) (hts _ k1) hd hR, hts _ k2, hts _ k5⟩ ⟨cPre_blind, va_recv hE.1 hW.1 (ci := ci) hcl hk1, pre_of hE hW hbs⟩ rfl hn hsize hst (lv_room hcat) hdg hf
/-- .. by a private name across a nest -/
theorem e_runVN (hx : p.tables.exec = Jvm.exec) (hb : c.code = cc) (hml : c.maxLocals = nL) (hown : s.vm.findClass own = some m.cls) (hts : ∀ w ∈ WS, w.before args s = true) (hE : EnvP G s) (hbs : gbase G ≤ s.heap.size) (hW : WD G s.heap d H locs) {cn ci : Nat} {fs : (Nat → Int32) → List Value} (hF : OB G cn ci fs) {T : u_T} {N : Nat} (hcl : gcl[ci]? = some (C, T, N)) (hM : Met l y (.code y bytes maxL ret :: WS) rm (cPre G (.ref (gad G cn) :: As) d) Qc mc ms (gAb G))
    (k1 : (own, index, y, host) ∈ NWm) (k2 : Cond.instanceMethod y ∈ WS) (k5 : Cond.selects C y y ∈ WS) (k3 : Cond.initialized y.cls ∈ WS) (k4 : Cond.code y bytes maxL ret ∈ WS) (hrc : rm.cells = mc) (hrs : rm.slots = ms) (hd : y.cls ≠ "java/lang/invoke/MethodHandle" ∧ y.cls ≠ "java/lang/invoke/VarHandle" ∧ (parseMethodDescriptor y.desc).map (fun d => d.parameters.length) = some n) (hR : rm.frames + 1 ≤ R.frames ∧ 8 + (maxL + 11) + rm.locals ≤ R.locals)
    (hn : As.length = n) (hsize : ls.size = nL) (hst : st0 = As.reverse ++ .ref (gad G cn) :: rest) (hcat : (rest.map fun v => v.category).sum ≤ 8) (hdg : decode cc pc = .ok (.invokevirtual index, 3)) (hf : cells + mc ≤ R.cells ∧ slots + ms ≤ R.slots) :
    va_Run p l e R s m args below meth c H locs cells slots mc ms (F0 m pc ls st0) rest (Qc (Value.ref (gad G cn) :: As).toArray) (gAb G) := by
  obtain ⟨k0, hk0⟩ := wl_get (G := G) (d := d) hF.1
  have hk1 : (wl G d)[k0]? = some (gad G cn, Sum.inr (ci, fs (d cn))) := by rw [hk0, en, hF.2]
  exact va_runVN ⟨hx, hb, hml, hown, hts⟩ hM ⟨va_cnB n hts (goodWS k4) rfl hrc hrs (hE.2.2.1 _ k1) (hts _ k3) hd hR, hts _ k2, hts _ k5⟩ ⟨cPre_blind, va_recv hE.1 hW.1 (ci := ci) hcl hk1, pre_of hE hW hbs⟩ rfl hn hsize hst (lv_room hcat) hdg hf
/-- behind a call -/
theorem e_ci {post : Int32 → DD → Prop} {a : Array Value} (hr : va_Run p l e R s m args below meth c H locs cells slots mc ms (F0 m pc ls st0) rest (cQi G post a) (gAb G)) (hW : WD G s.heap d H locs)
    (kk : ∀ (r : Int32) (d' : DD) (H1 : Heap) (locs1 : List Loc), post r d' → WD G s.heap d' H1 locs1 → W p l e R s m args below meth c H1 locs1 (cells + mc) (slots + ms) Q (F0 m (pc + 3) ls (.int r :: rest))) : W p l e R s m args below meth c H locs cells slots Q (F0 m pc ls st0) :=
  va_calli hr hW.2.2 (fun _ _ h => h) (fun _ h => h) (fun r u t H1 locs1 ht _ hp hB _ _ hS => kk r u H1 locs1 hp ⟨by rw [← ht]; exact hB.1, hB.2, hS⟩)
theorem e_cv {post : DD → Prop} {a : Array Value} (hr : va_Run p l e R s m args below meth c H locs cells slots mc ms (F0 m pc ls st0) rest (cQv G post a) (gAb G)) (hW : WD G s.heap d H locs)
    (kk : ∀ (d' : DD) (H1 : Heap) (locs1 : List Loc), post d' → WD G s.heap d' H1 locs1 → W p l e R s m args below meth c H1 locs1 (cells + mc) (slots + ms) Q (F0 m (pc + 3) ls rest)) : W p l e R s m args below meth c H locs cells slots Q (F0 m pc ls st0) :=
  va_callv hr hW.2.2 (fun _ _ h => h) (fun _ h => h) (fun u t H1 locs1 ht _ hp hB _ _ hS => kk u H1 locs1 hp ⟨by rw [← ht]; exact hB.1, hB.2, hS⟩)
theorem e_cr {post : Nat → DD → Prop} {a : Array Value} (hr : va_Run p l e R s m args below meth c H locs cells slots mc ms (F0 m pc ls st0) rest (cQr G post a) (gAb G)) (hW : WD G s.heap d H locs)
    (kk : ∀ (cn : Nat) (d' : DD) (H1 : Heap) (locs1 : List Loc), post cn d' → WD G s.heap d' H1 locs1 → W p l e R s m args below meth c H1 locs1 (cells + mc) (slots + ms) Q (F0 m (pc + 3) ls (.ref (gad G cn) :: rest))) : W p l e R s m args below meth c H locs cells slots Q (F0 m pc ls st0) :=
  va_callr hr hW.2.2 (fun _ _ h => h) (fun _ h => h) (fun u ra t H1 locs1 ht _ hp hB _ _ hS => by
    obtain ⟨h1, h2⟩ := hB
    subst h1
    exact kk u.1 u.2 H1 locs1 hp ⟨by rw [← ht]; exact h2.1, h2.2, hS⟩)
end EC
theorem nf_0 {G : GT} {U : State} (h : EnvP G U) : va_Nw (.fieldLinkNest R_PC 239 "PaxosCommit$Message" "kind" "I" "PaxosCommit") U := h.2.1 (R_PC, 239, "PaxosCommit$Message", "kind", "I", "PaxosCommit") kf_0
theorem nf_1 {G : GT} {U : State} (h : EnvP G U) : va_Nw (.fieldLinkNest R_PC 263 "PaxosCommit$Message" "transaction" "I" "PaxosCommit") U := h.2.1 (R_PC, 263, "PaxosCommit$Message", "transaction", "I", "PaxosCommit") kf_1
theorem nf_2 {G : GT} {U : State} (h : EnvP G U) : va_Nw (.fieldLinkNest R_PC 260 "PaxosCommit$Message" "store" "I" "PaxosCommit") U := h.2.1 (R_PC, 260, "PaxosCommit$Message", "store", "I", "PaxosCommit") kf_2
theorem nf_3 {G : GT} {U : State} (h : EnvP G U) : va_Nw (.fieldLinkNest R_PC 266 "PaxosCommit$Message" "acceptor" "I" "PaxosCommit") U := h.2.1 (R_PC, 266, "PaxosCommit$Message", "acceptor", "I", "PaxosCommit") kf_3
theorem nf_4 {G : GT} {U : State} (h : EnvP G U) : va_Nw (.fieldLinkNest R_PC 282 "PaxosCommit$Message" "leader" "I" "PaxosCommit") U := h.2.1 (R_PC, 282, "PaxosCommit$Message", "leader", "I", "PaxosCommit") kf_4
theorem nf_5 {G : GT} {U : State} (h : EnvP G U) : va_Nw (.fieldLinkNest R_PC 269 "PaxosCommit$Message" "ballot" "I" "PaxosCommit") U := h.2.1 (R_PC, 269, "PaxosCommit$Message", "ballot", "I", "PaxosCommit") kf_5
theorem nf_6 {G : GT} {U : State} (h : EnvP G U) : va_Nw (.fieldLinkNest R_PC 303 "PaxosCommit$Message" "vote" "I" "PaxosCommit") U := h.2.1 (R_PC, 303, "PaxosCommit$Message", "vote", "I", "PaxosCommit") kf_6
theorem nf_7 {G : GT} {U : State} (h : EnvP G U) : va_Nw (.fieldLinkNest R_PC 290 "PaxosCommit$Message" "replied" "[I" "PaxosCommit") U := h.2.1 (R_PC, 290, "PaxosCommit$Message", "replied", "[I", "PaxosCommit") kf_7
theorem nf_8 {G : GT} {U : State} (h : EnvP G U) : va_Nw (.fieldLinkNest R_PC 174 "PaxosCommit$Net" "row" "[LPaxosCommit$Message;" "PaxosCommit") U := h.2.1 (R_PC, 174, "PaxosCommit$Net", "row", "[LPaxosCommit$Message;", "PaxosCommit") kf_8
theorem nf_9 {G : GT} {U : State} (h : EnvP G U) : va_Nw (.fieldLinkNest R_PC 154 "PaxosCommit$Net" "size" "I" "PaxosCommit") U := h.2.1 (R_PC, 154, "PaxosCommit$Net", "size", "I", "PaxosCommit") kf_9
theorem nf_10 {G : GT} {U : State} (h : EnvP G U) : va_Nw (.fieldLinkNest R_PC 210 "PaxosCommit$Net" "overflowed" "I" "PaxosCommit") U := h.2.1 (R_PC, 210, "PaxosCommit$Net", "overflowed", "I", "PaxosCommit") kf_10
theorem nf_11 {G : GT} {U : State} (h : EnvP G U) : va_Nw (.fieldLinkNest R_PC 192 "PaxosCommit$Store" "values" "[I" "PaxosCommit") U := h.2.1 (R_PC, 192, "PaxosCommit$Store", "values", "[I", "PaxosCommit") kf_11
theorem nf_12 {G : GT} {U : State} (h : EnvP G U) : va_Nw (.fieldLinkNest R_PC 195 "PaxosCommit$Store" "locks" "[I" "PaxosCommit") U := h.2.1 (R_PC, 195, "PaxosCommit$Store", "locks", "[I", "PaxosCommit") kf_12
theorem nf_13 {G : GT} {U : State} (h : EnvP G U) : va_Nw (.fieldLinkNest R_PC 117 "PaxosCommit$Store" "states" "[I" "PaxosCommit") U := h.2.1 (R_PC, 117, "PaxosCommit$Store", "states", "[I", "PaxosCommit") kf_13
theorem nf_14 {G : GT} {U : State} (h : EnvP G U) : va_Nw (.fieldLinkNest R_PC 203 "PaxosCommit$Acceptor" "promises" "[[I" "PaxosCommit") U := h.2.1 (R_PC, 203, "PaxosCommit$Acceptor", "promises", "[[I", "PaxosCommit") kf_14
theorem nf_15 {G : GT} {U : State} (h : EnvP G U) : va_Nw (.fieldLinkNest R_PC 207 "PaxosCommit$Acceptor" "accepted" "[[I" "PaxosCommit") U := h.2.1 (R_PC, 207, "PaxosCommit$Acceptor", "accepted", "[[I", "PaxosCommit") kf_15
theorem nf_16 {G : GT} {U : State} (h : EnvP G U) : va_Nw (.fieldLinkNest R_PC 285 "PaxosCommit$Ledger" "ballot" "I" "PaxosCommit") U := h.2.1 (R_PC, 285, "PaxosCommit$Ledger", "ballot", "I", "PaxosCommit") kf_16
theorem nf_17 {G : GT} {U : State} (h : EnvP G U) : va_Nw (.fieldLinkNest R_PC 286 "PaxosCommit$Ledger" "proposed" "Z" "PaxosCommit") U := h.2.1 (R_PC, 286, "PaxosCommit$Ledger", "proposed", "Z", "PaxosCommit") kf_17
theorem nf_18 {G : GT} {U : State} (h : EnvP G U) : va_Nw (.fieldLinkNest R_PC 198 "PaxosCommit$Ledger" "known" "I" "PaxosCommit") U := h.2.1 (R_PC, 198, "PaxosCommit$Ledger", "known", "I", "PaxosCommit") kf_18
end
section
/-! Worlds told by lists, for what is made anew, and contracts that speak of the heap. -/
def WW (G : GT) (H0 : Heap) (ws : va_W) (H : Heap) (locs : List Loc) : Prop := va_P G.1 gcl ws H ∧ va_D (gAb G) ws ∧ va_S (gAb G) H0 H locs
def hPre (G : GT) (av : List Value) (I : Heap → Prop) : Array Value → State → Prop := va_Pc av (fun U => EnvP G U ∧ gbase G ≤ U.heap.size ∧ I U.heap)
def hQi (G : GT) (J : Int32 → Heap → Prop) : Array Value → State → Outcome → State → Prop := va_Qi (S := Heap) J (fun u t => t.heap = u) (gAb G)
def hQv (G : GT) (J : Heap → Prop) : Array Value → State → Outcome → State → Prop := va_Qv (S := Heap) J (fun u t => t.heap = u) (gAb G)
def hQr (G : GT) (J : Nat → Heap → Prop) : Array Value → State → Outcome → State → Prop := va_Qr (S := Nat × Heap) (fun u => J u.1 u.2) (fun u a t => a = u.1 ∧ t.heap = u.2) (gAb G)
theorem hPre_blind {G : GT} {av : List Value} {I : Heap → Prop} : FrameBlind (hPre G av I) := fun _ _ _ _ h => ⟨h.1, env_calling h.2.1, h.2.2.1, h.2.2.2⟩
theorem h_startF {l : Launch} {G : GT} {y : MethodName} {own : String} {cc : ByteArray} {maxL : Nat} {ret : Option FieldType} {rm : Room} {av : List Value} {I : Heap → Prop} {Qc : Array Value → State → Outcome → State → Prop} {mc ms : Nat} (hy : plainFor y = true) (hown : y.cls = own) (hlen : (lg_sl av).length ≤ maxL)
    (body : ∀ (p : Program) (e : Env) (s : State) (m : MethodId) (below : List Frame) (meth : Method) (c : Code) (ls : Array Slot), CX G own cc maxL ret p s m av.toArray meth c → I s.heap → lv_has ls maxL (lv_args 0 av) → W p l e rm s m av.toArray below meth c s.heap [] 0 0 (MQ below Qc av.toArray s mc ms (gAb G)) (F0 m 0 ls [])) : Met l y (.code y cc maxL ret :: WS) rm (hPre G av I) Qc mc ms (gAb G) := by
  refine va_MetF (cc := cc) (maxL := maxL) (ret := ret) hy rfl ?_
  intro p e s m args below meth c s₁ B hml hv
  obtain ⟨rfl, hE, hbs, hI⟩ := hv
  have hts := atoms_spec (ws := .code y cc maxL ret :: WS) B.pre
  have ho : s.vm.findClass y.cls = some m.cls := findClass_of_methodNamed B.named
  rw [hown] at ho
  rw [lg_entry_eq]
  exact body p e s m below meth c _ ⟨B.exec, B.bytes, B.returns, hml, ho, fun w h => hts w (List.mem_cons_of_mem _ h), B.notSynchronized, hE, hbs⟩ hI (lv_entry av hlen)
/-- the same tables, a later beginning -/
def gB (G : GT) (σ : Nat) : GT := (G.1, G.2.1, G.2.2.1, σ, G.2.2.2.2)
theorem env_nar {G : GT} {σ : Nat} {U : State} (h : EnvP G U) (hs : gbase G ≤ σ) : EnvP (gB G σ) U := by
  have hq : ∀ q, gAb (gB G σ) q → gAb G q := fun q z => Nat.le_trans hs z
  obtain ⟨h1, h2, h3, a1, a2, a3, a4, a5, a6, b1, b2, ⟨t3, b3, b3'⟩, ⟨t4, b4, b4'⟩, ⟨aK, aV, b5, b5'⟩, b6, b7, b8, b9⟩ := h
  exact ⟨h1, h2, h3, a1.narrow hq, a2.narrow hq, a3, a4, a5, a6, b1.narrow hq, b2.narrow hq, ⟨t3, b3.narrow hq, b3'.narrow hq⟩, ⟨t4, b4.narrow hq, b4'.narrow hq⟩, ⟨aK, aV, b5.narrow hq, b5'⟩, b6, b7, b8, b9⟩
theorem va_S.sub {A B : Nat → Prop} {H0 H : Heap} {locs : List Loc} (h : va_S A H0 H locs) (hAB : ∀ q, A q → B q) : va_S B H0 H locs := ⟨h.1, fun q h1 h2 => h.2.1 q h1 (fun z => h2 (hAB q z)), fun l hl => hAB _ (h.2.2 l hl)⟩
section HC
variable {p : Program} {l : Launch} {e : Env} {R : Room} {s : State} {m : MethodId} {args : Array Value} {below : List Frame} {meth : Method} {c : Code} {H : Heap} {locs : List Loc} {cells slots : Nat} {Q : State → Prop}
variable {cc : ByteArray} {pc : Nat} {ls : Array Slot} {rest : List Value} {G G' : GT}
theorem h_iret {J : Int32 → Heap → Prop} (hx : p.tables.exec = Jvm.exec) (hb : c.code = cc) (hr : meth.sig.returnType = some .int) (hlk : meth.locks = false) (hS : va_S (gAb G) s.heap H locs) {v : Int32} (hp : J v H) {mc ms : Nat} (hc : cells ≤ mc) (hs : slots ≤ ms) (hdg : decode cc pc = .ok (.ireturn, 1)) : W p l e R s m args below meth c H locs cells slots (MQ below (hQi G J) args s mc ms (gAb G)) (F0 m pc ls [.int v]) := by
  refine W.widen hc hs ?_
  exact W.iret hx hb hr (fun t ht _ => ⟨⟨v, H, rfl, hp, ht⟩, hS.F ht⟩) hS.2.2 hdg hlk
theorem h_zret {J : Int32 → Heap → Prop} {ty : FieldType} (hx : p.tables.exec = Jvm.exec) (hb : c.code = cc) (hr : meth.sig.returnType = some ty) (hlk : meth.locks = false) (hS : va_S (gAb G) s.heap H locs) {v : Int32} (hn : narrow ty (.int v) = .int v) (hp : J v H) {mc ms : Nat} (hc : cells ≤ mc) (hs : slots ≤ ms) (hdg : decode cc pc = .ok (.ireturn, 1)) : W p l e R s m args below meth c H locs cells slots (MQ below (hQi G J) args s mc ms (gAb G)) (F0 m pc ls [.int v]) := by
  refine W.widen hc hs ?_
  exact W.zret hx hb hr hn (fun t ht _ => ⟨⟨v, H, rfl, hp, ht⟩, hS.F ht⟩) hS.2.2 hdg hlk
theorem h_vret {J : Heap → Prop} (hx : p.tables.exec = Jvm.exec) (hb : c.code = cc) (hr : meth.sig.returnType = none) (hlk : meth.locks = false) (hS : va_S (gAb G) s.heap H locs) (hp : J H) {mc ms : Nat} (hc : cells ≤ mc) (hs : slots ≤ ms) (hdg : decode cc pc = .ok (.return_, 1)) : W p l e R s m args below meth c H locs cells slots (MQ below (hQv G J) args s mc ms (gAb G)) (F0 m pc ls []) := by
  refine W.widen hc hs ?_
  exact W.vret hx hb hr (fun t ht _ => ⟨⟨H, rfl, hp, ht⟩, hS.F ht⟩) hS.2.2 hdg hlk
theorem h_aret {J : Nat → Heap → Prop} {rt : FieldType} (hx : p.tables.exec = Jvm.exec) (hb : c.code = cc) (hr : meth.sig.returnType = some rt) (hrt : (∃ n, rt = .object n) ∨ ∃ t, rt = .array t) (hlk : meth.locks = false) (hS : va_S (gAb G) s.heap H locs) {a : Nat} (hp : J a H) {mc ms : Nat} (hc : cells ≤ mc) (hs : slots ≤ ms) (hdg : decode cc pc = .ok (.areturn, 1)) : W p l e R s m args below meth c H locs cells slots (MQ below (hQr G J) args s mc ms (gAb G)) (F0 m pc ls [.ref a]) := by
  refine W.widen hc hs ?_
  exact W.aret hx hb hr hrt (Or.inr ⟨_, rfl⟩) (fun t ht _ => ⟨⟨(a, H), a, rfl, hp, rfl, ht⟩, hS.F ht⟩) hS.2.2 hdg hlk
variable {y : MethodName} {bytes : ByteArray} {maxL nL mc ms n index : Nat} {ret : Option FieldType} {rm : Room} {Qc : Array Value → State → Outcome → State → Prop} {own C host : String} {As st0 : List Value} {I : Heap → Prop}
theorem h_pre {av : List Value} (hE : EnvP G s) (hS : va_S (gAb G) s.heap H locs) (hg : gbase G ≤ gbase G') (hG' : gB G (gbase G') = G') (hbs : gbase G' ≤ H.size) (hI : I H) : ∀ U : State, U.heap = H → s.WarmedH U.vm → hPre G' av I av.toArray U := fun U hU hWm =>
  ⟨rfl, by rw [← hG']; exact env_nar (env_move hE hS hU hWm) hg, by rw [hU]; exact hbs, by rw [hU]; exact hI⟩
/-- what a call of a contract over the heap asks, beside its words -/
theorem h_runS (hx : p.tables.exec = Jvm.exec) (hb : c.code = cc) (hml : c.maxLocals = nL) (hown : s.vm.findClass own = some m.cls) (hts : ∀ w ∈ WS, w.before args s = true) (hE : EnvP G s) (hS : va_S (gAb G) s.heap H locs) (hg : gbase G ≤ gbase G') (hG' : gB G (gbase G') = G') (hbs : gbase G' ≤ H.size) (hI : I H) (hM : Met l y (.code y bytes maxL ret :: WS) rm (hPre G' As I) Qc mc ms (gAb G'))
    (k1 : Cond.methodLink own index y ∈ WS) (k2 : Cond.static y ∈ WS) (k3 : Cond.initialized y.cls ∈ WS) (k4 : Cond.code y bytes maxL ret ∈ WS) (hrc : rm.cells = mc) (hrs : rm.slots = ms) (hd : y.cls ≠ "java/lang/invoke/MethodHandle" ∧ y.cls ≠ "java/lang/invoke/VarHandle" ∧ (parseMethodDescriptor y.desc).map (fun d => d.parameters.length) = some n) (hR : rm.frames + 1 ≤ R.frames ∧ 8 + (maxL + 11) + rm.locals ≤ R.locals)
    (hn : As.length = n) (hsize : ls.size = nL) (hst : st0 = As.reverse ++ rest) (hcat : (rest.map fun v => v.category).sum ≤ 8) (hdg : decode cc pc = .ok (.invokestatic index, 3)) (hf : cells + mc ≤ R.cells ∧ slots + ms ≤ R.slots) :
    va_Run p l e R s m args below meth c H locs cells slots mc ms (F0 m pc ls st0) rest (Qc As.toArray) (gAb G') :=
  va_runS ⟨hx, hb, hml, hown, hts⟩ hM ⟨callB_of n hts (goodWS k4) rfl hrc hrs (hts _ k3) (hts _ k1) hd hR, hts _ k2⟩ ⟨hPre_blind, h_pre hE hS hg hG' hbs hI⟩ rfl hn hsize hst (lv_room hcat) hdg hf
/-- .. a private one of a nest mate -/
theorem h_runSN (hx : p.tables.exec = Jvm.exec) (hb : c.code = cc) (hml : c.maxLocals = nL) (hown : s.vm.findClass own = some m.cls) (hts : ∀ w ∈ WS, w.before args s = true) (hE : EnvP G s) (hS : va_S (gAb G) s.heap H locs) (hg : gbase G ≤ gbase G') (hG' : gB G (gbase G') = G') (hbs : gbase G' ≤ H.size) (hI : I H) (hM : Met l y (.code y bytes maxL ret :: WS) rm (hPre G' As I) Qc mc ms (gAb G'))
    (k1 : (own, index, y, host) ∈ NWm) (k2 : Cond.static y ∈ WS) (k3 : Cond.initialized y.cls ∈ WS) (k4 : Cond.code y bytes maxL ret ∈ WS) (hrc : rm.cells = mc) (hrs : rm.slots = ms) (hd : y.cls ≠ "java/lang/invoke/MethodHandle" ∧ y.cls ≠ "java/lang/invoke/VarHandle" ∧ (parseMethodDescriptor y.desc).map (fun d => d.parameters.length) = some n) (hR : rm.frames + 1 ≤ R.frames ∧ 8 + (maxL + 11) + rm.locals ≤ R.locals)
    (hn : As.length = n) (hsize : ls.size = nL) (hst : st0 = As.reverse ++ rest) (hcat : (rest.map fun v => v.category).sum ≤ 8) (hdg : decode cc pc = .ok (.invokestatic index, 3)) (hf : cells + mc ≤ R.cells ∧ slots + ms ≤ R.slots) :
    va_Run p l e R s m args below meth c H locs cells slots mc ms (F0 m pc ls st0) rest (Qc As.toArray) (gAb G') :=
  va_runSN ⟨hx, hb, hml, hown, hts⟩ hM ⟨va_cnB n hts (goodWS k4) rfl hrc hrs (hE.2.2.1 _ k1) (hts _ k3) hd hR, hts _ k2, trivial⟩ ⟨hPre_blind, h_pre hE hS hg hG' hbs hI⟩ rfl hn hsize hst (lv_room hcat) hdg hf
theorem h_runV (hx : p.tables.exec = Jvm.exec) (hb : c.code = cc) (hml : c.maxLocals = nL) (hown : s.vm.findClass own = some m.cls) (hts : ∀ w ∈ WS, w.before args s = true) (hE : EnvP G s) (hS : va_S (gAb G) s.heap H locs) (hg : gbase G ≤ gbase G') (hG' : gB G (gbase G') = G') (hbs : gbase G' ≤ H.size) (hI : I H) {ws : va_W} (hP : va_P G.1 gcl ws H) (q0 : Nat) {b ci : Nat} {fs : List Value} (he : ws[q0]? = some (b, .inr (ci, fs))) {T : u_T} {N : Nat} (hcl : gcl[ci]? = some (C, T, N)) (hM : Met l y (.code y bytes maxL ret :: WS) rm (hPre G' (.ref b :: As) I) Qc mc ms (gAb G'))
    (k1 : Cond.methodLink own index y ∈ WS) (k2 : Cond.instanceMethod y ∈ WS) (k5 : (Cond.selects C y y).before args s = true) (k3 : Cond.initialized y.cls ∈ WS) (k4 : Cond.code y bytes maxL ret ∈ WS) (hrc : rm.cells = mc) (hrs : rm.slots = ms) (hd : y.cls ≠ "java/lang/invoke/MethodHandle" ∧ y.cls ≠ "java/lang/invoke/VarHandle" ∧ (parseMethodDescriptor y.desc).map (fun d => d.parameters.length) = some n) (hR : rm.frames + 1 ≤ R.frames ∧ 8 + (maxL + 11) + rm.locals ≤ R.locals)
    (hn : As.length = n) (hsize : ls.size = nL) (hst : st0 = As.reverse ++ .ref b :: rest) (hcat : (rest.map fun v => v.category).sum ≤ 8) (hdg : decode cc pc = .ok (.invokevirtual index, 3)) (hf : cells + mc ≤ R.cells ∧ slots + ms ≤ R.slots) :
    va_Run p l e R s m args below meth c H locs cells slots mc ms (F0 m pc ls st0) rest (Qc (Value.ref b :: As).toArray) (gAb G') :=
  va_runV ⟨hx, hb, hml, hown, hts⟩ hM ⟨callB_of n hts (goodWS k4) rfl hrc hrs (hts _ k3) (hts _ k1) hd hR, hts _ k2, k5⟩ ⟨hPre_blind, va_recv hE.1 hP (ci := ci) hcl he, h_pre hE hS hg hG' hbs hI⟩ rfl hn hsize hst (lv_room hcat) hdg hf
/-- a constructor -/
theorem h_runI (hx : p.tables.exec = Jvm.exec) (hb : c.code = cc) (hml : c.maxLocals = nL) (hown : s.vm.findClass own = some m.cls) (hts : ∀ w ∈ WS, w.before args s = true) (hE : EnvP G s) (hS : va_S (gAb G) s.heap H locs) (hg : gbase G ≤ gbase G') (hG' : gB G (gbase G') = G') (hbs : gbase G' ≤ H.size) (hI : I H) {b : Nat} (hM : Met l y (.code y bytes maxL none :: WS) rm (hPre G' (.ref b :: As) I) Qc mc ms (gAb G'))
    (k1 : Cond.methodLink own index y ∈ WS) (k2 : Cond.instanceMethod y ∈ WS) (hnm : y.name = "<init>") (k3 : Cond.initialized y.cls ∈ WS) (k4 : Cond.code y bytes maxL none ∈ WS) (hrc : rm.cells = mc) (hrs : rm.slots = ms) (hd : y.cls ≠ "java/lang/invoke/MethodHandle" ∧ y.cls ≠ "java/lang/invoke/VarHandle" ∧ (parseMethodDescriptor y.desc).map (fun d => d.parameters.length) = some n) (hR : rm.frames + 1 ≤ R.frames ∧ 8 + (maxL + 11) + rm.locals ≤ R.locals)
    (hn : As.length = n) (hsize : ls.size = nL) (hst : st0 = As.reverse ++ .ref b :: rest) (hcat : (rest.map fun v => v.category).sum ≤ 8) (hdg : decode cc pc = .ok (.invokespecial index, 3)) (hf : cells + mc ≤ R.cells ∧ slots + ms ≤ R.slots) :
    va_Run p l e R s m args below meth c H locs cells slots mc ms (F0 m pc ls st0) rest (Qc (Value.ref b :: As).toArray) (gAb G') :=
  va_runI ⟨hx, hb, hml, hown, hts⟩ hM ⟨callB_of n hts (goodWS k4) rfl hrc hrs (hts _ k3) (hts _ k1) hd hR, hnm, hts _ k2⟩ ⟨hPre_blind, h_pre hE hS hg hG' hbs hI⟩ rfl hn hsize hst (lv_room hcat) hdg hf
/-- super.name(..) -/
theorem h_runSU (hx : p.tables.exec = Jvm.exec) (hb : c.code = cc) (hml : c.maxLocals = nL) (hown : s.vm.findClass own = some m.cls) (hts : ∀ w ∈ WS, w.before args s = true) (hE : EnvP G s) (hS : va_S (gAb G) s.heap H locs) (hg : gbase G ≤ gbase G') (hG' : gB G (gbase G') = G') (hbs : gbase G' ≤ H.size) (hI : I H) {ws : va_W} (hP : va_P G.1 gcl ws H) (q0 : Nat) {b ci : Nat} {fs : List Value} (he : ws[q0]? = some (b, .inr (ci, fs))) {T : u_T} {N : Nat} (hcl : gcl[ci]? = some (C, T, N)) (hM : Met l y (.code y bytes maxL ret :: WS) rm (hPre G' (.ref b :: As) I) Qc mc ms (gAb G'))
    (k1 : Cond.methodLink own index y ∈ WS) (k2 : Cond.instanceMethod y ∈ WS) (k5 : Cond.sameMethod y.cls y.cls y.name y.desc ∈ WS) (k6 : Cond.superclass own y.cls ∈ WS) (k3 : Cond.initialized y.cls ∈ WS) (k4 : Cond.code y bytes maxL ret ∈ WS) (hrc : rm.cells = mc) (hrs : rm.slots = ms) (hd : y.name ≠ "<init>" ∧ (parseMethodDescriptor y.desc).map (fun d => d.parameters.length) = some n) (hR : rm.frames + 1 ≤ R.frames ∧ 8 + (maxL + 11) + rm.locals ≤ R.locals)
    (hn : As.length = n) (hsize : ls.size = nL) (hst : st0 = As.reverse ++ .ref b :: rest) (hcat : (rest.map fun v => v.category).sum ≤ 8) (hdg : decode cc pc = .ok (.invokespecial index, 3)) (hf : cells + mc ≤ R.cells ∧ slots + ms ≤ R.slots) :
    va_Run p l e R s m args below meth c H locs cells slots mc ms (F0 m pc ls st0) rest (Qc (Value.ref b :: As).toArray) (gAb G') := by
  refine va_runSU (hE.1.1 ci _ hcl).2 ⟨hx, hb, hml, hown, hts⟩ hM (va_cwSU n hts (fun w hw => ?_) rfl hrc hrs hd hR) ⟨hPre_blind, va_recv hE.1 hP (ci := ci) hcl he, h_pre hE hS hg hG' hbs hI⟩ rfl hn hsize hst (lv_room hcat) hdg hf
  unfold va_wsSU at hw
  rcases List.mem_append.mp hw with h | h
  · have hg9 : ∀ w ∈ WS, w ∈ WS ∧ ((w.onTables && w.keeps) = true ∨ ∃ ty, w = .arrayClass ty) := fun w h => ⟨h, good_of_word (List.all_eq_true.mp WS_good w h)⟩
    simp only [List.mem_cons, List.not_mem_nil, or_false] at h
    rcases h with rfl | rfl | rfl | rfl | rfl
    · exact hg9 _ k1
    · exact hg9 _ k5
    · exact hg9 _ k6
    · exact hg9 _ k2
    · exact hg9 _ k3
  · exact goodWS k4 w h
/-- behind a call -/
theorem h_ci {J : Int32 → Heap → Prop} {a : Array Value} (hr : va_Run p l e R s m args below meth c H locs cells slots mc ms (F0 m pc ls st0) rest (hQi G' J a) (gAb G')) (hS : va_S (gAb G) s.heap H locs) (hg : gbase G ≤ gbase G')
    (kk : ∀ (r : Int32) (H1 : Heap) (locs1 : List Loc), J r H1 → H.size ≤ H1.size → (∀ q : Nat, q < H.size → q < gbase G' → H1[q]? = H[q]?) → va_S (gAb G) s.heap H1 locs1 → W p l e R s m args below meth c H1 locs1 (cells + mc) (slots + ms) Q (F0 m (pc + 3) ls (.int r :: rest))) : W p l e R s m args below meth c H locs cells slots Q (F0 m pc ls st0) :=
  va_calli hr hS (fun q _ h => Nat.le_trans hg h) (fun q h => Nat.le_trans hg h) (fun r u t H1 locs1 ht _ hp hB h1 h2 hS1 => kk r H1 locs1 (by rw [← ht, hB]; exact hp) h1 (fun q a1 a2 => h2 q a1 (Nat.not_le.mpr a2)) hS1)
theorem h_cv {J : Heap → Prop} {a : Array Value} (hr : va_Run p l e R s m args below meth c H locs cells slots mc ms (F0 m pc ls st0) rest (hQv G' J a) (gAb G')) (hS : va_S (gAb G) s.heap H locs) (hg : gbase G ≤ gbase G')
    (kk : ∀ (H1 : Heap) (locs1 : List Loc), J H1 → H.size ≤ H1.size → (∀ q : Nat, q < H.size → q < gbase G' → H1[q]? = H[q]?) → va_S (gAb G) s.heap H1 locs1 → W p l e R s m args below meth c H1 locs1 (cells + mc) (slots + ms) Q (F0 m (pc + 3) ls rest)) : W p l e R s m args below meth c H locs cells slots Q (F0 m pc ls st0) :=
  va_callv hr hS (fun q _ h => Nat.le_trans hg h) (fun q h => Nat.le_trans hg h) (fun u t H1 locs1 ht _ hp hB h1 h2 hS1 => kk H1 locs1 (by rw [← ht, hB]; exact hp) h1 (fun q a1 a2 => h2 q a1 (Nat.not_le.mpr a2)) hS1)
theorem h_cr {J : Nat → Heap → Prop} {a : Array Value} (hr : va_Run p l e R s m args below meth c H locs cells slots mc ms (F0 m pc ls st0) rest (hQr G' J a) (gAb G')) (hS : va_S (gAb G) s.heap H locs) (hg : gbase G ≤ gbase G')
    (kk : ∀ (ra : Nat) (H1 : Heap) (locs1 : List Loc), J ra H1 → H.size ≤ H1.size → (∀ q : Nat, q < H.size → q < gbase G' → H1[q]? = H[q]?) → va_S (gAb G) s.heap H1 locs1 → W p l e R s m args below meth c H1 locs1 (cells + mc) (slots + ms) Q (F0 m (pc + 3) ls (.ref ra :: rest))) : W p l e R s m args below meth c H locs cells slots Q (F0 m pc ls st0) :=
  va_callr hr hS (fun q _ h => Nat.le_trans hg h) (fun q h => Nat.le_trans hg h) (fun u ra t H1 locs1 ht _ hp hB h1 h2 hS1 => by
    obtain ⟨q1, q2⟩ := hB
    subst q1
    exact kk u.1 H1 locs1 (by rw [← ht, q2]; exact hp) h1 (fun q a1 a2 => h2 q a1 (Nat.not_le.mpr a2)) hS1)
/-- new C, at the heap's end -/
theorem h_new (hx : p.tables.exec = Jvm.exec) (hb : c.code = cc) {T : u_T} {N ci : Nat} (hts : ∀ w ∈ WS, w.before args s = true) (hin : ∀ w ∈ u_ws C T N, w ∈ WS) (ty : Nat → FieldType) (hty : ∀ k, k < N → parseFieldDescriptor (T k).2.2.1 = some (ty k)) (hown : s.vm.findClass own = some m.cls) (k1 : Cond.classLink own index C ∈ WS) (k2 : Cond.instantiable C N ∈ WS) (k3 : Cond.initialized C ∈ WS)
    (hE : EnvP G s) (hS : va_S (gAb G) s.heap H locs) (hbs : gbase G ≤ s.heap.size) (hc : gcl[ci]? = some (C, T, N)) {fs : List Value} (hfs : ∀ j, j < N → defaultValue (ty j) = vp_V fs j) (hcells : cells + 1 ≤ R.cells) (hslots : slots + N ≤ R.slots) (hdg : decode cc pc = .ok (.new index, 3))
    (kk : ∀ (H1 : Heap), va_at G.1 gcl (H.size, .inr (ci, fs)) H1 → H1.size = H.size + 1 → (∀ q, q < H.size → H1[q]? = H[q]?) → va_S (gAb G) s.heap H1 locs →
      W p l e R s m args below meth c H1 locs (cells + 1) (slots + N) Q (F0 m (pc + 3) ls (.ref H.size :: rest))) : W p l e R s m args below meth c H locs cells slots Q (F0 m pc ls rest) := by
  have hKn := hE.1.1 ci _ hc
  refine W.newcK hx hb hown (hts _ k1) (hts _ k2) (hts _ k3) rfl hdg hcells hslots hKn.2.1 rfl fun H1 kC hkC e1 z1 o1 => ?_
  refine kk H1 ?_ z1 o1 ⟨Nat.le_trans hS.1 (by omega), fun x h1 h2 => (o1 x (Nat.lt_of_lt_of_le h1 hS.1)).trans (hS.2.1 x h1 h2), hS.2.2⟩
  exact ⟨_, hc, (u_born ty hts hin hKn hkC e1 hty).to hfs⟩
/-- new array of numbers, at the heap's end -/
theorem h_newa (hx : p.tables.exec = Jvm.exec) (hb : c.code = cc) (hts : ∀ w ∈ WS, w.before args s = true) {atype : ArrayType} (harr : Cond.arrayClass (newarray.typeOf atype) ∈ WS) {t0 : Nat} (hnm : ("[" ++ (newarray.typeOf atype).toString, t0) ∈ ARN) (hE : EnvP G s) (hS : va_S (gAb G) s.heap H locs)
    {n : Int32} {N' : Nat} {a0 : vp_A} (ha : ∀ cA : ClassId, vp_cell cA a0 = arrV cA N' (fun _ => defaultValue (newarray.typeOf atype))) (hn : ¬ n < 0) (hN : n.toNatClampNeg = N') (hbytes : N' * componentBytes (newarray.typeOf atype) ≤ 536870912) (hcells : cells + 1 ≤ R.cells) (hslots : slots + N' ≤ R.slots) (hdg : decode cc pc = .ok (.newarray atype, 2))
    (kk : ∀ (H1 : Heap), va_at G.1 gcl (H.size, .inl (gC G t0, a0)) H1 → H1.size = H.size + 1 → (∀ q, q < H.size → H1[q]? = H[q]?) → va_S (gAb G) s.heap H1 locs →
      W p l e R s m args below meth c H1 locs (cells + 1) (slots + N') Q (F0 m (pc + 2) ls (.ref H.size :: rest))) : W p l e R s m args below meth c H locs cells slots Q (F0 m pc ls (.int n :: rest)) := by
  refine va_newaK hx hb (hts _ harr) rfl hdg rfl hn hN hbytes hcells hslots rfl fun H1 cA e1 z1 o1 hAr hNm => ?_
  have hc : cA = gC G t0 := Option.some.inj (hNm.symm.trans (hE.2.2.2.2.2.2.2.2.2.2.2.2.2.2.1 _ hnm))
  subst hc
  refine kk H1 ?_ z1 o1 ⟨Nat.le_trans hS.1 (by omega), fun x h1 h2 => (o1 x (Nat.lt_of_lt_of_le h1 hS.1)).trans (hS.2.1 x h1 h2), hS.2.2⟩
  show H1[H.size]? = some (vp_cell _ _)
  rw [ha]
  exact e1
/-- new array of references, at the heap's end -/
theorem h_anew (hx : p.tables.exec = Jvm.exec) (hb : c.code = cc) (hts : ∀ w ∈ WS, w.before args s = true) (hown : s.vm.findClass own = some m.cls) (k1 : Cond.classLink own index C ∈ WS) (hover : C ∈ AOs) {t0 : Nat} (hnm : ("[" ++ (FieldType.object C).toString, t0) ∈ ARN) (hE : EnvP G s) (hS : va_S (gAb G) s.heap H locs)
    {n : Int32} {N' : Nat} (hn : ¬ n < 0) (hN : n.toNatClampNeg = N') (hbytes : N' * 4 ≤ 536870912) (hcells : cells + 1 ≤ R.cells) (hslots : slots + N' ≤ R.slots) (hdg : decode cc pc = .ok (.anewarray index, 3))
    (kk : ∀ (H1 : Heap), va_at G.1 gcl (H.size, aR (gC G t0) N' (fun _ => none)) H1 → H1.size = H.size + 1 → (∀ q, q < H.size → H1[q]? = H[q]?) → va_S (gAb G) s.heap H1 locs →
      W p l e R s m args below meth c H1 locs (cells + 1) (slots + N') Q (F0 m (pc + 3) ls (.ref H.size :: rest))) : W p l e R s m args below meth c H locs cells slots Q (F0 m pc ls (.int n :: rest)) := by
  subst hN
  refine W.anew hx hb hown (hts _ k1) (va_AO.use (hE.2.2.2.2.2.2.2.2.2.2.2.2.2.2.2.1 C hover)) rfl hdg rfl hn hbytes hcells hslots fun cA kA comp f1 f2 f3 f4 => ?_
  generalize hH1 : H.push ({ cls := cA, slots := Array.replicate n.toNatClampNeg .null, vm := .none } : Cell) = H1
  have z1 : H1.size = H.size + 1 := by rw [← hH1, Array.size_push]
  have e1 : H1[H.size]? = some (arrV cA n.toNatClampNeg (fun _ => .null)) := by rw [← hH1, Array.getElem?_push_size, ← arrV_new]
  have o1 : ∀ q : Nat, q < H.size → H1[q]? = H[q]? := fun q hq => by rw [← hH1, Array.getElem?_push, if_neg (Nat.ne_of_lt hq)]
  have hc : cA = gC G t0 := Option.some.inj (f1.symm.trans (hE.2.2.2.2.2.2.2.2.2.2.2.2.2.2.1 _ hnm))
  subst hc
  refine kk H1 ?_ z1 o1 ⟨Nat.le_trans hS.1 (by omega), fun x h1 h2 => (o1 x (Nat.lt_of_lt_of_le h1 hS.1)).trans (hS.2.1 x h1 h2), hS.2.2⟩
  show H1[H.size]? = some (vp_cell _ _)
  rw [vp_cell_q]
  exact e1
end HC
/-- one more at the heap's end -/
theorem WW_push {G : GT} {H0 H H1 : Heap} {ws : va_W} {locs locs1 : List Loc} {e : va_E} (hW : WW G H0 ws H locs) (hbs : gbase G ≤ H0.size) (ha : va_at G.1 gcl (H.size, e) H1) (hk : ∀ q, q < H.size → H1[q]? = H[q]?) (hS : va_S (gAb G) H0 H1 locs1) : WW G H0 (ws ++ [(H.size, e)]) H1 locs1 := by
  have hk' : ∀ (k : Nat) (x : Nat × va_E), ws[k]? = some x → H1[x.1]? = H[x.1]? := fun k x hx => hk x.1 ((hW.1 k x hx).lt)
  refine ⟨(hW.1.kept hk').app (fun k x hx => ?_), hW.2.1.push hW.1 rfl (Nat.le_trans hbs hW.2.2.1), hS⟩
  have hz : k < 1 := (List.getElem?_eq_some_iff.mp hx).1
  rw [show k = 0 by omega] at hx
  cases hx
  exact ha
theorem WW_sub {G : GT} {H0 H : Heap} {ws ws' : va_W} {locs : List Loc} (hW : WW G H0 ws H locs) (is : List Nat) (hn : va_nd is = true) (hs : is.map (fun i => ws[i]?) = ws'.map some) : WW G H0 ws' H locs := by
  refine ⟨fun k q hk => ?_, hW.2.1.sub is hn hs, hW.2.2⟩
  have h1 : (is.map (fun i => ws[i]?))[k]? = some (some q) := by rw [hs, List.getElem?_map, hk]; rfl
  rw [List.getElem?_map] at h1
  cases hi : is[k]? with
  | none => rw [hi] at h1; cases h1
  | some i => rw [hi] at h1; exact hW.1 i q (Option.some.inj h1)
/-- a private method of a class above that of the receiver -/
theorem sel_priv {C : String} {y z : MethodName} {s : State} {args : Array Value} {n : Nat} (hy : y.cls ≠ "java/lang/invoke/MethodHandle" ∧ y.cls ≠ "java/lang/invoke/VarHandle")
    (hins : (Cond.instantiable C n).before args s = true) (hsm : (Cond.sameMethod y.cls y.cls z.name z.desc).before args s = true) (hpriv : (Cond.privateMethod y).before args s = true) (hinst : (Cond.instanceMethod y).before args s = true) :
    (Cond.selects C y y).before args s = true := by
  obtain ⟨c, k, hc, hk, -, -, -, -⟩ := Cond.instantiable_spec hins
  obtain ⟨cn, ck, r1, hcn, hck, hni, hf, hn1⟩ := Cond.sameMethod_found hsm
  obtain ⟨mk, methM, hnamed, hmethM, -, -⟩ := Cond.instanceMethod_spec hinst
  have hfound : s.methodFound? y.cls y.name y.desc = some mk := State.methodFound?_of_named hnamed hy
  have hcls : mk.cls = cn := Option.some.inj ((findClass_of_methodNamed hnamed).symm.trans hcn)
  have hsel : selectMethod {} s.vm c mk = .method mk := selectMethod_private hmethM (Cond.privateMethod_at hpriv mk methM hnamed hmethM)
  simp only [Cond.before, Cond.holds, Cond.value, hc, hfound, hnamed, hsel, hcls, hck]
  simp; exact hni
end
section
/-! Texts: what a StringBuilder holds, as a list of letters. -/
abbrev sbW (G : GT) (sa va n m : Nat) (a : Nat → Int32) : va_W := [(sa, .inr (iSB, [.ref va, .int 0, .int 0, .int (nI n)])), (va, aI (gC G 8) m a)]
def sbL (t : List Nat) (a : Nat → Int32) : Prop := sb_Lat (fun j => t.getD j 0) t.length a
/-- a StringBuilder at sa that holds t -/
def SBH (G : GT) (sa : Nat) (t : List Nat) (H : Heap) : Prop := ∃ (va m : Nat) (a : Nat → Int32), va_P G.1 gcl (sbW G sa va t.length m a) H ∧ va_D (gAb G) (sbW G sa va t.length m a) ∧ sbL t a ∧ sb_Fit a ∧ t.length ≤ m ∧ (m = 16 ∨ m = 34)
def dgl (v : Nat) : List Nat := if v < 10 then [48 + v] else if v < 100 then [48 + v / 10, 48 + v % 10] else if v < 1000 then [48 + v / 100, 48 + v / 10 % 10, 48 + v % 10] else [48 + v / 1000, 48 + v / 100 % 10, 48 + v / 10 % 10, 48 + v % 10]
theorem dgl1 {v : Nat} (h : v < 10) : dgl v = [48 + v] := if_pos h
theorem dgl2 {v : Nat} (h : ¬ v < 10) (h2 : v < 100) : dgl v = [48 + v / 10, 48 + v % 10] := by unfold dgl; rw [if_neg h, if_pos h2]
theorem dgl3 {v : Nat} (h : ¬ v < 100) (h2 : v < 1000) : dgl v = [48 + v / 100, 48 + v / 10 % 10, 48 + v % 10] := by unfold dgl; rw [if_neg (by omega), if_neg h, if_pos h2]
theorem dgl4 {v : Nat} (h : ¬ v < 1000) : dgl v = [48 + v / 1000, 48 + v / 100 % 10, 48 + v / 10 % 10, 48 + v % 10] := by unfold dgl; rw [if_neg (by omega), if_neg (by omega), if_neg h]
theorem dgl_len (v : Nat) : 1 ≤ (dgl v).length ∧ (dgl v).length ≤ 4 := by unfold dgl; (repeat' split) <;> simp
theorem dgl_lt {v : Nat} (hv : v < 10000) : ∀ i, i < (dgl v).length → (dgl v).getD i 0 < 256 := by
  intro i hi
  have hi4 : i < 4 := Nat.lt_of_lt_of_le hi (dgl_len v).2
  unfold dgl
  rcases (by omega : i = 0 ∨ i = 1 ∨ i = 2 ∨ i = 3) with rfl | rfl | rfl | rfl <;> (repeat' split) <;> simp <;> omega
theorem sbL_app {t u : List Nat} {a a' : Nat → Int32} (h : sbL t a) (hk : ∀ j, j < t.length → a' j = a j) (hs : ∀ i, i < u.length → u.getD i 0 < 256 ∧ a' (t.length + i) = sb_b (u.getD i 0)) : sbL (t ++ u) a' := by
  have e : (fun j => (t ++ u).getD j 0) = sb_cat (fun j => t.getD j 0) t.length (fun j => u.getD j 0) := by
    funext j
    unfold sb_cat
    split
    · simp [List.getD, List.getElem?_append, *]
    · simp [List.getD, List.getElem?_append, *]
  unfold sbL
  rw [e, List.length_append]
  exact sb_latPut h hk hs
theorem sb_nb (c : Nat) : vp_nar .byte (nI c) = sb_b c := by rw [vp_nar_byte]; rfl
def mxI (x y : Int32) : Int32 := if x < y then y else x
def mnI (x y : Int32) : Int32 := if y < x then y else x
theorem sb_cmpn {v c : Nat} (hv : v < 2 ^ 31) (hc : c < 2 ^ 31) {x : Int32} (hx : x = -nI c) : (-nI v ≤ x ↔ c ≤ v) := by subst hx; exact sb_nle hv hc
theorem sb_cmpl {v c : Nat} (hv : v < 2 ^ 31) (hc : c < 2 ^ 31) {x : Int32} (hx : x = -nI c) : (x < -nI v ↔ v < c) := by subst hx; exact sb_nlt hc hv
theorem WW_nil {G : GT} {H : Heap} {locs : List Loc} (h : locs = []) : WW G H [] H locs := by
  subst h
  refine ⟨fun k q h => ?_, ⟨fun i j p q h => ?_, fun k q h => ?_⟩, va_S.rf⟩ <;> simp at h
theorem mx18 {b : Nat} (hb18 : b ≤ 18) : mxI (nI b) (nI 18) = nI 18 := by
  unfold mxI
  split
  · rfl
  · rename_i h
    have : ¬ b < 18 := fun q => h (nI_lt q (by decide))
    rw [show b = 18 by omega]
theorem sb_m16 {m q : Nat} (hm : m = 16 ∨ m = 34) (hq : q ≤ 34) (c : ¬ nI q - nI m ≤ 0) : m = 16 ∧ 16 < q := by
  have e : (nI q - nI m).toInt = (q : Int) - m := pk_sub_toInt (by omega) (by omega)
  have h : ¬ q ≤ m := fun z => c (by rw [Int32.le_iff_toInt_le, e, Int32.toInt_zero]; omega)
  omega
theorem sb_qle {m q : Nat} (hm : m = 16 ∨ m = 34) (hq : q ≤ 34) (c : nI q - nI m ≤ 0) : q ≤ m := by
  have e : (nI q - nI m).toInt = (q : Int) - m := pk_sub_toInt (by omega) (by omega)
  rw [Int32.le_iff_toInt_le, e, Int32.toInt_zero] at c
  omega
theorem sb_cmpg {v c : Nat} (hv : v < 2 ^ 31) (hc : c < 2 ^ 31) {x : Int32} (hx : x = -nI c) : (x ≤ -nI v ↔ v ≤ c) := by subst hx; exact sb_nle hc hv
theorem updr {f : Nat → Int32} {k j : Nat} {x : Int32} (h : j = k) : upd f k x j = x := by rw [h]; exact pk_us
/-- String's own methods, of the letters' constant -/
def hPreL (G : GT) (av : List Value) (Hx : Heap) (aK aV : Nat → Nat) : Array Value → State → Prop := va_Pc av (fun U => EnvP G U ∧ gbase G ≤ U.heap.size ∧ U.heap = Hx ∧ vk_S 1 [6] [[80, 65, 82, 86, 84, 79]] aK aV (gAb G) U U.heap)
theorem hPreL_blind {G : GT} {av : List Value} {Hx : Heap} {aK aV : Nat → Nat} : FrameBlind (hPreL G av Hx aK aV) := fun g mk a U h => ⟨h.1, env_calling h.2.1, h.2.2.1, h.2.2.2.1, vk_S.moved (Vm.Alike.refl _) h.2.2.2.2⟩
theorem h_startL {l : Launch} {G : GT} {y : MethodName} {own : String} {cc : ByteArray} {maxL : Nat} {ret : Option FieldType} {rm : Room} {av : List Value} {Hx : Heap} {aK aV : Nat → Nat} {Qc : Array Value → State → Outcome → State → Prop} {mc ms : Nat} (hy : plainFor y = true) (hown : y.cls = own) (hlen : (lg_sl av).length ≤ maxL)
    (body : ∀ (p : Program) (e : Env) (s : State) (m : MethodId) (below : List Frame) (meth : Method) (c : Code) (ls : Array Slot), CX G own cc maxL ret p s m av.toArray meth c → s.heap = Hx → vk_S 1 [6] [[80, 65, 82, 86, 84, 79]] aK aV (gAb G) s s.heap → lv_has ls maxL (lv_args 0 av) → W p l e rm s m av.toArray below meth c s.heap [] 0 0 (MQ below Qc av.toArray s mc ms (gAb G)) (F0 m 0 ls [])) : Met l y (.code y cc maxL ret :: WS) rm (hPreL G av Hx aK aV) Qc mc ms (gAb G) := by
  refine va_MetF (cc := cc) (maxL := maxL) (ret := ret) hy rfl ?_
  intro p e s m args below meth c s₁ B hml hv
  obtain ⟨rfl, hE, hbs, hI, hL⟩ := hv
  have hts := atoms_spec (ws := .code y cc maxL ret :: WS) B.pre
  have ho : s.vm.findClass y.cls = some m.cls := findClass_of_methodNamed B.named
  rw [hown] at ho
  rw [lg_entry_eq]
  exact body p e s m below meth c _ ⟨B.exec, B.bytes, B.returns, hml, ho, fun w h => hts w (List.mem_cons_of_mem _ h), B.notSynchronized, hE, hbs⟩ hI hL (lv_entry av hlen)
section HL
variable {p : Program} {l : Launch} {e : Env} {R : Room} {s : State} {m : MethodId} {args : Array Value} {below : List Frame} {meth : Method} {c : Code} {H : Heap} {locs : List Loc} {cells slots : Nat} {Q : State → Prop}
variable {cc : ByteArray} {pc : Nat} {ls : Array Slot} {rest : List Value} {G G' : GT} {aK aV : Nat → Nat}
variable {y : MethodName} {bytes : ByteArray} {maxL nL mc ms n index : Nat} {ret : Option FieldType} {rm : Room} {Qc : Array Value → State → Outcome → State → Prop} {own C host : String} {As st0 : List Value}
theorem h_preL {av : List Value} (hE : EnvP G s) (hL : vk_S 1 [6] [[80, 65, 82, 86, 84, 79]] aK aV (gAb G) s s.heap) (hS : va_S (gAb G) s.heap H locs) (hg : gbase G ≤ gbase G') (hG' : gB G (gbase G') = G') (hbs : gbase G' ≤ H.size) : ∀ U : State, U.heap = H → s.WarmedH U.vm → hPreL G' av H aK aV av.toArray U := fun U hU hWm =>
  ⟨rfl, by rw [← hG']; exact env_nar (env_move hE hS hU hWm) hg, by rw [hU]; exact hbs, hU, by rw [hU]; exact vk_S.narrow (vk_S.moved hWm.alike (hL.kept hS.2.1)) (fun q h => Nat.le_trans hg h)⟩
theorem h_runSL (hx : p.tables.exec = Jvm.exec) (hb : c.code = cc) (hml : c.maxLocals = nL) (hown : s.vm.findClass own = some m.cls) (hts : ∀ w ∈ WS, w.before args s = true) (hE : EnvP G s) (hL : vk_S 1 [6] [[80, 65, 82, 86, 84, 79]] aK aV (gAb G) s s.heap) (hS : va_S (gAb G) s.heap H locs) (hg : gbase G ≤ gbase G') (hG' : gB G (gbase G') = G') (hbs : gbase G' ≤ H.size) (hM : Met l y (.code y bytes maxL ret :: WS) rm (hPreL G' As H aK aV) Qc mc ms (gAb G'))
    (k1 : Cond.methodLink own index y ∈ WS) (k2 : Cond.static y ∈ WS) (k3 : Cond.initialized y.cls ∈ WS) (k4 : Cond.code y bytes maxL ret ∈ WS) (hrc : rm.cells = mc) (hrs : rm.slots = ms) (hd : y.cls ≠ "java/lang/invoke/MethodHandle" ∧ y.cls ≠ "java/lang/invoke/VarHandle" ∧ (parseMethodDescriptor y.desc).map (fun d => d.parameters.length) = some n) (hR : rm.frames + 1 ≤ R.frames ∧ 8 + (maxL + 11) + rm.locals ≤ R.locals)
    (hn : As.length = n) (hsize : ls.size = nL) (hst : st0 = As.reverse ++ rest) (hcat : (rest.map fun v => v.category).sum ≤ 8) (hdg : decode cc pc = .ok (.invokestatic index, 3)) (hf : cells + mc ≤ R.cells ∧ slots + ms ≤ R.slots) :
    va_Run p l e R s m args below meth c H locs cells slots mc ms (F0 m pc ls st0) rest (Qc As.toArray) (gAb G') :=
  va_runS ⟨hx, hb, hml, hown, hts⟩ hM ⟨callB_of n hts (goodWS k4) rfl hrc hrs (hts _ k3) (hts _ k1) hd hR, hts _ k2⟩ ⟨hPreL_blind, h_preL hE hL hS hg hG' hbs⟩ rfl hn hsize hst (lv_room hcat) hdg hf
theorem h_runVL (hx : p.tables.exec = Jvm.exec) (hb : c.code = cc) (hml : c.maxLocals = nL) (hown : s.vm.findClass own = some m.cls) (hts : ∀ w ∈ WS, w.before args s = true) (hE : EnvP G s) (hL : vk_S 1 [6] [[80, 65, 82, 86, 84, 79]] aK aV (gAb G) s s.heap) (hS : va_S (gAb G) s.heap H locs) (hg : gbase G ≤ gbase G') (hG' : gB G (gbase G') = G') (hbs : gbase G' ≤ H.size) (hM : Met l y (.code y bytes maxL ret :: WS) rm (hPreL G' (.ref (aK 0) :: As) H aK aV) Qc mc ms (gAb G'))
    (k1 : Cond.methodLink own index y ∈ WS) (k2 : Cond.instanceMethod y ∈ WS) (k5 : Cond.selects "java/lang/String" y y ∈ WS) (k3 : Cond.initialized y.cls ∈ WS) (k4 : Cond.code y bytes maxL ret ∈ WS) (hrc : rm.cells = mc) (hrs : rm.slots = ms) (hd : y.cls ≠ "java/lang/invoke/MethodHandle" ∧ y.cls ≠ "java/lang/invoke/VarHandle" ∧ (parseMethodDescriptor y.desc).map (fun d => d.parameters.length) = some n) (hR : rm.frames + 1 ≤ R.frames ∧ 8 + (maxL + 11) + rm.locals ≤ R.locals)
    (hn : As.length = n) (hsize : ls.size = nL) (hst : st0 = As.reverse ++ .ref (aK 0) :: rest) (hcat : (rest.map fun v => v.category).sum ≤ 8) (hdg : decode cc pc = .ok (.invokevirtual index, 3)) (hf : cells + mc ≤ R.cells ∧ slots + ms ≤ R.slots) :
    va_Run p l e R s m args below meth c H locs cells slots mc ms (F0 m pc ls st0) rest (Qc (Value.ref (aK 0) :: As).toArray) (gAb G') :=
  va_runV ⟨hx, hb, hml, hown, hts⟩ hM ⟨callB_of n hts (goodWS k4) rfl hrc hrs (hts _ k3) (hts _ k1) hd hR, hts _ k2, hts _ k5⟩ ⟨hPreL_blind, vk_recv hL (by decide) hS, h_preL hE hL hS hg hG' hbs⟩ rfl hn hsize hst (lv_room hcat) hdg hf
end HL
theorem lt_and : ∀ k, k < 6 → (([80, 65, 82, 86, 84, 79] : List Int32).getD k 0) &&& 255 = nI (([80, 65, 82, 86, 84, 79] : List Nat).getD k 0) := by decide +kernel
theorem lt_i2c : ∀ k, k < 6 → ((nI (([80, 65, 82, 86, 84, 79] : List Nat).getD k 0)).toUInt32 % 65536).toInt32 = nI (([80, 65, 82, 86, 84, 79] : List Nat).getD k 0) := by decide +kernel
theorem lt_lt : ∀ k, k < 6 → ([80, 65, 82, 86, 84, 79] : List Nat).getD k 0 < 256 := by decide +kernel
theorem lt_nar (k : Nat) (hk : k < 6) : narrow .char (.int (nI (([80, 65, 82, 86, 84, 79] : List Nat).getD k 0))) = .int (nI (([80, 65, 82, 86, 84, 79] : List Nat).getD k 0)) := (pk_charN (by have := lt_lt k hk; omega)).1
end
section
theorem kw_0 : .code y_Math_max b_Math_max 2 (some .int) ∈ WS := List.mem_filter.mpr ⟨List.mem_append_right _ (List.mem_of_getElem? (i := 747) (by decide +kernel)), by decide +kernel⟩
theorem kw_1 : .initialized R_Math ∈ WS := List.mem_filter.mpr ⟨List.mem_append_right _ (List.mem_of_getElem? (i := 18) (by decide +kernel)), by decide +kernel⟩
theorem kw_2 : .methodLink R_ArraysSupport 194 y_Math_max ∈ WS := List.mem_filter.mpr ⟨List.mem_append_right _ (List.mem_of_getElem? (i := 745) (by decide +kernel)), by decide +kernel⟩
theorem kw_3 : .static y_Math_max ∈ WS := List.mem_filter.mpr ⟨List.mem_append_right _ (List.mem_of_getElem? (i := 746) (by decide +kernel)), by decide +kernel⟩
theorem kw_4 : .constant R_ArraysSupport 200 2147483639 ∈ WS := List.mem_filter.mpr ⟨List.mem_append_right _ (List.mem_of_getElem? (i := 748) (by decide +kernel)), by decide +kernel⟩
theorem kw_5 : .fieldLink R_AbstractStringBuilder 18 "java/lang/String" "COMPACT_STRINGS" "Z" ∈ WS := List.mem_filter.mpr ⟨List.mem_append_right _ (List.mem_of_getElem? (i := 662) (by decide +kernel)), by decide +kernel⟩
theorem kw_6 : .fieldLink R_AbstractStringBuilder 22 "java/lang/AbstractStringBuilder" "coder" "B" ∈ WS := List.mem_filter.mpr ⟨List.mem_append_right _ (List.mem_of_getElem? (i := 672) (by decide +kernel)), by decide +kernel⟩
theorem kw_7 : .fieldLink R_AbstractStringBuilder 15 "java/lang/AbstractStringBuilder" "value" "[B" ∈ WS := List.mem_filter.mpr ⟨List.mem_append_right _ (List.mem_of_getElem? (i := 671) (by decide +kernel)), by decide +kernel⟩
theorem kw_8 : .code y_ArraysSupport_newLength b_ArraysSupport_newLength 4 (some .int) ∈ WS := List.mem_filter.mpr ⟨List.mem_append_right _ (List.mem_of_getElem? (i := 744) (by decide +kernel)), by decide +kernel⟩
theorem kw_9 : .initialized R_ArraysSupport ∈ WS := List.mem_filter.mpr ⟨List.mem_append_right _ (List.mem_of_getElem? (i := 26) (by decide +kernel)), by decide +kernel⟩
theorem kw_10 : .methodLink R_AbstractStringBuilder 114 y_ArraysSupport_newLength ∈ WS := List.mem_filter.mpr ⟨List.mem_append_right _ (List.mem_of_getElem? (i := 742) (by decide +kernel)), by decide +kernel⟩
theorem kw_11 : .static y_ArraysSupport_newLength ∈ WS := List.mem_filter.mpr ⟨List.mem_append_right _ (List.mem_of_getElem? (i := 743) (by decide +kernel)), by decide +kernel⟩
theorem kw_12 : .constant R_AbstractStringBuilder 39 2147483647 ∈ WS := List.mem_filter.mpr ⟨List.mem_append_right _ (List.mem_of_getElem? (i := 752) (by decide +kernel)), by decide +kernel⟩
theorem kw_13 : .arrayClass .byte ∈ WS := List.mem_filter.mpr ⟨List.mem_append_right _ (List.mem_of_getElem? (i := 290) (by decide +kernel)), by decide +kernel⟩
theorem kw_14 : .code y_Math_min b_Math_min 2 (some .int) ∈ WS := List.mem_filter.mpr ⟨List.mem_append_right _ (List.mem_of_getElem? (i := 765) (by decide +kernel)), by decide +kernel⟩
theorem kw_15 : .methodLink R_Arrays 304 y_Math_min ∈ WS := List.mem_filter.mpr ⟨List.mem_append_right _ (List.mem_of_getElem? (i := 763) (by decide +kernel)), by decide +kernel⟩
theorem kw_16 : .static y_Math_min ∈ WS := List.mem_filter.mpr ⟨List.mem_append_right _ (List.mem_of_getElem? (i := 764) (by decide +kernel)), by decide +kernel⟩
theorem kw_17 : .methodLink R_Arrays 150 arraycopyName ∈ WS := List.mem_filter.mpr ⟨List.mem_append_right _ (List.mem_of_getElem? (i := 766) (by decide +kernel)), by decide +kernel⟩
theorem kw_18 : .native arraycopyName ∈ WS := List.mem_filter.mpr ⟨List.mem_append_right _ (List.mem_of_getElem? (i := 423) (by decide +kernel)), by decide +kernel⟩
theorem kw_19 : .static arraycopyName ∈ WS := List.mem_filter.mpr ⟨List.mem_append_right _ (List.mem_of_getElem? (i := 422) (by decide +kernel)), by decide +kernel⟩
theorem kw_20 : .initialized "java/lang/System" ∈ WS := List.mem_filter.mpr ⟨List.mem_append_right _ (List.mem_of_getElem? (i := 17) (by decide +kernel)), by decide +kernel⟩
theorem kw_21 : .code y_AbstractStringBuilder_newCapacity b_AbstractStringBuilder_newCapacity 6 (some .int) ∈ WS := List.mem_filter.mpr ⟨List.mem_append_right _ (List.mem_of_getElem? (i := 741) (by decide +kernel)), by decide +kernel⟩
theorem kw_22 : .initialized R_AbstractStringBuilder ∈ WS := List.mem_filter.mpr ⟨List.mem_append_right _ (List.mem_of_getElem? (i := 20) (by decide +kernel)), by decide +kernel⟩
theorem kw_23 : .methodLink R_AbstractStringBuilder 104 y_AbstractStringBuilder_newCapacity ∈ WS := List.mem_filter.mpr ⟨List.mem_append_right _ (List.mem_of_getElem? (i := 738) (by decide +kernel)), by decide +kernel⟩
theorem kw_24 : .instanceMethod y_AbstractStringBuilder_newCapacity ∈ WS := List.mem_filter.mpr ⟨List.mem_append_right _ (List.mem_of_getElem? (i := 740) (by decide +kernel)), by decide +kernel⟩
theorem kw_25 : .code y_Arrays_copyOf b_Arrays_copyOf 3 (some (.array .byte)) ∈ WS := List.mem_filter.mpr ⟨List.mem_append_right _ (List.mem_of_getElem? (i := 755) (by decide +kernel)), by decide +kernel⟩
theorem kw_26 : .initialized R_Arrays ∈ WS := List.mem_filter.mpr ⟨List.mem_append_right _ (List.mem_of_getElem? (i := 5) (by decide +kernel)), by decide +kernel⟩
theorem kw_27 : .methodLink R_AbstractStringBuilder 108 y_Arrays_copyOf ∈ WS := List.mem_filter.mpr ⟨List.mem_append_right _ (List.mem_of_getElem? (i := 753) (by decide +kernel)), by decide +kernel⟩
theorem kw_28 : .static y_Arrays_copyOf ∈ WS := List.mem_filter.mpr ⟨List.mem_append_right _ (List.mem_of_getElem? (i := 754) (by decide +kernel)), by decide +kernel⟩
theorem kw_29 : .fieldLink R_AbstractStringBuilder 79 "java/lang/AbstractStringBuilder" "count" "I" ∈ WS := List.mem_filter.mpr ⟨List.mem_append_right _ (List.mem_of_getElem? (i := 673) (by decide +kernel)), by decide +kernel⟩
theorem kw_30 : .code y_AbstractStringBuilder_ensureCapacityInternal b_AbstractStringBuilder_ensureCapacityInternal 3 none ∈ WS := List.mem_filter.mpr ⟨List.mem_append_right _ (List.mem_of_getElem? (i := 737) (by decide +kernel)), by decide +kernel⟩
theorem kw_31 : .methodLink R_AbstractStringBuilder 100 y_AbstractStringBuilder_ensureCapacityInternal ∈ WS := List.mem_filter.mpr ⟨List.mem_append_right _ (List.mem_of_getElem? (i := 734) (by decide +kernel)), by decide +kernel⟩
theorem kw_32 : .instanceMethod y_AbstractStringBuilder_ensureCapacityInternal ∈ WS := List.mem_filter.mpr ⟨List.mem_append_right _ (List.mem_of_getElem? (i := 736) (by decide +kernel)), by decide +kernel⟩
theorem kw_33 : .code y_AbstractStringBuilder_isLatin1 b_AbstractStringBuilder_isLatin1 1 (some .boolean) ∈ WS := List.mem_filter.mpr ⟨List.mem_append_right _ (List.mem_of_getElem? (i := 771) (by decide +kernel)), by decide +kernel⟩
theorem kw_34 : .methodLink R_AbstractStringBuilder 83 y_AbstractStringBuilder_isLatin1 ∈ WS := List.mem_filter.mpr ⟨List.mem_append_right _ (List.mem_of_getElem? (i := 767) (by decide +kernel)), by decide +kernel⟩
theorem kw_35 : .instanceMethod y_AbstractStringBuilder_isLatin1 ∈ WS := List.mem_filter.mpr ⟨List.mem_append_right _ (List.mem_of_getElem? (i := 768) (by decide +kernel)), by decide +kernel⟩
theorem kw_36 : .selects R_SB y_AbstractStringBuilder_isLatin1 y_AbstractStringBuilder_isLatin1 ∈ WS := List.mem_filter.mpr ⟨List.mem_append_right _ (List.mem_of_getElem? (i := 770) (by decide +kernel)), by decide +kernel⟩
theorem kw_37 : .code y_StringLatin1_canEncode b_StringLatin1_canEncode 1 (some .boolean) ∈ WS := List.mem_filter.mpr ⟨List.mem_append_right _ (List.mem_of_getElem? (i := 774) (by decide +kernel)), by decide +kernel⟩
theorem kw_38 : .initialized R_StringLatin1 ∈ WS := List.mem_filter.mpr ⟨List.mem_append_right _ (List.mem_of_getElem? (i := 24) (by decide +kernel)), by decide +kernel⟩
theorem kw_39 : .methodLink R_AbstractStringBuilder 191 y_StringLatin1_canEncode ∈ WS := List.mem_filter.mpr ⟨List.mem_append_right _ (List.mem_of_getElem? (i := 772) (by decide +kernel)), by decide +kernel⟩
theorem kw_40 : .static y_StringLatin1_canEncode ∈ WS := List.mem_filter.mpr ⟨List.mem_append_right _ (List.mem_of_getElem? (i := 773) (by decide +kernel)), by decide +kernel⟩
theorem kw_41 : .code y_AbstractStringBuilder_append_C b_AbstractStringBuilder_append_C 2 (some (.object "java/lang/AbstractStringBuilder")) ∈ WS := List.mem_filter.mpr ⟨List.mem_append_right _ (List.mem_of_getElem? (i := 733) (by decide +kernel)), by decide +kernel⟩
theorem kw_42 : .methodLink R_SB 50 y_AbstractStringBuilder_append_C ∈ WS := List.mem_filter.mpr ⟨List.mem_append_right _ (List.mem_of_getElem? (i := 731) (by decide +kernel)), by decide +kernel⟩
theorem kw_43 : .instanceMethod y_AbstractStringBuilder_append_C ∈ WS := List.mem_filter.mpr ⟨List.mem_append_right _ (List.mem_of_getElem? (i := 732) (by decide +kernel)), by decide +kernel⟩
theorem kw_44 : .sameMethod R_AbstractStringBuilder R_AbstractStringBuilder "append" "(C)Ljava/lang/AbstractStringBuilder;" ∈ WS := List.mem_filter.mpr ⟨List.mem_append_right _ (List.mem_of_getElem? (i := 1156) (by decide +kernel)), by decide +kernel⟩
theorem kw_45 : .superclass R_SB R_AbstractStringBuilder ∈ WS := List.mem_filter.mpr ⟨List.mem_append_right _ (List.mem_of_getElem? (i := 682) (by decide +kernel)), by decide +kernel⟩
theorem kw_46 : .fieldLink R_Integer 83 "java/lang/Integer" "DigitOnes" "[B" ∈ WS := List.mem_filter.mpr ⟨List.mem_append_right _ (List.mem_of_getElem? (i := 816) (by decide +kernel)), by decide +kernel⟩
theorem kw_47 : .fieldLink R_Integer 87 "java/lang/Integer" "DigitTens" "[B" ∈ WS := List.mem_filter.mpr ⟨List.mem_append_right _ (List.mem_of_getElem? (i := 818) (by decide +kernel)), by decide +kernel⟩
theorem kw_48 : .code y_Integer_stringSize b_Integer_stringSize 4 (some .int) ∈ WS := List.mem_filter.mpr ⟨List.mem_append_right _ (List.mem_of_getElem? (i := 812) (by decide +kernel)), by decide +kernel⟩
theorem kw_49 : .initialized R_Integer ∈ WS := List.mem_filter.mpr ⟨List.mem_append_right _ (List.mem_of_getElem? (i := 16) (by decide +kernel)), by decide +kernel⟩
theorem kw_50 : .methodLink R_AbstractStringBuilder 245 y_Integer_stringSize ∈ WS := List.mem_filter.mpr ⟨List.mem_append_right _ (List.mem_of_getElem? (i := 810) (by decide +kernel)), by decide +kernel⟩
theorem kw_51 : .static y_Integer_stringSize ∈ WS := List.mem_filter.mpr ⟨List.mem_append_right _ (List.mem_of_getElem? (i := 811) (by decide +kernel)), by decide +kernel⟩
theorem kw_52 : .code y_Integer_getChars b_Integer_getChars 7 (some .int) ∈ WS := List.mem_filter.mpr ⟨List.mem_append_right _ (List.mem_of_getElem? (i := 815) (by decide +kernel)), by decide +kernel⟩
theorem kw_53 : .methodLink R_AbstractStringBuilder 248 y_Integer_getChars ∈ WS := List.mem_filter.mpr ⟨List.mem_append_right _ (List.mem_of_getElem? (i := 813) (by decide +kernel)), by decide +kernel⟩
theorem kw_54 : .static y_Integer_getChars ∈ WS := List.mem_filter.mpr ⟨List.mem_append_right _ (List.mem_of_getElem? (i := 814) (by decide +kernel)), by decide +kernel⟩
theorem kw_55 : .code y_AbstractStringBuilder_append_I b_AbstractStringBuilder_append_I 4 (some (.object "java/lang/AbstractStringBuilder")) ∈ WS := List.mem_filter.mpr ⟨List.mem_append_right _ (List.mem_of_getElem? (i := 809) (by decide +kernel)), by decide +kernel⟩
theorem kw_56 : .methodLink R_SB 53 y_AbstractStringBuilder_append_I ∈ WS := List.mem_filter.mpr ⟨List.mem_append_right _ (List.mem_of_getElem? (i := 807) (by decide +kernel)), by decide +kernel⟩
theorem kw_57 : .instanceMethod y_AbstractStringBuilder_append_I ∈ WS := List.mem_filter.mpr ⟨List.mem_append_right _ (List.mem_of_getElem? (i := 808) (by decide +kernel)), by decide +kernel⟩
theorem kw_58 : .sameMethod R_AbstractStringBuilder R_AbstractStringBuilder "append" "(I)Ljava/lang/AbstractStringBuilder;" ∈ WS := List.mem_filter.mpr ⟨List.mem_append_right _ (List.mem_of_getElem? (i := 1160) (by decide +kernel)), by decide +kernel⟩
theorem hd_Math_max : y_Math_max.cls ≠ "java/lang/invoke/MethodHandle" ∧ y_Math_max.cls ≠ "java/lang/invoke/VarHandle" ∧ (parseMethodDescriptor y_Math_max.desc).map (fun d => d.parameters.length) = some 2 := by decide +kernel
theorem hd_ArraysSupport_newLength : y_ArraysSupport_newLength.cls ≠ "java/lang/invoke/MethodHandle" ∧ y_ArraysSupport_newLength.cls ≠ "java/lang/invoke/VarHandle" ∧ (parseMethodDescriptor y_ArraysSupport_newLength.desc).map (fun d => d.parameters.length) = some 3 := by decide +kernel
theorem hd_Math_min : y_Math_min.cls ≠ "java/lang/invoke/MethodHandle" ∧ y_Math_min.cls ≠ "java/lang/invoke/VarHandle" ∧ (parseMethodDescriptor y_Math_min.desc).map (fun d => d.parameters.length) = some 2 := by decide +kernel
theorem hd_AbstractStringBuilder_newCapacity : y_AbstractStringBuilder_newCapacity.cls ≠ "java/lang/invoke/MethodHandle" ∧ y_AbstractStringBuilder_newCapacity.cls ≠ "java/lang/invoke/VarHandle" ∧ (parseMethodDescriptor y_AbstractStringBuilder_newCapacity.desc).map (fun d => d.parameters.length) = some 1 := by decide +kernel
theorem hd_Arrays_copyOf : y_Arrays_copyOf.cls ≠ "java/lang/invoke/MethodHandle" ∧ y_Arrays_copyOf.cls ≠ "java/lang/invoke/VarHandle" ∧ (parseMethodDescriptor y_Arrays_copyOf.desc).map (fun d => d.parameters.length) = some 2 := by decide +kernel
theorem hd_AbstractStringBuilder_ensureCapacityInternal : y_AbstractStringBuilder_ensureCapacityInternal.cls ≠ "java/lang/invoke/MethodHandle" ∧ y_AbstractStringBuilder_ensureCapacityInternal.cls ≠ "java/lang/invoke/VarHandle" ∧ (parseMethodDescriptor y_AbstractStringBuilder_ensureCapacityInternal.desc).map (fun d => d.parameters.length) = some 1 := by decide +kernel
theorem hd_AbstractStringBuilder_isLatin1 : y_AbstractStringBuilder_isLatin1.cls ≠ "java/lang/invoke/MethodHandle" ∧ y_AbstractStringBuilder_isLatin1.cls ≠ "java/lang/invoke/VarHandle" ∧ (parseMethodDescriptor y_AbstractStringBuilder_isLatin1.desc).map (fun d => d.parameters.length) = some 0 := by decide +kernel
theorem hd_StringLatin1_canEncode : y_StringLatin1_canEncode.cls ≠ "java/lang/invoke/MethodHandle" ∧ y_StringLatin1_canEncode.cls ≠ "java/lang/invoke/VarHandle" ∧ (parseMethodDescriptor y_StringLatin1_canEncode.desc).map (fun d => d.parameters.length) = some 1 := by decide +kernel
theorem hd_AbstractStringBuilder_append_C : y_AbstractStringBuilder_append_C.cls ≠ "java/lang/invoke/MethodHandle" ∧ y_AbstractStringBuilder_append_C.cls ≠ "java/lang/invoke/VarHandle" ∧ (parseMethodDescriptor y_AbstractStringBuilder_append_C.desc).map (fun d => d.parameters.length) = some 1 := by decide +kernel
theorem hd_Integer_stringSize : y_Integer_stringSize.cls ≠ "java/lang/invoke/MethodHandle" ∧ y_Integer_stringSize.cls ≠ "java/lang/invoke/VarHandle" ∧ (parseMethodDescriptor y_Integer_stringSize.desc).map (fun d => d.parameters.length) = some 1 := by decide +kernel
theorem hd_Integer_getChars : y_Integer_getChars.cls ≠ "java/lang/invoke/MethodHandle" ∧ y_Integer_getChars.cls ≠ "java/lang/invoke/VarHandle" ∧ (parseMethodDescriptor y_Integer_getChars.desc).map (fun d => d.parameters.length) = some 3 := by decide +kernel
theorem hd_AbstractStringBuilder_append_I : y_AbstractStringBuilder_append_I.cls ≠ "java/lang/invoke/MethodHandle" ∧ y_AbstractStringBuilder_append_I.cls ≠ "java/lang/invoke/VarHandle" ∧ (parseMethodDescriptor y_AbstractStringBuilder_append_I.desc).map (fun d => d.parameters.length) = some 1 := by decide +kernel
set_option maxHeartbeats 4000000 in
set_option maxRecDepth 100000 in
theorem h_max (l : Launch) (G : GT) (Hx : Heap) (x y : Int32) : Met l y_Math_max (.code y_Math_max b_Math_max 2 (some .int) :: WS) { frames := 0, cells := 0, slots := 0, locals := 0 } (hPre G [.int (x), .int (y)] (fun H9 => H9 = Hx)) (hQi G (fun r9 H9 => r9 = mxI x y ∧ H9 = Hx)) 0 0 (gAb G) := by
  refine h_startF (own := R_Math) (by decide +kernel) rfl (Nat.le_of_ble_eq_true rfl) ?_
  intro p e zs zm below meth zc ls C hI hl
  subst hI
  obtain ⟨hx, hb, hr, hml, hown, hts, hlk, hE, hbs⟩ := C
  have hK := hE.1
  have hl : lv_has ls 2 [(0, .int (x)), (1, .int (y))] := hl
  obtain ⟨locs, hlocs⟩ : ∃ l9 : List Loc, l9 = [] := ⟨_, rfl⟩
  rw [← hlocs]
  have hW : WW G zs.heap [] zs.heap locs := WW_nil hlocs
  refine lv_iload_n hx hb d_Math_max_0 rfl (lv_at hl 0 rfl) ?_
  refine lv_iload_n hx hb d_Math_max_1 rfl (lv_at hl 1 rfl) ?_
  refine lv_icmp_lt (tgt := 9) hx hb d_Math_max_2 (by decide) (fun c_1 => ?_) (fun c_1 => ?_)
  · skip
    refine lv_iload_n hx hb d_Math_max_9 rfl (lv_at hl 1 rfl) ?_
    exact h_iret hx hb hr hlk hW.2.2 ⟨by unfold mxI; rw [if_pos c_1], rfl⟩ (Nat.le_of_ble_eq_true rfl) (Nat.le_of_ble_eq_true rfl) d_Math_max_10
  · skip
    refine lv_iload_n hx hb d_Math_max_5 rfl (lv_at hl 0 rfl) ?_
    refine lv_goto (tgt := 10) hx hb d_Math_max_6 (by decide) ?_
    exact h_iret hx hb hr hlk hW.2.2 ⟨by unfold mxI; rw [if_neg c_1], rfl⟩ (Nat.le_of_ble_eq_true rfl) (Nat.le_of_ble_eq_true rfl) d_Math_max_10
set_option maxHeartbeats 4000000 in
set_option maxRecDepth 100000 in
theorem h_min (l : Launch) (G : GT) (Hx : Heap) (x y : Int32) : Met l y_Math_min (.code y_Math_min b_Math_min 2 (some .int) :: WS) { frames := 0, cells := 0, slots := 0, locals := 0 } (hPre G [.int (x), .int (y)] (fun H9 => H9 = Hx)) (hQi G (fun r9 H9 => r9 = mnI x y ∧ H9 = Hx)) 0 0 (gAb G) := by
  refine h_startF (own := R_Math) (by decide +kernel) rfl (Nat.le_of_ble_eq_true rfl) ?_
  intro p e zs zm below meth zc ls C hI hl
  subst hI
  obtain ⟨hx, hb, hr, hml, hown, hts, hlk, hE, hbs⟩ := C
  have hK := hE.1
  have hl : lv_has ls 2 [(0, .int (x)), (1, .int (y))] := hl
  obtain ⟨locs, hlocs⟩ : ∃ l9 : List Loc, l9 = [] := ⟨_, rfl⟩
  rw [← hlocs]
  have hW : WW G zs.heap [] zs.heap locs := WW_nil hlocs
  refine lv_iload_n hx hb d_Math_min_0 rfl (lv_at hl 0 rfl) ?_
  refine lv_iload_n hx hb d_Math_min_1 rfl (lv_at hl 1 rfl) ?_
  refine lv_icmp_gt (tgt := 9) hx hb d_Math_min_2 (by decide) (fun c_1 => ?_) (fun c_1 => ?_)
  · skip
    refine lv_iload_n hx hb d_Math_min_9 rfl (lv_at hl 1 rfl) ?_
    exact h_iret hx hb hr hlk hW.2.2 ⟨by unfold mnI; rw [if_pos c_1], rfl⟩ (Nat.le_of_ble_eq_true rfl) (Nat.le_of_ble_eq_true rfl) d_Math_min_10
  · skip
    refine lv_iload_n hx hb d_Math_min_5 rfl (lv_at hl 0 rfl) ?_
    refine lv_goto (tgt := 10) hx hb d_Math_min_6 (by decide) ?_
    exact h_iret hx hb hr hlk hW.2.2 ⟨by unfold mnI; rw [if_neg c_1], rfl⟩ (Nat.le_of_ble_eq_true rfl) (Nat.le_of_ble_eq_true rfl) d_Math_min_10
set_option maxHeartbeats 4000000 in
set_option maxRecDepth 100000 in
theorem h_newLength (l : Launch) (G : GT) (Hx : Heap) (b : Nat) (hb18 : b ≤ 18) : Met l y_ArraysSupport_newLength (.code y_ArraysSupport_newLength b_ArraysSupport_newLength 4 (some .int) :: WS) { frames := 1, cells := 0, slots := 0, locals := 21 } (hPre G [.int (nI 16), .int (nI b), .int (nI 18)] (fun H9 => H9 = Hx)) (hQi G (fun r9 H9 => r9 = nI 34 ∧ H9 = Hx)) 0 0 (gAb G) := by
  refine h_startF (own := R_ArraysSupport) (by decide +kernel) rfl (Nat.le_of_ble_eq_true rfl) ?_
  intro p e zs zm below meth zc ls C hI hl
  subst hI
  obtain ⟨hx, hb, hr, hml, hown, hts, hlk, hE, hbs⟩ := C
  have hK := hE.1
  have hl : lv_has ls 4 [(0, .int (nI 16)), (1, .int (nI b)), (2, .int (nI 18))] := hl
  obtain ⟨locs, hlocs⟩ : ∃ l9 : List Loc, l9 = [] := ⟨_, rfl⟩
  rw [← hlocs]
  have hW : WW G zs.heap [] zs.heap locs := WW_nil hlocs
  refine lv_iload_n hx hb d_ArraysSupport_newLength_0 rfl (lv_at hl 0 rfl) ?_
  refine lv_iload_n hx hb d_ArraysSupport_newLength_1 rfl (lv_at hl 1 rfl) ?_
  refine lv_iload_n hx hb d_ArraysSupport_newLength_2 rfl (lv_at hl 2 rfl) ?_
  refine h_ci (G := G) (h_runS (G := G) (G' := G) (I := fun Hz => Hz = zs.heap) hx hb hml hown hts hE hW.2.2 (Nat.le_refl _) rfl (Nat.le_trans hbs hW.2.2.1) rfl (h_max l G zs.heap (nI b) (nI 18)) kw_2 kw_3 kw_1 kw_0 rfl rfl hd_Math_max ⟨Nat.le_of_ble_eq_true rfl, Nat.le_of_ble_eq_true rfl⟩ (As := [.int (nI b), .int (nI 18)]) (rest := [.int (nI 16)]) rfl hl.1 rfl (Nat.le_of_ble_eq_true rfl) d_ArraysSupport_newLength_3 ⟨Nat.le_of_ble_eq_true rfl, Nat.le_of_ble_eq_true rfl⟩) hW.2.2 (Nat.le_refl _) (fun r9 H9 locs hJ hz9 hk9 hS9 => ?_)
  obtain ⟨hr9, hH9⟩ := hJ
  have hr9 := hr9.symm; subst hr9
  have hH9 := hH9.symm; subst hH9
  have hW : WW G zs.heap [] zs.heap locs := ⟨hW.1, hW.2.1, hS9⟩
  refine e_top (v := nI 18) (mx18 hb18) ?_
  refine lv_iadd hx hb d_ArraysSupport_newLength_6 ?_
  refine e_top (v := nI (16 + 18)) (nI_add (16) (18)) ?_
  refine lv_istore_n (lv' := [(3, .int (nI (16 + 18))), (0, .int (nI 16)), (1, .int (nI b)), (2, .int (nI 18))]) hx hb d_ArraysSupport_newLength_7 rfl hl (by decide) rfl (fun ls hl => ?_)
  refine lv_iconst (v := 0) hx hb d_ArraysSupport_newLength_8 (by decide) ?_
  refine lv_iload_n hx hb d_ArraysSupport_newLength_9 rfl (lv_at hl 0 rfl) ?_
  refine lv_icmp_ge (tgt := 21) hx hb d_ArraysSupport_newLength_10 (by decide) (fun c_1 => ?_) (fun c_1 => ?_)
  · skip
    exact absurd c_1 (by decide)
  · skip
    refine lv_iload_n hx hb d_ArraysSupport_newLength_13 rfl (lv_at hl 0 rfl) ?_
    refine lv_ldc (v := 2147483639) hx hb hown (hts _ kw_4) d_ArraysSupport_newLength_14 ?_
    refine lv_icmp_gt (tgt := 21) hx hb d_ArraysSupport_newLength_16 (by decide) (fun c_2 => ?_) (fun c_2 => ?_)
    · skip
      exact absurd c_2 (by decide)
    · skip
      refine lv_iload_n hx hb d_ArraysSupport_newLength_19 rfl (lv_at hl 0 rfl) ?_
      exact h_iret hx hb hr hlk hW.2.2 ⟨rfl, rfl⟩ (Nat.le_of_ble_eq_true rfl) (Nat.le_of_ble_eq_true rfl) d_ArraysSupport_newLength_20
set_option maxHeartbeats 4000000 in
set_option maxRecDepth 100000 in
theorem h_asbL1 (l : Launch) (G : GT) (Hx : Heap) (sa va n m : Nat) (a : Nat → Int32) (hP : va_P G.1 gcl [(sa, .inr (iSB, [.ref va, .int (0), .int (0), .int (nI n)])), (va, aI (gC G 8) (m) (a))] Hx) (hD : va_D (gAb G) [(sa, .inr (iSB, [.ref va, .int (0), .int (0), .int (nI n)])), (va, aI (gC G 8) (m) (a))]) : Met l y_AbstractStringBuilder_isLatin1 (.code y_AbstractStringBuilder_isLatin1 b_AbstractStringBuilder_isLatin1 1 (some .boolean) :: WS) { frames := 0, cells := 0, slots := 0, locals := 0 } (hPre G [.ref sa] (fun H9 => H9 = Hx)) (hQi G (fun r9 H9 => r9 = 1 ∧ H9 = Hx)) 0 0 (gAb G) := by
  refine h_startF (own := R_AbstractStringBuilder) (by decide +kernel) rfl (Nat.le_of_ble_eq_true rfl) ?_
  intro p e zs zm below meth zc ls C hI hl
  subst hI
  obtain ⟨hx, hb, hr, hml, hown, hts, hlk, hE, hbs⟩ := C
  have hK := hE.1
  have hl : lv_has ls 1 [(0, .ref sa)] := hl
  obtain ⟨locs, hlocs⟩ : ∃ l9 : List Loc, l9 = [] := ⟨_, rfl⟩
  rw [← hlocs]
  have hW : WW G zs.heap [(sa, .inr (iSB, [.ref va, .int (0), .int (0), .int (nI n)])), (va, aI (gC G 8) (m) (a))] zs.heap locs := ⟨hP, hD, by rw [hlocs]; exact va_S.rf⟩
  obtain ⟨eC, eF, ⟨tO, eO, eO'⟩, ⟨tT, eT, eT'⟩, ⟨aK, aV, eL, eL'⟩, eA, eV, eM⟩ := hE.2.2.2.2.2.2.2.2.2
  refine va_gets hx hb eC hW.2.2 hown (hts _ kw_5) (fun _ h => h) d_AbstractStringBuilder_isLatin1_0 ?_
  refine lv_if_eq (tgt := 17) hx hb d_AbstractStringBuilder_isLatin1_3 (by decide) (fun c_1 => ?_) (fun c_1 => ?_)
  · exact absurd c_1 (by decide)
  · skip
    refine lv_aload_n hx hb d_AbstractStringBuilder_isLatin1_6 rfl (lv_at hl 0 rfl) ?_
    refine va_get (v := .int (0)) hx hb hts i_SB hown hK hW.1 0 rfl rfl 1 (by decide) (hts _ kw_6) (fun _ h => h) rfl d_AbstractStringBuilder_isLatin1_7 ?_
    refine lv_if_ne (tgt := 17) hx hb d_AbstractStringBuilder_isLatin1_10 (by decide) (fun c_2 => ?_) (fun c_2 => ?_)
    · exact absurd c_2 (by decide)
    · skip
      refine lv_iconst (v := 1) hx hb d_AbstractStringBuilder_isLatin1_13 (by decide) ?_
      refine lv_goto (tgt := 18) hx hb d_AbstractStringBuilder_isLatin1_14 (by decide) ?_
      exact h_zret hx hb hr hlk hW.2.2 (rfl) ⟨rfl, rfl⟩ (Nat.le_of_ble_eq_true rfl) (Nat.le_of_ble_eq_true rfl) d_AbstractStringBuilder_isLatin1_18
set_option maxHeartbeats 4000000 in
set_option maxRecDepth 100000 in
theorem h_canEnc (l : Launch) (G : GT) (Hx : Heap) (c : Nat) (hc : c < 256) : Met l y_StringLatin1_canEncode (.code y_StringLatin1_canEncode b_StringLatin1_canEncode 1 (some .boolean) :: WS) { frames := 0, cells := 0, slots := 0, locals := 0 } (hPre G [.int (nI c)] (fun H9 => H9 = Hx)) (hQi G (fun r9 H9 => r9 = 1 ∧ H9 = Hx)) 0 0 (gAb G) := by
  refine h_startF (own := R_StringLatin1) (by decide +kernel) rfl (Nat.le_of_ble_eq_true rfl) ?_
  intro p e zs zm below meth zc ls C hI hl
  subst hI
  obtain ⟨hx, hb, hr, hml, hown, hts, hlk, hE, hbs⟩ := C
  have hK := hE.1
  have hl : lv_has ls 1 [(0, .int (nI c))] := hl
  obtain ⟨locs, hlocs⟩ : ∃ l9 : List Loc, l9 = [] := ⟨_, rfl⟩
  rw [← hlocs]
  have hW : WW G zs.heap [] zs.heap locs := WW_nil hlocs
  refine lv_iload_n hx hb d_StringLatin1_canEncode_0 rfl (lv_at hl 0 rfl) ?_
  refine lv_sipush (v := 255) hx hb d_StringLatin1_canEncode_1 (by decide) ?_
  refine lv_icmp_gt (tgt := 11) hx hb d_StringLatin1_canEncode_4 (by decide) (fun c_1 => ?_) (fun c_1 => ?_)
  · skip
    exact absurd c_1 (nI_nlt (a := 255) (b := c) (by omega) (by decide))
  · skip
    refine lv_iconst (v := 1) hx hb d_StringLatin1_canEncode_7 (by decide) ?_
    refine lv_goto (tgt := 12) hx hb d_StringLatin1_canEncode_8 (by decide) ?_
    exact h_zret hx hb hr hlk hW.2.2 (rfl) ⟨rfl, rfl⟩ (Nat.le_of_ble_eq_true rfl) (Nat.le_of_ble_eq_true rfl) d_StringLatin1_canEncode_12
set_option maxHeartbeats 4000000 in
set_option maxRecDepth 100000 in
theorem h_newCap (l : Launch) (G : GT) (Hx : Heap) (sa va n q : Nat) (a : Nat → Int32) (hq1 : 16 < q) (hq2 : q ≤ 34) (hP : va_P G.1 gcl [(sa, .inr (iSB, [.ref va, .int (0), .int (0), .int (nI n)])), (va, aI (gC G 8) (16) (a))] Hx) (hD : va_D (gAb G) [(sa, .inr (iSB, [.ref va, .int (0), .int (0), .int (nI n)])), (va, aI (gC G 8) (16) (a))]) : Met l y_AbstractStringBuilder_newCapacity (.code y_AbstractStringBuilder_newCapacity b_AbstractStringBuilder_newCapacity 6 (some .int) :: WS) { frames := 2, cells := 0, slots := 0, locals := 44 } (hPre G [.ref sa, .int (nI q)] (fun H9 => H9 = Hx)) (hQi G (fun r9 H9 => r9 = nI 34 ∧ H9 = Hx)) 0 0 (gAb G) := by
  refine h_startF (own := R_AbstractStringBuilder) (by decide +kernel) rfl (Nat.le_of_ble_eq_true rfl) ?_
  intro p e zs zm below meth zc ls C hI hl
  subst hI
  obtain ⟨hx, hb, hr, hml, hown, hts, hlk, hE, hbs⟩ := C
  have hK := hE.1
  have hl : lv_has ls 6 [(0, .ref sa), (1, .int (nI q))] := hl
  obtain ⟨locs, hlocs⟩ : ∃ l9 : List Loc, l9 = [] := ⟨_, rfl⟩
  rw [← hlocs]
  have hW : WW G zs.heap [(sa, .inr (iSB, [.ref va, .int (0), .int (0), .int (nI n)])), (va, aI (gC G 8) (16) (a))] zs.heap locs := ⟨hP, hD, by rw [hlocs]; exact va_S.rf⟩
  refine lv_aload_n hx hb d_AbstractStringBuilder_newCapacity_0 rfl (lv_at hl 0 rfl) ?_
  refine va_get (v := .ref va) hx hb hts i_SB hown hK hW.1 0 rfl rfl 0 (by decide) (hts _ kw_7) (fun _ h => h) rfl d_AbstractStringBuilder_newCapacity_1 ?_
  refine va_alen (v := nI (16)) hx hb hK hW.1 1 8 rfl (ty := .byte) rfl rfl d_AbstractStringBuilder_newCapacity_4 ?_
  refine lv_istore_n (lv' := [(2, .int (nI (16))), (0, .ref sa), (1, .int (nI q))]) hx hb d_AbstractStringBuilder_newCapacity_5 rfl hl (by decide) rfl (fun ls hl => ?_)
  refine lv_iload_n hx hb d_AbstractStringBuilder_newCapacity_6 rfl (lv_at hl 2 rfl) ?_
  refine lv_aload_n hx hb d_AbstractStringBuilder_newCapacity_7 rfl (lv_at hl 1 rfl) ?_
  refine va_get (v := .int (0)) hx hb hts i_SB hown hK hW.1 0 rfl rfl 1 (by decide) (hts _ kw_6) (fun _ h => h) rfl d_AbstractStringBuilder_newCapacity_8 ?_
  refine lv_ishl hx hb d_AbstractStringBuilder_newCapacity_11 ?_
  refine e_top (v := nI q) (sb_shl0 _) ?_
  refine lv_istore_n (lv' := [(3, .int (nI q)), (2, .int (nI (16))), (0, .ref sa), (1, .int (nI q))]) hx hb d_AbstractStringBuilder_newCapacity_12 rfl hl (by decide) rfl (fun ls hl => ?_)
  refine lv_iload_n hx hb d_AbstractStringBuilder_newCapacity_13 rfl (lv_at hl 0 rfl) ?_
  refine lv_iload_n hx hb d_AbstractStringBuilder_newCapacity_14 rfl (lv_at hl 1 rfl) ?_
  refine lv_isub hx hb d_AbstractStringBuilder_newCapacity_15 ?_
  refine e_top (v := nI (q - 16)) (pk_sub (a := q) (b := 16) (by omega)) ?_
  refine lv_istore (lv' := [(4, .int (nI (q - 16))), (3, .int (nI q)), (2, .int (nI (16))), (0, .ref sa), (1, .int (nI q))]) hx hb d_AbstractStringBuilder_newCapacity_16 hl (by decide) rfl (fun ls hl => ?_)
  refine lv_iload_n hx hb d_AbstractStringBuilder_newCapacity_18 rfl (lv_at hl 2 rfl) ?_
  refine lv_iload hx hb d_AbstractStringBuilder_newCapacity_19 (lv_at hl 0 rfl) ?_
  refine lv_iload_n hx hb d_AbstractStringBuilder_newCapacity_21 rfl (lv_at hl 2 rfl) ?_
  refine lv_iconst (v := 2) hx hb d_AbstractStringBuilder_newCapacity_22 (by decide) ?_
  refine lv_aload_n hx hb d_AbstractStringBuilder_newCapacity_23 rfl (lv_at hl 3 rfl) ?_
  refine va_get (v := .int (0)) hx hb hts i_SB hown hK hW.1 0 rfl rfl 1 (by decide) (hts _ kw_6) (fun _ h => h) rfl d_AbstractStringBuilder_newCapacity_24 ?_
  refine lv_ishl hx hb d_AbstractStringBuilder_newCapacity_27 ?_
  refine e_top (v := 2) (sb_shl0 _) ?_
  refine lv_iadd hx hb d_AbstractStringBuilder_newCapacity_28 ?_
  refine e_top (v := nI (16 + 2)) (nI_add (16) (2)) ?_
  refine e_top (v := nI 18) rfl ?_
  refine h_ci (G := G) (h_runS (G := G) (G' := G) (I := fun Hz => Hz = zs.heap) hx hb hml hown hts hE hW.2.2 (Nat.le_refl _) rfl (Nat.le_trans hbs hW.2.2.1) rfl (h_newLength l G zs.heap (q - 16) (by omega)) kw_10 kw_11 kw_9 kw_8 rfl rfl hd_ArraysSupport_newLength ⟨Nat.le_of_ble_eq_true rfl, Nat.le_of_ble_eq_true rfl⟩ (As := [.int (nI (16)), .int (nI (q - 16)), .int (nI 18)]) (rest := []) rfl hl.1 rfl (Nat.le_of_ble_eq_true rfl) d_AbstractStringBuilder_newCapacity_29 ⟨Nat.le_of_ble_eq_true rfl, Nat.le_of_ble_eq_true rfl⟩) hW.2.2 (Nat.le_refl _) (fun r9 H9 locs hJ hz9 hk9 hS9 => ?_)
  obtain ⟨hr9, hH9⟩ := hJ
  have hr9 := hr9.symm; subst hr9
  have hH9 := hH9.symm; subst hH9
  have hW : WW G zs.heap [(sa, .inr (iSB, [.ref va, .int (0), .int (0), .int (nI n)])), (va, aI (gC G 8) (16) (a))] zs.heap locs := ⟨hW.1, hW.2.1, hS9⟩
  refine lv_istore (lv' := [(5, .int (nI 34)), (4, .int (nI (q - 16))), (3, .int (nI q)), (2, .int (nI (16))), (0, .ref sa), (1, .int (nI q))]) hx hb d_AbstractStringBuilder_newCapacity_32 hl (by decide) rfl (fun ls hl => ?_)
  refine lv_iload hx hb d_AbstractStringBuilder_newCapacity_34 (lv_at hl 0 rfl) ?_
  refine lv_ldc (v := 2147483647) hx hb hown (hts _ kw_12) d_AbstractStringBuilder_newCapacity_36 ?_
  refine lv_icmp_ne (tgt := 51) hx hb d_AbstractStringBuilder_newCapacity_38 (by decide) (fun c_1 => ?_) (fun c_1 => ?_)
  · skip
    refine lv_iload hx hb d_AbstractStringBuilder_newCapacity_51 (lv_at hl 0 rfl) ?_
    refine lv_aload_n hx hb d_AbstractStringBuilder_newCapacity_53 rfl (lv_at hl 4 rfl) ?_
    refine va_get (v := .int (0)) hx hb hts i_SB hown hK hW.1 0 rfl rfl 1 (by decide) (hts _ kw_6) (fun _ h => h) rfl d_AbstractStringBuilder_newCapacity_54 ?_
    refine lv_ishr hx hb d_AbstractStringBuilder_newCapacity_57 ?_
    refine e_top (v := nI 34) (sb_shr0 _) ?_
    exact h_iret hx hb hr hlk hW.2.2 ⟨rfl, rfl⟩ (Nat.le_of_ble_eq_true rfl) (Nat.le_of_ble_eq_true rfl) d_AbstractStringBuilder_newCapacity_58
  · skip
    exact absurd c_1 (by decide)
set_option maxHeartbeats 4000000 in
set_option maxRecDepth 100000 in
theorem h_copyOf (l : Launch) (G : GT) (Hx : Heap) (sa va n : Nat) (a : Nat → Int32) (hf : sb_Fit a) (hP : va_P G.1 gcl [(sa, .inr (iSB, [.ref va, .int (0), .int (0), .int (nI n)])), (va, aI (gC G 8) (16) (a))] Hx) (hD : va_D (gAb G) [(sa, .inr (iSB, [.ref va, .int (0), .int (0), .int (nI n)])), (va, aI (gC G 8) (16) (a))]) : Met l y_Arrays_copyOf (.code y_Arrays_copyOf b_Arrays_copyOf 3 (some (.array .byte)) :: WS) { frames := 1, cells := 1, slots := 34, locals := 40 } (hPre G [.ref va, .int (nI 34)] (fun H9 => H9 = Hx)) (hQr G (fun r9 H9 => va_P G.1 gcl (sbW G sa va n 16 a ++ [(r9, aI (gC G 8) 34 (va_cpy a (fun _ => 0) 0 0 16))]) H9 ∧ va_D (gAb G) (sbW G sa va n 16 a ++ [(r9, aI (gC G 8) 34 (va_cpy a (fun _ => 0) 0 0 16))]))) 1 34 (gAb G) := by
  refine h_startF (own := R_Arrays) (by decide +kernel) rfl (Nat.le_of_ble_eq_true rfl) ?_
  intro p e zs zm below meth zc ls C hI hl
  subst hI
  obtain ⟨hx, hb, hr, hml, hown, hts, hlk, hE, hbs⟩ := C
  have hK := hE.1
  have hl : lv_has ls 3 [(0, .ref va), (1, .int (nI 34))] := hl
  obtain ⟨locs, hlocs⟩ : ∃ l9 : List Loc, l9 = [] := ⟨_, rfl⟩
  rw [← hlocs]
  have hW : WW G zs.heap [(sa, .inr (iSB, [.ref va, .int (0), .int (0), .int (nI n)])), (va, aI (gC G 8) (16) (a))] zs.heap locs := ⟨hP, hD, by rw [hlocs]; exact va_S.rf⟩
  refine lv_iload_n hx hb d_Arrays_copyOf_0 rfl (lv_at hl 1 rfl) ?_
  refine lv_aload_n hx hb d_Arrays_copyOf_1 rfl (lv_at hl 0 rfl) ?_
  refine va_alen (v := nI (16)) hx hb hK hW.1 1 8 rfl (ty := .byte) rfl rfl d_Arrays_copyOf_2 ?_
  refine lv_icmp_ne (tgt := 14) hx hb d_Arrays_copyOf_3 (by decide) (fun c_1 => ?_) (fun c_1 => ?_)
  · skip
    refine lv_iload_n hx hb d_Arrays_copyOf_14 rfl (lv_at hl 1 rfl) ?_
    obtain ⟨na_2, e_na_2⟩ : ∃ q9 : Nat, q9 = Array.size zs.heap := ⟨_, rfl⟩
    refine h_newa (G := G) (atype := .byte) (t0 := 8) (N' := 34) (a0 := (34, .inl (fun _ => 0))) hx hb hts kw_13 (List.mem_of_getElem? (i := 8) rfl) hE hW.2.2 (fun _ => by first | rfl | (rw [vp_cell_i]; rfl)) (by decide) (by decide) (by decide) (Nat.le_of_ble_eq_true rfl) (Nat.le_of_ble_eq_true rfl) d_Arrays_copyOf_15 (fun H ha9 hz9 hk9 hS9 => ?_)
    have hW := WW_push hW hbs ha9 hk9 hS9
    rw [← e_na_2] at hW ⊢
    have hW : WW G zs.heap [(sa, .inr (iSB, [.ref va, .int (0), .int (0), .int (nI n)])), (va, aI (gC G 8) (16) (a)), (na_2, aI (gC G 8) (34) (fun _ => 0))] H locs := hW
    refine lv_astore_n (lv' := [(2, .ref na_2), (0, .ref va), (1, .int (nI 34))]) hx hb d_Arrays_copyOf_17 rfl hl (by decide) rfl (fun ls hl => ?_)
    refine lv_aload_n hx hb d_Arrays_copyOf_18 rfl (lv_at hl 1 rfl) ?_
    refine lv_iconst (v := 0) hx hb d_Arrays_copyOf_19 (by decide) ?_
    refine lv_aload_n hx hb d_Arrays_copyOf_20 rfl (lv_at hl 0 rfl) ?_
    refine lv_iconst (v := 0) hx hb d_Arrays_copyOf_21 (by decide) ?_
    refine lv_aload_n hx hb d_Arrays_copyOf_22 rfl (lv_at hl 1 rfl) ?_
    refine va_alen (v := nI (16)) hx hb hK hW.1 1 8 rfl (ty := .byte) rfl rfl d_Arrays_copyOf_23 ?_
    refine lv_iload_n hx hb d_Arrays_copyOf_24 rfl (lv_at hl 2 rfl) ?_
    refine h_ci (G := G) (h_runS (G := G) (G' := G) (I := fun Hz => Hz = H) hx hb hml hown hts hE hW.2.2 (Nat.le_refl _) rfl (Nat.le_trans hbs hW.2.2.1) rfl (h_min l G H (nI (16)) (nI 34)) kw_15 kw_16 kw_1 kw_14 rfl rfl hd_Math_min ⟨Nat.le_of_ble_eq_true rfl, Nat.le_of_ble_eq_true rfl⟩ (As := [.int (nI (16)), .int (nI 34)]) (rest := [.int (0), .ref na_2, .int (0), .ref va]) rfl hl.1 rfl (Nat.le_of_ble_eq_true rfl) d_Arrays_copyOf_25 ⟨Nat.le_of_ble_eq_true rfl, Nat.le_of_ble_eq_true rfl⟩) hW.2.2 (Nat.le_refl _) (fun r9 H9 locs hJ hz9 hk9 hS9 => ?_)
    obtain ⟨hr9, hH9⟩ := hJ
    have hr9 := hr9.symm; subst hr9
    have hH9 := hH9.symm; subst hH9
    have hW : WW G zs.heap [(sa, .inr (iSB, [.ref va, .int (0), .int (0), .int (nI n)])), (va, aI (gC G 8) (16) (a)), (na_2, aI (gC G 8) (34) (fun _ => 0))] H locs := ⟨hW.1, hW.2.1, hS9⟩
    refine e_top (v := nI 16) (by decide) ?_
    refine va_copyi (rest := []) hx hb (by rw [hml]; exact hl.1.symm) hown (hts _ kw_17) (hts _ kw_18) (hts _ kw_19) (hts _ kw_20) hK hW.1 hW.2.1 hW.2.2 1 2 8 8 rfl rfl rfl rfl (by decide) (by decide) (by decide) (by decide) (by decide) (by decide) (fun _ _ => hf _) (Nat.le_of_ble_eq_true rfl) (by decide) d_Arrays_copyOf_28 (fun H locs h1 h2 h3 => ?_)
    rw [sb_cl0, show (nI 16).toNatClampNeg = 16 by decide] at h1 h2
    have hW : WW G zs.heap [(sa, .inr (iSB, [.ref va, .int (0), .int (0), .int (nI n)])), (va, aI (gC G 8) (16) (a)), (na_2, aI (gC G 8) (34) (va_cpy (a) (fun _ => 0) 0 0 16))] H locs := ⟨h1, h2, h3⟩
    refine lv_aload_n hx hb d_Arrays_copyOf_31 rfl (lv_at hl 0 rfl) ?_
    exact h_aret hx hb hr (Or.inr ⟨_, rfl⟩) hlk hW.2.2 ⟨hW.1, hW.2.1⟩ (Nat.le_of_ble_eq_true rfl) (Nat.le_of_ble_eq_true rfl) d_Arrays_copyOf_32
  · skip
    exact absurd c_1 (by decide)
set_option maxHeartbeats 4000000 in
set_option maxRecDepth 100000 in
theorem h_ensure (l : Launch) (G : GT) (Hx : Heap) (sa va n m q : Nat) (a : Nat → Int32) (hf : sb_Fit a) (hm : m = 16 ∨ m = 34) (hq2 : q ≤ 34) (hP : va_P G.1 gcl [(sa, .inr (iSB, [.ref va, .int (0), .int (0), .int (nI n)])), (va, aI (gC G 8) (m) (a))] Hx) (hD : va_D (gAb G) [(sa, .inr (iSB, [.ref va, .int (0), .int (0), .int (nI n)])), (va, aI (gC G 8) (m) (a))]) : Met l y_AbstractStringBuilder_ensureCapacityInternal (.code y_AbstractStringBuilder_ensureCapacityInternal b_AbstractStringBuilder_ensureCapacityInternal 3 none :: WS) { frames := 3, cells := 1, slots := 34, locals := 69 } (hPre G [.ref sa, .int (nI q)] (fun H9 => H9 = Hx)) (hQv G (fun H9 => ∃ (va1 m1 : Nat) (a1 : Nat → Int32), va_P G.1 gcl (sbW G sa va1 n m1 a1) H9 ∧ va_D (gAb G) (sbW G sa va1 n m1 a1) ∧ sb_Fit a1 ∧ q ≤ m1 ∧ (m1 = 16 ∨ m1 = 34) ∧ ∀ j, j < m → a1 j = a j)) 1 34 (gAb G) := by
  refine h_startF (own := R_AbstractStringBuilder) (by decide +kernel) rfl (Nat.le_of_ble_eq_true rfl) ?_
  intro p e zs zm below meth zc ls C hI hl
  subst hI
  obtain ⟨hx, hb, hr, hml, hown, hts, hlk, hE, hbs⟩ := C
  have hK := hE.1
  have hl : lv_has ls 3 [(0, .ref sa), (1, .int (nI q))] := hl
  obtain ⟨locs, hlocs⟩ : ∃ l9 : List Loc, l9 = [] := ⟨_, rfl⟩
  rw [← hlocs]
  have hW : WW G zs.heap [(sa, .inr (iSB, [.ref va, .int (0), .int (0), .int (nI n)])), (va, aI (gC G 8) (m) (a))] zs.heap locs := ⟨hP, hD, by rw [hlocs]; exact va_S.rf⟩
  refine lv_aload_n hx hb d_AbstractStringBuilder_ensureCapacityInternal_0 rfl (lv_at hl 0 rfl) ?_
  refine va_get (v := .ref va) hx hb hts i_SB hown hK hW.1 0 rfl rfl 0 (by decide) (hts _ kw_7) (fun _ h => h) rfl d_AbstractStringBuilder_ensureCapacityInternal_1 ?_
  refine va_alen (v := nI (m)) hx hb hK hW.1 1 8 rfl (ty := .byte) rfl rfl d_AbstractStringBuilder_ensureCapacityInternal_4 ?_
  refine lv_aload_n hx hb d_AbstractStringBuilder_ensureCapacityInternal_5 rfl (lv_at hl 0 rfl) ?_
  refine va_get (v := .int (0)) hx hb hts i_SB hown hK hW.1 0 rfl rfl 1 (by decide) (hts _ kw_6) (fun _ h => h) rfl d_AbstractStringBuilder_ensureCapacityInternal_6 ?_
  refine lv_ishr hx hb d_AbstractStringBuilder_ensureCapacityInternal_9 ?_
  refine e_top (v := nI (m)) (sb_shr0 _) ?_
  refine lv_istore_n (lv' := [(2, .int (nI (m))), (0, .ref sa), (1, .int (nI q))]) hx hb d_AbstractStringBuilder_ensureCapacityInternal_10 rfl hl (by decide) rfl (fun ls hl => ?_)
  refine lv_iload_n hx hb d_AbstractStringBuilder_ensureCapacityInternal_11 rfl (lv_at hl 2 rfl) ?_
  refine lv_iload_n hx hb d_AbstractStringBuilder_ensureCapacityInternal_12 rfl (lv_at hl 0 rfl) ?_
  refine lv_isub hx hb d_AbstractStringBuilder_ensureCapacityInternal_13 ?_
  refine lv_if_le (tgt := 38) hx hb d_AbstractStringBuilder_ensureCapacityInternal_14 (by decide) (fun c_1 => ?_) (fun c_1 => ?_)
  · skip
    exact h_vret hx hb hr hlk hW.2.2 ⟨va, m, a, hW.1, hW.2.1, hf, sb_qle hm hq2 c_1, hm, fun _ _ => rfl⟩ (Nat.le_of_ble_eq_true rfl) (Nat.le_of_ble_eq_true rfl) d_AbstractStringBuilder_ensureCapacityInternal_38
  · skip
    obtain ⟨rfl, hq1⟩ := sb_m16 hm hq2 c_1
    refine lv_aload_n hx hb d_AbstractStringBuilder_ensureCapacityInternal_17 rfl (lv_at hl 1 rfl) ?_
    refine lv_aload_n hx hb d_AbstractStringBuilder_ensureCapacityInternal_18 rfl (lv_at hl 1 rfl) ?_
    refine va_get (v := .ref va) hx hb hts i_SB hown hK hW.1 0 rfl rfl 0 (by decide) (hts _ kw_7) (fun _ h => h) rfl d_AbstractStringBuilder_ensureCapacityInternal_19 ?_
    refine lv_aload_n hx hb d_AbstractStringBuilder_ensureCapacityInternal_22 rfl (lv_at hl 1 rfl) ?_
    refine lv_iload_n hx hb d_AbstractStringBuilder_ensureCapacityInternal_23 rfl (lv_at hl 2 rfl) ?_
    refine h_ci (G := G) (h_runV (C := R_SB) (G := G) (G' := G) (I := fun Hz => Hz = zs.heap) hx hb hml hown hts hE hW.2.2 (Nat.le_refl _) rfl (Nat.le_trans hbs hW.2.2.1) rfl hW.1 0 rfl rfl (h_newCap l G zs.heap _ _ _ (q) _ (by omega) (by omega) hW.1 hW.2.1) kw_23 kw_24 (va_Nw.use rfl (hE.2.2.2.2.2.2.2.2.2.2.2.2.2.2.2.2.2 _ (List.mem_of_getElem? (i := 1) rfl))) kw_22 kw_21 rfl rfl hd_AbstractStringBuilder_newCapacity ⟨Nat.le_of_ble_eq_true rfl, Nat.le_of_ble_eq_true rfl⟩ (As := [.int (nI q)]) (rest := [.ref va, .ref sa]) rfl hl.1 rfl (Nat.le_of_ble_eq_true rfl) d_AbstractStringBuilder_ensureCapacityInternal_24 ⟨Nat.le_of_ble_eq_true rfl, Nat.le_of_ble_eq_true rfl⟩) hW.2.2 (Nat.le_refl _) (fun r9 H9 locs hJ hz9 hk9 hS9 => ?_)
    obtain ⟨hr9, hH9⟩ := hJ
    have hr9 := hr9.symm; subst hr9
    have hH9 := hH9.symm; subst hH9
    have hW : WW G zs.heap [(sa, .inr (iSB, [.ref va, .int (0), .int (0), .int (nI n)])), (va, aI (gC G 8) (16) (a))] zs.heap locs := ⟨hW.1, hW.2.1, hS9⟩
    refine lv_aload_n hx hb d_AbstractStringBuilder_ensureCapacityInternal_27 rfl (lv_at hl 1 rfl) ?_
    refine va_get (v := .int (0)) hx hb hts i_SB hown hK hW.1 0 rfl rfl 1 (by decide) (hts _ kw_6) (fun _ h => h) rfl d_AbstractStringBuilder_ensureCapacityInternal_28 ?_
    refine lv_ishl hx hb d_AbstractStringBuilder_ensureCapacityInternal_31 ?_
    refine e_top (v := nI 34) (sb_shl0 _) ?_
    refine h_cr (G := G) (h_runS (G := G) (G' := G) (I := fun Hz => Hz = zs.heap) hx hb hml hown hts hE hW.2.2 (Nat.le_refl _) rfl (Nat.le_trans hbs hW.2.2.1) rfl (h_copyOf l G zs.heap _ _ _ _ hf hW.1 hW.2.1) kw_27 kw_28 kw_26 kw_25 rfl rfl hd_Arrays_copyOf ⟨Nat.le_of_ble_eq_true rfl, Nat.le_of_ble_eq_true rfl⟩ (As := [.ref va, .int (nI 34)]) (rest := [.ref sa]) rfl hl.1 rfl (Nat.le_of_ble_eq_true rfl) d_AbstractStringBuilder_ensureCapacityInternal_32 ⟨Nat.le_of_ble_eq_true rfl, Nat.le_of_ble_eq_true rfl⟩) hW.2.2 (Nat.le_refl _) (fun r9 H9 locs hJ hz9 hk9 hS9 => ?_)
    obtain ⟨hJ1, hJ2⟩ := hJ
    have hW : WW G zs.heap [(sa, .inr (iSB, [.ref va, .int (0), .int (0), .int (nI n)])), (va, aI (gC G 8) (16) (a)), (r9, aI (gC G 8) (34) (va_cpy a (fun _ => 0) 0 0 16))] H9 locs := ⟨hJ1, hJ2, hS9⟩
    skip
    refine va_put hx hb hts i_SB t_SB t_SB_ok n_SB hown hK hW.1 hW.2.1 hW.2.2 0 rfl rfl 0 (by decide) (hts _ kw_7) (fun _ h => h) rfl (t_SB_ok 0 (by decide)) rfl rfl (Nat.le_of_ble_eq_true rfl) d_AbstractStringBuilder_ensureCapacityInternal_35 (fun H locs h1 h2 h3 => ?_)
    have hW : WW G zs.heap [(sa, .inr (iSB, [.ref r9, .int (0), .int (0), .int (nI n)])), (va, aI (gC G 8) (16) (a)), (r9, aI (gC G 8) (34) (va_cpy a (fun _ => 0) 0 0 16))] H locs := ⟨h1, h2, h3⟩
    have hV := WW_sub (ws' := sbW G sa r9 n 34 (va_cpy a (fun _ => 0) 0 0 16)) hW [0, 2] (by decide) rfl
    exact h_vret hx hb hr hlk hW.2.2 ⟨r9, 34, _, hV.1, hV.2.1, sb_fitC hf sb_fit0, hq2, Or.inr rfl, fun j hj => sb_cpy0 hj⟩ (Nat.le_of_ble_eq_true rfl) (Nat.le_of_ble_eq_true rfl) d_AbstractStringBuilder_ensureCapacityInternal_38
set_option maxHeartbeats 4000000 in
set_option maxRecDepth 100000 in
theorem h_asbAppC (l : Launch) (G : GT) (Hx : Heap) (sa va m : Nat) (t : List Nat) (a : Nat → Int32) (hL : sbL t a) (hf : sb_Fit a) (hnm : t.length ≤ m) (hm : m = 16 ∨ m = 34) (c : Nat) (hc : c < 256) (hn34 : t.length < 34) (hP : va_P G.1 gcl [(sa, .inr (iSB, [.ref va, .int (0), .int (0), .int (nI (t.length))])), (va, aI (gC G 8) (m) (a))] Hx) (hD : va_D (gAb G) [(sa, .inr (iSB, [.ref va, .int (0), .int (0), .int (nI (t.length))])), (va, aI (gC G 8) (m) (a))]) : Met l y_AbstractStringBuilder_append_C (.code y_AbstractStringBuilder_append_C b_AbstractStringBuilder_append_C 2 (some (.object "java/lang/AbstractStringBuilder")) :: WS) { frames := 4, cells := 1, slots := 34, locals := 91 } (hPre G [.ref sa, .int (nI c)] (fun H9 => H9 = Hx)) (hQr G (fun r9 H9 => r9 = sa ∧ SBH G sa (t ++ [c]) H9)) 1 34 (gAb G) := by
  refine h_startF (own := R_AbstractStringBuilder) (by decide +kernel) rfl (Nat.le_of_ble_eq_true rfl) ?_
  intro p e zs zm below meth zc ls C hI hl
  subst hI
  obtain ⟨hx, hb, hr, hml, hown, hts, hlk, hE, hbs⟩ := C
  have hK := hE.1
  have hl : lv_has ls 2 [(0, .ref sa), (1, .int (nI c))] := hl
  obtain ⟨locs, hlocs⟩ : ∃ l9 : List Loc, l9 = [] := ⟨_, rfl⟩
  rw [← hlocs]
  have hW : WW G zs.heap [(sa, .inr (iSB, [.ref va, .int (0), .int (0), .int (nI (t.length))])), (va, aI (gC G 8) (m) (a))] zs.heap locs := ⟨hP, hD, by rw [hlocs]; exact va_S.rf⟩
  refine lv_aload_n hx hb d_AbstractStringBuilder_append_C_0 rfl (lv_at hl 0 rfl) ?_
  refine lv_aload_n hx hb d_AbstractStringBuilder_append_C_1 rfl (lv_at hl 0 rfl) ?_
  refine va_get (v := .int (nI (t.length))) hx hb hts i_SB hown hK hW.1 0 rfl rfl 3 (by decide) (hts _ kw_29) (fun _ h => h) rfl d_AbstractStringBuilder_append_C_2 ?_
  refine lv_iconst (v := 1) hx hb d_AbstractStringBuilder_append_C_5 (by decide) ?_
  refine lv_iadd hx hb d_AbstractStringBuilder_append_C_6 ?_
  refine e_top (v := nI (t.length + 1)) (nI_add (t.length) (1)) ?_
  refine h_cv (G := G) (h_runV (C := R_SB) (G := G) (G' := G) (I := fun Hz => Hz = zs.heap) hx hb hml hown hts hE hW.2.2 (Nat.le_refl _) rfl (Nat.le_trans hbs hW.2.2.1) rfl hW.1 0 rfl rfl (h_ensure l G zs.heap _ _ _ _ (t.length + 1) _ hf hm (by omega) hW.1 hW.2.1) kw_31 kw_32 (va_Nw.use rfl (hE.2.2.2.2.2.2.2.2.2.2.2.2.2.2.2.2.2 _ (List.mem_of_getElem? (i := 0) rfl))) kw_22 kw_30 rfl rfl hd_AbstractStringBuilder_ensureCapacityInternal ⟨Nat.le_of_ble_eq_true rfl, Nat.le_of_ble_eq_true rfl⟩ (As := [.int (nI (t.length + 1))]) (rest := []) rfl hl.1 rfl (Nat.le_of_ble_eq_true rfl) d_AbstractStringBuilder_append_C_7 ⟨Nat.le_of_ble_eq_true rfl, Nat.le_of_ble_eq_true rfl⟩) hW.2.2 (Nat.le_refl _) (fun H9 locs hJ hz9 hk9 hS9 => ?_)
  obtain ⟨va1, m1, a1, hJ1, hJ2, hf1, hq1, hm1, hk1⟩ := hJ
  have hW : WW G zs.heap [(sa, .inr (iSB, [.ref va1, .int (0), .int (0), .int (nI (t.length))])), (va1, aI (gC G 8) (m1) (a1))] H9 locs := ⟨hJ1, hJ2, hS9⟩
  refine lv_aload_n hx hb d_AbstractStringBuilder_append_C_10 rfl (lv_at hl 0 rfl) ?_
  refine h_ci (G := G) (h_runV (C := R_SB) (G := G) (G' := G) (I := fun Hz => Hz = H9) hx hb hml hown hts hE hW.2.2 (Nat.le_refl _) rfl (Nat.le_trans hbs hW.2.2.1) rfl hW.1 0 rfl rfl (h_asbL1 l G H9 _ _ _ _ _ hW.1 hW.2.1) kw_34 kw_35 (hts _ kw_36) kw_22 kw_33 rfl rfl hd_AbstractStringBuilder_isLatin1 ⟨Nat.le_of_ble_eq_true rfl, Nat.le_of_ble_eq_true rfl⟩ (As := []) (rest := []) rfl hl.1 rfl (Nat.le_of_ble_eq_true rfl) d_AbstractStringBuilder_append_C_11 ⟨Nat.le_of_ble_eq_true rfl, Nat.le_of_ble_eq_true rfl⟩) hW.2.2 (Nat.le_refl _) (fun r9 H9 locs hJ hz9 hk9 hS9 => ?_)
  obtain ⟨hr9, hH9⟩ := hJ
  have hr9 := hr9.symm; subst hr9
  have hH9 := hH9.symm; subst hH9
  have hW : WW G zs.heap [(sa, .inr (iSB, [.ref va1, .int (0), .int (0), .int (nI (t.length))])), (va1, aI (gC G 8) (m1) (a1))] H9 locs := ⟨hW.1, hW.2.1, hS9⟩
  refine lv_if_eq (tgt := 45) hx hb d_AbstractStringBuilder_append_C_14 (by decide) (fun c_1 => ?_) (fun c_1 => ?_)
  · skip
    exact absurd c_1 (by decide)
  · skip
    refine lv_iload_n hx hb d_AbstractStringBuilder_append_C_17 rfl (lv_at hl 1 rfl) ?_
    refine h_ci (G := G) (h_runS (G := G) (G' := G) (I := fun Hz => Hz = H9) hx hb hml hown hts hE hW.2.2 (Nat.le_refl _) rfl (Nat.le_trans hbs hW.2.2.1) rfl (h_canEnc l G H9 (c) (by omega)) kw_39 kw_40 kw_38 kw_37 rfl rfl hd_StringLatin1_canEncode ⟨Nat.le_of_ble_eq_true rfl, Nat.le_of_ble_eq_true rfl⟩ (As := [.int (nI c)]) (rest := []) rfl hl.1 rfl (Nat.le_of_ble_eq_true rfl) d_AbstractStringBuilder_append_C_18 ⟨Nat.le_of_ble_eq_true rfl, Nat.le_of_ble_eq_true rfl⟩) hW.2.2 (Nat.le_refl _) (fun r9 H9 locs hJ hz9 hk9 hS9 => ?_)
    obtain ⟨hr9, hH9⟩ := hJ
    have hr9 := hr9.symm; subst hr9
    have hH9 := hH9.symm; subst hH9
    have hW : WW G zs.heap [(sa, .inr (iSB, [.ref va1, .int (0), .int (0), .int (nI (t.length))])), (va1, aI (gC G 8) (m1) (a1))] H9 locs := ⟨hW.1, hW.2.1, hS9⟩
    refine lv_if_eq (tgt := 45) hx hb d_AbstractStringBuilder_append_C_21 (by decide) (fun c_2 => ?_) (fun c_2 => ?_)
    · skip
      exact absurd c_2 (by decide)
    · skip
      refine lv_aload_n hx hb d_AbstractStringBuilder_append_C_24 rfl (lv_at hl 0 rfl) ?_
      refine va_get (v := .ref va1) hx hb hts i_SB hown hK hW.1 0 rfl rfl 0 (by decide) (hts _ kw_7) (fun _ h => h) rfl d_AbstractStringBuilder_append_C_25 ?_
      refine lv_aload_n hx hb d_AbstractStringBuilder_append_C_28 rfl (lv_at hl 0 rfl) ?_
      refine lv_dup hx hb d_AbstractStringBuilder_append_C_29 rfl ?_
      refine va_get (v := .int (nI (t.length))) hx hb hts i_SB hown hK hW.1 0 rfl rfl 3 (by decide) (hts _ kw_29) (fun _ h => h) rfl d_AbstractStringBuilder_append_C_30 ?_
      refine lv_dup_x1 hx hb d_AbstractStringBuilder_append_C_33 rfl rfl ?_
      refine lv_iconst (v := 1) hx hb d_AbstractStringBuilder_append_C_34 (by decide) ?_
      refine lv_iadd hx hb d_AbstractStringBuilder_append_C_35 ?_
      refine e_top (v := nI (t.length + 1)) (nI_add (t.length) (1)) ?_
      refine va_put hx hb hts i_SB t_SB t_SB_ok n_SB hown hK hW.1 hW.2.1 hW.2.2 0 rfl rfl 3 (by decide) (hts _ kw_29) (fun _ h => h) rfl (t_SB_ok 3 (by decide)) rfl rfl (Nat.le_of_ble_eq_true rfl) d_AbstractStringBuilder_append_C_36 (fun H locs h1 h2 h3 => ?_)
      have hW : WW G zs.heap [(sa, .inr (iSB, [.ref va1, .int (0), .int (0), .int (nI (t.length + 1))])), (va1, aI (gC G 8) (m1) (a1))] H locs := ⟨h1, h2, h3⟩
      refine lv_iload_n hx hb d_AbstractStringBuilder_append_C_39 rfl (lv_at hl 1 rfl) ?_
      refine lv_i2b (v := (nI c).toInt8.toInt32) hx hb d_AbstractStringBuilder_append_C_40 rfl ?_
      refine va_bast hx hb hK hW.1 hW.2.1 hW.2.2 1 8 rfl rfl (vp_in_nI (show t.length < m1 by omega) (by omega)) d_AbstractStringBuilder_append_C_41 (fun H locs h1 h2 h3 => ?_)
      rw [nI_clamp (show t.length < 2 ^ 31 by omega), pk_vb _] at h1 h2
      have hW : WW G zs.heap [(sa, .inr (iSB, [.ref va1, .int (0), .int (0), .int (nI (t.length + 1))])), (va1, aI (gC G 8) (m1) (upd (a1) (t.length) (sb_b (c))))] H locs := ⟨h1, h2, h3⟩
      refine lv_goto (tgt := 75) hx hb d_AbstractStringBuilder_append_C_42 (by decide) ?_
      refine lv_aload_n hx hb d_AbstractStringBuilder_append_C_75 rfl (lv_at hl 0 rfl) ?_
      have hA : sbL (t ++ [c]) (upd a1 t.length (sb_b c)) := sbL_app hL (fun j hj => (pk_un (by omega)).trans (hk1 j (by omega))) (fun i hi => by
        obtain rfl : i = 0 := by simp at hi; omega
        exact ⟨hc, pk_us⟩)
      have hlen : (t ++ [c]).length = t.length + 1 := by simp
      rw [← hlen] at hW
      exact h_aret hx hb hr (Or.inl ⟨_, rfl⟩) hlk hW.2.2 ⟨rfl, va1, m1, _, hW.1, hW.2.1, hA, sb_fitU hf1 (sb_fitB c), by omega, hm1⟩ (Nat.le_of_ble_eq_true rfl) (Nat.le_of_ble_eq_true rfl) d_AbstractStringBuilder_append_C_76
set_option maxHeartbeats 4000000 in
set_option maxRecDepth 100000 in
theorem h_sbAppC (l : Launch) (G : GT) (Hx : Heap) (sa va m : Nat) (t : List Nat) (a : Nat → Int32) (hL : sbL t a) (hf : sb_Fit a) (hnm : t.length ≤ m) (hm : m = 16 ∨ m = 34) (c : Nat) (hc : c < 256) (hn34 : t.length < 34) (hP : va_P G.1 gcl [(sa, .inr (iSB, [.ref va, .int (0), .int (0), .int (nI (t.length))])), (va, aI (gC G 8) (m) (a))] Hx) (hD : va_D (gAb G) [(sa, .inr (iSB, [.ref va, .int (0), .int (0), .int (nI (t.length))])), (va, aI (gC G 8) (m) (a))]) : Met l y_SB_append_C (.code y_SB_append_C b_SB_append_C 2 (some (.object "java/lang/StringBuilder")) :: WS) { frames := 5, cells := 1, slots := 34, locals := 112 } (hPre G [.ref sa, .int (nI c)] (fun H9 => H9 = Hx)) (hQr G (fun r9 H9 => r9 = sa ∧ SBH G sa (t ++ [c]) H9)) 1 34 (gAb G) := by
  refine h_startF (own := R_SB) (by decide +kernel) rfl (Nat.le_of_ble_eq_true rfl) ?_
  intro p e zs zm below meth zc ls C hI hl
  subst hI
  obtain ⟨hx, hb, hr, hml, hown, hts, hlk, hE, hbs⟩ := C
  have hK := hE.1
  have hl : lv_has ls 2 [(0, .ref sa), (1, .int (nI c))] := hl
  obtain ⟨locs, hlocs⟩ : ∃ l9 : List Loc, l9 = [] := ⟨_, rfl⟩
  rw [← hlocs]
  have hW : WW G zs.heap [(sa, .inr (iSB, [.ref va, .int (0), .int (0), .int (nI (t.length))])), (va, aI (gC G 8) (m) (a))] zs.heap locs := ⟨hP, hD, by rw [hlocs]; exact va_S.rf⟩
  refine lv_aload_n hx hb d_SB_append_C_0 rfl (lv_at hl 0 rfl) ?_
  refine lv_iload_n hx hb d_SB_append_C_1 rfl (lv_at hl 1 rfl) ?_
  refine h_cr (G := G) (h_runSU (C := R_SB) (G := G) (G' := G) (I := fun Hz => Hz = zs.heap) hx hb hml hown hts hE hW.2.2 (Nat.le_refl _) rfl (Nat.le_trans hbs hW.2.2.1) rfl hW.1 0 rfl rfl (h_asbAppC l G zs.heap _ _ _ _ _ hL hf hnm hm (c) (by omega) (by omega) hW.1 hW.2.1) kw_42 kw_43 kw_44 kw_45 kw_22 kw_41 rfl rfl ⟨by decide +kernel, hd_AbstractStringBuilder_append_C.2.2⟩ ⟨Nat.le_of_ble_eq_true rfl, Nat.le_of_ble_eq_true rfl⟩ (As := [.int (nI c)]) (rest := []) rfl hl.1 rfl (Nat.le_of_ble_eq_true rfl) d_SB_append_C_2 ⟨Nat.le_of_ble_eq_true rfl, Nat.le_of_ble_eq_true rfl⟩) hW.2.2 (Nat.le_refl _) (fun r9 H9 locs hJ hz9 hk9 hS9 => ?_)
  obtain ⟨hr9, va9, m9, a9, hJ1, hJ2, hL9, hf9, hn9, hm9⟩ := hJ
  have hr9 := hr9.symm; subst hr9
  have hW : WW G zs.heap [(sa, .inr (iSB, [.ref va9, .int (0), .int (0), .int (nI (t ++ [c]).length)])), (va9, aI (gC G 8) (m9) (a9))] H9 locs := ⟨hJ1, hJ2, hS9⟩
  refine lv_pop hx hb d_SB_append_C_5 rfl ?_
  refine lv_aload_n hx hb d_SB_append_C_6 rfl (lv_at hl 0 rfl) ?_
  exact h_aret hx hb hr (Or.inl ⟨_, rfl⟩) hlk hW.2.2 ⟨rfl, va9, m9, a9, hW.1, hW.2.1, hL9, hf9, hn9, hm9⟩ (Nat.le_of_ble_eq_true rfl) (Nat.le_of_ble_eq_true rfl) d_SB_append_C_7
set_option maxHeartbeats 4000000 in
set_option maxRecDepth 100000 in
theorem h_strSize (l : Launch) (G : GT) (Hx : Heap) (v : Nat) (hv : v < 10000) : Met l y_Integer_stringSize (.code y_Integer_stringSize b_Integer_stringSize 4 (some .int) :: WS) { frames := 0, cells := 0, slots := 0, locals := 0 } (hPre G [.int (nI v)] (fun H9 => H9 = Hx)) (hQi G (fun r9 H9 => r9 = nI (dgl v).length ∧ H9 = Hx)) 0 0 (gAb G) := by
  refine h_startF (own := R_Integer) (by decide +kernel) rfl (Nat.le_of_ble_eq_true rfl) ?_
  intro p e zs zm below meth zc ls C hI hl
  subst hI
  obtain ⟨hx, hb, hr, hml, hown, hts, hlk, hE, hbs⟩ := C
  have hK := hE.1
  have hl : lv_has ls 4 [(0, .int (nI v))] := hl
  obtain ⟨locs, hlocs⟩ : ∃ l9 : List Loc, l9 = [] := ⟨_, rfl⟩
  rw [← hlocs]
  have hW : WW G zs.heap [] zs.heap locs := WW_nil hlocs
  refine lv_iconst (v := 1) hx hb d_Integer_stringSize_0 (by decide) ?_
  refine lv_istore_n (lv' := [(1, .int (1)), (0, .int (nI v))]) hx hb d_Integer_stringSize_1 rfl hl (by decide) rfl (fun ls hl => ?_)
  refine lv_iload_n hx hb d_Integer_stringSize_2 rfl (lv_at hl 1 rfl) ?_
  refine lv_if_lt (tgt := 11) hx hb d_Integer_stringSize_3 (by decide) (fun c_1 => ?_) (fun c_1 => ?_)
  · skip
    exact absurd c_1 (nI_pos (by omega))
  · skip
    refine lv_iconst (v := 0) hx hb d_Integer_stringSize_6 (by decide) ?_
    refine lv_istore_n (lv' := [(1, .int (0)), (0, .int (nI v))]) hx hb d_Integer_stringSize_7 rfl hl (by decide) rfl (fun ls hl => ?_)
    refine lv_iload_n hx hb d_Integer_stringSize_8 rfl (lv_at hl 1 rfl) ?_
    refine lv_ineg hx hb d_Integer_stringSize_9 ?_
    refine lv_istore_n (lv' := [(0, .int (-(nI v))), (1, .int (0))]) hx hb d_Integer_stringSize_10 rfl hl (by decide) rfl (fun ls hl => ?_)
    refine lv_bipush (v := -10) hx hb d_Integer_stringSize_11 (by decide) ?_
    refine lv_istore_n (lv' := [(2, .int (-10)), (0, .int (-(nI v))), (1, .int (0))]) hx hb d_Integer_stringSize_13 rfl hl (by decide) rfl (fun ls hl => ?_)
    refine lv_iconst (v := 1) hx hb d_Integer_stringSize_14 (by decide) ?_
    refine lv_istore_n (lv' := [(3, .int (1)), (2, .int (-10)), (0, .int (-(nI v))), (1, .int (0))]) hx hb d_Integer_stringSize_15 rfl hl (by decide) rfl (fun ls hl => ?_)
    refine lv_iload_n hx hb d_Integer_stringSize_16 rfl (lv_at hl 0 rfl) ?_
    refine lv_bipush (v := 10) hx hb d_Integer_stringSize_17 (by decide) ?_
    refine lv_icmp_ge (tgt := 42) hx hb d_Integer_stringSize_19 (by decide) (fun c_2 => ?_) (fun c_2 => ?_)
    · exact absurd c_2 (by decide)
    · skip
      refine lv_iload_n hx hb d_Integer_stringSize_22 rfl (lv_at hl 2 rfl) ?_
      refine lv_iload_n hx hb d_Integer_stringSize_23 rfl (lv_at hl 1 rfl) ?_
      refine lv_icmp_le (tgt := 31) hx hb d_Integer_stringSize_24 (by decide) (fun c_3 => ?_) (fun c_3 => ?_)
      · skip
        refine lv_bipush (v := 10) hx hb d_Integer_stringSize_31 (by decide) ?_
        refine lv_iload_n hx hb d_Integer_stringSize_33 rfl (lv_at hl 1 rfl) ?_
        refine lv_imul hx hb d_Integer_stringSize_34 ?_
        refine e_top (v := -100) (by decide) ?_
        refine lv_istore_n (lv' := [(2, .int (-100)), (3, .int (1)), (0, .int (-(nI v))), (1, .int (0))]) hx hb d_Integer_stringSize_35 rfl hl (by decide) rfl (fun ls hl => ?_)
        refine lv_iinc (v := 2) (lv' := [(3, .int (2)), (2, .int (-100)), (0, .int (-(nI v))), (1, .int (0))]) hx hb d_Integer_stringSize_36 hl (k := 1) rfl (by decide) (by decide) rfl (fun ls hl => ?_)
        refine lv_goto (tgt := 16) hx hb d_Integer_stringSize_39 (by decide) ?_
        refine lv_iload_n hx hb d_Integer_stringSize_16 rfl (lv_at hl 0 rfl) ?_
        refine lv_bipush (v := 10) hx hb d_Integer_stringSize_17 (by decide) ?_
        refine lv_icmp_ge (tgt := 42) hx hb d_Integer_stringSize_19 (by decide) (fun c_4 => ?_) (fun c_4 => ?_)
        · exact absurd c_4 (by decide)
        · skip
          refine lv_iload_n hx hb d_Integer_stringSize_22 rfl (lv_at hl 2 rfl) ?_
          refine lv_iload_n hx hb d_Integer_stringSize_23 rfl (lv_at hl 1 rfl) ?_
          refine lv_icmp_le (tgt := 31) hx hb d_Integer_stringSize_24 (by decide) (fun c_5 => ?_) (fun c_5 => ?_)
          · skip
            refine lv_bipush (v := 10) hx hb d_Integer_stringSize_31 (by decide) ?_
            refine lv_iload_n hx hb d_Integer_stringSize_33 rfl (lv_at hl 1 rfl) ?_
            refine lv_imul hx hb d_Integer_stringSize_34 ?_
            refine e_top (v := -1000) (by decide) ?_
            refine lv_istore_n (lv' := [(2, .int (-1000)), (3, .int (2)), (0, .int (-(nI v))), (1, .int (0))]) hx hb d_Integer_stringSize_35 rfl hl (by decide) rfl (fun ls hl => ?_)
            refine lv_iinc (v := 3) (lv' := [(3, .int (3)), (2, .int (-1000)), (0, .int (-(nI v))), (1, .int (0))]) hx hb d_Integer_stringSize_36 hl (k := 1) rfl (by decide) (by decide) rfl (fun ls hl => ?_)
            refine lv_goto (tgt := 16) hx hb d_Integer_stringSize_39 (by decide) ?_
            refine lv_iload_n hx hb d_Integer_stringSize_16 rfl (lv_at hl 0 rfl) ?_
            refine lv_bipush (v := 10) hx hb d_Integer_stringSize_17 (by decide) ?_
            refine lv_icmp_ge (tgt := 42) hx hb d_Integer_stringSize_19 (by decide) (fun c_6 => ?_) (fun c_6 => ?_)
            · exact absurd c_6 (by decide)
            · skip
              refine lv_iload_n hx hb d_Integer_stringSize_22 rfl (lv_at hl 2 rfl) ?_
              refine lv_iload_n hx hb d_Integer_stringSize_23 rfl (lv_at hl 1 rfl) ?_
              refine lv_icmp_le (tgt := 31) hx hb d_Integer_stringSize_24 (by decide) (fun c_7 => ?_) (fun c_7 => ?_)
              · skip
                refine lv_bipush (v := 10) hx hb d_Integer_stringSize_31 (by decide) ?_
                refine lv_iload_n hx hb d_Integer_stringSize_33 rfl (lv_at hl 1 rfl) ?_
                refine lv_imul hx hb d_Integer_stringSize_34 ?_
                refine e_top (v := -10000) (by decide) ?_
                refine lv_istore_n (lv' := [(2, .int (-10000)), (3, .int (3)), (0, .int (-(nI v))), (1, .int (0))]) hx hb d_Integer_stringSize_35 rfl hl (by decide) rfl (fun ls hl => ?_)
                refine lv_iinc (v := 4) (lv' := [(3, .int (4)), (2, .int (-10000)), (0, .int (-(nI v))), (1, .int (0))]) hx hb d_Integer_stringSize_36 hl (k := 1) rfl (by decide) (by decide) rfl (fun ls hl => ?_)
                refine lv_goto (tgt := 16) hx hb d_Integer_stringSize_39 (by decide) ?_
                refine lv_iload_n hx hb d_Integer_stringSize_16 rfl (lv_at hl 0 rfl) ?_
                refine lv_bipush (v := 10) hx hb d_Integer_stringSize_17 (by decide) ?_
                refine lv_icmp_ge (tgt := 42) hx hb d_Integer_stringSize_19 (by decide) (fun c_8 => ?_) (fun c_8 => ?_)
                · exact absurd c_8 (by decide)
                · skip
                  refine lv_iload_n hx hb d_Integer_stringSize_22 rfl (lv_at hl 2 rfl) ?_
                  refine lv_iload_n hx hb d_Integer_stringSize_23 rfl (lv_at hl 1 rfl) ?_
                  refine lv_icmp_le (tgt := 31) hx hb d_Integer_stringSize_24 (by decide) (fun c_9 => ?_) (fun c_9 => ?_)
                  · skip
                    exact absurd ((sb_cmpn (c := 10000) (show v < 2 ^ 31 by omega) (by decide) (by decide)).mp c_9) (by omega)
                  · skip
                    refine lv_iload_n hx hb d_Integer_stringSize_27 rfl (lv_at hl 0 rfl) ?_
                    refine lv_iload_n hx hb d_Integer_stringSize_28 rfl (lv_at hl 3 rfl) ?_
                    refine lv_iadd hx hb d_Integer_stringSize_29 ?_
                    refine e_top (v := nI (4 + 0)) (nI_add (4) (0)) ?_
                    have z_c_3 := ((sb_cmpn (c := 10) (x := -10) (show v < 2 ^ 31 by omega) (by decide) (by decide))).mp c_3
                    have z_c_5 := ((sb_cmpn (c := 100) (x := -100) (show v < 2 ^ 31 by omega) (by decide) (by decide))).mp c_5
                    have z_c_7 := ((sb_cmpn (c := 1000) (x := -1000) (show v < 2 ^ 31 by omega) (by decide) (by decide))).mp c_7
                    have z_c_9 := (not_congr (sb_cmpn (c := 10000) (x := -10000) (show v < 2 ^ 31 by omega) (by decide) (by decide))).mp c_9
                    exact h_iret hx hb hr hlk hW.2.2 ⟨by rw [dgl4 (by omega)]; rfl, rfl⟩ (Nat.le_of_ble_eq_true rfl) (Nat.le_of_ble_eq_true rfl) d_Integer_stringSize_30
              · skip
                refine lv_iload_n hx hb d_Integer_stringSize_27 rfl (lv_at hl 0 rfl) ?_
                refine lv_iload_n hx hb d_Integer_stringSize_28 rfl (lv_at hl 3 rfl) ?_
                refine lv_iadd hx hb d_Integer_stringSize_29 ?_
                refine e_top (v := nI (3 + 0)) (nI_add (3) (0)) ?_
                have z_c_3 := ((sb_cmpn (c := 10) (x := -10) (show v < 2 ^ 31 by omega) (by decide) (by decide))).mp c_3
                have z_c_5 := ((sb_cmpn (c := 100) (x := -100) (show v < 2 ^ 31 by omega) (by decide) (by decide))).mp c_5
                have z_c_7 := (not_congr (sb_cmpn (c := 1000) (x := -1000) (show v < 2 ^ 31 by omega) (by decide) (by decide))).mp c_7
                exact h_iret hx hb hr hlk hW.2.2 ⟨by rw [dgl3 (by omega) (by omega)]; rfl, rfl⟩ (Nat.le_of_ble_eq_true rfl) (Nat.le_of_ble_eq_true rfl) d_Integer_stringSize_30
          · skip
            refine lv_iload_n hx hb d_Integer_stringSize_27 rfl (lv_at hl 0 rfl) ?_
            refine lv_iload_n hx hb d_Integer_stringSize_28 rfl (lv_at hl 3 rfl) ?_
            refine lv_iadd hx hb d_Integer_stringSize_29 ?_
            refine e_top (v := nI (2 + 0)) (nI_add (2) (0)) ?_
            have z_c_3 := ((sb_cmpn (c := 10) (x := -10) (show v < 2 ^ 31 by omega) (by decide) (by decide))).mp c_3
            have z_c_5 := (not_congr (sb_cmpn (c := 100) (x := -100) (show v < 2 ^ 31 by omega) (by decide) (by decide))).mp c_5
            exact h_iret hx hb hr hlk hW.2.2 ⟨by rw [dgl2 (by omega) (by omega)]; rfl, rfl⟩ (Nat.le_of_ble_eq_true rfl) (Nat.le_of_ble_eq_true rfl) d_Integer_stringSize_30
      · skip
        refine lv_iload_n hx hb d_Integer_stringSize_27 rfl (lv_at hl 0 rfl) ?_
        refine lv_iload_n hx hb d_Integer_stringSize_28 rfl (lv_at hl 3 rfl) ?_
        refine lv_iadd hx hb d_Integer_stringSize_29 ?_
        refine e_top (v := nI (1 + 0)) (nI_add (1) (0)) ?_
        have z_c_3 := (not_congr (sb_cmpn (c := 10) (x := -10) (show v < 2 ^ 31 by omega) (by decide) (by decide))).mp c_3
        exact h_iret hx hb hr hlk hW.2.2 ⟨by rw [dgl1 (by omega)]; rfl, rfl⟩ (Nat.le_of_ble_eq_true rfl) (Nat.le_of_ble_eq_true rfl) d_Integer_stringSize_30
set_option maxHeartbeats 4000000 in
set_option maxRecDepth 100000 in
theorem h_getChars (l : Launch) (G : GT) (Hx : Heap) (sa va m : Nat) (t : List Nat) (a : Nat → Int32) (hL : sbL t a) (hf : sb_Fit a) (v p0 : Nat) (hv : v < 10000) (hp : p0 = t.length + (dgl v).length) (hpm : p0 ≤ m) (hm : m = 16 ∨ m = 34) (hP : va_P G.1 gcl [(sa, .inr (iSB, [.ref va, .int (0), .int (0), .int (nI (t.length))])), (va, aI (gC G 8) (m) (a))] Hx) (hD : va_D (gAb G) [(sa, .inr (iSB, [.ref va, .int (0), .int (0), .int (nI (t.length))])), (va, aI (gC G 8) (m) (a))]) : Met l y_Integer_getChars (.code y_Integer_getChars b_Integer_getChars 7 (some .int) :: WS) { frames := 0, cells := 0, slots := 0, locals := 0 } (hPre G [.int (nI v), .int (nI p0), .ref va] (fun H9 => H9 = Hx)) (hQi G (fun r9 H9 => ∃ a1, va_P G.1 gcl (sbW G sa va t.length m a1) H9 ∧ va_D (gAb G) (sbW G sa va t.length m a1) ∧ sbL (t ++ dgl v) a1 ∧ sb_Fit a1)) 0 0 (gAb G) := by
  refine h_startF (own := R_Integer) (by decide +kernel) rfl (Nat.le_of_ble_eq_true rfl) ?_
  intro p e zs zm below meth zc ls C hI hl
  subst hI
  obtain ⟨hx, hb, hr, hml, hown, hts, hlk, hE, hbs⟩ := C
  have hK := hE.1
  have hl : lv_has ls 7 [(0, .int (nI v)), (1, .int (nI p0)), (2, .ref va)] := hl
  obtain ⟨locs, hlocs⟩ : ∃ l9 : List Loc, l9 = [] := ⟨_, rfl⟩
  rw [← hlocs]
  have hW : WW G zs.heap [(sa, .inr (iSB, [.ref va, .int (0), .int (0), .int (nI (t.length))])), (va, aI (gC G 8) (m) (a))] zs.heap locs := ⟨hP, hD, by rw [hlocs]; exact va_S.rf⟩
  obtain ⟨eC, eF, ⟨tO, eO, eO'⟩, ⟨tT, eT, eT'⟩, ⟨aK, aV, eL, eL'⟩, eA, eV, eM⟩ := hE.2.2.2.2.2.2.2.2.2
  have hd4 := dgl_len v
  have hd9 : 10 ≤ v → 2 ≤ (dgl v).length := fun h => by unfold dgl; rw [if_neg (by omega)]; (repeat' split) <;> simp
  have hd8 : 100 ≤ v → 3 ≤ (dgl v).length := fun h => by unfold dgl; rw [if_neg (by omega), if_neg (by omega)]; split <;> simp
  have hd7 : 1000 ≤ v → 4 ≤ (dgl v).length := fun h => by rw [dgl4 (by omega)]; simp
  refine lv_iload_n hx hb d_Integer_getChars_0 rfl (lv_at hl 1 rfl) ?_
  refine lv_istore (lv' := [(5, .int (nI p0)), (0, .int (nI v)), (1, .int (nI p0)), (2, .ref va)]) hx hb d_Integer_getChars_1 hl (by decide) rfl (fun ls hl => ?_)
  refine lv_iload_n hx hb d_Integer_getChars_3 rfl (lv_at hl 1 rfl) ?_
  refine lv_if_ge (tgt := 11) hx hb d_Integer_getChars_4 (by decide) (fun c_1 => ?_) (fun c_1 => ?_)
  · skip
    refine lv_iconst (v := 0) hx hb d_Integer_getChars_11 (by decide) ?_
    refine lv_istore (lv' := [(6, .int (0)), (5, .int (nI p0)), (0, .int (nI v)), (1, .int (nI p0)), (2, .ref va)]) hx hb d_Integer_getChars_12 hl (by decide) rfl (fun ls hl => ?_)
    refine lv_iload hx hb d_Integer_getChars_14 (lv_at hl 0 rfl) ?_
    refine lv_if_ne (tgt := 22) hx hb d_Integer_getChars_16 (by decide) (fun c_2 => ?_) (fun c_2 => ?_)
    · exact absurd c_2 (by decide)
    · skip
      refine lv_iload_n hx hb d_Integer_getChars_19 rfl (lv_at hl 2 rfl) ?_
      refine lv_ineg hx hb d_Integer_getChars_20 ?_
      refine lv_istore_n (lv' := [(0, .int (-(nI v))), (6, .int (0)), (5, .int (nI p0)), (1, .int (nI p0)), (2, .ref va)]) hx hb d_Integer_getChars_21 rfl hl (by decide) rfl (fun ls hl => ?_)
      refine lv_iload_n hx hb d_Integer_getChars_22 rfl (lv_at hl 0 rfl) ?_
      refine lv_bipush (v := -100) hx hb d_Integer_getChars_23 (by decide) ?_
      refine lv_icmp_gt (tgt := 72) hx hb d_Integer_getChars_25 (by decide) (fun c_3 => ?_) (fun c_3 => ?_)
      · skip
        have y_c_3 := ((sb_cmpl (v := v) (c := 100) (x := -100) (by omega) (by decide) (by decide))).mp c_3
        refine lv_aload_n hx hb d_Integer_getChars_72 rfl (lv_at hl 4 rfl) ?_
        refine lv_iinc (v := nI (p0 - 1)) (lv' := [(5, .int (nI (p0 - 1))), (0, .int (-(nI v))), (6, .int (0)), (1, .int (nI p0)), (2, .ref va)]) hx hb d_Integer_getChars_73 hl (k := 2) rfl (sb_m1 (show 0 < p0 by omega)) (by decide) rfl (fun ls hl => ?_)
        refine lv_iload hx hb d_Integer_getChars_76 (lv_at hl 0 rfl) ?_
        refine va_gets hx hb eO hW.2.2 hown (hts _ kw_46) (fun _ h => h) d_Integer_getChars_78 ?_
        refine lv_iload_n hx hb d_Integer_getChars_81 rfl (lv_at hl 1 rfl) ?_
        refine lv_ineg hx hb d_Integer_getChars_82 ?_
        refine e_top (v := nI (v)) Int32.neg_neg ?_
        refine va_tb (v := .int (nI (48 + v % 10))) hx hb eO' hW.2.2 (vp_in_nI (show v < 100 by omega) (by decide)) (by rw [nI_clamp (show v < 2 ^ 31 by omega)]) d_Integer_getChars_83 ?_
        refine va_bast hx hb hK hW.1 hW.2.1 hW.2.2 1 8 rfl rfl (vp_in_nI (show p0 - 1 < m by omega) (by omega)) d_Integer_getChars_84 (fun H locs h1 h2 h3 => ?_)
        rw [nI_clamp (show p0 - 1 < 2 ^ 31 by omega), sb_nb (48 + v % 10)] at h1 h2
        have hW : WW G zs.heap [(sa, .inr (iSB, [.ref va, .int (0), .int (0), .int (nI (t.length))])), (va, aI (gC G 8) (m) (upd (a) (p0 - 1) (sb_b (48 + v % 10))))] H locs := ⟨h1, h2, h3⟩
        refine lv_iload_n hx hb d_Integer_getChars_85 rfl (lv_at hl 1 rfl) ?_
        refine lv_bipush (v := -9) hx hb d_Integer_getChars_86 (by decide) ?_
        refine lv_icmp_ge (tgt := 104) hx hb d_Integer_getChars_88 (by decide) (fun c_4 => ?_) (fun c_4 => ?_)
        · skip
          have y_c_4 := ((sb_cmpg (v := v) (c := 9) (x := -9) (by omega) (by decide) (by decide))).mp c_4
          refine lv_iload hx hb d_Integer_getChars_104 (lv_at hl 2 rfl) ?_
          refine lv_if_eq (tgt := 118) hx hb d_Integer_getChars_106 (by decide) (fun c_5 => ?_) (fun c_5 => ?_)
          · skip
            refine lv_iload hx hb d_Integer_getChars_118 (lv_at hl 0 rfl) ?_
            refine h_iret hx hb hr hlk hW.2.2 ?_ (Nat.le_of_ble_eq_true rfl) (Nat.le_of_ble_eq_true rfl) d_Integer_getChars_120
            have hp2 : p0 = t.length + 1 := by rw [hp, dgl1 (by omega)]; rfl
            refine ⟨_, hW.1, hW.2.1, sbL_app hL (fun j hj => (pk_un (by omega)).trans (rfl)) (fun i hi => ⟨dgl_lt hv i hi, ?_⟩), sb_fitU (hf) (sb_fitB _)⟩
            rw [dgl1 (by omega)] at hi ⊢
            rcases (by simp at hi; omega : i = 0) with rfl
            · exact (updr (by omega)).trans (congrArg sb_b (by show (_ : Nat) = _; simp; try omega))
          · exact absurd c_5 (by decide)
        · skip
          have y_c_4 := (not_congr (sb_cmpg (v := v) (c := 9) (x := -9) (by omega) (by decide) (by decide))).mp c_4
          refine lv_aload_n hx hb d_Integer_getChars_91 rfl (lv_at hl 4 rfl) ?_
          refine lv_iinc (v := nI (p0 - 1 - 1)) (lv' := [(5, .int (nI (p0 - 1 - 1))), (0, .int (-(nI v))), (6, .int (0)), (1, .int (nI p0)), (2, .ref va)]) hx hb d_Integer_getChars_92 hl (k := 0) rfl (sb_m1 (show 0 < p0 - 1 by omega)) (by decide) rfl (fun ls hl => ?_)
          refine lv_iload hx hb d_Integer_getChars_95 (lv_at hl 0 rfl) ?_
          refine va_gets hx hb eT hW.2.2 hown (hts _ kw_47) (fun _ h => h) d_Integer_getChars_97 ?_
          refine lv_iload_n hx hb d_Integer_getChars_100 rfl (lv_at hl 1 rfl) ?_
          refine lv_ineg hx hb d_Integer_getChars_101 ?_
          refine e_top (v := nI (v)) Int32.neg_neg ?_
          refine va_tb (v := .int (nI (48 + v / 10))) hx hb eT' hW.2.2 (vp_in_nI (show v < 100 by omega) (by decide)) (by rw [nI_clamp (show v < 2 ^ 31 by omega)]) d_Integer_getChars_102 ?_
          refine va_bast hx hb hK hW.1 hW.2.1 hW.2.2 1 8 rfl rfl (vp_in_nI (show p0 - 1 - 1 < m by omega) (by omega)) d_Integer_getChars_103 (fun H locs h1 h2 h3 => ?_)
          rw [nI_clamp (show p0 - 1 - 1 < 2 ^ 31 by omega), sb_nb (48 + v / 10)] at h1 h2
          have hW : WW G zs.heap [(sa, .inr (iSB, [.ref va, .int (0), .int (0), .int (nI (t.length))])), (va, aI (gC G 8) (m) (upd (upd (a) (p0 - 1) (sb_b (48 + v % 10))) (p0 - 1 - 1) (sb_b (48 + v / 10))))] H locs := ⟨h1, h2, h3⟩
          refine lv_iload hx hb d_Integer_getChars_104 (lv_at hl 2 rfl) ?_
          refine lv_if_eq (tgt := 118) hx hb d_Integer_getChars_106 (by decide) (fun c_6 => ?_) (fun c_6 => ?_)
          · skip
            refine lv_iload hx hb d_Integer_getChars_118 (lv_at hl 0 rfl) ?_
            refine h_iret hx hb hr hlk hW.2.2 ?_ (Nat.le_of_ble_eq_true rfl) (Nat.le_of_ble_eq_true rfl) d_Integer_getChars_120
            have hp2 : p0 = t.length + 2 := by rw [hp, dgl2 (by omega) (by omega)]; rfl
            refine ⟨_, hW.1, hW.2.1, sbL_app hL (fun j hj => (pk_un (by omega)).trans ((pk_un (by omega)).trans (rfl))) (fun i hi => ⟨dgl_lt hv i hi, ?_⟩), sb_fitU (sb_fitU (hf) (sb_fitB _)) (sb_fitB _)⟩
            rw [dgl2 (by omega) (by omega)] at hi ⊢
            rcases (by simp at hi; omega : i = 0 ∨ i = 1) with rfl | rfl
            · exact (updr (by omega)).trans (congrArg sb_b (by show (_ : Nat) = _; simp; try omega))
            · exact (pk_un (by omega)).trans ((updr (by omega)).trans (congrArg sb_b (by show (_ : Nat) = _; simp; try omega)))
          · exact absurd c_6 (by decide)
      · skip
        have y_c_3 := (not_congr (sb_cmpl (v := v) (c := 100) (x := -100) (by omega) (by decide) (by decide))).mp c_3
        refine lv_iload_n hx hb d_Integer_getChars_28 rfl (lv_at hl 0 rfl) ?_
        refine lv_bipush (v := 100) hx hb d_Integer_getChars_29 (by decide) ?_
        refine lv_idiv hx hb d_Integer_getChars_31 (by decide) ?_
        refine e_top (v := -(nI (v / 100))) (sb_ndiv (by omega)) ?_
        refine lv_istore_n (lv' := [(3, .int (-(nI (v / 100)))), (0, .int (-(nI v))), (6, .int (0)), (5, .int (nI p0)), (1, .int (nI p0)), (2, .ref va)]) hx hb d_Integer_getChars_32 rfl hl (by decide) rfl (fun ls hl => ?_)
        refine lv_iload_n hx hb d_Integer_getChars_33 rfl (lv_at hl 0 rfl) ?_
        refine lv_bipush (v := 100) hx hb d_Integer_getChars_34 (by decide) ?_
        refine lv_imul hx hb d_Integer_getChars_36 ?_
        refine lv_iload_n hx hb d_Integer_getChars_37 rfl (lv_at hl 1 rfl) ?_
        refine lv_isub hx hb d_Integer_getChars_38 ?_
        refine e_top (v := nI (v % 100)) (sb_nrem (by omega)) ?_
        refine lv_istore (lv' := [(4, .int (nI (v % 100))), (3, .int (-(nI (v / 100)))), (0, .int (-(nI v))), (6, .int (0)), (5, .int (nI p0)), (1, .int (nI p0)), (2, .ref va)]) hx hb d_Integer_getChars_39 hl (by decide) rfl (fun ls hl => ?_)
        refine lv_iload_n hx hb d_Integer_getChars_41 rfl (lv_at hl 1 rfl) ?_
        refine lv_istore_n (lv' := [(0, .int (-(nI (v / 100)))), (4, .int (nI (v % 100))), (3, .int (-(nI (v / 100)))), (6, .int (0)), (5, .int (nI p0)), (1, .int (nI p0)), (2, .ref va)]) hx hb d_Integer_getChars_42 rfl hl (by decide) rfl (fun ls hl => ?_)
        refine lv_aload_n hx hb d_Integer_getChars_43 rfl (lv_at hl 6 rfl) ?_
        refine lv_iinc (v := nI (p0 - 1)) (lv' := [(5, .int (nI (p0 - 1))), (0, .int (-(nI (v / 100)))), (4, .int (nI (v % 100))), (3, .int (-(nI (v / 100)))), (6, .int (0)), (1, .int (nI p0)), (2, .ref va)]) hx hb d_Integer_getChars_44 hl (k := 4) rfl (sb_m1 (show 0 < p0 by omega)) (by decide) rfl (fun ls hl => ?_)
        refine lv_iload hx hb d_Integer_getChars_47 (lv_at hl 0 rfl) ?_
        refine va_gets hx hb eO hW.2.2 hown (hts _ kw_46) (fun _ h => h) d_Integer_getChars_49 ?_
        refine lv_iload hx hb d_Integer_getChars_52 (lv_at hl 2 rfl) ?_
        refine va_tb (v := .int (nI (48 + (v % 100) % 10))) hx hb eO' hW.2.2 (vp_in_nI (show v % 100 < 100 by omega) (by decide)) (by rw [nI_clamp (show v % 100 < 2 ^ 31 by omega)]) d_Integer_getChars_54 ?_
        refine va_bast hx hb hK hW.1 hW.2.1 hW.2.2 1 8 rfl rfl (vp_in_nI (show p0 - 1 < m by omega) (by omega)) d_Integer_getChars_55 (fun H locs h1 h2 h3 => ?_)
        rw [nI_clamp (show p0 - 1 < 2 ^ 31 by omega), sb_nb (48 + (v % 100) % 10)] at h1 h2
        have hW : WW G zs.heap [(sa, .inr (iSB, [.ref va, .int (0), .int (0), .int (nI (t.length))])), (va, aI (gC G 8) (m) (upd (a) (p0 - 1) (sb_b (48 + (v % 100) % 10))))] H locs := ⟨h1, h2, h3⟩
        refine lv_aload_n hx hb d_Integer_getChars_56 rfl (lv_at hl 6 rfl) ?_
        refine lv_iinc (v := nI (p0 - 1 - 1)) (lv' := [(5, .int (nI (p0 - 1 - 1))), (0, .int (-(nI (v / 100)))), (4, .int (nI (v % 100))), (3, .int (-(nI (v / 100)))), (6, .int (0)), (1, .int (nI p0)), (2, .ref va)]) hx hb d_Integer_getChars_57 hl (k := 0) rfl (sb_m1 (show 0 < p0 - 1 by omega)) (by decide) rfl (fun ls hl => ?_)
        refine lv_iload hx hb d_Integer_getChars_60 (lv_at hl 0 rfl) ?_
        refine va_gets hx hb eT hW.2.2 hown (hts _ kw_47) (fun _ h => h) d_Integer_getChars_62 ?_
        refine lv_iload hx hb d_Integer_getChars_65 (lv_at hl 2 rfl) ?_
        refine va_tb (v := .int (nI (48 + (v % 100) / 10))) hx hb eT' hW.2.2 (vp_in_nI (show v % 100 < 100 by omega) (by decide)) (by rw [nI_clamp (show v % 100 < 2 ^ 31 by omega)]) d_Integer_getChars_67 ?_
        refine va_bast hx hb hK hW.1 hW.2.1 hW.2.2 1 8 rfl rfl (vp_in_nI (show p0 - 1 - 1 < m by omega) (by omega)) d_Integer_getChars_68 (fun H locs h1 h2 h3 => ?_)
        rw [nI_clamp (show p0 - 1 - 1 < 2 ^ 31 by omega), sb_nb (48 + (v % 100) / 10)] at h1 h2
        have hW : WW G zs.heap [(sa, .inr (iSB, [.ref va, .int (0), .int (0), .int (nI (t.length))])), (va, aI (gC G 8) (m) (upd (upd (a) (p0 - 1) (sb_b (48 + (v % 100) % 10))) (p0 - 1 - 1) (sb_b (48 + (v % 100) / 10))))] H locs := ⟨h1, h2, h3⟩
        refine lv_goto (tgt := 22) hx hb d_Integer_getChars_69 (by decide) ?_
        refine lv_iload_n hx hb d_Integer_getChars_22 rfl (lv_at hl 1 rfl) ?_
        refine lv_bipush (v := -100) hx hb d_Integer_getChars_23 (by decide) ?_
        refine lv_icmp_gt (tgt := 72) hx hb d_Integer_getChars_25 (by decide) (fun c_7 => ?_) (fun c_7 => ?_)
        · skip
          have y_c_7 := ((sb_cmpl (v := v / 100) (c := 100) (x := -100) (by omega) (by decide) (by decide))).mp c_7
          refine lv_aload_n hx hb d_Integer_getChars_72 rfl (lv_at hl 6 rfl) ?_
          refine lv_iinc (v := nI (p0 - 1 - 1 - 1)) (lv' := [(5, .int (nI (p0 - 1 - 1 - 1))), (0, .int (-(nI (v / 100)))), (4, .int (nI (v % 100))), (3, .int (-(nI (v / 100)))), (6, .int (0)), (1, .int (nI p0)), (2, .ref va)]) hx hb d_Integer_getChars_73 hl (k := 0) rfl (sb_m1 (show 0 < p0 - 1 - 1 by omega)) (by decide) rfl (fun ls hl => ?_)
          refine lv_iload hx hb d_Integer_getChars_76 (lv_at hl 0 rfl) ?_
          refine va_gets hx hb eO hW.2.2 hown (hts _ kw_46) (fun _ h => h) d_Integer_getChars_78 ?_
          refine lv_iload_n hx hb d_Integer_getChars_81 rfl (lv_at hl 1 rfl) ?_
          refine lv_ineg hx hb d_Integer_getChars_82 ?_
          refine e_top (v := nI (v / 100)) Int32.neg_neg ?_
          refine va_tb (v := .int (nI (48 + (v / 100) % 10))) hx hb eO' hW.2.2 (vp_in_nI (show v / 100 < 100 by omega) (by decide)) (by rw [nI_clamp (show v / 100 < 2 ^ 31 by omega)]) d_Integer_getChars_83 ?_
          refine va_bast hx hb hK hW.1 hW.2.1 hW.2.2 1 8 rfl rfl (vp_in_nI (show p0 - 1 - 1 - 1 < m by omega) (by omega)) d_Integer_getChars_84 (fun H locs h1 h2 h3 => ?_)
          rw [nI_clamp (show p0 - 1 - 1 - 1 < 2 ^ 31 by omega), sb_nb (48 + (v / 100) % 10)] at h1 h2
          have hW : WW G zs.heap [(sa, .inr (iSB, [.ref va, .int (0), .int (0), .int (nI (t.length))])), (va, aI (gC G 8) (m) (upd (upd (upd (a) (p0 - 1) (sb_b (48 + (v % 100) % 10))) (p0 - 1 - 1) (sb_b (48 + (v % 100) / 10))) (p0 - 1 - 1 - 1) (sb_b (48 + (v / 100) % 10))))] H locs := ⟨h1, h2, h3⟩
          refine lv_iload_n hx hb d_Integer_getChars_85 rfl (lv_at hl 1 rfl) ?_
          refine lv_bipush (v := -9) hx hb d_Integer_getChars_86 (by decide) ?_
          refine lv_icmp_ge (tgt := 104) hx hb d_Integer_getChars_88 (by decide) (fun c_8 => ?_) (fun c_8 => ?_)
          · skip
            have y_c_8 := ((sb_cmpg (v := v / 100) (c := 9) (x := -9) (by omega) (by decide) (by decide))).mp c_8
            refine lv_iload hx hb d_Integer_getChars_104 (lv_at hl 4 rfl) ?_
            refine lv_if_eq (tgt := 118) hx hb d_Integer_getChars_106 (by decide) (fun c_9 => ?_) (fun c_9 => ?_)
            · skip
              refine lv_iload hx hb d_Integer_getChars_118 (lv_at hl 0 rfl) ?_
              refine h_iret hx hb hr hlk hW.2.2 ?_ (Nat.le_of_ble_eq_true rfl) (Nat.le_of_ble_eq_true rfl) d_Integer_getChars_120
              have hp2 : p0 = t.length + 3 := by rw [hp, dgl3 (by omega) (by omega)]; rfl
              refine ⟨_, hW.1, hW.2.1, sbL_app hL (fun j hj => (pk_un (by omega)).trans ((pk_un (by omega)).trans ((pk_un (by omega)).trans (rfl)))) (fun i hi => ⟨dgl_lt hv i hi, ?_⟩), sb_fitU (sb_fitU (sb_fitU (hf) (sb_fitB _)) (sb_fitB _)) (sb_fitB _)⟩
              rw [dgl3 (by omega) (by omega)] at hi ⊢
              rcases (by simp at hi; omega : i = 0 ∨ i = 1 ∨ i = 2) with rfl | rfl | rfl
              · exact (updr (by omega)).trans (congrArg sb_b (by show (_ : Nat) = _; simp; try omega))
              · exact (pk_un (by omega)).trans ((updr (by omega)).trans (congrArg sb_b (by show (_ : Nat) = _; simp; try omega)))
              · exact (pk_un (by omega)).trans ((pk_un (by omega)).trans ((updr (by omega)).trans (congrArg sb_b (by show (_ : Nat) = _; simp; try omega))))
            · exact absurd c_9 (by decide)
          · skip
            have y_c_8 := (not_congr (sb_cmpg (v := v / 100) (c := 9) (x := -9) (by omega) (by decide) (by decide))).mp c_8
            refine lv_aload_n hx hb d_Integer_getChars_91 rfl (lv_at hl 6 rfl) ?_
            refine lv_iinc (v := nI (p0 - 1 - 1 - 1 - 1)) (lv' := [(5, .int (nI (p0 - 1 - 1 - 1 - 1))), (0, .int (-(nI (v / 100)))), (4, .int (nI (v % 100))), (3, .int (-(nI (v / 100)))), (6, .int (0)), (1, .int (nI p0)), (2, .ref va)]) hx hb d_Integer_getChars_92 hl (k := 0) rfl (sb_m1 (show 0 < p0 - 1 - 1 - 1 by omega)) (by decide) rfl (fun ls hl => ?_)
            refine lv_iload hx hb d_Integer_getChars_95 (lv_at hl 0 rfl) ?_
            refine va_gets hx hb eT hW.2.2 hown (hts _ kw_47) (fun _ h => h) d_Integer_getChars_97 ?_
            refine lv_iload_n hx hb d_Integer_getChars_100 rfl (lv_at hl 1 rfl) ?_
            refine lv_ineg hx hb d_Integer_getChars_101 ?_
            refine e_top (v := nI (v / 100)) Int32.neg_neg ?_
            refine va_tb (v := .int (nI (48 + (v / 100) / 10))) hx hb eT' hW.2.2 (vp_in_nI (show v / 100 < 100 by omega) (by decide)) (by rw [nI_clamp (show v / 100 < 2 ^ 31 by omega)]) d_Integer_getChars_102 ?_
            refine va_bast hx hb hK hW.1 hW.2.1 hW.2.2 1 8 rfl rfl (vp_in_nI (show p0 - 1 - 1 - 1 - 1 < m by omega) (by omega)) d_Integer_getChars_103 (fun H locs h1 h2 h3 => ?_)
            rw [nI_clamp (show p0 - 1 - 1 - 1 - 1 < 2 ^ 31 by omega), sb_nb (48 + (v / 100) / 10)] at h1 h2
            have hW : WW G zs.heap [(sa, .inr (iSB, [.ref va, .int (0), .int (0), .int (nI (t.length))])), (va, aI (gC G 8) (m) (upd (upd (upd (upd (a) (p0 - 1) (sb_b (48 + (v % 100) % 10))) (p0 - 1 - 1) (sb_b (48 + (v % 100) / 10))) (p0 - 1 - 1 - 1) (sb_b (48 + (v / 100) % 10))) (p0 - 1 - 1 - 1 - 1) (sb_b (48 + (v / 100) / 10))))] H locs := ⟨h1, h2, h3⟩
            refine lv_iload hx hb d_Integer_getChars_104 (lv_at hl 4 rfl) ?_
            refine lv_if_eq (tgt := 118) hx hb d_Integer_getChars_106 (by decide) (fun c_10 => ?_) (fun c_10 => ?_)
            · skip
              refine lv_iload hx hb d_Integer_getChars_118 (lv_at hl 0 rfl) ?_
              refine h_iret hx hb hr hlk hW.2.2 ?_ (Nat.le_of_ble_eq_true rfl) (Nat.le_of_ble_eq_true rfl) d_Integer_getChars_120
              have hp2 : p0 = t.length + 4 := by rw [hp, dgl4 (by omega)]; rfl
              refine ⟨_, hW.1, hW.2.1, sbL_app hL (fun j hj => (pk_un (by omega)).trans ((pk_un (by omega)).trans ((pk_un (by omega)).trans ((pk_un (by omega)).trans (rfl))))) (fun i hi => ⟨dgl_lt hv i hi, ?_⟩), sb_fitU (sb_fitU (sb_fitU (sb_fitU (hf) (sb_fitB _)) (sb_fitB _)) (sb_fitB _)) (sb_fitB _)⟩
              rw [dgl4 (by omega)] at hi ⊢
              rcases (by simp at hi; omega : i = 0 ∨ i = 1 ∨ i = 2 ∨ i = 3) with rfl | rfl | rfl | rfl
              · exact (updr (by omega)).trans (congrArg sb_b (by show (_ : Nat) = _; simp; try omega))
              · exact (pk_un (by omega)).trans ((updr (by omega)).trans (congrArg sb_b (by show (_ : Nat) = _; simp; try omega)))
              · exact (pk_un (by omega)).trans ((pk_un (by omega)).trans ((updr (by omega)).trans (congrArg sb_b (by show (_ : Nat) = _; simp; try omega))))
              · exact (pk_un (by omega)).trans ((pk_un (by omega)).trans ((pk_un (by omega)).trans ((updr (by omega)).trans (congrArg sb_b (by show (_ : Nat) = _; simp; try omega)))))
            · exact absurd c_10 (by decide)
        · skip
          exact absurd ((sb_cmpl (v := v / 100) (c := 100) (by omega) (by decide) (by decide)).mpr (by omega)) c_7
  · skip
    exact absurd (nI_pos' (n := v) (by omega)) c_1
set_option maxHeartbeats 4000000 in
set_option maxRecDepth 100000 in
theorem h_asbAppI (l : Launch) (G : GT) (Hx : Heap) (sa va m : Nat) (t : List Nat) (a : Nat → Int32) (hL : sbL t a) (hf : sb_Fit a) (hnm : t.length ≤ m) (hm : m = 16 ∨ m = 34) (v : Nat) (hv : v < 10000) (hn34 : t.length + (dgl v).length ≤ 34) (hP : va_P G.1 gcl [(sa, .inr (iSB, [.ref va, .int (0), .int (0), .int (nI (t.length))])), (va, aI (gC G 8) (m) (a))] Hx) (hD : va_D (gAb G) [(sa, .inr (iSB, [.ref va, .int (0), .int (0), .int (nI (t.length))])), (va, aI (gC G 8) (m) (a))]) : Met l y_AbstractStringBuilder_append_I (.code y_AbstractStringBuilder_append_I b_AbstractStringBuilder_append_I 4 (some (.object "java/lang/AbstractStringBuilder")) :: WS) { frames := 4, cells := 1, slots := 34, locals := 91 } (hPre G [.ref sa, .int (nI v)] (fun H9 => H9 = Hx)) (hQr G (fun r9 H9 => r9 = sa ∧ SBH G sa (t ++ dgl v) H9)) 1 34 (gAb G) := by
  refine h_startF (own := R_AbstractStringBuilder) (by decide +kernel) rfl (Nat.le_of_ble_eq_true rfl) ?_
  intro p e zs zm below meth zc ls C hI hl
  subst hI
  obtain ⟨hx, hb, hr, hml, hown, hts, hlk, hE, hbs⟩ := C
  have hK := hE.1
  have hl : lv_has ls 4 [(0, .ref sa), (1, .int (nI v))] := hl
  obtain ⟨locs, hlocs⟩ : ∃ l9 : List Loc, l9 = [] := ⟨_, rfl⟩
  rw [← hlocs]
  have hW : WW G zs.heap [(sa, .inr (iSB, [.ref va, .int (0), .int (0), .int (nI (t.length))])), (va, aI (gC G 8) (m) (a))] zs.heap locs := ⟨hP, hD, by rw [hlocs]; exact va_S.rf⟩
  refine lv_aload_n hx hb d_AbstractStringBuilder_append_I_0 rfl (lv_at hl 0 rfl) ?_
  refine va_get (v := .int (nI (t.length))) hx hb hts i_SB hown hK hW.1 0 rfl rfl 3 (by decide) (hts _ kw_29) (fun _ h => h) rfl d_AbstractStringBuilder_append_I_1 ?_
  refine lv_istore_n (lv' := [(2, .int (nI (t.length))), (0, .ref sa), (1, .int (nI v))]) hx hb d_AbstractStringBuilder_append_I_4 rfl hl (by decide) rfl (fun ls hl => ?_)
  refine lv_iload_n hx hb d_AbstractStringBuilder_append_I_5 rfl (lv_at hl 0 rfl) ?_
  refine lv_iload_n hx hb d_AbstractStringBuilder_append_I_6 rfl (lv_at hl 2 rfl) ?_
  refine h_ci (G := G) (h_runS (G := G) (G' := G) (I := fun Hz => Hz = zs.heap) hx hb hml hown hts hE hW.2.2 (Nat.le_refl _) rfl (Nat.le_trans hbs hW.2.2.1) rfl (h_strSize l G zs.heap (v) (by omega)) kw_50 kw_51 kw_49 kw_48 rfl rfl hd_Integer_stringSize ⟨Nat.le_of_ble_eq_true rfl, Nat.le_of_ble_eq_true rfl⟩ (As := [.int (nI v)]) (rest := [.int (nI (t.length))]) rfl hl.1 rfl (Nat.le_of_ble_eq_true rfl) d_AbstractStringBuilder_append_I_7 ⟨Nat.le_of_ble_eq_true rfl, Nat.le_of_ble_eq_true rfl⟩) hW.2.2 (Nat.le_refl _) (fun r9 H9 locs hJ hz9 hk9 hS9 => ?_)
  obtain ⟨hr9, hH9⟩ := hJ
  have hr9 := hr9.symm; subst hr9
  have hH9 := hH9.symm; subst hH9
  have hW : WW G zs.heap [(sa, .inr (iSB, [.ref va, .int (0), .int (0), .int (nI (t.length))])), (va, aI (gC G 8) (m) (a))] zs.heap locs := ⟨hW.1, hW.2.1, hS9⟩
  refine lv_iadd hx hb d_AbstractStringBuilder_append_I_10 ?_
  refine e_top (v := nI (t.length + (dgl v).length)) (nI_add (t.length) ((dgl v).length)) ?_
  refine lv_istore_n (lv' := [(3, .int (nI (t.length + (dgl v).length))), (2, .int (nI (t.length))), (0, .ref sa), (1, .int (nI v))]) hx hb d_AbstractStringBuilder_append_I_11 rfl hl (by decide) rfl (fun ls hl => ?_)
  refine lv_aload_n hx hb d_AbstractStringBuilder_append_I_12 rfl (lv_at hl 2 rfl) ?_
  refine lv_iload_n hx hb d_AbstractStringBuilder_append_I_13 rfl (lv_at hl 0 rfl) ?_
  refine h_cv (G := G) (h_runV (C := R_SB) (G := G) (G' := G) (I := fun Hz => Hz = zs.heap) hx hb hml hown hts hE hW.2.2 (Nat.le_refl _) rfl (Nat.le_trans hbs hW.2.2.1) rfl hW.1 0 rfl rfl (h_ensure l G zs.heap _ _ _ _ (t.length + (dgl v).length) _ hf hm (by omega) hW.1 hW.2.1) kw_31 kw_32 (va_Nw.use rfl (hE.2.2.2.2.2.2.2.2.2.2.2.2.2.2.2.2.2 _ (List.mem_of_getElem? (i := 0) rfl))) kw_22 kw_30 rfl rfl hd_AbstractStringBuilder_ensureCapacityInternal ⟨Nat.le_of_ble_eq_true rfl, Nat.le_of_ble_eq_true rfl⟩ (As := [.int (nI (t.length + (dgl v).length))]) (rest := []) rfl hl.1 rfl (Nat.le_of_ble_eq_true rfl) d_AbstractStringBuilder_append_I_14 ⟨Nat.le_of_ble_eq_true rfl, Nat.le_of_ble_eq_true rfl⟩) hW.2.2 (Nat.le_refl _) (fun H9 locs hJ hz9 hk9 hS9 => ?_)
  obtain ⟨va1, m1, a1, hJ1, hJ2, hf1, hq1, hm1, hk1⟩ := hJ
  have hW : WW G zs.heap [(sa, .inr (iSB, [.ref va1, .int (0), .int (0), .int (nI (t.length))])), (va1, aI (gC G 8) (m1) (a1))] H9 locs := ⟨hJ1, hJ2, hS9⟩
  refine lv_aload_n hx hb d_AbstractStringBuilder_append_I_17 rfl (lv_at hl 2 rfl) ?_
  refine h_ci (G := G) (h_runV (C := R_SB) (G := G) (G' := G) (I := fun Hz => Hz = H9) hx hb hml hown hts hE hW.2.2 (Nat.le_refl _) rfl (Nat.le_trans hbs hW.2.2.1) rfl hW.1 0 rfl rfl (h_asbL1 l G H9 _ _ _ _ _ hW.1 hW.2.1) kw_34 kw_35 (hts _ kw_36) kw_22 kw_33 rfl rfl hd_AbstractStringBuilder_isLatin1 ⟨Nat.le_of_ble_eq_true rfl, Nat.le_of_ble_eq_true rfl⟩ (As := []) (rest := []) rfl hl.1 rfl (Nat.le_of_ble_eq_true rfl) d_AbstractStringBuilder_append_I_18 ⟨Nat.le_of_ble_eq_true rfl, Nat.le_of_ble_eq_true rfl⟩) hW.2.2 (Nat.le_refl _) (fun r9 H9 locs hJ hz9 hk9 hS9 => ?_)
  obtain ⟨hr9, hH9⟩ := hJ
  have hr9 := hr9.symm; subst hr9
  have hH9 := hH9.symm; subst hH9
  have hW : WW G zs.heap [(sa, .inr (iSB, [.ref va1, .int (0), .int (0), .int (nI (t.length))])), (va1, aI (gC G 8) (m1) (a1))] H9 locs := ⟨hW.1, hW.2.1, hS9⟩
  refine lv_if_eq (tgt := 37) hx hb d_AbstractStringBuilder_append_I_21 (by decide) (fun c_1 => ?_) (fun c_1 => ?_)
  · skip
    exact absurd c_1 (by decide)
  · skip
    refine lv_iload_n hx hb d_AbstractStringBuilder_append_I_24 rfl (lv_at hl 3 rfl) ?_
    refine lv_iload_n hx hb d_AbstractStringBuilder_append_I_25 rfl (lv_at hl 0 rfl) ?_
    refine lv_aload_n hx hb d_AbstractStringBuilder_append_I_26 rfl (lv_at hl 2 rfl) ?_
    refine va_get (v := .ref va1) hx hb hts i_SB hown hK hW.1 0 rfl rfl 0 (by decide) (hts _ kw_7) (fun _ h => h) rfl d_AbstractStringBuilder_append_I_27 ?_
    refine h_ci (G := G) (h_runS (G := G) (G' := G) (I := fun Hz => Hz = H9) hx hb hml hown hts hE hW.2.2 (Nat.le_refl _) rfl (Nat.le_trans hbs hW.2.2.1) rfl (h_getChars l G H9 _ _ _ _ _ (sb_latKeep hL (fun j hj => hk1 j (by omega))) hf1 (v) _ (by omega) rfl hq1 hm1 hW.1 hW.2.1) kw_53 kw_54 kw_49 kw_52 rfl rfl hd_Integer_getChars ⟨Nat.le_of_ble_eq_true rfl, Nat.le_of_ble_eq_true rfl⟩ (As := [.int (nI v), .int (nI (t.length + (dgl v).length)), .ref va1]) (rest := []) rfl hl.1 rfl (Nat.le_of_ble_eq_true rfl) d_AbstractStringBuilder_append_I_30 ⟨Nat.le_of_ble_eq_true rfl, Nat.le_of_ble_eq_true rfl⟩) hW.2.2 (Nat.le_refl _) (fun r9 H9 locs hJ hz9 hk9 hS9 => ?_)
    obtain ⟨a2, hJ1, hJ2, hL2, hf2⟩ := hJ
    have hW : WW G zs.heap [(sa, .inr (iSB, [.ref va1, .int (0), .int (0), .int (nI (t.length))])), (va1, aI (gC G 8) (m1) (a2))] H9 locs := ⟨hJ1, hJ2, hS9⟩
    refine lv_pop hx hb d_AbstractStringBuilder_append_I_33 rfl ?_
    refine lv_goto (tgt := 48) hx hb d_AbstractStringBuilder_append_I_34 (by decide) ?_
    refine lv_aload_n hx hb d_AbstractStringBuilder_append_I_48 rfl (lv_at hl 2 rfl) ?_
    refine lv_iload_n hx hb d_AbstractStringBuilder_append_I_49 rfl (lv_at hl 0 rfl) ?_
    refine va_put hx hb hts i_SB t_SB t_SB_ok n_SB hown hK hW.1 hW.2.1 hW.2.2 0 rfl rfl 3 (by decide) (hts _ kw_29) (fun _ h => h) rfl (t_SB_ok 3 (by decide)) rfl rfl (Nat.le_of_ble_eq_true rfl) d_AbstractStringBuilder_append_I_50 (fun H locs h1 h2 h3 => ?_)
    have hW : WW G zs.heap [(sa, .inr (iSB, [.ref va1, .int (0), .int (0), .int (nI (t.length + (dgl v).length))])), (va1, aI (gC G 8) (m1) (a2))] H locs := ⟨h1, h2, h3⟩
    refine lv_aload_n hx hb d_AbstractStringBuilder_append_I_53 rfl (lv_at hl 2 rfl) ?_
    have hlen : (t ++ dgl v).length = t.length + (dgl v).length := by simp
    rw [← hlen] at hW hq1
    exact h_aret hx hb hr (Or.inl ⟨_, rfl⟩) hlk hW.2.2 ⟨rfl, va1, m1, _, hW.1, hW.2.1, hL2, hf2, hq1, hm1⟩ (Nat.le_of_ble_eq_true rfl) (Nat.le_of_ble_eq_true rfl) d_AbstractStringBuilder_append_I_54
set_option maxHeartbeats 4000000 in
set_option maxRecDepth 100000 in
theorem h_sbAppI (l : Launch) (G : GT) (Hx : Heap) (sa va m : Nat) (t : List Nat) (a : Nat → Int32) (hL : sbL t a) (hf : sb_Fit a) (hnm : t.length ≤ m) (hm : m = 16 ∨ m = 34) (v : Nat) (hv : v < 10000) (hn34 : t.length + (dgl v).length ≤ 34) (hP : va_P G.1 gcl [(sa, .inr (iSB, [.ref va, .int (0), .int (0), .int (nI (t.length))])), (va, aI (gC G 8) (m) (a))] Hx) (hD : va_D (gAb G) [(sa, .inr (iSB, [.ref va, .int (0), .int (0), .int (nI (t.length))])), (va, aI (gC G 8) (m) (a))]) : Met l y_SB_append_I (.code y_SB_append_I b_SB_append_I 2 (some (.object "java/lang/StringBuilder")) :: WS) { frames := 5, cells := 1, slots := 34, locals := 114 } (hPre G [.ref sa, .int (nI v)] (fun H9 => H9 = Hx)) (hQr G (fun r9 H9 => r9 = sa ∧ SBH G sa (t ++ dgl v) H9)) 1 34 (gAb G) := by
  refine h_startF (own := R_SB) (by decide +kernel) rfl (Nat.le_of_ble_eq_true rfl) ?_
  intro p e zs zm below meth zc ls C hI hl
  subst hI
  obtain ⟨hx, hb, hr, hml, hown, hts, hlk, hE, hbs⟩ := C
  have hK := hE.1
  have hl : lv_has ls 2 [(0, .ref sa), (1, .int (nI v))] := hl
  obtain ⟨locs, hlocs⟩ : ∃ l9 : List Loc, l9 = [] := ⟨_, rfl⟩
  rw [← hlocs]
  have hW : WW G zs.heap [(sa, .inr (iSB, [.ref va, .int (0), .int (0), .int (nI (t.length))])), (va, aI (gC G 8) (m) (a))] zs.heap locs := ⟨hP, hD, by rw [hlocs]; exact va_S.rf⟩
  refine lv_aload_n hx hb d_SB_append_I_0 rfl (lv_at hl 0 rfl) ?_
  refine lv_iload_n hx hb d_SB_append_I_1 rfl (lv_at hl 1 rfl) ?_
  refine h_cr (G := G) (h_runSU (C := R_SB) (G := G) (G' := G) (I := fun Hz => Hz = zs.heap) hx hb hml hown hts hE hW.2.2 (Nat.le_refl _) rfl (Nat.le_trans hbs hW.2.2.1) rfl hW.1 0 rfl rfl (h_asbAppI l G zs.heap _ _ _ _ _ hL hf hnm hm (v) (by omega) (by omega) hW.1 hW.2.1) kw_56 kw_57 kw_58 kw_45 kw_22 kw_55 rfl rfl ⟨by decide +kernel, hd_AbstractStringBuilder_append_I.2.2⟩ ⟨Nat.le_of_ble_eq_true rfl, Nat.le_of_ble_eq_true rfl⟩ (As := [.int (nI v)]) (rest := []) rfl hl.1 rfl (Nat.le_of_ble_eq_true rfl) d_SB_append_I_2 ⟨Nat.le_of_ble_eq_true rfl, Nat.le_of_ble_eq_true rfl⟩) hW.2.2 (Nat.le_refl _) (fun r9 H9 locs hJ hz9 hk9 hS9 => ?_)
  obtain ⟨hr9, va9, m9, a9, hJ1, hJ2, hL9, hf9, hn9, hm9⟩ := hJ
  have hr9 := hr9.symm; subst hr9
  have hW : WW G zs.heap [(sa, .inr (iSB, [.ref va9, .int (0), .int (0), .int (nI (t ++ dgl v).length)])), (va9, aI (gC G 8) (m9) (a9))] H9 locs := ⟨hJ1, hJ2, hS9⟩
  refine lv_pop hx hb d_SB_append_I_5 rfl ?_
  refine lv_aload_n hx hb d_SB_append_I_6 rfl (lv_at hl 0 rfl) ?_
  exact h_aret hx hb hr (Or.inl ⟨_, rfl⟩) hlk hW.2.2 ⟨rfl, va9, m9, a9, hW.1, hW.2.1, hL9, hf9, hn9, hm9⟩ (Nat.le_of_ble_eq_true rfl) (Nat.le_of_ble_eq_true rfl) d_SB_append_I_7
end
section
theorem kw_59 : .code y_AbstractStringBuilder_length b_AbstractStringBuilder_length 1 (some .int) ∈ WS := List.mem_filter.mpr ⟨List.mem_append_right _ (List.mem_of_getElem? (i := 848) (by decide +kernel)), by decide +kernel⟩
theorem kw_60 : .methodLink R_SB 343 y_AbstractStringBuilder_length ∈ WS := List.mem_filter.mpr ⟨List.mem_append_right _ (List.mem_of_getElem? (i := 846) (by decide +kernel)), by decide +kernel⟩
theorem kw_61 : .instanceMethod y_AbstractStringBuilder_length ∈ WS := List.mem_filter.mpr ⟨List.mem_append_right _ (List.mem_of_getElem? (i := 847) (by decide +kernel)), by decide +kernel⟩
theorem kw_62 : .sameMethod R_AbstractStringBuilder R_AbstractStringBuilder "length" "()I" ∈ WS := List.mem_filter.mpr ⟨List.mem_append_right _ (List.mem_of_getElem? (i := 1161) (by decide +kernel)), by decide +kernel⟩
theorem kw_63 : .fieldLink R_String 1053 "jdk/internal/util/Preconditions" "SIOOBE_FORMATTER" "Ljava/util/function/BiFunction;" ∈ WS := List.mem_filter.mpr ⟨List.mem_append_right _ (List.mem_of_getElem? (i := 703) (by decide +kernel)), by decide +kernel⟩
theorem kw_64 : .code y_Preconditions_checkIndex b_Preconditions_checkIndex 3 (some .int) ∈ WS := List.mem_filter.mpr ⟨List.mem_append_right _ (List.mem_of_getElem? (i := 707) (by decide +kernel)), by decide +kernel⟩
theorem kw_65 : .initialized R_Preconditions ∈ WS := List.mem_filter.mpr ⟨List.mem_append_right _ (List.mem_of_getElem? (i := 25) (by decide +kernel)), by decide +kernel⟩
theorem kw_66 : .methodLink R_String 1059 y_Preconditions_checkIndex ∈ WS := List.mem_filter.mpr ⟨List.mem_append_right _ (List.mem_of_getElem? (i := 705) (by decide +kernel)), by decide +kernel⟩
theorem kw_67 : .static y_Preconditions_checkIndex ∈ WS := List.mem_filter.mpr ⟨List.mem_append_right _ (List.mem_of_getElem? (i := 706) (by decide +kernel)), by decide +kernel⟩
theorem kw_68 : .methodLink R_AbstractStringBuilder 138 y_Math_min ∈ WS := List.mem_filter.mpr ⟨List.mem_append_right _ (List.mem_of_getElem? (i := 856) (by decide +kernel)), by decide +kernel⟩
theorem kw_69 : .code y_String_checkIndex b_String_checkIndex 2 none ∈ WS := List.mem_filter.mpr ⟨List.mem_append_right _ (List.mem_of_getElem? (i := 702) (by decide +kernel)), by decide +kernel⟩
theorem kw_70 : .initialized R_String ∈ WS := List.mem_filter.mpr ⟨List.mem_append_right _ (List.mem_of_getElem? (i := 22) (by decide +kernel)), by decide +kernel⟩
theorem kw_71 : .methodLink R_AbstractStringBuilder 144 y_String_checkIndex ∈ WS := List.mem_filter.mpr ⟨List.mem_append_right _ (List.mem_of_getElem? (i := 857) (by decide +kernel)), by decide +kernel⟩
theorem kw_72 : .static y_String_checkIndex ∈ WS := List.mem_filter.mpr ⟨List.mem_append_right _ (List.mem_of_getElem? (i := 701) (by decide +kernel)), by decide +kernel⟩
theorem kw_73 : .code y_AbstractStringBuilder_charAt b_AbstractStringBuilder_charAt 5 (some .char) ∈ WS := List.mem_filter.mpr ⟨List.mem_append_right _ (List.mem_of_getElem? (i := 855) (by decide +kernel)), by decide +kernel⟩
theorem kw_74 : .methodLink R_SB 329 y_AbstractStringBuilder_charAt ∈ WS := List.mem_filter.mpr ⟨List.mem_append_right _ (List.mem_of_getElem? (i := 853) (by decide +kernel)), by decide +kernel⟩
theorem kw_75 : .instanceMethod y_AbstractStringBuilder_charAt ∈ WS := List.mem_filter.mpr ⟨List.mem_append_right _ (List.mem_of_getElem? (i := 854) (by decide +kernel)), by decide +kernel⟩
theorem kw_76 : .sameMethod R_AbstractStringBuilder R_AbstractStringBuilder "charAt" "(I)C" ∈ WS := List.mem_filter.mpr ⟨List.mem_append_right _ (List.mem_of_getElem? (i := 1162) (by decide +kernel)), by decide +kernel⟩
theorem kw_77 : .fieldLink R_String 38 "java/lang/String" "COMPACT_STRINGS" "Z" ∈ WS := List.mem_filter.mpr ⟨List.mem_append_right _ (List.mem_of_getElem? (i := 696) (by decide +kernel)), by decide +kernel⟩
theorem kw_78 : .fieldLink R_String 15 "java/lang/String" "coder" "B" ∈ WS := List.mem_filter.mpr ⟨List.mem_append_right _ (List.mem_of_getElem? (i := 1163) (by decide +kernel)), by decide +kernel⟩
theorem kw_79 : .methodLink R_StringLatin1 9 y_String_checkIndex ∈ WS := List.mem_filter.mpr ⟨List.mem_append_right _ (List.mem_of_getElem? (i := 700) (by decide +kernel)), by decide +kernel⟩
theorem kw_80 : .code y_String_isLatin1 b_String_isLatin1 1 (some .boolean) ∈ WS := List.mem_filter.mpr ⟨List.mem_append_right _ (List.mem_of_getElem? (i := 695) (by decide +kernel)), by decide +kernel⟩
theorem kw_81 : .methodLink R_String 492 y_String_isLatin1 ∈ WS := List.mem_filter.mpr ⟨List.mem_append_right _ (List.mem_of_getElem? (i := 692) (by decide +kernel)), by decide +kernel⟩
theorem kw_82 : .selects R_String y_String_isLatin1 y_String_isLatin1 ∈ WS := List.mem_filter.mpr ⟨List.mem_append_right _ (List.mem_of_getElem? (i := 694) (by decide +kernel)), by decide +kernel⟩
theorem kw_83 : .instanceMethod y_String_isLatin1 ∈ WS := List.mem_filter.mpr ⟨List.mem_append_right _ (List.mem_of_getElem? (i := 693) (by decide +kernel)), by decide +kernel⟩
theorem kw_84 : .fieldLink R_String 9 "java/lang/String" "value" "[B" ∈ WS := List.mem_filter.mpr ⟨List.mem_append_right _ (List.mem_of_getElem? (i := 1164) (by decide +kernel)), by decide +kernel⟩
theorem kw_85 : .code y_StringLatin1_charAt b_StringLatin1_charAt 2 (some .char) ∈ WS := List.mem_filter.mpr ⟨List.mem_append_right _ (List.mem_of_getElem? (i := 699) (by decide +kernel)), by decide +kernel⟩
theorem kw_86 : .methodLink R_String 495 y_StringLatin1_charAt ∈ WS := List.mem_filter.mpr ⟨List.mem_append_right _ (List.mem_of_getElem? (i := 697) (by decide +kernel)), by decide +kernel⟩
theorem kw_87 : .static y_StringLatin1_charAt ∈ WS := List.mem_filter.mpr ⟨List.mem_append_right _ (List.mem_of_getElem? (i := 698) (by decide +kernel)), by decide +kernel⟩
theorem hd_AbstractStringBuilder_length : y_AbstractStringBuilder_length.cls ≠ "java/lang/invoke/MethodHandle" ∧ y_AbstractStringBuilder_length.cls ≠ "java/lang/invoke/VarHandle" ∧ (parseMethodDescriptor y_AbstractStringBuilder_length.desc).map (fun d => d.parameters.length) = some 0 := by decide +kernel
theorem hd_Preconditions_checkIndex : y_Preconditions_checkIndex.cls ≠ "java/lang/invoke/MethodHandle" ∧ y_Preconditions_checkIndex.cls ≠ "java/lang/invoke/VarHandle" ∧ (parseMethodDescriptor y_Preconditions_checkIndex.desc).map (fun d => d.parameters.length) = some 3 := by decide +kernel
theorem hd_String_checkIndex : y_String_checkIndex.cls ≠ "java/lang/invoke/MethodHandle" ∧ y_String_checkIndex.cls ≠ "java/lang/invoke/VarHandle" ∧ (parseMethodDescriptor y_String_checkIndex.desc).map (fun d => d.parameters.length) = some 2 := by decide +kernel
theorem hd_AbstractStringBuilder_charAt : y_AbstractStringBuilder_charAt.cls ≠ "java/lang/invoke/MethodHandle" ∧ y_AbstractStringBuilder_charAt.cls ≠ "java/lang/invoke/VarHandle" ∧ (parseMethodDescriptor y_AbstractStringBuilder_charAt.desc).map (fun d => d.parameters.length) = some 1 := by decide +kernel
theorem hd_String_isLatin1 : y_String_isLatin1.cls ≠ "java/lang/invoke/MethodHandle" ∧ y_String_isLatin1.cls ≠ "java/lang/invoke/VarHandle" ∧ (parseMethodDescriptor y_String_isLatin1.desc).map (fun d => d.parameters.length) = some 0 := by decide +kernel
theorem hd_StringLatin1_charAt : y_StringLatin1_charAt.cls ≠ "java/lang/invoke/MethodHandle" ∧ y_StringLatin1_charAt.cls ≠ "java/lang/invoke/VarHandle" ∧ (parseMethodDescriptor y_StringLatin1_charAt.desc).map (fun d => d.parameters.length) = some 2 := by decide +kernel
set_option maxHeartbeats 4000000 in
set_option maxRecDepth 100000 in
theorem h_asbLen (l : Launch) (G : GT) (Hx : Heap) (sa va m : Nat) (t : List Nat) (a : Nat → Int32) (hL : sbL t a) (hf : sb_Fit a) (hnm : t.length ≤ m) (hm : m = 16 ∨ m = 34)  (hP : va_P G.1 gcl [(sa, .inr (iSB, [.ref va, .int (0), .int (0), .int (nI (t.length))])), (va, aI (gC G 8) (m) (a))] Hx) (hD : va_D (gAb G) [(sa, .inr (iSB, [.ref va, .int (0), .int (0), .int (nI (t.length))])), (va, aI (gC G 8) (m) (a))]) : Met l y_AbstractStringBuilder_length (.code y_AbstractStringBuilder_length b_AbstractStringBuilder_length 1 (some .int) :: WS) { frames := 0, cells := 0, slots := 0, locals := 0 } (hPre G [.ref sa] (fun H9 => H9 = Hx)) (hQi G (fun r9 H9 => r9 = nI t.length ∧ H9 = Hx)) 0 0 (gAb G) := by
  refine h_startF (own := R_AbstractStringBuilder) (by decide +kernel) rfl (Nat.le_of_ble_eq_true rfl) ?_
  intro p e zs zm below meth zc ls C hI hl
  subst hI
  obtain ⟨hx, hb, hr, hml, hown, hts, hlk, hE, hbs⟩ := C
  have hK := hE.1
  have hl : lv_has ls 1 [(0, .ref sa)] := hl
  obtain ⟨locs, hlocs⟩ : ∃ l9 : List Loc, l9 = [] := ⟨_, rfl⟩
  rw [← hlocs]
  have hW : WW G zs.heap [(sa, .inr (iSB, [.ref va, .int (0), .int (0), .int (nI (t.length))])), (va, aI (gC G 8) (m) (a))] zs.heap locs := ⟨hP, hD, by rw [hlocs]; exact va_S.rf⟩
  refine lv_aload_n hx hb d_AbstractStringBuilder_length_0 rfl (lv_at hl 0 rfl) ?_
  refine va_get (v := .int (nI (t.length))) hx hb hts i_SB hown hK hW.1 0 rfl rfl 3 (by decide) (hts _ kw_29) (fun _ h => h) rfl d_AbstractStringBuilder_length_1 ?_
  exact h_iret hx hb hr hlk hW.2.2 ⟨rfl, rfl⟩ (Nat.le_of_ble_eq_true rfl) (Nat.le_of_ble_eq_true rfl) d_AbstractStringBuilder_length_4
set_option maxHeartbeats 4000000 in
set_option maxRecDepth 100000 in
theorem h_sbLen (l : Launch) (G : GT) (Hx : Heap) (sa va m : Nat) (t : List Nat) (a : Nat → Int32) (hL : sbL t a) (hf : sb_Fit a) (hnm : t.length ≤ m) (hm : m = 16 ∨ m = 34)  (hP : va_P G.1 gcl [(sa, .inr (iSB, [.ref va, .int (0), .int (0), .int (nI (t.length))])), (va, aI (gC G 8) (m) (a))] Hx) (hD : va_D (gAb G) [(sa, .inr (iSB, [.ref va, .int (0), .int (0), .int (nI (t.length))])), (va, aI (gC G 8) (m) (a))]) : Met l y_SB_length (.code y_SB_length b_SB_length 1 (some .int) :: WS) { frames := 1, cells := 0, slots := 0, locals := 20 } (hPre G [.ref sa] (fun H9 => H9 = Hx)) (hQi G (fun r9 H9 => r9 = nI t.length ∧ H9 = Hx)) 0 0 (gAb G) := by
  refine h_startF (own := R_SB) (by decide +kernel) rfl (Nat.le_of_ble_eq_true rfl) ?_
  intro p e zs zm below meth zc ls C hI hl
  subst hI
  obtain ⟨hx, hb, hr, hml, hown, hts, hlk, hE, hbs⟩ := C
  have hK := hE.1
  have hl : lv_has ls 1 [(0, .ref sa)] := hl
  obtain ⟨locs, hlocs⟩ : ∃ l9 : List Loc, l9 = [] := ⟨_, rfl⟩
  rw [← hlocs]
  have hW : WW G zs.heap [(sa, .inr (iSB, [.ref va, .int (0), .int (0), .int (nI (t.length))])), (va, aI (gC G 8) (m) (a))] zs.heap locs := ⟨hP, hD, by rw [hlocs]; exact va_S.rf⟩
  refine lv_aload_n hx hb d_SB_length_0 rfl (lv_at hl 0 rfl) ?_
  refine h_ci (G := G) (h_runSU (C := R_SB) (G := G) (G' := G) (I := fun Hz => Hz = zs.heap) hx hb hml hown hts hE hW.2.2 (Nat.le_refl _) rfl (Nat.le_trans hbs hW.2.2.1) rfl hW.1 0 rfl rfl (h_asbLen l G zs.heap _ _ _ _ _ hL hf hnm hm hW.1 hW.2.1) kw_60 kw_61 kw_62 kw_45 kw_22 kw_59 rfl rfl ⟨by decide +kernel, hd_AbstractStringBuilder_length.2.2⟩ ⟨Nat.le_of_ble_eq_true rfl, Nat.le_of_ble_eq_true rfl⟩ (As := []) (rest := []) rfl hl.1 rfl (Nat.le_of_ble_eq_true rfl) d_SB_length_1 ⟨Nat.le_of_ble_eq_true rfl, Nat.le_of_ble_eq_true rfl⟩) hW.2.2 (Nat.le_refl _) (fun r9 H9 locs hJ hz9 hk9 hS9 => ?_)
  obtain ⟨hr9, hH9⟩ := hJ
  have hr9 := hr9.symm; subst hr9
  have hH9 := hH9.symm; subst hH9
  have hW : WW G zs.heap [(sa, .inr (iSB, [.ref va, .int (0), .int (0), .int (nI (t.length))])), (va, aI (gC G 8) (m) (a))] zs.heap locs := ⟨hW.1, hW.2.1, hS9⟩
  exact h_iret hx hb hr hlk hW.2.2 ⟨rfl, rfl⟩ (Nat.le_of_ble_eq_true rfl) (Nat.le_of_ble_eq_true rfl) d_SB_length_4
set_option maxHeartbeats 4000000 in
set_option maxRecDepth 100000 in
theorem h_pchkN (l : Launch) (G : GT) (Hx : Heap) (i n : Nat) (hi : i < n) (hn : n < 2 ^ 31) : Met l y_Preconditions_checkIndex (.code y_Preconditions_checkIndex b_Preconditions_checkIndex 3 (some .int) :: WS) { frames := 0, cells := 0, slots := 0, locals := 0 } (hPre G [.int (nI i), .int (nI n), .null] (fun H9 => H9 = Hx)) (hQi G (fun r9 H9 => r9 = nI i ∧ H9 = Hx)) 0 0 (gAb G) := by
  refine h_startF (own := R_Preconditions) (by decide +kernel) rfl (Nat.le_of_ble_eq_true rfl) ?_
  intro p e zs zm below meth zc ls C hI hl
  subst hI
  obtain ⟨hx, hb, hr, hml, hown, hts, hlk, hE, hbs⟩ := C
  have hK := hE.1
  have hl : lv_has ls 3 [(0, .int (nI i)), (1, .int (nI n)), (2, .null)] := hl
  obtain ⟨locs, hlocs⟩ : ∃ l9 : List Loc, l9 = [] := ⟨_, rfl⟩
  rw [← hlocs]
  have hW : WW G zs.heap [] zs.heap locs := WW_nil hlocs
  refine lv_iload_n hx hb d_Preconditions_checkIndex_0 rfl (lv_at hl 0 rfl) ?_
  refine lv_if_lt (tgt := 9) hx hb d_Preconditions_checkIndex_1 (by decide) (fun c_1 => ?_) (fun c_1 => ?_)
  · skip
    exact absurd c_1 (nI_pos (by omega))
  · skip
    refine lv_iload_n hx hb d_Preconditions_checkIndex_4 rfl (lv_at hl 0 rfl) ?_
    refine lv_iload_n hx hb d_Preconditions_checkIndex_5 rfl (lv_at hl 1 rfl) ?_
    refine lv_icmp_lt (tgt := 16) hx hb d_Preconditions_checkIndex_6 (by decide) (fun c_2 => ?_) (fun c_2 => ?_)
    · skip
      refine lv_iload_n hx hb d_Preconditions_checkIndex_16 rfl (lv_at hl 0 rfl) ?_
      exact h_iret hx hb hr hlk hW.2.2 ⟨rfl, rfl⟩ (Nat.le_of_ble_eq_true rfl) (Nat.le_of_ble_eq_true rfl) d_Preconditions_checkIndex_17
    · skip
      exact absurd (nI_lt hi hn) c_2
set_option maxHeartbeats 4000000 in
set_option maxRecDepth 100000 in
theorem h_pchkR (l : Launch) (G : GT) (Hx : Heap) (i n : Nat) (hi : i < n) (hn : n < 2 ^ 31) (tF : Nat) : Met l y_Preconditions_checkIndex (.code y_Preconditions_checkIndex b_Preconditions_checkIndex 3 (some .int) :: WS) { frames := 0, cells := 0, slots := 0, locals := 0 } (hPre G [.int (nI i), .int (nI n), .ref tF] (fun H9 => H9 = Hx)) (hQi G (fun r9 H9 => r9 = nI i ∧ H9 = Hx)) 0 0 (gAb G) := by
  refine h_startF (own := R_Preconditions) (by decide +kernel) rfl (Nat.le_of_ble_eq_true rfl) ?_
  intro p e zs zm below meth zc ls C hI hl
  subst hI
  obtain ⟨hx, hb, hr, hml, hown, hts, hlk, hE, hbs⟩ := C
  have hK := hE.1
  have hl : lv_has ls 3 [(0, .int (nI i)), (1, .int (nI n)), (2, .ref tF)] := hl
  obtain ⟨locs, hlocs⟩ : ∃ l9 : List Loc, l9 = [] := ⟨_, rfl⟩
  rw [← hlocs]
  have hW : WW G zs.heap [] zs.heap locs := WW_nil hlocs
  refine lv_iload_n hx hb d_Preconditions_checkIndex_0 rfl (lv_at hl 0 rfl) ?_
  refine lv_if_lt (tgt := 9) hx hb d_Preconditions_checkIndex_1 (by decide) (fun c_1 => ?_) (fun c_1 => ?_)
  · skip
    exact absurd c_1 (nI_pos (by omega))
  · skip
    refine lv_iload_n hx hb d_Preconditions_checkIndex_4 rfl (lv_at hl 0 rfl) ?_
    refine lv_iload_n hx hb d_Preconditions_checkIndex_5 rfl (lv_at hl 1 rfl) ?_
    refine lv_icmp_lt (tgt := 16) hx hb d_Preconditions_checkIndex_6 (by decide) (fun c_2 => ?_) (fun c_2 => ?_)
    · skip
      refine lv_iload_n hx hb d_Preconditions_checkIndex_16 rfl (lv_at hl 0 rfl) ?_
      exact h_iret hx hb hr hlk hW.2.2 ⟨rfl, rfl⟩ (Nat.le_of_ble_eq_true rfl) (Nat.le_of_ble_eq_true rfl) d_Preconditions_checkIndex_17
    · skip
      exact absurd (nI_lt hi hn) c_2
set_option maxHeartbeats 4000000 in
set_option maxRecDepth 100000 in
theorem h_chkIdx (l : Launch) (G : GT) (Hx : Heap) (i n : Nat) (hi : i < n) (hn : n < 2 ^ 31) : Met l y_String_checkIndex (.code y_String_checkIndex b_String_checkIndex 2 none :: WS) { frames := 1, cells := 0, slots := 0, locals := 22 } (hPre G [.int (nI i), .int (nI n)] (fun H9 => H9 = Hx)) (hQv G (fun H9 => H9 = Hx)) 0 0 (gAb G) := by
  refine h_startF (own := R_String) (by decide +kernel) rfl (Nat.le_of_ble_eq_true rfl) ?_
  intro p e zs zm below meth zc ls C hI hl
  subst hI
  obtain ⟨hx, hb, hr, hml, hown, hts, hlk, hE, hbs⟩ := C
  have hK := hE.1
  have hl : lv_has ls 2 [(0, .int (nI i)), (1, .int (nI n))] := hl
  obtain ⟨locs, hlocs⟩ : ∃ l9 : List Loc, l9 = [] := ⟨_, rfl⟩
  rw [← hlocs]
  have hW : WW G zs.heap [] zs.heap locs := WW_nil hlocs
  obtain ⟨eC, eF, ⟨tO, eO, eO'⟩, ⟨tT, eT, eT'⟩, ⟨aK, aV, eL, eL'⟩, eA, eV, eM⟩ := hE.2.2.2.2.2.2.2.2.2
  rcases eF with eF | ⟨tF, eF⟩
  · skip
    refine lv_iload_n hx hb d_String_checkIndex_0 rfl (lv_at hl 0 rfl) ?_
    refine lv_iload_n hx hb d_String_checkIndex_1 rfl (lv_at hl 1 rfl) ?_
    refine va_gets hx hb eF hW.2.2 hown (hts _ kw_63) (fun _ h => h) d_String_checkIndex_2 ?_
    refine h_ci (G := G) (h_runS (G := G) (G' := G) (I := fun Hz => Hz = zs.heap) hx hb hml hown hts hE hW.2.2 (Nat.le_refl _) rfl (Nat.le_trans hbs hW.2.2.1) rfl (h_pchkN l G zs.heap _ _ hi hn) kw_66 kw_67 kw_65 kw_64 rfl rfl hd_Preconditions_checkIndex ⟨Nat.le_of_ble_eq_true rfl, Nat.le_of_ble_eq_true rfl⟩ (As := [.int (nI i), .int (nI n), .null]) (rest := []) rfl hl.1 rfl (Nat.le_of_ble_eq_true rfl) d_String_checkIndex_5 ⟨Nat.le_of_ble_eq_true rfl, Nat.le_of_ble_eq_true rfl⟩) hW.2.2 (Nat.le_refl _) (fun r9 H9 locs hJ hz9 hk9 hS9 => ?_)
    obtain ⟨hr9, hH9⟩ := hJ
    have hr9 := hr9.symm; subst hr9
    have hH9 := hH9.symm; subst hH9
    have hW : WW G zs.heap [] zs.heap locs := ⟨hW.1, hW.2.1, hS9⟩
    refine lv_pop hx hb d_String_checkIndex_8 rfl ?_
    exact h_vret hx hb hr hlk hW.2.2 (by exact rfl) (Nat.le_of_ble_eq_true rfl) (Nat.le_of_ble_eq_true rfl) d_String_checkIndex_9
  · skip
    refine lv_iload_n hx hb d_String_checkIndex_0 rfl (lv_at hl 0 rfl) ?_
    refine lv_iload_n hx hb d_String_checkIndex_1 rfl (lv_at hl 1 rfl) ?_
    refine va_gets hx hb eF hW.2.2 hown (hts _ kw_63) (fun _ h => h) d_String_checkIndex_2 ?_
    refine h_ci (G := G) (h_runS (G := G) (G' := G) (I := fun Hz => Hz = zs.heap) hx hb hml hown hts hE hW.2.2 (Nat.le_refl _) rfl (Nat.le_trans hbs hW.2.2.1) rfl (h_pchkR l G zs.heap _ _ hi hn tF) kw_66 kw_67 kw_65 kw_64 rfl rfl hd_Preconditions_checkIndex ⟨Nat.le_of_ble_eq_true rfl, Nat.le_of_ble_eq_true rfl⟩ (As := [.int (nI i), .int (nI n), .ref tF]) (rest := []) rfl hl.1 rfl (Nat.le_of_ble_eq_true rfl) d_String_checkIndex_5 ⟨Nat.le_of_ble_eq_true rfl, Nat.le_of_ble_eq_true rfl⟩) hW.2.2 (Nat.le_refl _) (fun r9 H9 locs hJ hz9 hk9 hS9 => ?_)
    obtain ⟨hr9, hH9⟩ := hJ
    have hr9 := hr9.symm; subst hr9
    have hH9 := hH9.symm; subst hH9
    have hW : WW G zs.heap [] zs.heap locs := ⟨hW.1, hW.2.1, hS9⟩
    refine lv_pop hx hb d_String_checkIndex_8 rfl ?_
    exact h_vret hx hb hr hlk hW.2.2 (by exact rfl) (Nat.le_of_ble_eq_true rfl) (Nat.le_of_ble_eq_true rfl) d_String_checkIndex_9
set_option maxHeartbeats 4000000 in
set_option maxRecDepth 100000 in
theorem h_asbChar (l : Launch) (G : GT) (Hx : Heap) (sa va m : Nat) (t : List Nat) (a : Nat → Int32) (hL : sbL t a) (hf : sb_Fit a) (hnm : t.length ≤ m) (hm : m = 16 ∨ m = 34) (i : Nat) (hi : i < t.length) (hP : va_P G.1 gcl [(sa, .inr (iSB, [.ref va, .int (0), .int (0), .int (nI (t.length))])), (va, aI (gC G 8) (m) (a))] Hx) (hD : va_D (gAb G) [(sa, .inr (iSB, [.ref va, .int (0), .int (0), .int (nI (t.length))])), (va, aI (gC G 8) (m) (a))]) : Met l y_AbstractStringBuilder_charAt (.code y_AbstractStringBuilder_charAt b_AbstractStringBuilder_charAt 5 (some .char) :: WS) { frames := 2, cells := 0, slots := 0, locals := 43 } (hPre G [.ref sa, .int (nI i)] (fun H9 => H9 = Hx)) (hQi G (fun r9 H9 => r9 = nI (t.getD i 0) ∧ H9 = Hx)) 0 0 (gAb G) := by
  refine h_startF (own := R_AbstractStringBuilder) (by decide +kernel) rfl (Nat.le_of_ble_eq_true rfl) ?_
  intro p e zs zm below meth zc ls C hI hl
  subst hI
  obtain ⟨hx, hb, hr, hml, hown, hts, hlk, hE, hbs⟩ := C
  have hK := hE.1
  have hl : lv_has ls 5 [(0, .ref sa), (1, .int (nI i))] := hl
  obtain ⟨locs, hlocs⟩ : ∃ l9 : List Loc, l9 = [] := ⟨_, rfl⟩
  rw [← hlocs]
  have hW : WW G zs.heap [(sa, .inr (iSB, [.ref va, .int (0), .int (0), .int (nI (t.length))])), (va, aI (gC G 8) (m) (a))] zs.heap locs := ⟨hP, hD, by rw [hlocs]; exact va_S.rf⟩
  have hti : t.getD i 0 < 256 ∧ a i = sb_b (t.getD i 0) := hL i hi
  refine lv_aload_n hx hb d_AbstractStringBuilder_charAt_0 rfl (lv_at hl 0 rfl) ?_
  refine va_get (v := .int (0)) hx hb hts i_SB hown hK hW.1 0 rfl rfl 1 (by decide) (hts _ kw_6) (fun _ h => h) rfl d_AbstractStringBuilder_charAt_1 ?_
  refine lv_istore_n (lv' := [(2, .int (0)), (0, .ref sa), (1, .int (nI i))]) hx hb d_AbstractStringBuilder_charAt_4 rfl hl (by decide) rfl (fun ls hl => ?_)
  refine lv_aload_n hx hb d_AbstractStringBuilder_charAt_5 rfl (lv_at hl 1 rfl) ?_
  refine va_get (v := .ref va) hx hb hts i_SB hown hK hW.1 0 rfl rfl 0 (by decide) (hts _ kw_7) (fun _ h => h) rfl d_AbstractStringBuilder_charAt_6 ?_
  refine lv_astore_n (lv' := [(3, .ref va), (2, .int (0)), (0, .ref sa), (1, .int (nI i))]) hx hb d_AbstractStringBuilder_charAt_9 rfl hl (by decide) rfl (fun ls hl => ?_)
  refine lv_aload_n hx hb d_AbstractStringBuilder_charAt_10 rfl (lv_at hl 2 rfl) ?_
  refine va_get (v := .int (nI (t.length))) hx hb hts i_SB hown hK hW.1 0 rfl rfl 3 (by decide) (hts _ kw_29) (fun _ h => h) rfl d_AbstractStringBuilder_charAt_11 ?_
  refine lv_aload_n hx hb d_AbstractStringBuilder_charAt_14 rfl (lv_at hl 0 rfl) ?_
  refine va_alen (v := nI (m)) hx hb hK hW.1 1 8 rfl (ty := .byte) rfl rfl d_AbstractStringBuilder_charAt_15 ?_
  refine lv_iload_n hx hb d_AbstractStringBuilder_charAt_16 rfl (lv_at hl 1 rfl) ?_
  refine lv_ishr hx hb d_AbstractStringBuilder_charAt_17 ?_
  refine e_top (v := nI (m)) (sb_shr0 _) ?_
  refine h_ci (G := G) (h_runS (G := G) (G' := G) (I := fun Hz => Hz = zs.heap) hx hb hml hown hts hE hW.2.2 (Nat.le_refl _) rfl (Nat.le_trans hbs hW.2.2.1) rfl (h_min l G zs.heap (nI (t.length)) (nI (m))) kw_68 kw_16 kw_1 kw_14 rfl rfl hd_Math_min ⟨Nat.le_of_ble_eq_true rfl, Nat.le_of_ble_eq_true rfl⟩ (As := [.int (nI (t.length)), .int (nI (m))]) (rest := []) rfl hl.1 rfl (Nat.le_of_ble_eq_true rfl) d_AbstractStringBuilder_charAt_18 ⟨Nat.le_of_ble_eq_true rfl, Nat.le_of_ble_eq_true rfl⟩) hW.2.2 (Nat.le_refl _) (fun r9 H9 locs hJ hz9 hk9 hS9 => ?_)
  obtain ⟨hr9, hH9⟩ := hJ
  have hr9 := hr9.symm; subst hr9
  have hH9 := hH9.symm; subst hH9
  have hW : WW G zs.heap [(sa, .inr (iSB, [.ref va, .int (0), .int (0), .int (nI (t.length))])), (va, aI (gC G 8) (m) (a))] zs.heap locs := ⟨hW.1, hW.2.1, hS9⟩
  refine e_top (v := nI t.length) (by unfold mnI; rw [if_neg (nI_nlt hnm (by omega))]) ?_
  refine lv_istore (lv' := [(4, .int (nI t.length)), (3, .ref va), (2, .int (0)), (0, .ref sa), (1, .int (nI i))]) hx hb d_AbstractStringBuilder_charAt_21 hl (by decide) rfl (fun ls hl => ?_)
  refine lv_iload_n hx hb d_AbstractStringBuilder_charAt_23 rfl (lv_at hl 4 rfl) ?_
  refine lv_iload hx hb d_AbstractStringBuilder_charAt_24 (lv_at hl 0 rfl) ?_
  refine h_cv (G := G) (h_runS (G := G) (G' := G) (I := fun Hz => Hz = zs.heap) hx hb hml hown hts hE hW.2.2 (Nat.le_refl _) rfl (Nat.le_trans hbs hW.2.2.1) rfl (h_chkIdx l G zs.heap _ _ hi (by omega)) kw_71 kw_72 kw_70 kw_69 rfl rfl hd_String_checkIndex ⟨Nat.le_of_ble_eq_true rfl, Nat.le_of_ble_eq_true rfl⟩ (As := [.int (nI i), .int (nI t.length)]) (rest := []) rfl hl.1 rfl (Nat.le_of_ble_eq_true rfl) d_AbstractStringBuilder_charAt_26 ⟨Nat.le_of_ble_eq_true rfl, Nat.le_of_ble_eq_true rfl⟩) hW.2.2 (Nat.le_refl _) (fun H9 locs hJ hz9 hk9 hS9 => ?_)
  have hJ := hJ.symm; subst hJ
  have hW : WW G zs.heap [(sa, .inr (iSB, [.ref va, .int (0), .int (0), .int (nI (t.length))])), (va, aI (gC G 8) (m) (a))] zs.heap locs := ⟨hW.1, hW.2.1, hS9⟩
  refine lv_iload_n hx hb d_AbstractStringBuilder_charAt_29 rfl (lv_at hl 2 rfl) ?_
  refine lv_if_ne (tgt := 42) hx hb d_AbstractStringBuilder_charAt_30 (by decide) (fun c_1 => ?_) (fun c_1 => ?_)
  · exact absurd c_1 (by decide)
  · skip
    refine lv_aload_n hx hb d_AbstractStringBuilder_charAt_33 rfl (lv_at hl 1 rfl) ?_
    refine lv_iload_n hx hb d_AbstractStringBuilder_charAt_34 rfl (lv_at hl 4 rfl) ?_
    refine va_bald hx hb hK hW.1 1 8 rfl rfl (vp_in_nI (show i < m by omega) (by omega)) d_AbstractStringBuilder_charAt_35 ?_
    refine e_top (v := (a) (i)) (by rw [nI_clamp (show i < 2 ^ 31 by omega)]) ?_
    refine e_top (v := sb_b (t.getD i 0)) (hti.2) ?_
    refine lv_sipush (v := 255) hx hb d_AbstractStringBuilder_charAt_36 (by decide) ?_
    refine lv_iand hx hb d_AbstractStringBuilder_charAt_39 ?_
    refine e_top (v := nI (t.getD i 0)) ((sb_byte _ hti.1).1) ?_
    refine lv_i2c (v := ((nI (t.getD i 0)).toUInt32 % 65536).toInt32) hx hb d_AbstractStringBuilder_charAt_40 rfl ?_
    refine e_top (v := nI (t.getD i 0)) ((sb_byte _ hti.1).2.1) ?_
    exact h_zret hx hb hr hlk hW.2.2 ((pk_charN (by omega)).1) ⟨rfl, rfl⟩ (Nat.le_of_ble_eq_true rfl) (Nat.le_of_ble_eq_true rfl) d_AbstractStringBuilder_charAt_41
set_option maxHeartbeats 4000000 in
set_option maxRecDepth 100000 in
theorem h_sbChar (l : Launch) (G : GT) (Hx : Heap) (sa va m : Nat) (t : List Nat) (a : Nat → Int32) (hL : sbL t a) (hf : sb_Fit a) (hnm : t.length ≤ m) (hm : m = 16 ∨ m = 34) (i : Nat) (hi : i < t.length) (hP : va_P G.1 gcl [(sa, .inr (iSB, [.ref va, .int (0), .int (0), .int (nI (t.length))])), (va, aI (gC G 8) (m) (a))] Hx) (hD : va_D (gAb G) [(sa, .inr (iSB, [.ref va, .int (0), .int (0), .int (nI (t.length))])), (va, aI (gC G 8) (m) (a))]) : Met l y_SB_charAt (.code y_SB_charAt b_SB_charAt 2 (some .char) :: WS) { frames := 3, cells := 0, slots := 0, locals := 67 } (hPre G [.ref sa, .int (nI i)] (fun H9 => H9 = Hx)) (hQi G (fun r9 H9 => r9 = nI (t.getD i 0) ∧ H9 = Hx)) 0 0 (gAb G) := by
  refine h_startF (own := R_SB) (by decide +kernel) rfl (Nat.le_of_ble_eq_true rfl) ?_
  intro p e zs zm below meth zc ls C hI hl
  subst hI
  obtain ⟨hx, hb, hr, hml, hown, hts, hlk, hE, hbs⟩ := C
  have hK := hE.1
  have hl : lv_has ls 2 [(0, .ref sa), (1, .int (nI i))] := hl
  obtain ⟨locs, hlocs⟩ : ∃ l9 : List Loc, l9 = [] := ⟨_, rfl⟩
  rw [← hlocs]
  have hW : WW G zs.heap [(sa, .inr (iSB, [.ref va, .int (0), .int (0), .int (nI (t.length))])), (va, aI (gC G 8) (m) (a))] zs.heap locs := ⟨hP, hD, by rw [hlocs]; exact va_S.rf⟩
  have hti : t.getD i 0 < 256 ∧ a i = sb_b (t.getD i 0) := hL i hi
  refine lv_aload_n hx hb d_SB_charAt_0 rfl (lv_at hl 0 rfl) ?_
  refine lv_iload_n hx hb d_SB_charAt_1 rfl (lv_at hl 1 rfl) ?_
  refine h_ci (G := G) (h_runSU (C := R_SB) (G := G) (G' := G) (I := fun Hz => Hz = zs.heap) hx hb hml hown hts hE hW.2.2 (Nat.le_refl _) rfl (Nat.le_trans hbs hW.2.2.1) rfl hW.1 0 rfl rfl (h_asbChar l G zs.heap _ _ _ _ _ hL hf hnm hm _ hi hW.1 hW.2.1) kw_74 kw_75 kw_76 kw_45 kw_22 kw_73 rfl rfl ⟨by decide +kernel, hd_AbstractStringBuilder_charAt.2.2⟩ ⟨Nat.le_of_ble_eq_true rfl, Nat.le_of_ble_eq_true rfl⟩ (As := [.int (nI i)]) (rest := []) rfl hl.1 rfl (Nat.le_of_ble_eq_true rfl) d_SB_charAt_2 ⟨Nat.le_of_ble_eq_true rfl, Nat.le_of_ble_eq_true rfl⟩) hW.2.2 (Nat.le_refl _) (fun r9 H9 locs hJ hz9 hk9 hS9 => ?_)
  obtain ⟨hr9, hH9⟩ := hJ
  have hr9 := hr9.symm; subst hr9
  have hH9 := hH9.symm; subst hH9
  have hW : WW G zs.heap [(sa, .inr (iSB, [.ref va, .int (0), .int (0), .int (nI (t.length))])), (va, aI (gC G 8) (m) (a))] zs.heap locs := ⟨hW.1, hW.2.1, hS9⟩
  exact h_zret hx hb hr hlk hW.2.2 ((pk_charN (by have := hti.1; omega)).1) ⟨rfl, rfl⟩ (Nat.le_of_ble_eq_true rfl) (Nat.le_of_ble_eq_true rfl) d_SB_charAt_5
set_option maxHeartbeats 4000000 in
set_option maxRecDepth 100000 in
theorem h_strL1 (l : Launch) (G : GT) (Hx : Heap) (aK aV : Nat → Nat) : Met l y_String_isLatin1 (.code y_String_isLatin1 b_String_isLatin1 1 (some .boolean) :: WS) { frames := 0, cells := 0, slots := 0, locals := 0 } (hPreL G [.ref ((aK 0))] Hx aK aV) (hQi G (fun r9 H9 => r9 = 1 ∧ H9 = Hx)) 0 0 (gAb G) := by
  refine h_startL (own := R_String) (by decide +kernel) rfl (Nat.le_of_ble_eq_true rfl) ?_
  intro p e zs zm below meth zc ls C hI eL hl
  subst hI
  obtain ⟨hx, hb, hr, hml, hown, hts, hlk, hE, hbs⟩ := C
  have hK := hE.1
  have hl : lv_has ls 1 [(0, .ref ((aK 0)))] := hl
  obtain ⟨locs, hlocs⟩ : ∃ l9 : List Loc, l9 = [] := ⟨_, rfl⟩
  rw [← hlocs]
  have hW : WW G zs.heap [] zs.heap locs := WW_nil hlocs
  have eC := hE.2.2.2.2.2.2.2.2.2.1
  refine va_gets hx hb eC hW.2.2 hown (hts _ kw_77) (fun _ h => h) d_String_isLatin1_0 ?_
  refine lv_if_eq (tgt := 17) hx hb d_String_isLatin1_3 (by decide) (fun c_1 => ?_) (fun c_1 => ?_)
  · exact absurd c_1 (by decide)
  · skip
    refine lv_aload_n hx hb d_String_isLatin1_6 rfl (lv_at hl 0 rfl) ?_
    refine vk_getf hx hb (eL.1 0 (by decide)).2.1 hW.2.2 hown (hts _ kw_78) (fun _ h => h) d_String_isLatin1_7 ?_
    refine lv_if_ne (tgt := 17) hx hb d_String_isLatin1_10 (by decide) (fun c_2 => ?_) (fun c_2 => ?_)
    · exact absurd c_2 (by decide)
    · skip
      refine lv_iconst (v := 1) hx hb d_String_isLatin1_13 (by decide) ?_
      refine lv_goto (tgt := 18) hx hb d_String_isLatin1_14 (by decide) ?_
      exact h_zret hx hb hr hlk hW.2.2 (rfl) ⟨rfl, rfl⟩ (Nat.le_of_ble_eq_true rfl) (Nat.le_of_ble_eq_true rfl) d_String_isLatin1_18
set_option maxHeartbeats 4000000 in
set_option maxRecDepth 100000 in
theorem h_l1Char (l : Launch) (G : GT) (Hx : Heap) (aK aV : Nat → Nat) (k : Nat) (hk : k < 6) : Met l y_StringLatin1_charAt (.code y_StringLatin1_charAt b_StringLatin1_charAt 2 (some .char) :: WS) { frames := 2, cells := 0, slots := 0, locals := 43 } (hPreL G [.ref ((aV 0)), .int (nI k)] Hx aK aV) (hQi G (fun r9 H9 => r9 = nI (([80, 65, 82, 86, 84, 79] : List Nat).getD k 0) ∧ H9 = Hx)) 0 0 (gAb G) := by
  refine h_startL (own := R_StringLatin1) (by decide +kernel) rfl (Nat.le_of_ble_eq_true rfl) ?_
  intro p e zs zm below meth zc ls C hI eL hl
  subst hI
  obtain ⟨hx, hb, hr, hml, hown, hts, hlk, hE, hbs⟩ := C
  have hK := hE.1
  have hl : lv_has ls 2 [(0, .ref ((aV 0))), (1, .int (nI k))] := hl
  obtain ⟨locs, hlocs⟩ : ∃ l9 : List Loc, l9 = [] := ⟨_, rfl⟩
  rw [← hlocs]
  have hW : WW G zs.heap [] zs.heap locs := WW_nil hlocs
  refine lv_iload_n hx hb d_StringLatin1_charAt_0 rfl (lv_at hl 1 rfl) ?_
  refine lv_aload_n hx hb d_StringLatin1_charAt_1 rfl (lv_at hl 0 rfl) ?_
  refine va_tlen (v := nI 6) hx hb (eL.1 0 (by decide)).2.2.2 hW.2.2 rfl d_StringLatin1_charAt_2 ?_
  refine h_cv (G := G) (h_runS (G := G) (G' := G) (I := fun Hz => Hz = zs.heap) hx hb hml hown hts hE hW.2.2 (Nat.le_refl _) rfl (Nat.le_trans hbs hW.2.2.1) rfl (h_chkIdx l G zs.heap _ _ hk (by decide)) kw_79 kw_72 kw_70 kw_69 rfl rfl hd_String_checkIndex ⟨Nat.le_of_ble_eq_true rfl, Nat.le_of_ble_eq_true rfl⟩ (As := [.int (nI k), .int (nI 6)]) (rest := []) rfl hl.1 rfl (Nat.le_of_ble_eq_true rfl) d_StringLatin1_charAt_3 ⟨Nat.le_of_ble_eq_true rfl, Nat.le_of_ble_eq_true rfl⟩) hW.2.2 (Nat.le_refl _) (fun H9 locs hJ hz9 hk9 hS9 => ?_)
  have hJ := hJ.symm; subst hJ
  have hW : WW G zs.heap [] zs.heap locs := ⟨hW.1, hW.2.1, hS9⟩
  refine lv_aload_n hx hb d_StringLatin1_charAt_6 rfl (lv_at hl 0 rfl) ?_
  refine lv_iload_n hx hb d_StringLatin1_charAt_7 rfl (lv_at hl 1 rfl) ?_
  refine va_tb (v := .int (([80, 65, 82, 86, 84, 79] : List Int32).getD k 0)) hx hb (eL.1 0 (by decide)).2.2.2 hW.2.2 (vp_in_nI (show k < 6 by omega) (by decide)) (by rw [nI_clamp (show k < 2 ^ 31 by omega)]; rfl) d_StringLatin1_charAt_8 ?_
  refine lv_sipush (v := 255) hx hb d_StringLatin1_charAt_9 (by decide) ?_
  refine lv_iand hx hb d_StringLatin1_charAt_12 ?_
  refine e_top (v := nI (([80, 65, 82, 86, 84, 79] : List Nat).getD k 0)) (lt_and k hk) ?_
  refine lv_i2c (v := ((nI (([80, 65, 82, 86, 84, 79] : List Nat).getD k 0)).toUInt32 % 65536).toInt32) hx hb d_StringLatin1_charAt_13 rfl ?_
  refine e_top (v := nI (([80, 65, 82, 86, 84, 79] : List Nat).getD k 0)) (lt_i2c k hk) ?_
  exact h_zret hx hb hr hlk hW.2.2 (lt_nar k hk) ⟨rfl, rfl⟩ (Nat.le_of_ble_eq_true rfl) (Nat.le_of_ble_eq_true rfl) d_StringLatin1_charAt_14
set_option maxHeartbeats 4000000 in
set_option maxRecDepth 100000 in
theorem h_strChar (l : Launch) (G : GT) (Hx : Heap) (aK aV : Nat → Nat) (k : Nat) (hk : k < 6) : Met l y_String_charAt (.code y_String_charAt b_String_charAt 2 (some .char) :: WS) { frames := 3, cells := 0, slots := 0, locals := 64 } (hPreL G [.ref ((aK 0)), .int (nI k)] Hx aK aV) (hQi G (fun r9 H9 => r9 = nI (([80, 65, 82, 86, 84, 79] : List Nat).getD k 0) ∧ H9 = Hx)) 0 0 (gAb G) := by
  refine h_startL (own := R_String) (by decide +kernel) rfl (Nat.le_of_ble_eq_true rfl) ?_
  intro p e zs zm below meth zc ls C hI eL hl
  subst hI
  obtain ⟨hx, hb, hr, hml, hown, hts, hlk, hE, hbs⟩ := C
  have hK := hE.1
  have hl : lv_has ls 2 [(0, .ref ((aK 0))), (1, .int (nI k))] := hl
  obtain ⟨locs, hlocs⟩ : ∃ l9 : List Loc, l9 = [] := ⟨_, rfl⟩
  rw [← hlocs]
  have hW : WW G zs.heap [] zs.heap locs := WW_nil hlocs
  refine lv_aload_n hx hb d_String_charAt_0 rfl (lv_at hl 0 rfl) ?_
  refine h_ci (G := G) (h_runVL (G := G) (G' := G) hx hb hml hown hts hE eL hW.2.2 (Nat.le_refl _) rfl (Nat.le_trans hbs hW.2.2.1) (h_strL1 l G zs.heap aK aV) kw_81 kw_83 kw_82 kw_70 kw_80 rfl rfl hd_String_isLatin1 ⟨Nat.le_of_ble_eq_true rfl, Nat.le_of_ble_eq_true rfl⟩ (As := []) (rest := []) rfl hl.1 rfl (Nat.le_of_ble_eq_true rfl) d_String_charAt_1 ⟨Nat.le_of_ble_eq_true rfl, Nat.le_of_ble_eq_true rfl⟩) hW.2.2 (Nat.le_refl _) (fun r9 H9 locs hJ hz9 hk9 hS9 => ?_)
  obtain ⟨hr9, hH9⟩ := hJ
  have hr9 := hr9.symm; subst hr9
  have hH9 := hH9.symm; subst hH9
  have hW : WW G zs.heap [] zs.heap locs := ⟨hW.1, hW.2.1, hS9⟩
  refine lv_if_eq (tgt := 16) hx hb d_String_charAt_4 (by decide) (fun c_1 => ?_) (fun c_1 => ?_)
  · skip
    exact absurd c_1 (by decide)
  · skip
    refine lv_aload_n hx hb d_String_charAt_7 rfl (lv_at hl 0 rfl) ?_
    refine vk_getf hx hb (eL.1 0 (by decide)).2.2.1 hW.2.2 hown (hts _ kw_84) (fun _ h => h) d_String_charAt_8 ?_
    refine lv_iload_n hx hb d_String_charAt_11 rfl (lv_at hl 1 rfl) ?_
    refine h_ci (G := G) (h_runSL (G := G) (G' := G) hx hb hml hown hts hE eL hW.2.2 (Nat.le_refl _) rfl (Nat.le_trans hbs hW.2.2.1) (h_l1Char l G zs.heap aK aV k hk) kw_86 kw_87 kw_38 kw_85 rfl rfl hd_StringLatin1_charAt ⟨Nat.le_of_ble_eq_true rfl, Nat.le_of_ble_eq_true rfl⟩ (As := [.ref ((aV 0)), .int (nI k)]) (rest := []) rfl hl.1 rfl (Nat.le_of_ble_eq_true rfl) d_String_charAt_12 ⟨Nat.le_of_ble_eq_true rfl, Nat.le_of_ble_eq_true rfl⟩) hW.2.2 (Nat.le_refl _) (fun r9 H9 locs hJ hz9 hk9 hS9 => ?_)
    obtain ⟨hr9, hH9⟩ := hJ
    have hr9 := hr9.symm; subst hr9
    have hH9 := hH9.symm; subst hH9
    have hW : WW G zs.heap [] zs.heap locs := ⟨hW.1, hW.2.1, hS9⟩
    exact h_zret hx hb hr hlk hW.2.2 (lt_nar k hk) ⟨rfl, rfl⟩ (Nat.le_of_ble_eq_true rfl) (Nat.le_of_ble_eq_true rfl) d_String_charAt_15
end
