theorem d_PC_arriveReply_44 : decode b_PC_arriveReply 44 = .ok (.aload_n 2, 1) := by decide +kernel
theorem d_PC_arriveReply_45 : decode b_PC_arriveReply 45 = .ok (.invokevirtual 297, 3) := by decide +kernel
theorem d_PC_arriveReply_48 : decode b_PC_arriveReply 48 = .ok (.aload_n 0, 1) := by decide +kernel
theorem d_PC_arriveReply_49 : decode b_PC_arriveReply 49 = .ok (.getfield 43, 3) := by decide +kernel
theorem d_PC_arriveReply_52 : decode b_PC_arriveReply 52 = .ok (.if_icmp .ge 4, 3) := by decide +kernel
theorem d_PC_arriveReply_55 : decode b_PC_arriveReply 55 = .ok (.return_, 1) := by decide +kernel
theorem d_PC_arriveReply_56 : decode b_PC_arriveReply 56 = .ok (.aload_n 2, 1) := by decide +kernel
theorem d_PC_arriveReply_57 : decode b_PC_arriveReply 57 = .ok (.iconst 1, 1) := by decide +kernel
theorem d_PC_arriveReply_58 : decode b_PC_arriveReply 58 = .ok (.putfield 286, 3) := by decide +kernel
theorem d_PC_arriveReply_61 : decode b_PC_arriveReply 61 = .ok (.iconst 0, 1) := by decide +kernel
theorem d_PC_arriveReply_62 : decode b_PC_arriveReply 62 = .ok (.istore_n 3, 1) := by decide +kernel
theorem d_PC_arriveReply_63 : decode b_PC_arriveReply 63 = .ok (.iload_n 3, 1) := by decide +kernel
theorem d_PC_arriveReply_64 : decode b_PC_arriveReply 64 = .ok (.iconst 3, 1) := by decide +kernel
theorem d_PC_arriveReply_65 : decode b_PC_arriveReply 65 = .ok (.if_icmp .ge 43, 3) := by decide +kernel
theorem d_PC_arriveReply_68 : decode b_PC_arriveReply 68 = .ok (.aload_n 0, 1) := by decide +kernel
theorem d_PC_arriveReply_69 : decode b_PC_arriveReply 69 = .ok (.getfield 32, 3) := by decide +kernel
theorem d_PC_arriveReply_72 : decode b_PC_arriveReply 72 = .ok (.aload_n 1, 1) := by decide +kernel
theorem d_PC_arriveReply_73 : decode b_PC_arriveReply 73 = .ok (.getfield 263, 3) := by decide +kernel
theorem d_PC_arriveReply_76 : decode b_PC_arriveReply 76 = .ok (.iaload, 1) := by decide +kernel
theorem d_PC_arriveReply_77 : decode b_PC_arriveReply 77 = .ok (.iload_n 3, 1) := by decide +kernel
theorem d_PC_arriveReply_78 : decode b_PC_arriveReply 78 = .ok (.invokestatic 105, 3) := by decide +kernel
theorem d_PC_arriveReply_81 : decode b_PC_arriveReply 81 = .ok (.ifCond .eq 21, 3) := by decide +kernel
theorem d_PC_arriveReply_84 : decode b_PC_arriveReply 84 = .ok (.aload_n 0, 1) := by decide +kernel
theorem d_PC_arriveReply_85 : decode b_PC_arriveReply 85 = .ok (.aload_n 1, 1) := by decide +kernel
theorem d_PC_arriveReply_86 : decode b_PC_arriveReply 86 = .ok (.getfield 263, 3) := by decide +kernel
theorem d_PC_arriveReply_89 : decode b_PC_arriveReply 89 = .ok (.iload_n 3, 1) := by decide +kernel
theorem d_PC_arriveReply_90 : decode b_PC_arriveReply 90 = .ok (.aload_n 1, 1) := by decide +kernel
theorem d_PC_arriveReply_91 : decode b_PC_arriveReply 91 = .ok (.getfield 269, 3) := by decide +kernel
theorem d_PC_arriveReply_94 : decode b_PC_arriveReply 94 = .ok (.aload_n 2, 1) := by decide +kernel
theorem d_PC_arriveReply_95 : decode b_PC_arriveReply 95 = .ok (.iload_n 3, 1) := by decide +kernel
theorem d_PC_arriveReply_96 : decode b_PC_arriveReply 96 = .ok (.invokevirtual 300, 3) := by decide +kernel
theorem d_PC_arriveReply_99 : decode b_PC_arriveReply 99 = .ok (.invokevirtual 125, 3) := by decide +kernel
theorem d_PC_arriveReply_102 : decode b_PC_arriveReply 102 = .ok (.iinc 3 1, 3) := by decide +kernel
theorem d_PC_arriveReply_105 : decode b_PC_arriveReply 105 = .ok (.goto (-42), 3) := by decide +kernel
theorem d_PC_arriveReply_108 : decode b_PC_arriveReply 108 = .ok (.return_, 1) := by decide +kernel
theorem d_PC_arriveTold_0 : decode b_PC_arriveTold 0 = .ok (.aload_n 0, 1) := by decide +kernel
theorem d_PC_arriveTold_1 : decode b_PC_arriveTold 1 = .ok (.aload_n 1, 1) := by decide +kernel
theorem d_PC_arriveTold_2 : decode b_PC_arriveTold 2 = .ok (.getfield 282, 3) := by decide +kernel
theorem d_PC_arriveTold_5 : decode b_PC_arriveTold 5 = .ok (.aload_n 1, 1) := by decide +kernel
theorem d_PC_arriveTold_6 : decode b_PC_arriveTold 6 = .ok (.getfield 263, 3) := by decide +kernel
theorem d_PC_arriveTold_9 : decode b_PC_arriveTold 9 = .ok (.invokevirtual 130, 3) := by decide +kernel
theorem d_PC_arriveTold_12 : decode b_PC_arriveTold 12 = .ok (.astore_n 2, 1) := by decide +kernel
theorem d_PC_arriveTold_13 : decode b_PC_arriveTold 13 = .ok (.aload_n 2, 1) := by decide +kernel
theorem d_PC_arriveTold_14 : decode b_PC_arriveTold 14 = .ok (.aload_n 1, 1) := by decide +kernel
theorem d_PC_arriveTold_15 : decode b_PC_arriveTold 15 = .ok (.getfield 266, 3) := by decide +kernel
theorem d_PC_arriveTold_18 : decode b_PC_arriveTold 18 = .ok (.aload_n 1, 1) := by decide +kernel
theorem d_PC_arriveTold_19 : decode b_PC_arriveTold 19 = .ok (.getfield 260, 3) := by decide +kernel
theorem d_PC_arriveTold_22 : decode b_PC_arriveTold 22 = .ok (.aload_n 1, 1) := by decide +kernel
theorem d_PC_arriveTold_23 : decode b_PC_arriveTold 23 = .ok (.getfield 269, 3) := by decide +kernel
theorem d_PC_arriveTold_26 : decode b_PC_arriveTold 26 = .ok (.aload_n 1, 1) := by decide +kernel
theorem d_PC_arriveTold_27 : decode b_PC_arriveTold 27 = .ok (.getfield 303, 3) := by decide +kernel
theorem d_PC_arriveTold_30 : decode b_PC_arriveTold 30 = .ok (.invokevirtual 313, 3) := by decide +kernel
theorem d_PC_arriveTold_33 : decode b_PC_arriveTold 33 = .ok (.aload_n 2, 1) := by decide +kernel
theorem d_PC_arriveTold_34 : decode b_PC_arriveTold 34 = .ok (.getfield 198, 3) := by decide +kernel
theorem d_PC_arriveTold_37 : decode b_PC_arriveTold 37 = .ok (.iconst (-1), 1) := by decide +kernel
theorem d_PC_arriveTold_38 : decode b_PC_arriveTold 38 = .ok (.if_icmp .eq 4, 3) := by decide +kernel
theorem d_PC_arriveTold_41 : decode b_PC_arriveTold 41 = .ok (.return_, 1) := by decide +kernel
theorem d_PC_arriveTold_42 : decode b_PC_arriveTold 42 = .ok (.aload_n 2, 1) := by decide +kernel
theorem d_PC_arriveTold_43 : decode b_PC_arriveTold 43 = .ok (.aload_n 2, 1) := by decide +kernel
theorem d_PC_arriveTold_44 : decode b_PC_arriveTold 44 = .ok (.aload_n 0, 1) := by decide +kernel
theorem d_PC_arriveTold_45 : decode b_PC_arriveTold 45 = .ok (.getfield 32, 3) := by decide +kernel
theorem d_PC_arriveTold_48 : decode b_PC_arriveTold 48 = .ok (.aload_n 1, 1) := by decide +kernel
theorem d_PC_arriveTold_49 : decode b_PC_arriveTold 49 = .ok (.getfield 263, 3) := by decide +kernel
theorem d_PC_arriveTold_52 : decode b_PC_arriveTold 52 = .ok (.iaload, 1) := by decide +kernel
theorem d_PC_arriveTold_53 : decode b_PC_arriveTold 53 = .ok (.aload_n 0, 1) := by decide +kernel
theorem d_PC_arriveTold_54 : decode b_PC_arriveTold 54 = .ok (.getfield 43, 3) := by decide +kernel
theorem d_PC_arriveTold_57 : decode b_PC_arriveTold 57 = .ok (.invokevirtual 316, 3) := by decide +kernel
theorem d_PC_arriveTold_60 : decode b_PC_arriveTold 60 = .ok (.putfield 198, 3) := by decide +kernel
theorem d_PC_arriveTold_63 : decode b_PC_arriveTold 63 = .ok (.aload_n 2, 1) := by decide +kernel
theorem d_PC_arriveTold_64 : decode b_PC_arriveTold 64 = .ok (.getfield 198, 3) := by decide +kernel
theorem d_PC_arriveTold_67 : decode b_PC_arriveTold 67 = .ok (.iconst (-1), 1) := by decide +kernel
theorem d_PC_arriveTold_68 : decode b_PC_arriveTold 68 = .ok (.if_icmp .eq 15, 3) := by decide +kernel
theorem d_PC_arriveTold_71 : decode b_PC_arriveTold 71 = .ok (.aload_n 0, 1) := by decide +kernel
theorem d_PC_arriveTold_72 : decode b_PC_arriveTold 72 = .ok (.aload_n 1, 1) := by decide +kernel
theorem d_PC_arriveTold_73 : decode b_PC_arriveTold 73 = .ok (.getfield 263, 3) := by decide +kernel
theorem d_PC_arriveTold_76 : decode b_PC_arriveTold 76 = .ok (.aload_n 2, 1) := by decide +kernel
theorem d_PC_arriveTold_77 : decode b_PC_arriveTold 77 = .ok (.getfield 198, 3) := by decide +kernel
theorem d_PC_arriveTold_80 : decode b_PC_arriveTold 80 = .ok (.invokevirtual 319, 3) := by decide +kernel
theorem d_PC_arriveTold_83 : decode b_PC_arriveTold 83 = .ok (.return_, 1) := by decide +kernel
theorem d_PC_arriveVote_0 : decode b_PC_arriveVote 0 = .ok (.aload_n 0, 1) := by decide +kernel
theorem d_PC_arriveVote_1 : decode b_PC_arriveVote 1 = .ok (.getfield 48, 3) := by decide +kernel
theorem d_PC_arriveVote_4 : decode b_PC_arriveVote 4 = .ok (.aload_n 1, 1) := by decide +kernel
theorem d_PC_arriveVote_5 : decode b_PC_arriveVote 5 = .ok (.getfield 266, 3) := by decide +kernel
theorem d_PC_arriveVote_8 : decode b_PC_arriveVote 8 = .ok (.aaload, 1) := by decide +kernel
theorem d_PC_arriveVote_9 : decode b_PC_arriveVote 9 = .ok (.astore_n 2, 1) := by decide +kernel
theorem d_PC_arriveVote_10 : decode b_PC_arriveVote 10 = .ok (.aload_n 2, 1) := by decide +kernel
theorem d_PC_arriveVote_11 : decode b_PC_arriveVote 11 = .ok (.getfield 203, 3) := by decide +kernel
theorem d_PC_arriveVote_14 : decode b_PC_arriveVote 14 = .ok (.aload_n 1, 1) := by decide +kernel
theorem d_PC_arriveVote_15 : decode b_PC_arriveVote 15 = .ok (.getfield 263, 3) := by decide +kernel
theorem d_PC_arriveVote_18 : decode b_PC_arriveVote 18 = .ok (.aaload, 1) := by decide +kernel
theorem d_PC_arriveVote_19 : decode b_PC_arriveVote 19 = .ok (.aload_n 1, 1) := by decide +kernel
theorem d_PC_arriveVote_20 : decode b_PC_arriveVote 20 = .ok (.getfield 260, 3) := by decide +kernel
theorem d_PC_arriveVote_23 : decode b_PC_arriveVote 23 = .ok (.iaload, 1) := by decide +kernel
theorem d_PC_arriveVote_24 : decode b_PC_arriveVote 24 = .ok (.aload_n 1, 1) := by decide +kernel
theorem d_PC_arriveVote_25 : decode b_PC_arriveVote 25 = .ok (.getfield 269, 3) := by decide +kernel
theorem d_PC_arriveVote_28 : decode b_PC_arriveVote 28 = .ok (.if_icmp .le 4, 3) := by decide +kernel
theorem d_PC_arriveVote_31 : decode b_PC_arriveVote 31 = .ok (.return_, 1) := by decide +kernel
theorem d_PC_arriveVote_32 : decode b_PC_arriveVote 32 = .ok (.aload_n 2, 1) := by decide +kernel
theorem d_PC_arriveVote_33 : decode b_PC_arriveVote 33 = .ok (.aload_n 1, 1) := by decide +kernel
theorem d_PC_arriveVote_34 : decode b_PC_arriveVote 34 = .ok (.getfield 263, 3) := by decide +kernel
theorem d_PC_arriveVote_37 : decode b_PC_arriveVote 37 = .ok (.aload_n 1, 1) := by decide +kernel
theorem d_PC_arriveVote_38 : decode b_PC_arriveVote 38 = .ok (.getfield 260, 3) := by decide +kernel
theorem d_PC_arriveVote_41 : decode b_PC_arriveVote 41 = .ok (.aload_n 1, 1) := by decide +kernel
theorem d_PC_arriveVote_42 : decode b_PC_arriveVote 42 = .ok (.getfield 269, 3) := by decide +kernel
theorem d_PC_arriveVote_45 : decode b_PC_arriveVote 45 = .ok (.aload_n 1, 1) := by decide +kernel
theorem d_PC_arriveVote_46 : decode b_PC_arriveVote 46 = .ok (.getfield 303, 3) := by decide +kernel
theorem d_PC_arriveVote_49 : decode b_PC_arriveVote 49 = .ok (.invokevirtual 306, 3) := by decide +kernel
theorem d_PC_arriveVote_52 : decode b_PC_arriveVote 52 = .ok (.iconst 0, 1) := by decide +kernel
theorem d_PC_arriveVote_53 : decode b_PC_arriveVote 53 = .ok (.istore_n 3, 1) := by decide +kernel
theorem d_PC_arriveVote_54 : decode b_PC_arriveVote 54 = .ok (.iload_n 3, 1) := by decide +kernel
theorem d_PC_arriveVote_55 : decode b_PC_arriveVote 55 = .ok (.iconst 2, 1) := by decide +kernel
theorem d_PC_arriveVote_56 : decode b_PC_arriveVote 56 = .ok (.if_icmp .ge 15, 3) := by decide +kernel
theorem d_PC_arriveVote_59 : decode b_PC_arriveVote 59 = .ok (.aload_n 0, 1) := by decide +kernel
theorem d_PC_arriveVote_60 : decode b_PC_arriveVote 60 = .ok (.aload_n 1, 1) := by decide +kernel
theorem d_PC_arriveVote_61 : decode b_PC_arriveVote 61 = .ok (.iload_n 3, 1) := by decide +kernel
theorem d_PC_arriveVote_62 : decode b_PC_arriveVote 62 = .ok (.invokevirtual 309, 3) := by decide +kernel
theorem d_PC_arriveVote_65 : decode b_PC_arriveVote 65 = .ok (.iinc 3 1, 3) := by decide +kernel
theorem d_PC_arriveVote_68 : decode b_PC_arriveVote 68 = .ok (.goto (-14), 3) := by decide +kernel
theorem d_PC_arriveVote_71 : decode b_PC_arriveVote 71 = .ok (.return_, 1) := by decide +kernel
theorem d_PC_ballotOf_0 : decode b_PC_ballotOf 0 = .ok (.iload_n 0, 1) := by decide +kernel
theorem d_PC_ballotOf_1 : decode b_PC_ballotOf 1 = .ok (.iconst (-1), 1) := by decide +kernel
theorem d_PC_ballotOf_2 : decode b_PC_ballotOf 2 = .ok (.if_icmp .ne 7, 3) := by decide +kernel
theorem d_PC_ballotOf_5 : decode b_PC_ballotOf 5 = .ok (.iconst (-1), 1) := by decide +kernel
theorem d_PC_ballotOf_6 : decode b_PC_ballotOf 6 = .ok (.goto 6, 3) := by decide +kernel
theorem d_PC_ballotOf_9 : decode b_PC_ballotOf 9 = .ok (.iload_n 0, 1) := by decide +kernel
theorem d_PC_ballotOf_10 : decode b_PC_ballotOf 10 = .ok (.iconst 2, 1) := by decide +kernel
theorem d_PC_ballotOf_11 : decode b_PC_ballotOf 11 = .ok (.idiv, 1) := by decide +kernel
theorem d_PC_ballotOf_12 : decode b_PC_ballotOf 12 = .ok (.ireturn, 1) := by decide +kernel
theorem d_PC_begin_0 : decode b_PC_begin 0 = .ok (.aload_n 0, 1) := by decide +kernel
theorem d_PC_begin_1 : decode b_PC_begin 1 = .ok (.getfield 39, 3) := by decide +kernel
theorem d_PC_begin_4 : decode b_PC_begin 4 = .ok (.bipush 8, 2) := by decide +kernel
theorem d_PC_begin_6 : decode b_PC_begin 6 = .ok (.if_icmp .lt 13, 3) := by decide +kernel
theorem d_PC_begin_9 : decode b_PC_begin 9 = .ok (.new 57, 3) := by decide +kernel
theorem d_PC_begin_12 : decode b_PC_begin 12 = .ok (.dup, 1) := by decide +kernel
theorem d_PC_begin_13 : decode b_PC_begin 13 = .ok (.ldc 59, 2) := by decide +kernel
theorem d_PC_begin_15 : decode b_PC_begin 15 = .ok (.invokespecial 61, 3) := by decide +kernel
theorem d_PC_begin_18 : decode b_PC_begin 18 = .ok (.athrow, 1) := by decide +kernel
theorem d_PC_begin_19 : decode b_PC_begin 19 = .ok (.aload_n 0, 1) := by decide +kernel
theorem d_PC_begin_20 : decode b_PC_begin 20 = .ok (.dup, 1) := by decide +kernel
theorem d_PC_begin_21 : decode b_PC_begin 21 = .ok (.getfield 39, 3) := by decide +kernel
theorem d_PC_begin_24 : decode b_PC_begin 24 = .ok (.iconst 1, 1) := by decide +kernel
theorem d_PC_begin_25 : decode b_PC_begin 25 = .ok (.iadd, 1) := by decide +kernel
theorem d_PC_begin_26 : decode b_PC_begin 26 = .ok (.putfield 39, 3) := by decide +kernel
theorem d_PC_begin_29 : decode b_PC_begin 29 = .ok (.aload_n 0, 1) := by decide +kernel
theorem d_PC_begin_30 : decode b_PC_begin 30 = .ok (.getfield 39, 3) := by decide +kernel
theorem d_PC_begin_33 : decode b_PC_begin 33 = .ok (.iconst 1, 1) := by decide +kernel
theorem d_PC_begin_34 : decode b_PC_begin 34 = .ok (.isub, 1) := by decide +kernel
theorem d_PC_begin_35 : decode b_PC_begin 35 = .ok (.ireturn, 1) := by decide +kernel
theorem d_PC_checkBegun_0 : decode b_PC_checkBegun 0 = .ok (.iload_n 1, 1) := by decide +kernel
theorem d_PC_checkBegun_1 : decode b_PC_checkBegun 1 = .ok (.aload_n 0, 1) := by decide +kernel
theorem d_PC_checkBegun_2 : decode b_PC_checkBegun 2 = .ok (.getfield 39, 3) := by decide +kernel
theorem d_PC_checkBegun_5 : decode b_PC_checkBegun 5 = .ok (.if_icmp .lt 13, 3) := by decide +kernel
theorem d_PC_checkBegun_8 : decode b_PC_checkBegun 8 = .ok (.new 215, 3) := by decide +kernel
theorem d_PC_checkBegun_11 : decode b_PC_checkBegun 11 = .ok (.dup, 1) := by decide +kernel
theorem d_PC_checkBegun_12 : decode b_PC_checkBegun 12 = .ok (.ldc 217, 2) := by decide +kernel
theorem d_PC_checkBegun_14 : decode b_PC_checkBegun 14 = .ok (.invokespecial 219, 3) := by decide +kernel
theorem d_PC_checkBegun_17 : decode b_PC_checkBegun 17 = .ok (.athrow, 1) := by decide +kernel
theorem d_PC_checkBegun_18 : decode b_PC_checkBegun 18 = .ok (.return_, 1) := by decide +kernel
theorem d_PC_checkMessage_0 : decode b_PC_checkMessage 0 = .ok (.iload_n 1, 1) := by decide +kernel
theorem d_PC_checkMessage_1 : decode b_PC_checkMessage 1 = .ok (.ifCond .lt 14, 3) := by decide +kernel
theorem d_PC_checkMessage_4 : decode b_PC_checkMessage 4 = .ok (.iload_n 1, 1) := by decide +kernel
theorem d_PC_checkMessage_5 : decode b_PC_checkMessage 5 = .ok (.aload_n 0, 1) := by decide +kernel
theorem d_PC_checkMessage_6 : decode b_PC_checkMessage 6 = .ok (.getfield 28, 3) := by decide +kernel
theorem d_PC_checkMessage_9 : decode b_PC_checkMessage 9 = .ok (.getfield 154, 3) := by decide +kernel
theorem d_PC_checkMessage_12 : decode b_PC_checkMessage 12 = .ok (.if_icmp .lt 13, 3) := by decide +kernel
theorem d_PC_checkMessage_15 : decode b_PC_checkMessage 15 = .ok (.new 222, 3) := by decide +kernel
theorem d_PC_checkMessage_18 : decode b_PC_checkMessage 18 = .ok (.dup, 1) := by decide +kernel
theorem d_PC_checkMessage_19 : decode b_PC_checkMessage 19 = .ok (.ldc 224, 2) := by decide +kernel
theorem d_PC_checkMessage_21 : decode b_PC_checkMessage 21 = .ok (.invokespecial 226, 3) := by decide +kernel
theorem d_PC_checkMessage_24 : decode b_PC_checkMessage 24 = .ok (.athrow, 1) := by decide +kernel
theorem d_PC_checkMessage_25 : decode b_PC_checkMessage 25 = .ok (.return_, 1) := by decide +kernel
theorem d_PC_checkRange_0 : decode b_PC_checkRange 0 = .ok (.iload_n 0, 1) := by decide +kernel
theorem d_PC_checkRange_1 : decode b_PC_checkRange 1 = .ok (.ifCond .lt 8, 3) := by decide +kernel
theorem d_PC_checkRange_4 : decode b_PC_checkRange 4 = .ok (.iload_n 0, 1) := by decide +kernel
theorem d_PC_checkRange_5 : decode b_PC_checkRange 5 = .ok (.iload_n 1, 1) := by decide +kernel
theorem d_PC_checkRange_6 : decode b_PC_checkRange 6 = .ok (.if_icmp .lt 13, 3) := by decide +kernel
theorem d_PC_checkRange_9 : decode b_PC_checkRange 9 = .ok (.new 166, 3) := by decide +kernel
theorem d_PC_checkRange_12 : decode b_PC_checkRange 12 = .ok (.dup, 1) := by decide +kernel
theorem d_PC_checkRange_13 : decode b_PC_checkRange 13 = .ok (.ldc 213, 2) := by decide +kernel
theorem d_PC_checkRange_15 : decode b_PC_checkRange 15 = .ok (.invokespecial 170, 3) := by decide +kernel
theorem d_PC_checkRange_18 : decode b_PC_checkRange 18 = .ok (.athrow, 1) := by decide +kernel
theorem d_PC_checkRange_19 : decode b_PC_checkRange 19 = .ok (.return_, 1) := by decide +kernel
theorem d_PC_checkUp_0 : decode b_PC_checkUp 0 = .ok (.aload_n 0, 1) := by decide +kernel
theorem d_PC_checkUp_1 : decode b_PC_checkUp 1 = .ok (.getfield 21, 3) := by decide +kernel
theorem d_PC_checkUp_4 : decode b_PC_checkUp 4 = .ok (.iload_n 1, 1) := by decide +kernel
theorem d_PC_checkUp_5 : decode b_PC_checkUp 5 = .ok (.iaload, 1) := by decide +kernel
theorem d_PC_checkUp_6 : decode b_PC_checkUp 6 = .ok (.iload_n 2, 1) := by decide +kernel
theorem d_PC_checkUp_7 : decode b_PC_checkUp 7 = .ok (.invokestatic 105, 3) := by decide +kernel
theorem d_PC_checkUp_10 : decode b_PC_checkUp 10 = .ok (.ifCond .ne 13, 3) := by decide +kernel
theorem d_PC_checkUp_13 : decode b_PC_checkUp 13 = .ok (.new 57, 3) := by decide +kernel
theorem d_PC_checkUp_16 : decode b_PC_checkUp 16 = .ok (.dup, 1) := by decide +kernel
theorem d_PC_checkUp_17 : decode b_PC_checkUp 17 = .ok (.ldc 220, 2) := by decide +kernel
theorem d_PC_checkUp_19 : decode b_PC_checkUp 19 = .ok (.invokespecial 61, 3) := by decide +kernel
theorem d_PC_checkUp_22 : decode b_PC_checkUp 22 = .ok (.athrow, 1) := by decide +kernel
theorem d_PC_checkUp_23 : decode b_PC_checkUp 23 = .ok (.return_, 1) := by decide +kernel
theorem d_PC_count_0 : decode b_PC_count 0 = .ok (.iload_n 1, 1) := by decide +kernel
theorem d_PC_count_1 : decode b_PC_count 1 = .ok (.bipush 7, 2) := by decide +kernel
theorem d_PC_count_3 : decode b_PC_count 3 = .ok (.invokestatic 64, 3) := by decide +kernel
theorem d_PC_count_6 : decode b_PC_count 6 = .ok (.iload_n 1, 1) := by decide +kernel
theorem d_PC_count_7 : decode b_PC_count 7 = .ok (.tableswitch 78 0 5 #[37, 45, 53, 58, 64, 71], 37) := by decide +kernel
theorem d_PC_count_44 : decode b_PC_count 44 = .ok (.aload_n 0, 1) := by decide +kernel
theorem d_PC_count_45 : decode b_PC_count 45 = .ok (.getfield 28, 3) := by decide +kernel
theorem d_PC_count_48 : decode b_PC_count 48 = .ok (.getfield 154, 3) := by decide +kernel
theorem d_PC_count_51 : decode b_PC_count 51 = .ok (.ireturn, 1) := by decide +kernel
theorem d_PC_count_52 : decode b_PC_count 52 = .ok (.aload_n 0, 1) := by decide +kernel
theorem d_PC_count_53 : decode b_PC_count 53 = .ok (.getfield 28, 3) := by decide +kernel
theorem d_PC_count_56 : decode b_PC_count 56 = .ok (.getfield 210, 3) := by decide +kernel
theorem d_PC_count_59 : decode b_PC_count 59 = .ok (.ireturn, 1) := by decide +kernel
theorem d_PC_count_60 : decode b_PC_count 60 = .ok (.aload_n 0, 1) := by decide +kernel
theorem d_PC_count_61 : decode b_PC_count 61 = .ok (.getfield 39, 3) := by decide +kernel
theorem d_PC_count_64 : decode b_PC_count 64 = .ok (.ireturn, 1) := by decide +kernel
theorem d_PC_count_65 : decode b_PC_count 65 = .ok (.aload_n 0, 1) := by decide +kernel
theorem d_PC_count_66 : decode b_PC_count 66 = .ok (.getfield 48, 3) := by decide +kernel
theorem d_PC_count_69 : decode b_PC_count 69 = .ok (.arraylength, 1) := by decide +kernel
theorem d_PC_count_70 : decode b_PC_count 70 = .ok (.ireturn, 1) := by decide +kernel
theorem d_PC_count_71 : decode b_PC_count 71 = .ok (.aload_n 0, 1) := by decide +kernel
theorem d_PC_count_72 : decode b_PC_count 72 = .ok (.getfield 21, 3) := by decide +kernel
theorem d_PC_count_75 : decode b_PC_count 75 = .ok (.iconst 0, 1) := by decide +kernel
theorem d_PC_count_76 : decode b_PC_count 76 = .ok (.iaload, 1) := by decide +kernel
theorem d_PC_count_77 : decode b_PC_count 77 = .ok (.ireturn, 1) := by decide +kernel
theorem d_PC_count_78 : decode b_PC_count 78 = .ok (.aload_n 0, 1) := by decide +kernel
theorem d_PC_count_79 : decode b_PC_count 79 = .ok (.getfield 21, 3) := by decide +kernel
theorem d_PC_count_82 : decode b_PC_count 82 = .ok (.iconst 1, 1) := by decide +kernel
theorem d_PC_count_83 : decode b_PC_count 83 = .ok (.iaload, 1) := by decide +kernel
theorem d_PC_count_84 : decode b_PC_count 84 = .ok (.ireturn, 1) := by decide +kernel
theorem d_PC_count_85 : decode b_PC_count 85 = .ok (.aload_n 0, 1) := by decide +kernel
theorem d_PC_count_86 : decode b_PC_count 86 = .ok (.getfield 21, 3) := by decide +kernel
theorem d_PC_count_89 : decode b_PC_count 89 = .ok (.iconst 2, 1) := by decide +kernel
theorem d_PC_count_90 : decode b_PC_count 90 = .ok (.iaload, 1) := by decide +kernel
theorem d_PC_count_91 : decode b_PC_count 91 = .ok (.ireturn, 1) := by decide +kernel
theorem d_PC_deliver_0 : decode b_PC_deliver 0 = .ok (.aload_n 0, 1) := by decide +kernel
theorem d_PC_deliver_1 : decode b_PC_deliver 1 = .ok (.iload_n 1, 1) := by decide +kernel
theorem d_PC_deliver_2 : decode b_PC_deliver 2 = .ok (.invokevirtual 140, 3) := by decide +kernel
theorem d_PC_deliver_5 : decode b_PC_deliver 5 = .ok (.aload_n 0, 1) := by decide +kernel
theorem d_PC_deliver_6 : decode b_PC_deliver 6 = .ok (.getfield 28, 3) := by decide +kernel
theorem d_PC_deliver_9 : decode b_PC_deliver 9 = .ok (.iload_n 1, 1) := by decide +kernel
theorem d_PC_deliver_10 : decode b_PC_deliver 10 = .ok (.invokevirtual 143, 3) := by decide +kernel
theorem d_PC_deliver_13 : decode b_PC_deliver 13 = .ok (.astore_n 3, 1) := by decide +kernel
theorem d_PC_deliver_14 : decode b_PC_deliver 14 = .ok (.iload_n 2, 1) := by decide +kernel
theorem d_PC_deliver_15 : decode b_PC_deliver 15 = .ok (.ifCond .ne 11, 3) := by decide +kernel
theorem d_PC_deliver_18 : decode b_PC_deliver 18 = .ok (.aload_n 0, 1) := by decide +kernel
theorem d_PC_deliver_19 : decode b_PC_deliver 19 = .ok (.getfield 28, 3) := by decide +kernel
theorem d_PC_deliver_22 : decode b_PC_deliver 22 = .ok (.iload_n 1, 1) := by decide +kernel
theorem d_PC_deliver_23 : decode b_PC_deliver 23 = .ok (.invokevirtual 147, 3) := by decide +kernel
theorem d_PC_deliver_26 : decode b_PC_deliver 26 = .ok (.aload_n 0, 1) := by decide +kernel
theorem d_PC_deliver_27 : decode b_PC_deliver 27 = .ok (.aload_n 3, 1) := by decide +kernel
theorem d_PC_deliver_28 : decode b_PC_deliver 28 = .ok (.invokevirtual 150, 3) := by decide +kernel
theorem d_PC_deliver_31 : decode b_PC_deliver 31 = .ok (.aload_n 0, 1) := by decide +kernel
theorem d_PC_deliver_32 : decode b_PC_deliver 32 = .ok (.getfield 28, 3) := by decide +kernel
theorem d_PC_deliver_35 : decode b_PC_deliver 35 = .ok (.getfield 154, 3) := by decide +kernel
theorem d_PC_deliver_38 : decode b_PC_deliver 38 = .ok (.ireturn, 1) := by decide +kernel
theorem d_PC_has_0 : decode b_PC_has 0 = .ok (.iload_n 0, 1) := by decide +kernel
theorem d_PC_has_1 : decode b_PC_has 1 = .ok (.iload_n 1, 1) := by decide +kernel
theorem d_PC_has_2 : decode b_PC_has 2 = .ok (.ishr, 1) := by decide +kernel
theorem d_PC_has_3 : decode b_PC_has 3 = .ok (.iconst 1, 1) := by decide +kernel
theorem d_PC_has_4 : decode b_PC_has 4 = .ok (.iand, 1) := by decide +kernel
theorem d_PC_has_5 : decode b_PC_has 5 = .ok (.iconst 1, 1) := by decide +kernel
theorem d_PC_has_6 : decode b_PC_has 6 = .ok (.if_icmp .ne 7, 3) := by decide +kernel
theorem d_PC_has_9 : decode b_PC_has 9 = .ok (.iconst 1, 1) := by decide +kernel
theorem d_PC_has_10 : decode b_PC_has 10 = .ok (.goto 4, 3) := by decide +kernel
theorem d_PC_has_13 : decode b_PC_has 13 = .ok (.iconst 0, 1) := by decide +kernel
theorem d_PC_has_14 : decode b_PC_has 14 = .ok (.ireturn, 1) := by decide +kernel
theorem d_PC_howMany_0 : decode b_PC_howMany 0 = .ok (.iload_n 1, 1) := by decide +kernel
theorem d_PC_howMany_1 : decode b_PC_howMany 1 = .ok (.ifCond .ne 5, 3) := by decide +kernel
theorem d_PC_howMany_4 : decode b_PC_howMany 4 = .ok (.iconst 3, 1) := by decide +kernel
theorem d_PC_howMany_5 : decode b_PC_howMany 5 = .ok (.ireturn, 1) := by decide +kernel
theorem d_PC_howMany_6 : decode b_PC_howMany 6 = .ok (.iload_n 1, 1) := by decide +kernel
theorem d_PC_howMany_7 : decode b_PC_howMany 7 = .ok (.iconst 1, 1) := by decide +kernel
theorem d_PC_howMany_8 : decode b_PC_howMany 8 = .ok (.if_icmp .ne 11, 3) := by decide +kernel
theorem d_PC_howMany_11 : decode b_PC_howMany 11 = .ok (.aload_n 0, 1) := by decide +kernel
theorem d_PC_howMany_12 : decode b_PC_howMany 12 = .ok (.getfield 48, 3) := by decide +kernel
theorem d_PC_howMany_15 : decode b_PC_howMany 15 = .ok (.arraylength, 1) := by decide +kernel
theorem d_PC_howMany_16 : decode b_PC_howMany 16 = .ok (.goto 4, 3) := by decide +kernel
theorem d_PC_howMany_19 : decode b_PC_howMany 19 = .ok (.iconst 2, 1) := by decide +kernel
theorem d_PC_howMany_20 : decode b_PC_howMany 20 = .ok (.ireturn, 1) := by decide +kernel
theorem d_PC_init_0 : decode b_PC_init 0 = .ok (.aload_n 0, 1) := by decide +kernel
theorem d_PC_init_1 : decode b_PC_init 1 = .ok (.invokespecial 1, 3) := by decide +kernel
theorem d_PC_init_4 : decode b_PC_init 4 = .ok (.aload_n 0, 1) := by decide +kernel
theorem d_PC_init_5 : decode b_PC_init 5 = .ok (.iconst 3, 1) := by decide +kernel
theorem d_PC_init_6 : decode b_PC_init 6 = .ok (.anewarray 9, 3) := by decide +kernel
theorem d_PC_init_9 : decode b_PC_init 9 = .ok (.putfield 11, 3) := by decide +kernel
theorem d_PC_init_12 : decode b_PC_init 12 = .ok (.aload_n 0, 1) := by decide +kernel
theorem d_PC_init_13 : decode b_PC_init 13 = .ok (.bipush 16, 2) := by decide +kernel
theorem d_PC_init_15 : decode b_PC_init 15 = .ok (.anewarray 15, 3) := by decide +kernel
theorem d_PC_init_18 : decode b_PC_init 18 = .ok (.putfield 17, 3) := by decide +kernel
theorem d_PC_init_21 : decode b_PC_init 21 = .ok (.aload_n 0, 1) := by decide +kernel
theorem d_PC_init_22 : decode b_PC_init 22 = .ok (.iconst 3, 1) := by decide +kernel
theorem d_PC_init_23 : decode b_PC_init 23 = .ok (.newarray .int, 2) := by decide +kernel
theorem d_PC_init_25 : decode b_PC_init 25 = .ok (.putfield 21, 3) := by decide +kernel
theorem d_PC_init_28 : decode b_PC_init 28 = .ok (.aload_n 0, 1) := by decide +kernel
theorem d_PC_init_29 : decode b_PC_init 29 = .ok (.new 25, 3) := by decide +kernel
theorem d_PC_init_32 : decode b_PC_init 32 = .ok (.dup, 1) := by decide +kernel
theorem d_PC_init_33 : decode b_PC_init 33 = .ok (.invokespecial 27, 3) := by decide +kernel
theorem d_PC_init_36 : decode b_PC_init 36 = .ok (.putfield 28, 3) := by decide +kernel
theorem d_PC_init_39 : decode b_PC_init 39 = .ok (.aload_n 0, 1) := by decide +kernel
theorem d_PC_init_40 : decode b_PC_init 40 = .ok (.bipush 8, 2) := by decide +kernel
theorem d_PC_init_42 : decode b_PC_init 42 = .ok (.newarray .int, 2) := by decide +kernel
theorem d_PC_init_44 : decode b_PC_init 44 = .ok (.putfield 32, 3) := by decide +kernel
theorem d_PC_init_47 : decode b_PC_init 47 = .ok (.aload_n 0, 1) := by decide +kernel
theorem d_PC_init_48 : decode b_PC_init 48 = .ok (.bipush 8, 2) := by decide +kernel
theorem d_PC_init_50 : decode b_PC_init 50 = .ok (.newarray .boolean, 2) := by decide +kernel
theorem d_PC_init_52 : decode b_PC_init 52 = .ok (.putfield 35, 3) := by decide +kernel
theorem d_PC_init_55 : decode b_PC_init 55 = .ok (.aload_n 0, 1) := by decide +kernel
theorem d_PC_init_56 : decode b_PC_init 56 = .ok (.iconst 0, 1) := by decide +kernel
theorem d_PC_init_57 : decode b_PC_init 57 = .ok (.putfield 39, 3) := by decide +kernel
theorem d_PC_init_60 : decode b_PC_init 60 = .ok (.iload_n 1, 1) := by decide +kernel
theorem d_PC_init_61 : decode b_PC_init 61 = .ok (.ifCond .ne 7, 3) := by decide +kernel
theorem d_PC_init_64 : decode b_PC_init 64 = .ok (.iconst 1, 1) := by decide +kernel
theorem d_PC_init_65 : decode b_PC_init 65 = .ok (.goto 4, 3) := by decide +kernel
theorem d_PC_init_68 : decode b_PC_init 68 = .ok (.iconst 3, 1) := by decide +kernel
theorem d_PC_init_69 : decode b_PC_init 69 = .ok (.istore_n 2, 1) := by decide +kernel
theorem d_PC_init_70 : decode b_PC_init 70 = .ok (.aload_n 0, 1) := by decide +kernel
theorem d_PC_init_71 : decode b_PC_init 71 = .ok (.iload_n 1, 1) := by decide +kernel
theorem d_PC_init_72 : decode b_PC_init 72 = .ok (.ifCond .ne 7, 3) := by decide +kernel
theorem d_PC_init_75 : decode b_PC_init 75 = .ok (.iconst 1, 1) := by decide +kernel
theorem d_PC_init_76 : decode b_PC_init 76 = .ok (.goto 4, 3) := by decide +kernel
theorem d_PC_init_79 : decode b_PC_init 79 = .ok (.iconst 2, 1) := by decide +kernel
theorem d_PC_init_80 : decode b_PC_init 80 = .ok (.putfield 43, 3) := by decide +kernel
theorem d_PC_init_83 : decode b_PC_init 83 = .ok (.aload_n 0, 1) := by decide +kernel
theorem d_PC_init_84 : decode b_PC_init 84 = .ok (.iload_n 2, 1) := by decide +kernel
theorem d_PC_init_85 : decode b_PC_init 85 = .ok (.anewarray 46, 3) := by decide +kernel
theorem d_PC_init_88 : decode b_PC_init 88 = .ok (.putfield 48, 3) := by decide +kernel
theorem d_PC_init_91 : decode b_PC_init 91 = .ok (.iconst 0, 1) := by decide +kernel
theorem d_PC_init_92 : decode b_PC_init 92 = .ok (.istore_n 3, 1) := by decide +kernel
theorem d_PC_init_93 : decode b_PC_init 93 = .ok (.iload_n 3, 1) := by decide +kernel
theorem d_PC_init_94 : decode b_PC_init 94 = .ok (.iconst 3, 1) := by decide +kernel
theorem d_PC_init_95 : decode b_PC_init 95 = .ok (.if_icmp .ge 22, 3) := by decide +kernel
theorem d_PC_init_98 : decode b_PC_init 98 = .ok (.aload_n 0, 1) := by decide +kernel
theorem d_PC_init_99 : decode b_PC_init 99 = .ok (.getfield 11, 3) := by decide +kernel
theorem d_PC_init_102 : decode b_PC_init 102 = .ok (.iload_n 3, 1) := by decide +kernel
theorem d_PC_init_103 : decode b_PC_init 103 = .ok (.new 9, 3) := by decide +kernel
theorem d_PC_init_106 : decode b_PC_init 106 = .ok (.dup, 1) := by decide +kernel
theorem d_PC_init_107 : decode b_PC_init 107 = .ok (.invokespecial 52, 3) := by decide +kernel
theorem d_PC_init_110 : decode b_PC_init 110 = .ok (.aastore, 1) := by decide +kernel
theorem d_PC_init_111 : decode b_PC_init 111 = .ok (.iinc 3 1, 3) := by decide +kernel
theorem d_PC_init_114 : decode b_PC_init 114 = .ok (.goto (-21), 3) := by decide +kernel
theorem d_PC_init_117 : decode b_PC_init 117 = .ok (.iconst 0, 1) := by decide +kernel
theorem d_PC_init_118 : decode b_PC_init 118 = .ok (.istore_n 3, 1) := by decide +kernel
theorem d_PC_init_119 : decode b_PC_init 119 = .ok (.iload_n 3, 1) := by decide +kernel
theorem d_PC_init_120 : decode b_PC_init 120 = .ok (.iload_n 2, 1) := by decide +kernel
theorem d_PC_init_121 : decode b_PC_init 121 = .ok (.if_icmp .ge 22, 3) := by decide +kernel
theorem d_PC_init_124 : decode b_PC_init 124 = .ok (.aload_n 0, 1) := by decide +kernel
theorem d_PC_init_125 : decode b_PC_init 125 = .ok (.getfield 48, 3) := by decide +kernel
theorem d_PC_init_128 : decode b_PC_init 128 = .ok (.iload_n 3, 1) := by decide +kernel
theorem d_PC_init_129 : decode b_PC_init 129 = .ok (.new 46, 3) := by decide +kernel
theorem d_PC_init_132 : decode b_PC_init 132 = .ok (.dup, 1) := by decide +kernel
theorem d_PC_init_133 : decode b_PC_init 133 = .ok (.invokespecial 53, 3) := by decide +kernel
theorem d_PC_init_136 : decode b_PC_init 136 = .ok (.aastore, 1) := by decide +kernel
theorem d_PC_init_137 : decode b_PC_init 137 = .ok (.iinc 3 1, 3) := by decide +kernel
theorem d_PC_init_140 : decode b_PC_init 140 = .ok (.goto (-21), 3) := by decide +kernel
theorem d_PC_init_143 : decode b_PC_init 143 = .ok (.iconst 0, 1) := by decide +kernel
theorem d_PC_init_144 : decode b_PC_init 144 = .ok (.istore_n 3, 1) := by decide +kernel
theorem d_PC_init_145 : decode b_PC_init 145 = .ok (.iload_n 3, 1) := by decide +kernel
theorem d_PC_init_146 : decode b_PC_init 146 = .ok (.bipush 16, 2) := by decide +kernel
theorem d_PC_init_148 : decode b_PC_init 148 = .ok (.if_icmp .ge 23, 3) := by decide +kernel
theorem d_PC_init_151 : decode b_PC_init 151 = .ok (.aload_n 0, 1) := by decide +kernel
theorem d_PC_init_152 : decode b_PC_init 152 = .ok (.getfield 17, 3) := by decide +kernel
theorem d_PC_init_155 : decode b_PC_init 155 = .ok (.iload_n 3, 1) := by decide +kernel
theorem d_PC_init_156 : decode b_PC_init 156 = .ok (.new 15, 3) := by decide +kernel
theorem d_PC_init_159 : decode b_PC_init 159 = .ok (.dup, 1) := by decide +kernel
theorem d_PC_init_160 : decode b_PC_init 160 = .ok (.iload_n 2, 1) := by decide +kernel
theorem d_PC_init_161 : decode b_PC_init 161 = .ok (.invokespecial 54, 3) := by decide +kernel
theorem d_PC_init_164 : decode b_PC_init 164 = .ok (.aastore, 1) := by decide +kernel
theorem d_PC_init_165 : decode b_PC_init 165 = .ok (.iinc 3 1, 3) := by decide +kernel
theorem d_PC_init_168 : decode b_PC_init 168 = .ok (.goto (-23), 3) := by decide +kernel
theorem d_PC_init_171 : decode b_PC_init 171 = .ok (.aload_n 0, 1) := by decide +kernel
theorem d_PC_init_172 : decode b_PC_init 172 = .ok (.getfield 21, 3) := by decide +kernel
theorem d_PC_init_175 : decode b_PC_init 175 = .ok (.iconst 0, 1) := by decide +kernel
theorem d_PC_init_176 : decode b_PC_init 176 = .ok (.bipush 7, 2) := by decide +kernel
theorem d_PC_init_178 : decode b_PC_init 178 = .ok (.iastore, 1) := by decide +kernel
theorem d_PC_init_179 : decode b_PC_init 179 = .ok (.aload_n 0, 1) := by decide +kernel
theorem d_PC_init_180 : decode b_PC_init 180 = .ok (.getfield 21, 3) := by decide +kernel
theorem d_PC_init_183 : decode b_PC_init 183 = .ok (.iconst 1, 1) := by decide +kernel
theorem d_PC_init_184 : decode b_PC_init 184 = .ok (.iconst 1, 1) := by decide +kernel
theorem d_PC_init_185 : decode b_PC_init 185 = .ok (.iload_n 2, 1) := by decide +kernel
theorem d_PC_init_186 : decode b_PC_init 186 = .ok (.ishl, 1) := by decide +kernel
theorem d_PC_init_187 : decode b_PC_init 187 = .ok (.iconst 1, 1) := by decide +kernel
theorem d_PC_init_188 : decode b_PC_init 188 = .ok (.isub, 1) := by decide +kernel
theorem d_PC_init_189 : decode b_PC_init 189 = .ok (.iastore, 1) := by decide +kernel
theorem d_PC_init_190 : decode b_PC_init 190 = .ok (.aload_n 0, 1) := by decide +kernel
theorem d_PC_init_191 : decode b_PC_init 191 = .ok (.getfield 21, 3) := by decide +kernel
theorem d_PC_init_194 : decode b_PC_init 194 = .ok (.iconst 2, 1) := by decide +kernel
theorem d_PC_init_195 : decode b_PC_init 195 = .ok (.iconst 3, 1) := by decide +kernel
theorem d_PC_init_196 : decode b_PC_init 196 = .ok (.iastore, 1) := by decide +kernel
theorem d_PC_init_197 : decode b_PC_init 197 = .ok (.return_, 1) := by decide +kernel
theorem d_PC_ledger_0 : decode b_PC_ledger 0 = .ok (.aload_n 0, 1) := by decide +kernel
theorem d_PC_ledger_1 : decode b_PC_ledger 1 = .ok (.getfield 17, 3) := by decide +kernel
theorem d_PC_ledger_4 : decode b_PC_ledger 4 = .ok (.iload_n 1, 1) := by decide +kernel
theorem d_PC_ledger_5 : decode b_PC_ledger 5 = .ok (.bipush 8, 2) := by decide +kernel
theorem d_PC_ledger_7 : decode b_PC_ledger 7 = .ok (.imul, 1) := by decide +kernel
theorem d_PC_ledger_8 : decode b_PC_ledger 8 = .ok (.iload_n 2, 1) := by decide +kernel
theorem d_PC_ledger_9 : decode b_PC_ledger 9 = .ok (.iadd, 1) := by decide +kernel
theorem d_PC_ledger_10 : decode b_PC_ledger 10 = .ok (.aaload, 1) := by decide +kernel
theorem d_PC_ledger_11 : decode b_PC_ledger 11 = .ok (.areturn, 1) := by decide +kernel
theorem d_PC_lock_0 : decode b_PC_lock 0 = .ok (.iload_n 1, 1) := by decide +kernel
theorem d_PC_lock_1 : decode b_PC_lock 1 = .ok (.iconst 3, 1) := by decide +kernel
theorem d_PC_lock_2 : decode b_PC_lock 2 = .ok (.invokestatic 64, 3) := by decide +kernel
theorem d_PC_lock_5 : decode b_PC_lock 5 = .ok (.iload_n 2, 1) := by decide +kernel
theorem d_PC_lock_6 : decode b_PC_lock 6 = .ok (.iconst 4, 1) := by decide +kernel
theorem d_PC_lock_7 : decode b_PC_lock 7 = .ok (.invokestatic 64, 3) := by decide +kernel
theorem d_PC_lock_10 : decode b_PC_lock 10 = .ok (.aload_n 0, 1) := by decide +kernel
theorem d_PC_lock_11 : decode b_PC_lock 11 = .ok (.getfield 11, 3) := by decide +kernel
theorem d_PC_lock_14 : decode b_PC_lock 14 = .ok (.iload_n 1, 1) := by decide +kernel
theorem d_PC_lock_15 : decode b_PC_lock 15 = .ok (.aaload, 1) := by decide +kernel
theorem d_PC_lock_16 : decode b_PC_lock 16 = .ok (.getfield 195, 3) := by decide +kernel
theorem d_PC_lock_19 : decode b_PC_lock 19 = .ok (.iload_n 2, 1) := by decide +kernel
theorem d_PC_lock_20 : decode b_PC_lock 20 = .ok (.iaload, 1) := by decide +kernel
theorem d_PC_lock_21 : decode b_PC_lock 21 = .ok (.ireturn, 1) := by decide +kernel
theorem d_PC_lose_0 : decode b_PC_lose 0 = .ok (.aload_n 0, 1) := by decide +kernel
theorem d_PC_lose_1 : decode b_PC_lose 1 = .ok (.iload_n 1, 1) := by decide +kernel
theorem d_PC_lose_2 : decode b_PC_lose 2 = .ok (.invokevirtual 140, 3) := by decide +kernel
theorem d_PC_lose_5 : decode b_PC_lose 5 = .ok (.aload_n 0, 1) := by decide +kernel
theorem d_PC_lose_6 : decode b_PC_lose 6 = .ok (.getfield 28, 3) := by decide +kernel
theorem d_PC_lose_9 : decode b_PC_lose 9 = .ok (.iload_n 1, 1) := by decide +kernel
theorem d_PC_lose_10 : decode b_PC_lose 10 = .ok (.invokevirtual 147, 3) := by decide +kernel
theorem d_PC_lose_13 : decode b_PC_lose 13 = .ok (.aload_n 0, 1) := by decide +kernel
theorem d_PC_lose_14 : decode b_PC_lose 14 = .ok (.getfield 28, 3) := by decide +kernel
theorem d_PC_lose_17 : decode b_PC_lose 17 = .ok (.getfield 154, 3) := by decide +kernel
theorem d_PC_lose_20 : decode b_PC_lose 20 = .ok (.ireturn, 1) := by decide +kernel
theorem d_PC_outcome_0 : decode b_PC_outcome 0 = .ok (.iload_n 1, 1) := by decide +kernel
theorem d_PC_outcome_1 : decode b_PC_outcome 1 = .ok (.iconst 2, 1) := by decide +kernel
theorem d_PC_outcome_2 : decode b_PC_outcome 2 = .ok (.invokestatic 64, 3) := by decide +kernel
theorem d_PC_outcome_5 : decode b_PC_outcome 5 = .ok (.iload_n 2, 1) := by decide +kernel
theorem d_PC_outcome_6 : decode b_PC_outcome 6 = .ok (.bipush 8, 2) := by decide +kernel
theorem d_PC_outcome_8 : decode b_PC_outcome 8 = .ok (.invokestatic 64, 3) := by decide +kernel
theorem d_PC_outcome_11 : decode b_PC_outcome 11 = .ok (.aload_n 0, 1) := by decide +kernel
theorem d_PC_outcome_12 : decode b_PC_outcome 12 = .ok (.iload_n 2, 1) := by decide +kernel
theorem d_PC_outcome_13 : decode b_PC_outcome 13 = .ok (.invokevirtual 68, 3) := by decide +kernel
theorem d_PC_outcome_16 : decode b_PC_outcome 16 = .ok (.aload_n 0, 1) := by decide +kernel
theorem d_PC_outcome_17 : decode b_PC_outcome 17 = .ok (.iload_n 1, 1) := by decide +kernel
theorem d_PC_outcome_18 : decode b_PC_outcome 18 = .ok (.iload_n 2, 1) := by decide +kernel
theorem d_PC_outcome_19 : decode b_PC_outcome 19 = .ok (.invokevirtual 130, 3) := by decide +kernel
theorem d_PC_outcome_22 : decode b_PC_outcome 22 = .ok (.getfield 198, 3) := by decide +kernel
theorem d_PC_outcome_25 : decode b_PC_outcome 25 = .ok (.istore_n 3, 1) := by decide +kernel
theorem d_PC_outcome_26 : decode b_PC_outcome 26 = .ok (.iload_n 3, 1) := by decide +kernel
theorem d_PC_outcome_27 : decode b_PC_outcome 27 = .ok (.iconst (-1), 1) := by decide +kernel
theorem d_PC_outcome_28 : decode b_PC_outcome 28 = .ok (.if_icmp .ne 13, 3) := by decide +kernel
theorem d_PC_outcome_31 : decode b_PC_outcome 31 = .ok (.new 57, 3) := by decide +kernel
theorem d_PC_outcome_34 : decode b_PC_outcome 34 = .ok (.dup, 1) := by decide +kernel
theorem d_PC_outcome_35 : decode b_PC_outcome 35 = .ok (.ldc 201, 2) := by decide +kernel
theorem d_PC_outcome_37 : decode b_PC_outcome 37 = .ok (.invokespecial 61, 3) := by decide +kernel
theorem d_PC_outcome_40 : decode b_PC_outcome 40 = .ok (.athrow, 1) := by decide +kernel
theorem d_PC_outcome_41 : decode b_PC_outcome 41 = .ok (.iload_n 3, 1) := by decide +kernel
theorem d_PC_outcome_42 : decode b_PC_outcome 42 = .ok (.iconst 1, 1) := by decide +kernel
theorem d_PC_outcome_43 : decode b_PC_outcome 43 = .ok (.if_icmp .ne 7, 3) := by decide +kernel
theorem d_PC_outcome_46 : decode b_PC_outcome 46 = .ok (.iconst 0, 1) := by decide +kernel
theorem d_PC_outcome_47 : decode b_PC_outcome 47 = .ok (.goto 4, 3) := by decide +kernel
theorem d_PC_outcome_50 : decode b_PC_outcome 50 = .ok (.iconst 1, 1) := by decide +kernel
theorem d_PC_outcome_51 : decode b_PC_outcome 51 = .ok (.ireturn, 1) := by decide +kernel
theorem d_PC_pack_0 : decode b_PC_pack 0 = .ok (.iconst 2, 1) := by decide +kernel
theorem d_PC_pack_1 : decode b_PC_pack 1 = .ok (.iload_n 0, 1) := by decide +kernel
theorem d_PC_pack_2 : decode b_PC_pack 2 = .ok (.imul, 1) := by decide +kernel
theorem d_PC_pack_3 : decode b_PC_pack 3 = .ok (.iload_n 1, 1) := by decide +kernel
theorem d_PC_pack_4 : decode b_PC_pack 4 = .ok (.iadd, 1) := by decide +kernel
theorem d_PC_pack_5 : decode b_PC_pack 5 = .ok (.ireturn, 1) := by decide +kernel
theorem d_PC_refuse_0 : decode b_PC_refuse 0 = .ok (.iload_n 1, 1) := by decide +kernel
theorem d_PC_refuse_1 : decode b_PC_refuse 1 = .ok (.bipush 8, 2) := by decide +kernel
theorem d_PC_refuse_3 : decode b_PC_refuse 3 = .ok (.invokestatic 64, 3) := by decide +kernel
theorem d_PC_refuse_6 : decode b_PC_refuse 6 = .ok (.iload_n 2, 1) := by decide +kernel
theorem d_PC_refuse_7 : decode b_PC_refuse 7 = .ok (.iconst 3, 1) := by decide +kernel
theorem d_PC_refuse_8 : decode b_PC_refuse 8 = .ok (.invokestatic 64, 3) := by decide +kernel
theorem d_PC_refuse_11 : decode b_PC_refuse 11 = .ok (.aload_n 0, 1) := by decide +kernel
theorem d_PC_refuse_12 : decode b_PC_refuse 12 = .ok (.iload_n 1, 1) := by decide +kernel
theorem d_PC_refuse_13 : decode b_PC_refuse 13 = .ok (.invokevirtual 68, 3) := by decide +kernel
theorem d_PC_refuse_16 : decode b_PC_refuse 16 = .ok (.aload_n 0, 1) := by decide +kernel
theorem d_PC_refuse_17 : decode b_PC_refuse 17 = .ok (.iconst 0, 1) := by decide +kernel
theorem d_PC_refuse_18 : decode b_PC_refuse 18 = .ok (.iload_n 2, 1) := by decide +kernel
theorem d_PC_refuse_19 : decode b_PC_refuse 19 = .ok (.invokevirtual 71, 3) := by decide +kernel
theorem d_PC_refuse_22 : decode b_PC_refuse 22 = .ok (.aload_n 0, 1) := by decide +kernel
theorem d_PC_refuse_23 : decode b_PC_refuse 23 = .ok (.getfield 11, 3) := by decide +kernel
theorem d_PC_refuse_26 : decode b_PC_refuse 26 = .ok (.iload_n 2, 1) := by decide +kernel
theorem d_PC_refuse_27 : decode b_PC_refuse 27 = .ok (.aaload, 1) := by decide +kernel
theorem d_PC_refuse_28 : decode b_PC_refuse 28 = .ok (.astore_n 3, 1) := by decide +kernel
theorem d_PC_refuse_29 : decode b_PC_refuse 29 = .ok (.aload_n 3, 1) := by decide +kernel
theorem d_PC_refuse_30 : decode b_PC_refuse 30 = .ok (.getfield 117, 3) := by decide +kernel
theorem d_PC_refuse_33 : decode b_PC_refuse 33 = .ok (.iload_n 1, 1) := by decide +kernel
theorem d_PC_refuse_34 : decode b_PC_refuse 34 = .ok (.iaload, 1) := by decide +kernel
theorem d_PC_refuse_35 : decode b_PC_refuse 35 = .ok (.iconst 1, 1) := by decide +kernel
theorem d_PC_refuse_36 : decode b_PC_refuse 36 = .ok (.if_icmp .eq 13, 3) := by decide +kernel
theorem d_PC_refuse_39 : decode b_PC_refuse 39 = .ok (.new 84, 3) := by decide +kernel
theorem d_PC_refuse_42 : decode b_PC_refuse 42 = .ok (.dup, 1) := by decide +kernel
theorem d_PC_refuse_43 : decode b_PC_refuse 43 = .ok (.ldc 120, 2) := by decide +kernel
theorem d_PC_refuse_45 : decode b_PC_refuse 45 = .ok (.invokespecial 88, 3) := by decide +kernel
theorem d_PC_refuse_48 : decode b_PC_refuse 48 = .ok (.athrow, 1) := by decide +kernel
theorem d_PC_refuse_49 : decode b_PC_refuse 49 = .ok (.aload_n 3, 1) := by decide +kernel
theorem d_PC_refuse_50 : decode b_PC_refuse 50 = .ok (.iload_n 1, 1) := by decide +kernel
theorem d_PC_refuse_51 : decode b_PC_refuse 51 = .ok (.invokevirtual 122, 3) := by decide +kernel
theorem d_PC_refuse_54 : decode b_PC_refuse 54 = .ok (.aload_n 0, 1) := by decide +kernel
theorem d_PC_refuse_55 : decode b_PC_refuse 55 = .ok (.iload_n 1, 1) := by decide +kernel
theorem d_PC_refuse_56 : decode b_PC_refuse 56 = .ok (.iload_n 2, 1) := by decide +kernel
theorem d_PC_refuse_57 : decode b_PC_refuse 57 = .ok (.iconst 0, 1) := by decide +kernel
theorem d_PC_refuse_58 : decode b_PC_refuse 58 = .ok (.iconst 0, 1) := by decide +kernel
theorem d_PC_refuse_59 : decode b_PC_refuse 59 = .ok (.invokevirtual 125, 3) := by decide +kernel
theorem d_PC_refuse_62 : decode b_PC_refuse 62 = .ok (.aload_n 3, 1) := by decide +kernel
theorem d_PC_refuse_63 : decode b_PC_refuse 63 = .ok (.iload_n 1, 1) := by decide +kernel
theorem d_PC_refuse_64 : decode b_PC_refuse 64 = .ok (.invokevirtual 97, 3) := by decide +kernel
theorem d_PC_refuse_67 : decode b_PC_refuse 67 = .ok (.ireturn, 1) := by decide +kernel
theorem d_PC_request_0 : decode b_PC_request 0 = .ok (.iload_n 1, 1) := by decide +kernel
theorem d_PC_request_1 : decode b_PC_request 1 = .ok (.bipush 8, 2) := by decide +kernel
theorem d_PC_request_3 : decode b_PC_request 3 = .ok (.invokestatic 64, 3) := by decide +kernel
theorem d_PC_request_6 : decode b_PC_request 6 = .ok (.aload_n 0, 1) := by decide +kernel
theorem d_PC_request_7 : decode b_PC_request 7 = .ok (.iload_n 1, 1) := by decide +kernel
theorem d_PC_request_8 : decode b_PC_request 8 = .ok (.invokevirtual 68, 3) := by decide +kernel
theorem d_PC_request_11 : decode b_PC_request 11 = .ok (.aload_n 0, 1) := by decide +kernel
theorem d_PC_request_12 : decode b_PC_request 12 = .ok (.getfield 32, 3) := by decide +kernel
theorem d_PC_request_15 : decode b_PC_request 15 = .ok (.iload_n 1, 1) := by decide +kernel
theorem d_PC_request_16 : decode b_PC_request 16 = .ok (.iaload, 1) := by decide +kernel
theorem d_PC_request_17 : decode b_PC_request 17 = .ok (.ifCond .ne 13, 3) := by decide +kernel
theorem d_PC_request_20 : decode b_PC_request 20 = .ok (.new 57, 3) := by decide +kernel
theorem d_PC_request_23 : decode b_PC_request 23 = .ok (.dup, 1) := by decide +kernel
theorem d_PC_request_24 : decode b_PC_request 24 = .ok (.ldc 101, 2) := by decide +kernel
theorem d_PC_request_26 : decode b_PC_request 26 = .ok (.invokespecial 61, 3) := by decide +kernel
theorem d_PC_request_29 : decode b_PC_request 29 = .ok (.athrow, 1) := by decide +kernel
theorem d_PC_request_30 : decode b_PC_request 30 = .ok (.aload_n 0, 1) := by decide +kernel
theorem d_PC_request_31 : decode b_PC_request 31 = .ok (.getfield 35, 3) := by decide +kernel
theorem d_PC_request_34 : decode b_PC_request 34 = .ok (.iload_n 1, 1) := by decide +kernel
theorem d_PC_request_35 : decode b_PC_request 35 = .ok (.baload, 1) := by decide +kernel
theorem d_PC_request_36 : decode b_PC_request 36 = .ok (.ifCond .eq 13, 3) := by decide +kernel
theorem d_PC_request_39 : decode b_PC_request 39 = .ok (.new 84, 3) := by decide +kernel
theorem d_PC_request_42 : decode b_PC_request 42 = .ok (.dup, 1) := by decide +kernel
theorem d_PC_request_43 : decode b_PC_request 43 = .ok (.ldc 103, 2) := by decide +kernel
theorem d_PC_request_45 : decode b_PC_request 45 = .ok (.invokespecial 88, 3) := by decide +kernel
theorem d_PC_request_48 : decode b_PC_request 48 = .ok (.athrow, 1) := by decide +kernel
theorem d_PC_request_49 : decode b_PC_request 49 = .ok (.aload_n 0, 1) := by decide +kernel
theorem d_PC_request_50 : decode b_PC_request 50 = .ok (.getfield 35, 3) := by decide +kernel
theorem d_PC_request_53 : decode b_PC_request 53 = .ok (.iload_n 1, 1) := by decide +kernel
theorem d_PC_request_54 : decode b_PC_request 54 = .ok (.iconst 1, 1) := by decide +kernel
theorem d_PC_request_55 : decode b_PC_request 55 = .ok (.bastore, 1) := by decide +kernel
theorem d_PC_request_56 : decode b_PC_request 56 = .ok (.iconst 0, 1) := by decide +kernel
theorem d_PC_request_57 : decode b_PC_request 57 = .ok (.istore_n 2, 1) := by decide +kernel
theorem d_PC_request_58 : decode b_PC_request 58 = .ok (.iload_n 2, 1) := by decide +kernel
theorem d_PC_request_59 : decode b_PC_request 59 = .ok (.iconst 3, 1) := by decide +kernel
theorem d_PC_request_60 : decode b_PC_request 60 = .ok (.if_icmp .ge 30, 3) := by decide +kernel
theorem d_PC_request_63 : decode b_PC_request 63 = .ok (.aload_n 0, 1) := by decide +kernel
theorem d_PC_request_64 : decode b_PC_request 64 = .ok (.getfield 32, 3) := by decide +kernel
theorem d_PC_request_67 : decode b_PC_request 67 = .ok (.iload_n 1, 1) := by decide +kernel
theorem d_PC_request_68 : decode b_PC_request 68 = .ok (.iaload, 1) := by decide +kernel
theorem d_PC_request_69 : decode b_PC_request 69 = .ok (.iload_n 2, 1) := by decide +kernel
theorem d_PC_request_70 : decode b_PC_request 70 = .ok (.invokestatic 105, 3) := by decide +kernel
theorem d_PC_request_73 : decode b_PC_request 73 = .ok (.ifCond .eq 11, 3) := by decide +kernel
theorem d_PC_request_76 : decode b_PC_request 76 = .ok (.aload_n 0, 1) := by decide +kernel
theorem d_PC_request_77 : decode b_PC_request 77 = .ok (.iconst 0, 1) := by decide +kernel
theorem d_PC_request_78 : decode b_PC_request 78 = .ok (.iload_n 1, 1) := by decide +kernel
theorem d_PC_request_79 : decode b_PC_request 79 = .ok (.iload_n 2, 1) := by decide +kernel
theorem d_PC_request_80 : decode b_PC_request 80 = .ok (.iconst (-1), 1) := by decide +kernel
theorem d_PC_request_81 : decode b_PC_request 81 = .ok (.invokevirtual 108, 3) := by decide +kernel
theorem d_PC_request_84 : decode b_PC_request 84 = .ok (.iinc 2 1, 3) := by decide +kernel
theorem d_PC_request_87 : decode b_PC_request 87 = .ok (.goto (-29), 3) := by decide +kernel
theorem d_PC_request_90 : decode b_PC_request 90 = .ok (.aload_n 0, 1) := by decide +kernel
theorem d_PC_request_91 : decode b_PC_request 91 = .ok (.getfield 32, 3) := by decide +kernel
theorem d_PC_request_94 : decode b_PC_request 94 = .ok (.iload_n 1, 1) := by decide +kernel
theorem d_PC_request_95 : decode b_PC_request 95 = .ok (.iaload, 1) := by decide +kernel
theorem d_PC_request_96 : decode b_PC_request 96 = .ok (.invokestatic 112, 3) := by decide +kernel
theorem d_PC_request_99 : decode b_PC_request 99 = .ok (.ireturn, 1) := by decide +kernel
theorem d_PC_sendAsks_0 : decode b_PC_sendAsks 0 = .ok (.iconst 0, 1) := by decide +kernel
theorem d_PC_sendAsks_1 : decode b_PC_sendAsks 1 = .ok (.istore_n 3, 1) := by decide +kernel
theorem d_PC_sendAsks_2 : decode b_PC_sendAsks 2 = .ok (.iload_n 3, 1) := by decide +kernel
theorem d_PC_sendAsks_3 : decode b_PC_sendAsks 3 = .ok (.aload_n 0, 1) := by decide +kernel
theorem d_PC_sendAsks_4 : decode b_PC_sendAsks 4 = .ok (.getfield 48, 3) := by decide +kernel
theorem d_PC_sendAsks_7 : decode b_PC_sendAsks 7 = .ok (.arraylength, 1) := by decide +kernel
theorem d_PC_sendAsks_8 : decode b_PC_sendAsks 8 = .ok (.if_icmp .ge 41, 3) := by decide +kernel
theorem d_PC_sendAsks_11 : decode b_PC_sendAsks 11 = .ok (.aload_n 0, 1) := by decide +kernel
theorem d_PC_sendAsks_12 : decode b_PC_sendAsks 12 = .ok (.getfield 28, 3) := by decide +kernel
theorem d_PC_sendAsks_15 : decode b_PC_sendAsks 15 = .ok (.iconst 1, 1) := by decide +kernel
theorem d_PC_sendAsks_16 : decode b_PC_sendAsks 16 = .ok (.iload_n 1, 1) := by decide +kernel
theorem d_PC_sendAsks_17 : decode b_PC_sendAsks 17 = .ok (.invokevirtual 325, 3) := by decide +kernel
theorem d_PC_sendAsks_20 : decode b_PC_sendAsks 20 = .ok (.astore 4, 2) := by decide +kernel
theorem d_PC_sendAsks_22 : decode b_PC_sendAsks 22 = .ok (.aload 4, 2) := by decide +kernel
theorem d_PC_sendAsks_24 : decode b_PC_sendAsks 24 = .ok (.iload_n 3, 1) := by decide +kernel
theorem d_PC_sendAsks_25 : decode b_PC_sendAsks 25 = .ok (.putfield 266, 3) := by decide +kernel
theorem d_PC_sendAsks_28 : decode b_PC_sendAsks 28 = .ok (.aload 4, 2) := by decide +kernel
theorem d_PC_sendAsks_30 : decode b_PC_sendAsks 30 = .ok (.iload_n 2, 1) := by decide +kernel
theorem d_PC_sendAsks_31 : decode b_PC_sendAsks 31 = .ok (.putfield 269, 3) := by decide +kernel
theorem d_PC_sendAsks_34 : decode b_PC_sendAsks 34 = .ok (.aload_n 0, 1) := by decide +kernel
theorem d_PC_sendAsks_35 : decode b_PC_sendAsks 35 = .ok (.getfield 28, 3) := by decide +kernel
theorem d_PC_sendAsks_38 : decode b_PC_sendAsks 38 = .ok (.aload 4, 2) := by decide +kernel
theorem d_PC_sendAsks_40 : decode b_PC_sendAsks 40 = .ok (.invokevirtual 329, 3) := by decide +kernel
theorem d_PC_sendAsks_43 : decode b_PC_sendAsks 43 = .ok (.iinc 3 1, 3) := by decide +kernel
theorem d_PC_sendAsks_46 : decode b_PC_sendAsks 46 = .ok (.goto (-44), 3) := by decide +kernel
theorem d_PC_sendAsks_49 : decode b_PC_sendAsks 49 = .ok (.return_, 1) := by decide +kernel
theorem d_PC_sendOutcomes_0 : decode b_PC_sendOutcomes 0 = .ok (.iconst 0, 1) := by decide +kernel
theorem d_PC_sendOutcomes_1 : decode b_PC_sendOutcomes 1 = .ok (.istore_n 3, 1) := by decide +kernel
theorem d_PC_sendOutcomes_2 : decode b_PC_sendOutcomes 2 = .ok (.iload_n 3, 1) := by decide +kernel
theorem d_PC_sendOutcomes_3 : decode b_PC_sendOutcomes 3 = .ok (.iconst 3, 1) := by decide +kernel
theorem d_PC_sendOutcomes_4 : decode b_PC_sendOutcomes 4 = .ok (.if_icmp .ge 30, 3) := by decide +kernel
theorem d_PC_sendOutcomes_7 : decode b_PC_sendOutcomes 7 = .ok (.aload_n 0, 1) := by decide +kernel
theorem d_PC_sendOutcomes_8 : decode b_PC_sendOutcomes 8 = .ok (.getfield 32, 3) := by decide +kernel
theorem d_PC_sendOutcomes_11 : decode b_PC_sendOutcomes 11 = .ok (.iload_n 1, 1) := by decide +kernel
theorem d_PC_sendOutcomes_12 : decode b_PC_sendOutcomes 12 = .ok (.iaload, 1) := by decide +kernel
theorem d_PC_sendOutcomes_13 : decode b_PC_sendOutcomes 13 = .ok (.iload_n 3, 1) := by decide +kernel
theorem d_PC_sendOutcomes_14 : decode b_PC_sendOutcomes 14 = .ok (.invokestatic 105, 3) := by decide +kernel
theorem d_PC_sendOutcomes_17 : decode b_PC_sendOutcomes 17 = .ok (.ifCond .eq 11, 3) := by decide +kernel
theorem d_PC_sendOutcomes_20 : decode b_PC_sendOutcomes 20 = .ok (.aload_n 0, 1) := by decide +kernel
theorem d_PC_sendOutcomes_21 : decode b_PC_sendOutcomes 21 = .ok (.iconst 5, 1) := by decide +kernel
theorem d_PC_sendOutcomes_22 : decode b_PC_sendOutcomes 22 = .ok (.iload_n 1, 1) := by decide +kernel
theorem d_PC_sendOutcomes_23 : decode b_PC_sendOutcomes 23 = .ok (.iload_n 3, 1) := by decide +kernel
theorem d_PC_sendOutcomes_24 : decode b_PC_sendOutcomes 24 = .ok (.iload_n 2, 1) := by decide +kernel
theorem d_PC_sendOutcomes_25 : decode b_PC_sendOutcomes 25 = .ok (.invokevirtual 108, 3) := by decide +kernel
theorem d_PC_sendOutcomes_28 : decode b_PC_sendOutcomes 28 = .ok (.iinc 3 1, 3) := by decide +kernel
theorem d_PC_sendOutcomes_31 : decode b_PC_sendOutcomes 31 = .ok (.goto (-29), 3) := by decide +kernel
theorem d_PC_sendOutcomes_34 : decode b_PC_sendOutcomes 34 = .ok (.return_, 1) := by decide +kernel
theorem d_PC_sendReply_0 : decode b_PC_sendReply 0 = .ok (.aload_n 0, 1) := by decide +kernel
theorem d_PC_sendReply_1 : decode b_PC_sendReply 1 = .ok (.getfield 28, 3) := by decide +kernel
theorem d_PC_sendReply_4 : decode b_PC_sendReply 4 = .ok (.iconst 2, 1) := by decide +kernel
theorem d_PC_sendReply_5 : decode b_PC_sendReply 5 = .ok (.iload_n 2, 1) := by decide +kernel
theorem d_PC_sendReply_6 : decode b_PC_sendReply 6 = .ok (.invokevirtual 325, 3) := by decide +kernel
theorem d_PC_sendReply_9 : decode b_PC_sendReply 9 = .ok (.astore 4, 2) := by decide +kernel
theorem d_PC_sendReply_11 : decode b_PC_sendReply 11 = .ok (.aload 4, 2) := by decide +kernel
theorem d_PC_sendReply_13 : decode b_PC_sendReply 13 = .ok (.iload_n 1, 1) := by decide +kernel
theorem d_PC_sendReply_14 : decode b_PC_sendReply 14 = .ok (.putfield 266, 3) := by decide +kernel
theorem d_PC_sendReply_17 : decode b_PC_sendReply 17 = .ok (.aload 4, 2) := by decide +kernel
theorem d_PC_sendReply_19 : decode b_PC_sendReply 19 = .ok (.iload_n 3, 1) := by decide +kernel
theorem d_PC_sendReply_20 : decode b_PC_sendReply 20 = .ok (.iconst 2, 1) := by decide +kernel
theorem d_PC_sendReply_21 : decode b_PC_sendReply 21 = .ok (.invokestatic 332, 3) := by decide +kernel
theorem d_PC_sendReply_24 : decode b_PC_sendReply 24 = .ok (.putfield 282, 3) := by decide +kernel
theorem d_PC_sendReply_27 : decode b_PC_sendReply 27 = .ok (.aload 4, 2) := by decide +kernel
theorem d_PC_sendReply_29 : decode b_PC_sendReply 29 = .ok (.iload_n 3, 1) := by decide +kernel
theorem d_PC_sendReply_30 : decode b_PC_sendReply 30 = .ok (.putfield 269, 3) := by decide +kernel
theorem d_PC_sendReply_33 : decode b_PC_sendReply 33 = .ok (.iconst 0, 1) := by decide +kernel
theorem d_PC_sendReply_34 : decode b_PC_sendReply 34 = .ok (.istore 5, 2) := by decide +kernel
theorem d_PC_sendReply_36 : decode b_PC_sendReply 36 = .ok (.iload 5, 2) := by decide +kernel
theorem d_PC_sendReply_38 : decode b_PC_sendReply 38 = .ok (.iconst 3, 1) := by decide +kernel
theorem d_PC_sendReply_39 : decode b_PC_sendReply 39 = .ok (.if_icmp .ge 45, 3) := by decide +kernel
theorem d_PC_sendReply_42 : decode b_PC_sendReply 42 = .ok (.aload_n 0, 1) := by decide +kernel
theorem d_PC_sendReply_43 : decode b_PC_sendReply 43 = .ok (.getfield 32, 3) := by decide +kernel
theorem d_PC_sendReply_46 : decode b_PC_sendReply 46 = .ok (.iload_n 2, 1) := by decide +kernel
theorem d_PC_sendReply_47 : decode b_PC_sendReply 47 = .ok (.iaload, 1) := by decide +kernel
theorem d_PC_sendReply_48 : decode b_PC_sendReply 48 = .ok (.iload 5, 2) := by decide +kernel
theorem d_PC_sendReply_50 : decode b_PC_sendReply 50 = .ok (.invokestatic 105, 3) := by decide +kernel
theorem d_PC_sendReply_53 : decode b_PC_sendReply 53 = .ok (.ifCond .eq 25, 3) := by decide +kernel
theorem d_PC_sendReply_56 : decode b_PC_sendReply 56 = .ok (.aload 4, 2) := by decide +kernel
theorem d_PC_sendReply_58 : decode b_PC_sendReply 58 = .ok (.getfield 290, 3) := by decide +kernel
theorem d_PC_sendReply_61 : decode b_PC_sendReply 61 = .ok (.iload 5, 2) := by decide +kernel
theorem d_PC_sendReply_63 : decode b_PC_sendReply 63 = .ok (.aload_n 0, 1) := by decide +kernel
theorem d_PC_sendReply_64 : decode b_PC_sendReply 64 = .ok (.getfield 48, 3) := by decide +kernel
theorem d_PC_sendReply_67 : decode b_PC_sendReply 67 = .ok (.iload_n 1, 1) := by decide +kernel
theorem d_PC_sendReply_68 : decode b_PC_sendReply 68 = .ok (.aaload, 1) := by decide +kernel
theorem d_PC_sendReply_69 : decode b_PC_sendReply 69 = .ok (.getfield 207, 3) := by decide +kernel
theorem d_PC_sendReply_72 : decode b_PC_sendReply 72 = .ok (.iload_n 2, 1) := by decide +kernel
theorem d_PC_sendReply_73 : decode b_PC_sendReply 73 = .ok (.aaload, 1) := by decide +kernel
theorem d_PC_sendReply_74 : decode b_PC_sendReply 74 = .ok (.iload 5, 2) := by decide +kernel
theorem d_PC_sendReply_76 : decode b_PC_sendReply 76 = .ok (.iaload, 1) := by decide +kernel
theorem d_PC_sendReply_77 : decode b_PC_sendReply 77 = .ok (.iastore, 1) := by decide +kernel
theorem d_PC_sendReply_78 : decode b_PC_sendReply 78 = .ok (.iinc 5 1, 3) := by decide +kernel
theorem d_PC_sendReply_81 : decode b_PC_sendReply 81 = .ok (.goto (-45), 3) := by decide +kernel
theorem d_PC_sendReply_84 : decode b_PC_sendReply 84 = .ok (.aload_n 0, 1) := by decide +kernel
theorem d_PC_sendReply_85 : decode b_PC_sendReply 85 = .ok (.getfield 28, 3) := by decide +kernel
theorem d_PC_sendReply_88 : decode b_PC_sendReply 88 = .ok (.aload 4, 2) := by decide +kernel
theorem d_PC_sendReply_90 : decode b_PC_sendReply 90 = .ok (.invokevirtual 329, 3) := by decide +kernel
theorem d_PC_sendReply_93 : decode b_PC_sendReply 93 = .ok (.return_, 1) := by decide +kernel
theorem d_PC_sendToStore_0 : decode b_PC_sendToStore 0 = .ok (.aload_n 0, 1) := by decide +kernel
theorem d_PC_sendToStore_1 : decode b_PC_sendToStore 1 = .ok (.getfield 28, 3) := by decide +kernel
theorem d_PC_sendToStore_4 : decode b_PC_sendToStore 4 = .ok (.iload_n 1, 1) := by decide +kernel
theorem d_PC_sendToStore_5 : decode b_PC_sendToStore 5 = .ok (.iload_n 2, 1) := by decide +kernel
theorem d_PC_sendToStore_6 : decode b_PC_sendToStore 6 = .ok (.invokevirtual 325, 3) := by decide +kernel
theorem d_PC_sendToStore_9 : decode b_PC_sendToStore 9 = .ok (.astore 5, 2) := by decide +kernel
theorem d_PC_sendToStore_11 : decode b_PC_sendToStore 11 = .ok (.aload 5, 2) := by decide +kernel
theorem d_PC_sendToStore_13 : decode b_PC_sendToStore 13 = .ok (.iload_n 3, 1) := by decide +kernel
theorem d_PC_sendToStore_14 : decode b_PC_sendToStore 14 = .ok (.putfield 260, 3) := by decide +kernel
theorem d_PC_sendToStore_17 : decode b_PC_sendToStore 17 = .ok (.aload 5, 2) := by decide +kernel
theorem d_PC_sendToStore_19 : decode b_PC_sendToStore 19 = .ok (.iload 4, 2) := by decide +kernel
theorem d_PC_sendToStore_21 : decode b_PC_sendToStore 21 = .ok (.putfield 303, 3) := by decide +kernel
theorem d_PC_sendToStore_24 : decode b_PC_sendToStore 24 = .ok (.aload_n 0, 1) := by decide +kernel
theorem d_PC_sendToStore_25 : decode b_PC_sendToStore 25 = .ok (.getfield 28, 3) := by decide +kernel
theorem d_PC_sendToStore_28 : decode b_PC_sendToStore 28 = .ok (.aload 5, 2) := by decide +kernel
theorem d_PC_sendToStore_30 : decode b_PC_sendToStore 30 = .ok (.invokevirtual 329, 3) := by decide +kernel
theorem d_PC_sendToStore_33 : decode b_PC_sendToStore 33 = .ok (.return_, 1) := by decide +kernel
theorem d_PC_sendTold_0 : decode b_PC_sendTold 0 = .ok (.aload_n 0, 1) := by decide +kernel
theorem d_PC_sendTold_1 : decode b_PC_sendTold 1 = .ok (.getfield 28, 3) := by decide +kernel
theorem d_PC_sendTold_4 : decode b_PC_sendTold 4 = .ok (.iconst 4, 1) := by decide +kernel
theorem d_PC_sendTold_5 : decode b_PC_sendTold 5 = .ok (.aload_n 1, 1) := by decide +kernel
theorem d_PC_sendTold_6 : decode b_PC_sendTold 6 = .ok (.getfield 263, 3) := by decide +kernel
theorem d_PC_sendTold_9 : decode b_PC_sendTold 9 = .ok (.invokevirtual 325, 3) := by decide +kernel
theorem d_PC_sendTold_12 : decode b_PC_sendTold 12 = .ok (.astore_n 3, 1) := by decide +kernel
theorem d_PC_sendTold_13 : decode b_PC_sendTold 13 = .ok (.aload_n 3, 1) := by decide +kernel
theorem d_PC_sendTold_14 : decode b_PC_sendTold 14 = .ok (.aload_n 1, 1) := by decide +kernel
theorem d_PC_sendTold_15 : decode b_PC_sendTold 15 = .ok (.getfield 260, 3) := by decide +kernel
theorem d_PC_sendTold_18 : decode b_PC_sendTold 18 = .ok (.putfield 260, 3) := by decide +kernel
theorem d_PC_sendTold_21 : decode b_PC_sendTold 21 = .ok (.aload_n 3, 1) := by decide +kernel
theorem d_PC_sendTold_22 : decode b_PC_sendTold 22 = .ok (.aload_n 1, 1) := by decide +kernel
theorem d_PC_sendTold_23 : decode b_PC_sendTold 23 = .ok (.getfield 266, 3) := by decide +kernel
theorem d_PC_sendTold_26 : decode b_PC_sendTold 26 = .ok (.putfield 266, 3) := by decide +kernel
theorem d_PC_sendTold_29 : decode b_PC_sendTold 29 = .ok (.aload_n 3, 1) := by decide +kernel
theorem d_PC_sendTold_30 : decode b_PC_sendTold 30 = .ok (.iload_n 2, 1) := by decide +kernel
theorem d_PC_sendTold_31 : decode b_PC_sendTold 31 = .ok (.putfield 282, 3) := by decide +kernel
theorem d_PC_sendTold_34 : decode b_PC_sendTold 34 = .ok (.aload_n 3, 1) := by decide +kernel
theorem d_PC_sendTold_35 : decode b_PC_sendTold 35 = .ok (.aload_n 1, 1) := by decide +kernel
theorem d_PC_sendTold_36 : decode b_PC_sendTold 36 = .ok (.getfield 269, 3) := by decide +kernel
theorem d_PC_sendTold_39 : decode b_PC_sendTold 39 = .ok (.putfield 269, 3) := by decide +kernel
theorem d_PC_sendTold_42 : decode b_PC_sendTold 42 = .ok (.aload_n 3, 1) := by decide +kernel
theorem d_PC_sendTold_43 : decode b_PC_sendTold 43 = .ok (.aload_n 1, 1) := by decide +kernel
theorem d_PC_sendTold_44 : decode b_PC_sendTold 44 = .ok (.getfield 303, 3) := by decide +kernel
theorem d_PC_sendTold_47 : decode b_PC_sendTold 47 = .ok (.putfield 303, 3) := by decide +kernel
theorem d_PC_sendTold_50 : decode b_PC_sendTold 50 = .ok (.aload_n 0, 1) := by decide +kernel
theorem d_PC_sendTold_51 : decode b_PC_sendTold 51 = .ok (.getfield 28, 3) := by decide +kernel
theorem d_PC_sendTold_54 : decode b_PC_sendTold 54 = .ok (.aload_n 3, 1) := by decide +kernel
theorem d_PC_sendTold_55 : decode b_PC_sendTold 55 = .ok (.invokevirtual 329, 3) := by decide +kernel
theorem d_PC_sendTold_58 : decode b_PC_sendTold 58 = .ok (.return_, 1) := by decide +kernel
theorem d_PC_sendVotes_0 : decode b_PC_sendVotes 0 = .ok (.iconst 0, 1) := by decide +kernel
theorem d_PC_sendVotes_1 : decode b_PC_sendVotes 1 = .ok (.istore 5, 2) := by decide +kernel
