theorem d_PC_write_96 : decode b_PC_write 96 = .ok (.iload_n 1, 1) := by decide +kernel
theorem d_PC_write_97 : decode b_PC_write 97 = .ok (.aload_n 0, 1) := by decide +kernel
theorem d_PC_write_98 : decode b_PC_write 98 = .ok (.getfield 32, 3) := by decide +kernel
theorem d_PC_write_101 : decode b_PC_write 101 = .ok (.iload_n 1, 1) := by decide +kernel
theorem d_PC_write_102 : decode b_PC_write 102 = .ok (.iaload, 1) := by decide +kernel
theorem d_PC_write_103 : decode b_PC_write 103 = .ok (.iload_n 2, 1) := by decide +kernel
theorem d_PC_write_104 : decode b_PC_write 104 = .ok (.invokestatic 93, 3) := by decide +kernel
theorem d_PC_write_107 : decode b_PC_write 107 = .ok (.iastore, 1) := by decide +kernel
theorem d_PC_write_108 : decode b_PC_write 108 = .ok (.aload 5, 2) := by decide +kernel
theorem d_PC_write_110 : decode b_PC_write 110 = .ok (.iload_n 1, 1) := by decide +kernel
theorem d_PC_write_111 : decode b_PC_write 111 = .ok (.invokevirtual 97, 3) := by decide +kernel
theorem d_PC_write_114 : decode b_PC_write 114 = .ok (.ireturn, 1) := by decide +kernel
theorem d_Preconditions_checkIndex_0 : decode b_Preconditions_checkIndex 0 = .ok (.iload_n 0, 1) := by decide +kernel
theorem d_Preconditions_checkIndex_1 : decode b_Preconditions_checkIndex 1 = .ok (.ifCond .lt 8, 3) := by decide +kernel
theorem d_Preconditions_checkIndex_4 : decode b_Preconditions_checkIndex 4 = .ok (.iload_n 0, 1) := by decide +kernel
theorem d_Preconditions_checkIndex_5 : decode b_Preconditions_checkIndex 5 = .ok (.iload_n 1, 1) := by decide +kernel
theorem d_Preconditions_checkIndex_6 : decode b_Preconditions_checkIndex 6 = .ok (.if_icmp .lt 10, 3) := by decide +kernel
theorem d_Preconditions_checkIndex_9 : decode b_Preconditions_checkIndex 9 = .ok (.aload_n 2, 1) := by decide +kernel
theorem d_Preconditions_checkIndex_10 : decode b_Preconditions_checkIndex 10 = .ok (.iload_n 0, 1) := by decide +kernel
theorem d_Preconditions_checkIndex_11 : decode b_Preconditions_checkIndex 11 = .ok (.iload_n 1, 1) := by decide +kernel
theorem d_Preconditions_checkIndex_12 : decode b_Preconditions_checkIndex 12 = .ok (.invokestatic 95, 3) := by decide +kernel
theorem d_Preconditions_checkIndex_15 : decode b_Preconditions_checkIndex 15 = .ok (.athrow, 1) := by decide +kernel
theorem d_Preconditions_checkIndex_16 : decode b_Preconditions_checkIndex 16 = .ok (.iload_n 0, 1) := by decide +kernel
theorem d_Preconditions_checkIndex_17 : decode b_Preconditions_checkIndex 17 = .ok (.ireturn, 1) := by decide +kernel
theorem d_SB_append_C_0 : decode b_SB_append_C 0 = .ok (.aload_n 0, 1) := by decide +kernel
theorem d_SB_append_C_1 : decode b_SB_append_C 1 = .ok (.iload_n 1, 1) := by decide +kernel
theorem d_SB_append_C_2 : decode b_SB_append_C 2 = .ok (.invokespecial 50, 3) := by decide +kernel
theorem d_SB_append_C_5 : decode b_SB_append_C 5 = .ok (.pop, 1) := by decide +kernel
theorem d_SB_append_C_6 : decode b_SB_append_C 6 = .ok (.aload_n 0, 1) := by decide +kernel
theorem d_SB_append_C_7 : decode b_SB_append_C 7 = .ok (.areturn, 1) := by decide +kernel
theorem d_SB_append_I_0 : decode b_SB_append_I 0 = .ok (.aload_n 0, 1) := by decide +kernel
theorem d_SB_append_I_1 : decode b_SB_append_I 1 = .ok (.iload_n 1, 1) := by decide +kernel
theorem d_SB_append_I_2 : decode b_SB_append_I 2 = .ok (.invokespecial 53, 3) := by decide +kernel
theorem d_SB_append_I_5 : decode b_SB_append_I 5 = .ok (.pop, 1) := by decide +kernel
theorem d_SB_append_I_6 : decode b_SB_append_I 6 = .ok (.aload_n 0, 1) := by decide +kernel
theorem d_SB_append_I_7 : decode b_SB_append_I 7 = .ok (.areturn, 1) := by decide +kernel
theorem d_SB_charAt_0 : decode b_SB_charAt 0 = .ok (.aload_n 0, 1) := by decide +kernel
theorem d_SB_charAt_1 : decode b_SB_charAt 1 = .ok (.iload_n 1, 1) := by decide +kernel
theorem d_SB_charAt_2 : decode b_SB_charAt 2 = .ok (.invokespecial 329, 3) := by decide +kernel
theorem d_SB_charAt_5 : decode b_SB_charAt 5 = .ok (.ireturn, 1) := by decide +kernel
theorem d_SB_init_0 : decode b_SB_init 0 = .ok (.aload_n 0, 1) := by decide +kernel
theorem d_SB_init_1 : decode b_SB_init 1 = .ok (.bipush 16, 2) := by decide +kernel
theorem d_SB_init_3 : decode b_SB_init 3 = .ok (.invokespecial 1, 3) := by decide +kernel
theorem d_SB_init_6 : decode b_SB_init 6 = .ok (.return_, 1) := by decide +kernel
theorem d_SB_length_0 : decode b_SB_length 0 = .ok (.aload_n 0, 1) := by decide +kernel
theorem d_SB_length_1 : decode b_SB_length 1 = .ok (.invokespecial 343, 3) := by decide +kernel
theorem d_SB_length_4 : decode b_SB_length 4 = .ok (.ireturn, 1) := by decide +kernel
theorem d_Store_abort_0 : decode b_Store_abort 0 = .ok (.aload_n 0, 1) := by decide +kernel
theorem d_Store_abort_1 : decode b_Store_abort 1 = .ok (.getfield 18, 3) := by decide +kernel
theorem d_Store_abort_4 : decode b_Store_abort 4 = .ok (.iload_n 1, 1) := by decide +kernel
theorem d_Store_abort_5 : decode b_Store_abort 5 = .ok (.iconst 4, 1) := by decide +kernel
theorem d_Store_abort_6 : decode b_Store_abort 6 = .ok (.iastore, 1) := by decide +kernel
theorem d_Store_abort_7 : decode b_Store_abort 7 = .ok (.aload_n 0, 1) := by decide +kernel
theorem d_Store_abort_8 : decode b_Store_abort 8 = .ok (.iload_n 1, 1) := by decide +kernel
theorem d_Store_abort_9 : decode b_Store_abort 9 = .ok (.invokevirtual 49, 3) := by decide +kernel
theorem d_Store_abort_12 : decode b_Store_abort 12 = .ok (.return_, 1) := by decide +kernel
theorem d_Store_abortWork_0 : decode b_Store_abortWork 0 = .ok (.iconst 0, 1) := by decide +kernel
theorem d_Store_abortWork_1 : decode b_Store_abortWork 1 = .ok (.istore_n 1, 1) := by decide +kernel
theorem d_Store_abortWork_2 : decode b_Store_abortWork 2 = .ok (.iload_n 1, 1) := by decide +kernel
theorem d_Store_abortWork_3 : decode b_Store_abortWork 3 = .ok (.bipush 8, 2) := by decide +kernel
theorem d_Store_abortWork_5 : decode b_Store_abortWork 5 = .ok (.if_icmp .ge 24, 3) := by decide +kernel
theorem d_Store_abortWork_8 : decode b_Store_abortWork 8 = .ok (.aload_n 0, 1) := by decide +kernel
theorem d_Store_abortWork_9 : decode b_Store_abortWork 9 = .ok (.getfield 18, 3) := by decide +kernel
theorem d_Store_abortWork_12 : decode b_Store_abortWork 12 = .ok (.iload_n 1, 1) := by decide +kernel
theorem d_Store_abortWork_13 : decode b_Store_abortWork 13 = .ok (.iaload, 1) := by decide +kernel
theorem d_Store_abortWork_14 : decode b_Store_abortWork 14 = .ok (.iconst 1, 1) := by decide +kernel
theorem d_Store_abortWork_15 : decode b_Store_abortWork 15 = .ok (.if_icmp .ne 8, 3) := by decide +kernel
theorem d_Store_abortWork_18 : decode b_Store_abortWork 18 = .ok (.aload_n 0, 1) := by decide +kernel
theorem d_Store_abortWork_19 : decode b_Store_abortWork 19 = .ok (.iload_n 1, 1) := by decide +kernel
theorem d_Store_abortWork_20 : decode b_Store_abortWork 20 = .ok (.invokevirtual 53, 3) := by decide +kernel
theorem d_Store_abortWork_23 : decode b_Store_abortWork 23 = .ok (.iinc 1 1, 3) := by decide +kernel
theorem d_Store_abortWork_26 : decode b_Store_abortWork 26 = .ok (.goto (-24), 3) := by decide +kernel
theorem d_Store_abortWork_29 : decode b_Store_abortWork 29 = .ok (.return_, 1) := by decide +kernel
theorem d_Store_commit_0 : decode b_Store_commit 0 = .ok (.iconst 0, 1) := by decide +kernel
theorem d_Store_commit_1 : decode b_Store_commit 1 = .ok (.istore_n 2, 1) := by decide +kernel
theorem d_Store_commit_2 : decode b_Store_commit 2 = .ok (.iload_n 2, 1) := by decide +kernel
theorem d_Store_commit_3 : decode b_Store_commit 3 = .ok (.iconst 4, 1) := by decide +kernel
theorem d_Store_commit_4 : decode b_Store_commit 4 = .ok (.if_icmp .ge 36, 3) := by decide +kernel
theorem d_Store_commit_7 : decode b_Store_commit 7 = .ok (.aload_n 0, 1) := by decide +kernel
theorem d_Store_commit_8 : decode b_Store_commit 8 = .ok (.getfield 21, 3) := by decide +kernel
theorem d_Store_commit_11 : decode b_Store_commit 11 = .ok (.iload_n 1, 1) := by decide +kernel
theorem d_Store_commit_12 : decode b_Store_commit 12 = .ok (.iaload, 1) := by decide +kernel
theorem d_Store_commit_13 : decode b_Store_commit 13 = .ok (.iload_n 2, 1) := by decide +kernel
theorem d_Store_commit_14 : decode b_Store_commit 14 = .ok (.invokestatic 45, 3) := by decide +kernel
theorem d_Store_commit_17 : decode b_Store_commit 17 = .ok (.ifCond .eq 17, 3) := by decide +kernel
theorem d_Store_commit_20 : decode b_Store_commit 20 = .ok (.aload_n 0, 1) := by decide +kernel
theorem d_Store_commit_21 : decode b_Store_commit 21 = .ok (.getfield 9, 3) := by decide +kernel
theorem d_Store_commit_24 : decode b_Store_commit 24 = .ok (.iload_n 2, 1) := by decide +kernel
theorem d_Store_commit_25 : decode b_Store_commit 25 = .ok (.aload_n 0, 1) := by decide +kernel
theorem d_Store_commit_26 : decode b_Store_commit 26 = .ok (.getfield 26, 3) := by decide +kernel
theorem d_Store_commit_29 : decode b_Store_commit 29 = .ok (.iload_n 1, 1) := by decide +kernel
theorem d_Store_commit_30 : decode b_Store_commit 30 = .ok (.aaload, 1) := by decide +kernel
theorem d_Store_commit_31 : decode b_Store_commit 31 = .ok (.iload_n 2, 1) := by decide +kernel
theorem d_Store_commit_32 : decode b_Store_commit 32 = .ok (.iaload, 1) := by decide +kernel
theorem d_Store_commit_33 : decode b_Store_commit 33 = .ok (.iastore, 1) := by decide +kernel
theorem d_Store_commit_34 : decode b_Store_commit 34 = .ok (.iinc 2 1, 3) := by decide +kernel
theorem d_Store_commit_37 : decode b_Store_commit 37 = .ok (.goto (-35), 3) := by decide +kernel
theorem d_Store_commit_40 : decode b_Store_commit 40 = .ok (.aload_n 0, 1) := by decide +kernel
theorem d_Store_commit_41 : decode b_Store_commit 41 = .ok (.getfield 18, 3) := by decide +kernel
theorem d_Store_commit_44 : decode b_Store_commit 44 = .ok (.iload_n 1, 1) := by decide +kernel
theorem d_Store_commit_45 : decode b_Store_commit 45 = .ok (.iconst 3, 1) := by decide +kernel
theorem d_Store_commit_46 : decode b_Store_commit 46 = .ok (.iastore, 1) := by decide +kernel
theorem d_Store_commit_47 : decode b_Store_commit 47 = .ok (.aload_n 0, 1) := by decide +kernel
theorem d_Store_commit_48 : decode b_Store_commit 48 = .ok (.iload_n 1, 1) := by decide +kernel
theorem d_Store_commit_49 : decode b_Store_commit 49 = .ok (.invokevirtual 49, 3) := by decide +kernel
theorem d_Store_commit_52 : decode b_Store_commit 52 = .ok (.return_, 1) := by decide +kernel
theorem d_Store_init_0 : decode b_Store_init 0 = .ok (.aload_n 0, 1) := by decide +kernel
theorem d_Store_init_1 : decode b_Store_init 1 = .ok (.invokespecial 3, 3) := by decide +kernel
theorem d_Store_init_4 : decode b_Store_init 4 = .ok (.aload_n 0, 1) := by decide +kernel
theorem d_Store_init_5 : decode b_Store_init 5 = .ok (.iconst 4, 1) := by decide +kernel
theorem d_Store_init_6 : decode b_Store_init 6 = .ok (.newarray .int, 2) := by decide +kernel
theorem d_Store_init_8 : decode b_Store_init 8 = .ok (.putfield 9, 3) := by decide +kernel
theorem d_Store_init_11 : decode b_Store_init 11 = .ok (.aload_n 0, 1) := by decide +kernel
theorem d_Store_init_12 : decode b_Store_init 12 = .ok (.iconst 4, 1) := by decide +kernel
theorem d_Store_init_13 : decode b_Store_init 13 = .ok (.newarray .int, 2) := by decide +kernel
theorem d_Store_init_15 : decode b_Store_init 15 = .ok (.putfield 15, 3) := by decide +kernel
theorem d_Store_init_18 : decode b_Store_init 18 = .ok (.aload_n 0, 1) := by decide +kernel
theorem d_Store_init_19 : decode b_Store_init 19 = .ok (.bipush 8, 2) := by decide +kernel
theorem d_Store_init_21 : decode b_Store_init 21 = .ok (.newarray .int, 2) := by decide +kernel
theorem d_Store_init_23 : decode b_Store_init 23 = .ok (.putfield 18, 3) := by decide +kernel
theorem d_Store_init_26 : decode b_Store_init 26 = .ok (.aload_n 0, 1) := by decide +kernel
theorem d_Store_init_27 : decode b_Store_init 27 = .ok (.bipush 8, 2) := by decide +kernel
theorem d_Store_init_29 : decode b_Store_init 29 = .ok (.newarray .int, 2) := by decide +kernel
theorem d_Store_init_31 : decode b_Store_init 31 = .ok (.putfield 21, 3) := by decide +kernel
theorem d_Store_init_34 : decode b_Store_init 34 = .ok (.aload_n 0, 1) := by decide +kernel
theorem d_Store_init_35 : decode b_Store_init 35 = .ok (.bipush 8, 2) := by decide +kernel
theorem d_Store_init_37 : decode b_Store_init 37 = .ok (.iconst 4, 1) := by decide +kernel
theorem d_Store_init_38 : decode b_Store_init 38 = .ok (.multianewarray 24 2, 4) := by decide +kernel
theorem d_Store_init_42 : decode b_Store_init 42 = .ok (.putfield 26, 3) := by decide +kernel
theorem d_Store_init_45 : decode b_Store_init 45 = .ok (.aload_n 0, 1) := by decide +kernel
theorem d_Store_init_46 : decode b_Store_init 46 = .ok (.getfield 15, 3) := by decide +kernel
theorem d_Store_init_49 : decode b_Store_init 49 = .ok (.iconst (-1), 1) := by decide +kernel
theorem d_Store_init_50 : decode b_Store_init 50 = .ok (.invokestatic 29, 3) := by decide +kernel
theorem d_Store_init_53 : decode b_Store_init 53 = .ok (.return_, 1) := by decide +kernel
theorem d_Store_isLockedByAnother_0 : decode b_Store_isLockedByAnother 0 = .ok (.aload_n 0, 1) := by decide +kernel
theorem d_Store_isLockedByAnother_1 : decode b_Store_isLockedByAnother 1 = .ok (.getfield 15, 3) := by decide +kernel
theorem d_Store_isLockedByAnother_4 : decode b_Store_isLockedByAnother 4 = .ok (.iload_n 2, 1) := by decide +kernel
theorem d_Store_isLockedByAnother_5 : decode b_Store_isLockedByAnother 5 = .ok (.iaload, 1) := by decide +kernel
theorem d_Store_isLockedByAnother_6 : decode b_Store_isLockedByAnother 6 = .ok (.iconst (-1), 1) := by decide +kernel
theorem d_Store_isLockedByAnother_7 : decode b_Store_isLockedByAnother 7 = .ok (.if_icmp .eq 17, 3) := by decide +kernel
theorem d_Store_isLockedByAnother_10 : decode b_Store_isLockedByAnother 10 = .ok (.aload_n 0, 1) := by decide +kernel
theorem d_Store_isLockedByAnother_11 : decode b_Store_isLockedByAnother 11 = .ok (.getfield 15, 3) := by decide +kernel
theorem d_Store_isLockedByAnother_14 : decode b_Store_isLockedByAnother 14 = .ok (.iload_n 2, 1) := by decide +kernel
theorem d_Store_isLockedByAnother_15 : decode b_Store_isLockedByAnother 15 = .ok (.iaload, 1) := by decide +kernel
theorem d_Store_isLockedByAnother_16 : decode b_Store_isLockedByAnother 16 = .ok (.iload_n 1, 1) := by decide +kernel
theorem d_Store_isLockedByAnother_17 : decode b_Store_isLockedByAnother 17 = .ok (.if_icmp .eq 7, 3) := by decide +kernel
theorem d_Store_isLockedByAnother_20 : decode b_Store_isLockedByAnother 20 = .ok (.iconst 1, 1) := by decide +kernel
theorem d_Store_isLockedByAnother_21 : decode b_Store_isLockedByAnother 21 = .ok (.goto 4, 3) := by decide +kernel
theorem d_Store_isLockedByAnother_24 : decode b_Store_isLockedByAnother 24 = .ok (.iconst 0, 1) := by decide +kernel
theorem d_Store_isLockedByAnother_25 : decode b_Store_isLockedByAnother 25 = .ok (.ireturn, 1) := by decide +kernel
theorem d_Store_isOpenFor_0 : decode b_Store_isOpenFor 0 = .ok (.aload_n 0, 1) := by decide +kernel
theorem d_Store_isOpenFor_1 : decode b_Store_isOpenFor 1 = .ok (.getfield 18, 3) := by decide +kernel
theorem d_Store_isOpenFor_4 : decode b_Store_isOpenFor 4 = .ok (.iload_n 1, 1) := by decide +kernel
theorem d_Store_isOpenFor_5 : decode b_Store_isOpenFor 5 = .ok (.iaload, 1) := by decide +kernel
theorem d_Store_isOpenFor_6 : decode b_Store_isOpenFor 6 = .ok (.ifCond .eq 13, 3) := by decide +kernel
theorem d_Store_isOpenFor_9 : decode b_Store_isOpenFor 9 = .ok (.aload_n 0, 1) := by decide +kernel
theorem d_Store_isOpenFor_10 : decode b_Store_isOpenFor 10 = .ok (.getfield 18, 3) := by decide +kernel
theorem d_Store_isOpenFor_13 : decode b_Store_isOpenFor 13 = .ok (.iload_n 1, 1) := by decide +kernel
theorem d_Store_isOpenFor_14 : decode b_Store_isOpenFor 14 = .ok (.iaload, 1) := by decide +kernel
theorem d_Store_isOpenFor_15 : decode b_Store_isOpenFor 15 = .ok (.iconst 1, 1) := by decide +kernel
theorem d_Store_isOpenFor_16 : decode b_Store_isOpenFor 16 = .ok (.if_icmp .ne 7, 3) := by decide +kernel
theorem d_Store_isOpenFor_19 : decode b_Store_isOpenFor 19 = .ok (.iconst 1, 1) := by decide +kernel
theorem d_Store_isOpenFor_20 : decode b_Store_isOpenFor 20 = .ok (.goto 4, 3) := by decide +kernel
theorem d_Store_isOpenFor_23 : decode b_Store_isOpenFor 23 = .ok (.iconst 0, 1) := by decide +kernel
theorem d_Store_isOpenFor_24 : decode b_Store_isOpenFor 24 = .ok (.ireturn, 1) := by decide +kernel
theorem d_Store_keep_0 : decode b_Store_keep 0 = .ok (.aload_n 0, 1) := by decide +kernel
theorem d_Store_keep_1 : decode b_Store_keep 1 = .ok (.getfield 18, 3) := by decide +kernel
theorem d_Store_keep_4 : decode b_Store_keep 4 = .ok (.iload_n 1, 1) := by decide +kernel
theorem d_Store_keep_5 : decode b_Store_keep 5 = .ok (.iconst 1, 1) := by decide +kernel
theorem d_Store_keep_6 : decode b_Store_keep 6 = .ok (.iastore, 1) := by decide +kernel
theorem d_Store_keep_7 : decode b_Store_keep 7 = .ok (.aload_n 0, 1) := by decide +kernel
theorem d_Store_keep_8 : decode b_Store_keep 8 = .ok (.getfield 15, 3) := by decide +kernel
theorem d_Store_keep_11 : decode b_Store_keep 11 = .ok (.iload_n 2, 1) := by decide +kernel
theorem d_Store_keep_12 : decode b_Store_keep 12 = .ok (.iload_n 1, 1) := by decide +kernel
theorem d_Store_keep_13 : decode b_Store_keep 13 = .ok (.iastore, 1) := by decide +kernel
theorem d_Store_keep_14 : decode b_Store_keep 14 = .ok (.aload_n 0, 1) := by decide +kernel
theorem d_Store_keep_15 : decode b_Store_keep 15 = .ok (.getfield 21, 3) := by decide +kernel
theorem d_Store_keep_18 : decode b_Store_keep 18 = .ok (.iload_n 1, 1) := by decide +kernel
theorem d_Store_keep_19 : decode b_Store_keep 19 = .ok (.aload_n 0, 1) := by decide +kernel
theorem d_Store_keep_20 : decode b_Store_keep 20 = .ok (.getfield 21, 3) := by decide +kernel
theorem d_Store_keep_23 : decode b_Store_keep 23 = .ok (.iload_n 1, 1) := by decide +kernel
theorem d_Store_keep_24 : decode b_Store_keep 24 = .ok (.iaload, 1) := by decide +kernel
theorem d_Store_keep_25 : decode b_Store_keep 25 = .ok (.iload_n 2, 1) := by decide +kernel
theorem d_Store_keep_26 : decode b_Store_keep 26 = .ok (.invokestatic 35, 3) := by decide +kernel
theorem d_Store_keep_29 : decode b_Store_keep 29 = .ok (.iastore, 1) := by decide +kernel
theorem d_Store_keep_30 : decode b_Store_keep 30 = .ok (.aload_n 0, 1) := by decide +kernel
theorem d_Store_keep_31 : decode b_Store_keep 31 = .ok (.getfield 26, 3) := by decide +kernel
theorem d_Store_keep_34 : decode b_Store_keep 34 = .ok (.iload_n 1, 1) := by decide +kernel
theorem d_Store_keep_35 : decode b_Store_keep 35 = .ok (.aaload, 1) := by decide +kernel
theorem d_Store_keep_36 : decode b_Store_keep 36 = .ok (.iload_n 2, 1) := by decide +kernel
theorem d_Store_keep_37 : decode b_Store_keep 37 = .ok (.iload_n 3, 1) := by decide +kernel
theorem d_Store_keep_38 : decode b_Store_keep 38 = .ok (.iastore, 1) := by decide +kernel
theorem d_Store_keep_39 : decode b_Store_keep 39 = .ok (.return_, 1) := by decide +kernel
theorem d_Store_keysWritten_0 : decode b_Store_keysWritten 0 = .ok (.aload_n 0, 1) := by decide +kernel
theorem d_Store_keysWritten_1 : decode b_Store_keysWritten 1 = .ok (.getfield 21, 3) := by decide +kernel
theorem d_Store_keysWritten_4 : decode b_Store_keysWritten 4 = .ok (.iload_n 1, 1) := by decide +kernel
theorem d_Store_keysWritten_5 : decode b_Store_keysWritten 5 = .ok (.iaload, 1) := by decide +kernel
theorem d_Store_keysWritten_6 : decode b_Store_keysWritten 6 = .ok (.invokestatic 39, 3) := by decide +kernel
theorem d_Store_keysWritten_9 : decode b_Store_keysWritten 9 = .ok (.ireturn, 1) := by decide +kernel
theorem d_Store_unlock_0 : decode b_Store_unlock 0 = .ok (.iconst 0, 1) := by decide +kernel
theorem d_Store_unlock_1 : decode b_Store_unlock 1 = .ok (.istore_n 2, 1) := by decide +kernel
theorem d_Store_unlock_2 : decode b_Store_unlock 2 = .ok (.iload_n 2, 1) := by decide +kernel
theorem d_Store_unlock_3 : decode b_Store_unlock 3 = .ok (.iconst 4, 1) := by decide +kernel
theorem d_Store_unlock_4 : decode b_Store_unlock 4 = .ok (.if_icmp .ge 26, 3) := by decide +kernel
theorem d_Store_unlock_7 : decode b_Store_unlock 7 = .ok (.aload_n 0, 1) := by decide +kernel
theorem d_Store_unlock_8 : decode b_Store_unlock 8 = .ok (.getfield 15, 3) := by decide +kernel
theorem d_Store_unlock_11 : decode b_Store_unlock 11 = .ok (.iload_n 2, 1) := by decide +kernel
theorem d_Store_unlock_12 : decode b_Store_unlock 12 = .ok (.iaload, 1) := by decide +kernel
theorem d_Store_unlock_13 : decode b_Store_unlock 13 = .ok (.iload_n 1, 1) := by decide +kernel
theorem d_Store_unlock_14 : decode b_Store_unlock 14 = .ok (.if_icmp .ne 10, 3) := by decide +kernel
theorem d_Store_unlock_17 : decode b_Store_unlock 17 = .ok (.aload_n 0, 1) := by decide +kernel
theorem d_Store_unlock_18 : decode b_Store_unlock 18 = .ok (.getfield 15, 3) := by decide +kernel
theorem d_Store_unlock_21 : decode b_Store_unlock 21 = .ok (.iload_n 2, 1) := by decide +kernel
theorem d_Store_unlock_22 : decode b_Store_unlock 22 = .ok (.iconst (-1), 1) := by decide +kernel
theorem d_Store_unlock_23 : decode b_Store_unlock 23 = .ok (.iastore, 1) := by decide +kernel
theorem d_Store_unlock_24 : decode b_Store_unlock 24 = .ok (.iinc 2 1, 3) := by decide +kernel
theorem d_Store_unlock_27 : decode b_Store_unlock 27 = .ok (.goto (-25), 3) := by decide +kernel
theorem d_Store_unlock_30 : decode b_Store_unlock 30 = .ok (.return_, 1) := by decide +kernel
theorem d_StringLatin1_canEncode_0 : decode b_StringLatin1_canEncode 0 = .ok (.iload_n 0, 1) := by decide +kernel
theorem d_StringLatin1_canEncode_1 : decode b_StringLatin1_canEncode 1 = .ok (.sipush 255, 3) := by decide +kernel
theorem d_StringLatin1_canEncode_4 : decode b_StringLatin1_canEncode 4 = .ok (.if_icmp .gt 7, 3) := by decide +kernel
theorem d_StringLatin1_canEncode_7 : decode b_StringLatin1_canEncode 7 = .ok (.iconst 1, 1) := by decide +kernel
theorem d_StringLatin1_canEncode_8 : decode b_StringLatin1_canEncode 8 = .ok (.goto 4, 3) := by decide +kernel
theorem d_StringLatin1_canEncode_11 : decode b_StringLatin1_canEncode 11 = .ok (.iconst 0, 1) := by decide +kernel
theorem d_StringLatin1_canEncode_12 : decode b_StringLatin1_canEncode 12 = .ok (.ireturn, 1) := by decide +kernel
theorem d_StringLatin1_charAt_0 : decode b_StringLatin1_charAt 0 = .ok (.iload_n 1, 1) := by decide +kernel
theorem d_StringLatin1_charAt_1 : decode b_StringLatin1_charAt 1 = .ok (.aload_n 0, 1) := by decide +kernel
theorem d_StringLatin1_charAt_2 : decode b_StringLatin1_charAt 2 = .ok (.arraylength, 1) := by decide +kernel
theorem d_StringLatin1_charAt_3 : decode b_StringLatin1_charAt 3 = .ok (.invokestatic 9, 3) := by decide +kernel
theorem d_StringLatin1_charAt_6 : decode b_StringLatin1_charAt 6 = .ok (.aload_n 0, 1) := by decide +kernel
theorem d_StringLatin1_charAt_7 : decode b_StringLatin1_charAt 7 = .ok (.iload_n 1, 1) := by decide +kernel
theorem d_StringLatin1_charAt_8 : decode b_StringLatin1_charAt 8 = .ok (.baload, 1) := by decide +kernel
theorem d_StringLatin1_charAt_9 : decode b_StringLatin1_charAt 9 = .ok (.sipush 255, 3) := by decide +kernel
theorem d_StringLatin1_charAt_12 : decode b_StringLatin1_charAt 12 = .ok (.iand, 1) := by decide +kernel
theorem d_StringLatin1_charAt_13 : decode b_StringLatin1_charAt 13 = .ok (.i2c, 1) := by decide +kernel
theorem d_StringLatin1_charAt_14 : decode b_StringLatin1_charAt 14 = .ok (.ireturn, 1) := by decide +kernel
theorem d_String_charAt_0 : decode b_String_charAt 0 = .ok (.aload_n 0, 1) := by decide +kernel
theorem d_String_charAt_1 : decode b_String_charAt 1 = .ok (.invokevirtual 492, 3) := by decide +kernel
theorem d_String_charAt_4 : decode b_String_charAt 4 = .ok (.ifCond .eq 12, 3) := by decide +kernel
theorem d_String_charAt_7 : decode b_String_charAt 7 = .ok (.aload_n 0, 1) := by decide +kernel
theorem d_String_charAt_8 : decode b_String_charAt 8 = .ok (.getfield 9, 3) := by decide +kernel
theorem d_String_charAt_11 : decode b_String_charAt 11 = .ok (.iload_n 1, 1) := by decide +kernel
theorem d_String_charAt_12 : decode b_String_charAt 12 = .ok (.invokestatic 495, 3) := by decide +kernel
theorem d_String_charAt_15 : decode b_String_charAt 15 = .ok (.ireturn, 1) := by decide +kernel
theorem d_String_charAt_16 : decode b_String_charAt 16 = .ok (.aload_n 0, 1) := by decide +kernel
theorem d_String_charAt_17 : decode b_String_charAt 17 = .ok (.getfield 9, 3) := by decide +kernel
theorem d_String_charAt_20 : decode b_String_charAt 20 = .ok (.iload_n 1, 1) := by decide +kernel
theorem d_String_charAt_21 : decode b_String_charAt 21 = .ok (.invokestatic 498, 3) := by decide +kernel
theorem d_String_charAt_24 : decode b_String_charAt 24 = .ok (.ireturn, 1) := by decide +kernel
theorem d_String_checkIndex_0 : decode b_String_checkIndex 0 = .ok (.iload_n 0, 1) := by decide +kernel
theorem d_String_checkIndex_1 : decode b_String_checkIndex 1 = .ok (.iload_n 1, 1) := by decide +kernel
theorem d_String_checkIndex_2 : decode b_String_checkIndex 2 = .ok (.getstatic 1053, 3) := by decide +kernel
theorem d_String_checkIndex_5 : decode b_String_checkIndex 5 = .ok (.invokestatic 1059, 3) := by decide +kernel
theorem d_String_checkIndex_8 : decode b_String_checkIndex 8 = .ok (.pop, 1) := by decide +kernel
theorem d_String_checkIndex_9 : decode b_String_checkIndex 9 = .ok (.return_, 1) := by decide +kernel
theorem d_String_isLatin1_0 : decode b_String_isLatin1 0 = .ok (.getstatic 38, 3) := by decide +kernel
theorem d_String_isLatin1_3 : decode b_String_isLatin1 3 = .ok (.ifCond .eq 14, 3) := by decide +kernel
theorem d_String_isLatin1_6 : decode b_String_isLatin1 6 = .ok (.aload_n 0, 1) := by decide +kernel
theorem d_String_isLatin1_7 : decode b_String_isLatin1 7 = .ok (.getfield 15, 3) := by decide +kernel
theorem d_String_isLatin1_10 : decode b_String_isLatin1 10 = .ok (.ifCond .ne 7, 3) := by decide +kernel
theorem d_String_isLatin1_13 : decode b_String_isLatin1 13 = .ok (.iconst 1, 1) := by decide +kernel
theorem d_String_isLatin1_14 : decode b_String_isLatin1 14 = .ok (.goto 4, 3) := by decide +kernel
theorem d_String_isLatin1_17 : decode b_String_isLatin1 17 = .ok (.iconst 0, 1) := by decide +kernel
theorem d_String_isLatin1_18 : decode b_String_isLatin1 18 = .ok (.ireturn, 1) := by decide +kernel
