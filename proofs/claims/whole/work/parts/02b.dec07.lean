theorem d_PC_init_64 : decode b_PC_init 64 = .ok (.iconst 1, 1) := by decide +kernel
theorem d_PC_init_65 : decode b_PC_init 65 = .ok (.goto 4, 3) := by decide +kernel
theorem d_PC_init_68 : decode b_PC_init 68 = .ok (.iconst 3, 1) := by decide +kernel
theorem d_PC_init_69 : decode b_PC_init 69 = .ok (.istore_n 2, 1) := by decide +kernel
theorem d_PC_init_70 : decode b_PC_init 70 = .ok (.aload_n 0, 1) := by decide +kernel
theorem d_PC_init_71 : decode b_PC_init 71 = .ok (.iload_n 1, 1) := by decide +kernel
theorem d_PC_init_72 : decode b_PC_init 72 = .ok (.ifCond .ne 7, 3) := by decide +kernel
theorem d_PC_init_75 : decode b_PC_init 75 = .ok (.iconst 1, 1) := by decide +kernel
theorem d_PC_init_76 : decode b_PC_init 76 = .ok (.goto 4, 3) := by decide +kernel
theorem d_PC_init_79 : decode b_PC_init 79 = .ok (.iconst 2, 1) := by decide +kernel
theorem d_PC_init_80 : decode b_PC_init 80 = .ok (.putfield 43, 3) := by decide +kernel
theorem d_PC_init_83 : decode b_PC_init 83 = .ok (.aload_n 0, 1) := by decide +kernel
theorem d_PC_init_84 : decode b_PC_init 84 = .ok (.iload_n 2, 1) := by decide +kernel
theorem d_PC_init_85 : decode b_PC_init 85 = .ok (.anewarray 46, 3) := by decide +kernel
theorem d_PC_init_88 : decode b_PC_init 88 = .ok (.putfield 48, 3) := by decide +kernel
theorem d_PC_init_91 : decode b_PC_init 91 = .ok (.iconst 0, 1) := by decide +kernel
theorem d_PC_init_92 : decode b_PC_init 92 = .ok (.istore_n 3, 1) := by decide +kernel
theorem d_PC_init_93 : decode b_PC_init 93 = .ok (.iload_n 3, 1) := by decide +kernel
theorem d_PC_init_94 : decode b_PC_init 94 = .ok (.iconst 3, 1) := by decide +kernel
theorem d_PC_init_95 : decode b_PC_init 95 = .ok (.if_icmp .ge 22, 3) := by decide +kernel
theorem d_PC_init_98 : decode b_PC_init 98 = .ok (.aload_n 0, 1) := by decide +kernel
theorem d_PC_init_99 : decode b_PC_init 99 = .ok (.getfield 11, 3) := by decide +kernel
theorem d_PC_init_102 : decode b_PC_init 102 = .ok (.iload_n 3, 1) := by decide +kernel
theorem d_PC_init_103 : decode b_PC_init 103 = .ok (.new 9, 3) := by decide +kernel
theorem d_PC_init_106 : decode b_PC_init 106 = .ok (.dup, 1) := by decide +kernel
theorem d_PC_init_107 : decode b_PC_init 107 = .ok (.invokespecial 52, 3) := by decide +kernel
theorem d_PC_init_110 : decode b_PC_init 110 = .ok (.aastore, 1) := by decide +kernel
theorem d_PC_init_111 : decode b_PC_init 111 = .ok (.iinc 3 1, 3) := by decide +kernel
theorem d_PC_init_114 : decode b_PC_init 114 = .ok (.goto (-21), 3) := by decide +kernel
theorem d_PC_init_117 : decode b_PC_init 117 = .ok (.iconst 0, 1) := by decide +kernel
theorem d_PC_init_118 : decode b_PC_init 118 = .ok (.istore_n 3, 1) := by decide +kernel
theorem d_PC_init_119 : decode b_PC_init 119 = .ok (.iload_n 3, 1) := by decide +kernel
theorem d_PC_init_120 : decode b_PC_init 120 = .ok (.iload_n 2, 1) := by decide +kernel
theorem d_PC_init_121 : decode b_PC_init 121 = .ok (.if_icmp .ge 22, 3) := by decide +kernel
theorem d_PC_init_124 : decode b_PC_init 124 = .ok (.aload_n 0, 1) := by decide +kernel
theorem d_PC_init_125 : decode b_PC_init 125 = .ok (.getfield 48, 3) := by decide +kernel
theorem d_PC_init_128 : decode b_PC_init 128 = .ok (.iload_n 3, 1) := by decide +kernel
theorem d_PC_init_129 : decode b_PC_init 129 = .ok (.new 46, 3) := by decide +kernel
theorem d_PC_init_132 : decode b_PC_init 132 = .ok (.dup, 1) := by decide +kernel
theorem d_PC_init_133 : decode b_PC_init 133 = .ok (.invokespecial 53, 3) := by decide +kernel
theorem d_PC_init_136 : decode b_PC_init 136 = .ok (.aastore, 1) := by decide +kernel
theorem d_PC_init_137 : decode b_PC_init 137 = .ok (.iinc 3 1, 3) := by decide +kernel
theorem d_PC_init_140 : decode b_PC_init 140 = .ok (.goto (-21), 3) := by decide +kernel
theorem d_PC_init_143 : decode b_PC_init 143 = .ok (.iconst 0, 1) := by decide +kernel
theorem d_PC_init_144 : decode b_PC_init 144 = .ok (.istore_n 3, 1) := by decide +kernel
theorem d_PC_init_145 : decode b_PC_init 145 = .ok (.iload_n 3, 1) := by decide +kernel
theorem d_PC_init_146 : decode b_PC_init 146 = .ok (.bipush 16, 2) := by decide +kernel
theorem d_PC_init_148 : decode b_PC_init 148 = .ok (.if_icmp .ge 23, 3) := by decide +kernel
theorem d_PC_init_151 : decode b_PC_init 151 = .ok (.aload_n 0, 1) := by decide +kernel
theorem d_PC_init_152 : decode b_PC_init 152 = .ok (.getfield 17, 3) := by decide +kernel
theorem d_PC_init_155 : decode b_PC_init 155 = .ok (.iload_n 3, 1) := by decide +kernel
theorem d_PC_init_156 : decode b_PC_init 156 = .ok (.new 15, 3) := by decide +kernel
theorem d_PC_init_159 : decode b_PC_init 159 = .ok (.dup, 1) := by decide +kernel
theorem d_PC_init_160 : decode b_PC_init 160 = .ok (.iload_n 2, 1) := by decide +kernel
theorem d_PC_init_161 : decode b_PC_init 161 = .ok (.invokespecial 54, 3) := by decide +kernel
theorem d_PC_init_164 : decode b_PC_init 164 = .ok (.aastore, 1) := by decide +kernel
theorem d_PC_init_165 : decode b_PC_init 165 = .ok (.iinc 3 1, 3) := by decide +kernel
theorem d_PC_init_168 : decode b_PC_init 168 = .ok (.goto (-23), 3) := by decide +kernel
theorem d_PC_init_171 : decode b_PC_init 171 = .ok (.aload_n 0, 1) := by decide +kernel
theorem d_PC_init_172 : decode b_PC_init 172 = .ok (.getfield 21, 3) := by decide +kernel
theorem d_PC_init_175 : decode b_PC_init 175 = .ok (.iconst 0, 1) := by decide +kernel
theorem d_PC_init_176 : decode b_PC_init 176 = .ok (.bipush 7, 2) := by decide +kernel
theorem d_PC_init_178 : decode b_PC_init 178 = .ok (.iastore, 1) := by decide +kernel
theorem d_PC_init_179 : decode b_PC_init 179 = .ok (.aload_n 0, 1) := by decide +kernel
theorem d_PC_init_180 : decode b_PC_init 180 = .ok (.getfield 21, 3) := by decide +kernel
theorem d_PC_init_183 : decode b_PC_init 183 = .ok (.iconst 1, 1) := by decide +kernel
theorem d_PC_init_184 : decode b_PC_init 184 = .ok (.iconst 1, 1) := by decide +kernel
theorem d_PC_init_185 : decode b_PC_init 185 = .ok (.iload_n 2, 1) := by decide +kernel
theorem d_PC_init_186 : decode b_PC_init 186 = .ok (.ishl, 1) := by decide +kernel
theorem d_PC_init_187 : decode b_PC_init 187 = .ok (.iconst 1, 1) := by decide +kernel
theorem d_PC_init_188 : decode b_PC_init 188 = .ok (.isub, 1) := by decide +kernel
theorem d_PC_init_189 : decode b_PC_init 189 = .ok (.iastore, 1) := by decide +kernel
theorem d_PC_init_190 : decode b_PC_init 190 = .ok (.aload_n 0, 1) := by decide +kernel
theorem d_PC_init_191 : decode b_PC_init 191 = .ok (.getfield 21, 3) := by decide +kernel
theorem d_PC_init_194 : decode b_PC_init 194 = .ok (.iconst 2, 1) := by decide +kernel
theorem d_PC_init_195 : decode b_PC_init 195 = .ok (.iconst 3, 1) := by decide +kernel
theorem d_PC_init_196 : decode b_PC_init 196 = .ok (.iastore, 1) := by decide +kernel
theorem d_PC_init_197 : decode b_PC_init 197 = .ok (.return_, 1) := by decide +kernel
theorem d_PC_ledger_0 : decode b_PC_ledger 0 = .ok (.aload_n 0, 1) := by decide +kernel
theorem d_PC_ledger_1 : decode b_PC_ledger 1 = .ok (.getfield 17, 3) := by decide +kernel
theorem d_PC_ledger_4 : decode b_PC_ledger 4 = .ok (.iload_n 1, 1) := by decide +kernel
theorem d_PC_ledger_5 : decode b_PC_ledger 5 = .ok (.bipush 8, 2) := by decide +kernel
theorem d_PC_ledger_7 : decode b_PC_ledger 7 = .ok (.imul, 1) := by decide +kernel
theorem d_PC_ledger_8 : decode b_PC_ledger 8 = .ok (.iload_n 2, 1) := by decide +kernel
theorem d_PC_ledger_9 : decode b_PC_ledger 9 = .ok (.iadd, 1) := by decide +kernel
theorem d_PC_ledger_10 : decode b_PC_ledger 10 = .ok (.aaload, 1) := by decide +kernel
theorem d_PC_ledger_11 : decode b_PC_ledger 11 = .ok (.areturn, 1) := by decide +kernel
theorem d_PC_lock_0 : decode b_PC_lock 0 = .ok (.iload_n 1, 1) := by decide +kernel
theorem d_PC_lock_1 : decode b_PC_lock 1 = .ok (.iconst 3, 1) := by decide +kernel
theorem d_PC_lock_2 : decode b_PC_lock 2 = .ok (.invokestatic 64, 3) := by decide +kernel
theorem d_PC_lock_5 : decode b_PC_lock 5 = .ok (.iload_n 2, 1) := by decide +kernel
theorem d_PC_lock_6 : decode b_PC_lock 6 = .ok (.iconst 4, 1) := by decide +kernel
theorem d_PC_lock_7 : decode b_PC_lock 7 = .ok (.invokestatic 64, 3) := by decide +kernel
theorem d_PC_lock_10 : decode b_PC_lock 10 = .ok (.aload_n 0, 1) := by decide +kernel
theorem d_PC_lock_11 : decode b_PC_lock 11 = .ok (.getfield 11, 3) := by decide +kernel
theorem d_PC_lock_14 : decode b_PC_lock 14 = .ok (.iload_n 1, 1) := by decide +kernel
theorem d_PC_lock_15 : decode b_PC_lock 15 = .ok (.aaload, 1) := by decide +kernel
theorem d_PC_lock_16 : decode b_PC_lock 16 = .ok (.getfield 195, 3) := by decide +kernel
theorem d_PC_lock_19 : decode b_PC_lock 19 = .ok (.iload_n 2, 1) := by decide +kernel
theorem d_PC_lock_20 : decode b_PC_lock 20 = .ok (.iaload, 1) := by decide +kernel
theorem d_PC_lock_21 : decode b_PC_lock 21 = .ok (.ireturn, 1) := by decide +kernel
theorem d_PC_lose_0 : decode b_PC_lose 0 = .ok (.aload_n 0, 1) := by decide +kernel
theorem d_PC_lose_1 : decode b_PC_lose 1 = .ok (.iload_n 1, 1) := by decide +kernel
theorem d_PC_lose_2 : decode b_PC_lose 2 = .ok (.invokevirtual 140, 3) := by decide +kernel
theorem d_PC_lose_5 : decode b_PC_lose 5 = .ok (.aload_n 0, 1) := by decide +kernel
theorem d_PC_lose_6 : decode b_PC_lose 6 = .ok (.getfield 28, 3) := by decide +kernel
theorem d_PC_lose_9 : decode b_PC_lose 9 = .ok (.iload_n 1, 1) := by decide +kernel
theorem d_PC_lose_10 : decode b_PC_lose 10 = .ok (.invokevirtual 147, 3) := by decide +kernel
theorem d_PC_lose_13 : decode b_PC_lose 13 = .ok (.aload_n 0, 1) := by decide +kernel
theorem d_PC_lose_14 : decode b_PC_lose 14 = .ok (.getfield 28, 3) := by decide +kernel
theorem d_PC_lose_17 : decode b_PC_lose 17 = .ok (.getfield 154, 3) := by decide +kernel
theorem d_PC_lose_20 : decode b_PC_lose 20 = .ok (.ireturn, 1) := by decide +kernel
theorem d_PC_outcome_0 : decode b_PC_outcome 0 = .ok (.iload_n 1, 1) := by decide +kernel
theorem d_PC_outcome_1 : decode b_PC_outcome 1 = .ok (.iconst 2, 1) := by decide +kernel
theorem d_PC_outcome_2 : decode b_PC_outcome 2 = .ok (.invokestatic 64, 3) := by decide +kernel
theorem d_PC_outcome_5 : decode b_PC_outcome 5 = .ok (.iload_n 2, 1) := by decide +kernel
theorem d_PC_outcome_6 : decode b_PC_outcome 6 = .ok (.bipush 8, 2) := by decide +kernel
theorem d_PC_outcome_8 : decode b_PC_outcome 8 = .ok (.invokestatic 64, 3) := by decide +kernel
theorem d_PC_outcome_11 : decode b_PC_outcome 11 = .ok (.aload_n 0, 1) := by decide +kernel
theorem d_PC_outcome_12 : decode b_PC_outcome 12 = .ok (.iload_n 2, 1) := by decide +kernel
theorem d_PC_outcome_13 : decode b_PC_outcome 13 = .ok (.invokevirtual 68, 3) := by decide +kernel
theorem d_PC_outcome_16 : decode b_PC_outcome 16 = .ok (.aload_n 0, 1) := by decide +kernel
theorem d_PC_outcome_17 : decode b_PC_outcome 17 = .ok (.iload_n 1, 1) := by decide +kernel
theorem d_PC_outcome_18 : decode b_PC_outcome 18 = .ok (.iload_n 2, 1) := by decide +kernel
theorem d_PC_outcome_19 : decode b_PC_outcome 19 = .ok (.invokevirtual 130, 3) := by decide +kernel
theorem d_PC_outcome_22 : decode b_PC_outcome 22 = .ok (.getfield 198, 3) := by decide +kernel
theorem d_PC_outcome_25 : decode b_PC_outcome 25 = .ok (.istore_n 3, 1) := by decide +kernel
theorem d_PC_outcome_26 : decode b_PC_outcome 26 = .ok (.iload_n 3, 1) := by decide +kernel
theorem d_PC_outcome_27 : decode b_PC_outcome 27 = .ok (.iconst (-1), 1) := by decide +kernel
theorem d_PC_outcome_28 : decode b_PC_outcome 28 = .ok (.if_icmp .ne 13, 3) := by decide +kernel
theorem d_PC_outcome_31 : decode b_PC_outcome 31 = .ok (.new 57, 3) := by decide +kernel
theorem d_PC_outcome_34 : decode b_PC_outcome 34 = .ok (.dup, 1) := by decide +kernel
theorem d_PC_outcome_35 : decode b_PC_outcome 35 = .ok (.ldc 201, 2) := by decide +kernel
theorem d_PC_outcome_37 : decode b_PC_outcome 37 = .ok (.invokespecial 61, 3) := by decide +kernel
theorem d_PC_outcome_40 : decode b_PC_outcome 40 = .ok (.athrow, 1) := by decide +kernel
theorem d_PC_outcome_41 : decode b_PC_outcome 41 = .ok (.iload_n 3, 1) := by decide +kernel
theorem d_PC_outcome_42 : decode b_PC_outcome 42 = .ok (.iconst 1, 1) := by decide +kernel
theorem d_PC_outcome_43 : decode b_PC_outcome 43 = .ok (.if_icmp .ne 7, 3) := by decide +kernel
theorem d_PC_outcome_46 : decode b_PC_outcome 46 = .ok (.iconst 0, 1) := by decide +kernel
theorem d_PC_outcome_47 : decode b_PC_outcome 47 = .ok (.goto 4, 3) := by decide +kernel
theorem d_PC_outcome_50 : decode b_PC_outcome 50 = .ok (.iconst 1, 1) := by decide +kernel
theorem d_PC_outcome_51 : decode b_PC_outcome 51 = .ok (.ireturn, 1) := by decide +kernel
theorem d_PC_pack_0 : decode b_PC_pack 0 = .ok (.iconst 2, 1) := by decide +kernel
theorem d_PC_pack_1 : decode b_PC_pack 1 = .ok (.iload_n 0, 1) := by decide +kernel
theorem d_PC_pack_2 : decode b_PC_pack 2 = .ok (.imul, 1) := by decide +kernel
theorem d_PC_pack_3 : decode b_PC_pack 3 = .ok (.iload_n 1, 1) := by decide +kernel
theorem d_PC_pack_4 : decode b_PC_pack 4 = .ok (.iadd, 1) := by decide +kernel
theorem d_PC_pack_5 : decode b_PC_pack 5 = .ok (.ireturn, 1) := by decide +kernel
theorem d_PC_refuse_0 : decode b_PC_refuse 0 = .ok (.iload_n 1, 1) := by decide +kernel
theorem d_PC_refuse_1 : decode b_PC_refuse 1 = .ok (.bipush 8, 2) := by decide +kernel
theorem d_PC_refuse_3 : decode b_PC_refuse 3 = .ok (.invokestatic 64, 3) := by decide +kernel
theorem d_PC_refuse_6 : decode b_PC_refuse 6 = .ok (.iload_n 2, 1) := by decide +kernel
theorem d_PC_refuse_7 : decode b_PC_refuse 7 = .ok (.iconst 3, 1) := by decide +kernel
theorem d_PC_refuse_8 : decode b_PC_refuse 8 = .ok (.invokestatic 64, 3) := by decide +kernel
theorem d_PC_refuse_11 : decode b_PC_refuse 11 = .ok (.aload_n 0, 1) := by decide +kernel
theorem d_PC_refuse_12 : decode b_PC_refuse 12 = .ok (.iload_n 1, 1) := by decide +kernel
theorem d_PC_refuse_13 : decode b_PC_refuse 13 = .ok (.invokevirtual 68, 3) := by decide +kernel
theorem d_PC_refuse_16 : decode b_PC_refuse 16 = .ok (.aload_n 0, 1) := by decide +kernel
theorem d_PC_refuse_17 : decode b_PC_refuse 17 = .ok (.iconst 0, 1) := by decide +kernel
theorem d_PC_refuse_18 : decode b_PC_refuse 18 = .ok (.iload_n 2, 1) := by decide +kernel
theorem d_PC_refuse_19 : decode b_PC_refuse 19 = .ok (.invokevirtual 71, 3) := by decide +kernel
theorem d_PC_refuse_22 : decode b_PC_refuse 22 = .ok (.aload_n 0, 1) := by decide +kernel
theorem d_PC_refuse_23 : decode b_PC_refuse 23 = .ok (.getfield 11, 3) := by decide +kernel
theorem d_PC_refuse_26 : decode b_PC_refuse 26 = .ok (.iload_n 2, 1) := by decide +kernel
theorem d_PC_refuse_27 : decode b_PC_refuse 27 = .ok (.aaload, 1) := by decide +kernel
theorem d_PC_refuse_28 : decode b_PC_refuse 28 = .ok (.astore_n 3, 1) := by decide +kernel
theorem d_PC_refuse_29 : decode b_PC_refuse 29 = .ok (.aload_n 3, 1) := by decide +kernel
theorem d_PC_refuse_30 : decode b_PC_refuse 30 = .ok (.getfield 117, 3) := by decide +kernel
theorem d_PC_refuse_33 : decode b_PC_refuse 33 = .ok (.iload_n 1, 1) := by decide +kernel
theorem d_PC_refuse_34 : decode b_PC_refuse 34 = .ok (.iaload, 1) := by decide +kernel
theorem d_PC_refuse_35 : decode b_PC_refuse 35 = .ok (.iconst 1, 1) := by decide +kernel
theorem d_PC_refuse_36 : decode b_PC_refuse 36 = .ok (.if_icmp .eq 13, 3) := by decide +kernel
theorem d_PC_refuse_39 : decode b_PC_refuse 39 = .ok (.new 84, 3) := by decide +kernel
theorem d_PC_refuse_42 : decode b_PC_refuse 42 = .ok (.dup, 1) := by decide +kernel
theorem d_PC_refuse_43 : decode b_PC_refuse 43 = .ok (.ldc 120, 2) := by decide +kernel
theorem d_PC_refuse_45 : decode b_PC_refuse 45 = .ok (.invokespecial 88, 3) := by decide +kernel
theorem d_PC_refuse_48 : decode b_PC_refuse 48 = .ok (.athrow, 1) := by decide +kernel
theorem d_PC_refuse_49 : decode b_PC_refuse 49 = .ok (.aload_n 3, 1) := by decide +kernel
theorem d_PC_refuse_50 : decode b_PC_refuse 50 = .ok (.iload_n 1, 1) := by decide +kernel
theorem d_PC_refuse_51 : decode b_PC_refuse 51 = .ok (.invokevirtual 122, 3) := by decide +kernel
theorem d_PC_refuse_54 : decode b_PC_refuse 54 = .ok (.aload_n 0, 1) := by decide +kernel
theorem d_PC_refuse_55 : decode b_PC_refuse 55 = .ok (.iload_n 1, 1) := by decide +kernel
theorem d_PC_refuse_56 : decode b_PC_refuse 56 = .ok (.iload_n 2, 1) := by decide +kernel
theorem d_PC_refuse_57 : decode b_PC_refuse 57 = .ok (.iconst 0, 1) := by decide +kernel
theorem d_PC_refuse_58 : decode b_PC_refuse 58 = .ok (.iconst 0, 1) := by decide +kernel
theorem d_PC_refuse_59 : decode b_PC_refuse 59 = .ok (.invokevirtual 125, 3) := by decide +kernel
theorem d_PC_refuse_62 : decode b_PC_refuse 62 = .ok (.aload_n 3, 1) := by decide +kernel
theorem d_PC_refuse_63 : decode b_PC_refuse 63 = .ok (.iload_n 1, 1) := by decide +kernel
theorem d_PC_refuse_64 : decode b_PC_refuse 64 = .ok (.invokevirtual 97, 3) := by decide +kernel
theorem d_PC_refuse_67 : decode b_PC_refuse 67 = .ok (.ireturn, 1) := by decide +kernel
theorem d_PC_request_0 : decode b_PC_request 0 = .ok (.iload_n 1, 1) := by decide +kernel
theorem d_PC_request_1 : decode b_PC_request 1 = .ok (.bipush 8, 2) := by decide +kernel
theorem d_PC_request_3 : decode b_PC_request 3 = .ok (.invokestatic 64, 3) := by decide +kernel
theorem d_PC_request_6 : decode b_PC_request 6 = .ok (.aload_n 0, 1) := by decide +kernel
theorem d_PC_request_7 : decode b_PC_request 7 = .ok (.iload_n 1, 1) := by decide +kernel
theorem d_PC_request_8 : decode b_PC_request 8 = .ok (.invokevirtual 68, 3) := by decide +kernel
theorem d_PC_request_11 : decode b_PC_request 11 = .ok (.aload_n 0, 1) := by decide +kernel
theorem d_PC_request_12 : decode b_PC_request 12 = .ok (.getfield 32, 3) := by decide +kernel
theorem d_PC_request_15 : decode b_PC_request 15 = .ok (.iload_n 1, 1) := by decide +kernel
theorem d_PC_request_16 : decode b_PC_request 16 = .ok (.iaload, 1) := by decide +kernel
theorem d_PC_request_17 : decode b_PC_request 17 = .ok (.ifCond .ne 13, 3) := by decide +kernel
theorem d_PC_request_20 : decode b_PC_request 20 = .ok (.new 57, 3) := by decide +kernel
theorem d_PC_request_23 : decode b_PC_request 23 = .ok (.dup, 1) := by decide +kernel
theorem d_PC_request_24 : decode b_PC_request 24 = .ok (.ldc 101, 2) := by decide +kernel
theorem d_PC_request_26 : decode b_PC_request 26 = .ok (.invokespecial 61, 3) := by decide +kernel
theorem d_PC_request_29 : decode b_PC_request 29 = .ok (.athrow, 1) := by decide +kernel
theorem d_PC_request_30 : decode b_PC_request 30 = .ok (.aload_n 0, 1) := by decide +kernel
theorem d_PC_request_31 : decode b_PC_request 31 = .ok (.getfield 35, 3) := by decide +kernel
theorem d_PC_request_34 : decode b_PC_request 34 = .ok (.iload_n 1, 1) := by decide +kernel
theorem d_PC_request_35 : decode b_PC_request 35 = .ok (.baload, 1) := by decide +kernel
theorem d_PC_request_36 : decode b_PC_request 36 = .ok (.ifCond .eq 13, 3) := by decide +kernel
theorem d_PC_request_39 : decode b_PC_request 39 = .ok (.new 84, 3) := by decide +kernel
theorem d_PC_request_42 : decode b_PC_request 42 = .ok (.dup, 1) := by decide +kernel
theorem d_PC_request_43 : decode b_PC_request 43 = .ok (.ldc 103, 2) := by decide +kernel
theorem d_PC_request_45 : decode b_PC_request 45 = .ok (.invokespecial 88, 3) := by decide +kernel
theorem d_PC_request_48 : decode b_PC_request 48 = .ok (.athrow, 1) := by decide +kernel
theorem d_PC_request_49 : decode b_PC_request 49 = .ok (.aload_n 0, 1) := by decide +kernel
theorem d_PC_request_50 : decode b_PC_request 50 = .ok (.getfield 35, 3) := by decide +kernel
theorem d_PC_request_53 : decode b_PC_request 53 = .ok (.iload_n 1, 1) := by decide +kernel
theorem d_PC_request_54 : decode b_PC_request 54 = .ok (.iconst 1, 1) := by decide +kernel
theorem d_PC_request_55 : decode b_PC_request 55 = .ok (.bastore, 1) := by decide +kernel
theorem d_PC_request_56 : decode b_PC_request 56 = .ok (.iconst 0, 1) := by decide +kernel
theorem d_PC_request_57 : decode b_PC_request 57 = .ok (.istore_n 2, 1) := by decide +kernel
theorem d_PC_request_58 : decode b_PC_request 58 = .ok (.iload_n 2, 1) := by decide +kernel
theorem d_PC_request_59 : decode b_PC_request 59 = .ok (.iconst 3, 1) := by decide +kernel
theorem d_PC_request_60 : decode b_PC_request 60 = .ok (.if_icmp .ge 30, 3) := by decide +kernel
theorem d_PC_request_63 : decode b_PC_request 63 = .ok (.aload_n 0, 1) := by decide +kernel
theorem d_PC_request_64 : decode b_PC_request 64 = .ok (.getfield 32, 3) := by decide +kernel
theorem d_PC_request_67 : decode b_PC_request 67 = .ok (.iload_n 1, 1) := by decide +kernel
theorem d_PC_request_68 : decode b_PC_request 68 = .ok (.iaload, 1) := by decide +kernel
theorem d_PC_request_69 : decode b_PC_request 69 = .ok (.iload_n 2, 1) := by decide +kernel
theorem d_PC_request_70 : decode b_PC_request 70 = .ok (.invokestatic 105, 3) := by decide +kernel
theorem d_PC_request_73 : decode b_PC_request 73 = .ok (.ifCond .eq 11, 3) := by decide +kernel
theorem d_PC_request_76 : decode b_PC_request 76 = .ok (.aload_n 0, 1) := by decide +kernel
theorem d_PC_request_77 : decode b_PC_request 77 = .ok (.iconst 0, 1) := by decide +kernel
theorem d_PC_request_78 : decode b_PC_request 78 = .ok (.iload_n 1, 1) := by decide +kernel
theorem d_PC_request_79 : decode b_PC_request 79 = .ok (.iload_n 2, 1) := by decide +kernel
theorem d_PC_request_80 : decode b_PC_request 80 = .ok (.iconst (-1), 1) := by decide +kernel
theorem d_PC_request_81 : decode b_PC_request 81 = .ok (.invokevirtual 108, 3) := by decide +kernel
theorem d_PC_request_84 : decode b_PC_request 84 = .ok (.iinc 2 1, 3) := by decide +kernel
theorem d_PC_request_87 : decode b_PC_request 87 = .ok (.goto (-29), 3) := by decide +kernel
theorem d_PC_request_90 : decode b_PC_request 90 = .ok (.aload_n 0, 1) := by decide +kernel
theorem d_PC_request_91 : decode b_PC_request 91 = .ok (.getfield 32, 3) := by decide +kernel
theorem d_PC_request_94 : decode b_PC_request 94 = .ok (.iload_n 1, 1) := by decide +kernel
theorem d_PC_request_95 : decode b_PC_request 95 = .ok (.iaload, 1) := by decide +kernel
theorem d_PC_request_96 : decode b_PC_request 96 = .ok (.invokestatic 112, 3) := by decide +kernel
theorem d_PC_request_99 : decode b_PC_request 99 = .ok (.ireturn, 1) := by decide +kernel
theorem d_PC_sendAsks_0 : decode b_PC_sendAsks 0 = .ok (.iconst 0, 1) := by decide +kernel
theorem d_PC_sendAsks_1 : decode b_PC_sendAsks 1 = .ok (.istore_n 3, 1) := by decide +kernel
theorem d_PC_sendAsks_2 : decode b_PC_sendAsks 2 = .ok (.iload_n 3, 1) := by decide +kernel
theorem d_PC_sendAsks_3 : decode b_PC_sendAsks 3 = .ok (.aload_n 0, 1) := by decide +kernel
theorem d_PC_sendAsks_4 : decode b_PC_sendAsks 4 = .ok (.getfield 48, 3) := by decide +kernel
theorem d_PC_sendAsks_7 : decode b_PC_sendAsks 7 = .ok (.arraylength, 1) := by decide +kernel
theorem d_PC_sendAsks_8 : decode b_PC_sendAsks 8 = .ok (.if_icmp .ge 41, 3) := by decide +kernel
theorem d_PC_sendAsks_11 : decode b_PC_sendAsks 11 = .ok (.aload_n 0, 1) := by decide +kernel
theorem d_PC_sendAsks_12 : decode b_PC_sendAsks 12 = .ok (.getfield 28, 3) := by decide +kernel
theorem d_PC_sendAsks_15 : decode b_PC_sendAsks 15 = .ok (.iconst 1, 1) := by decide +kernel
theorem d_PC_sendAsks_16 : decode b_PC_sendAsks 16 = .ok (.iload_n 1, 1) := by decide +kernel
theorem d_PC_sendAsks_17 : decode b_PC_sendAsks 17 = .ok (.invokevirtual 325, 3) := by decide +kernel
theorem d_PC_sendAsks_20 : decode b_PC_sendAsks 20 = .ok (.astore 4, 2) := by decide +kernel
theorem d_PC_sendAsks_22 : decode b_PC_sendAsks 22 = .ok (.aload 4, 2) := by decide +kernel
theorem d_PC_sendAsks_24 : decode b_PC_sendAsks 24 = .ok (.iload_n 3, 1) := by decide +kernel
theorem d_PC_sendAsks_25 : decode b_PC_sendAsks 25 = .ok (.putfield 266, 3) := by decide +kernel
theorem d_PC_sendAsks_28 : decode b_PC_sendAsks 28 = .ok (.aload 4, 2) := by decide +kernel
theorem d_PC_sendAsks_30 : decode b_PC_sendAsks 30 = .ok (.iload_n 2, 1) := by decide +kernel
theorem d_PC_sendAsks_31 : decode b_PC_sendAsks 31 = .ok (.putfield 269, 3) := by decide +kernel
theorem d_PC_sendAsks_34 : decode b_PC_sendAsks 34 = .ok (.aload_n 0, 1) := by decide +kernel
theorem d_PC_sendAsks_35 : decode b_PC_sendAsks 35 = .ok (.getfield 28, 3) := by decide +kernel
theorem d_PC_sendAsks_38 : decode b_PC_sendAsks 38 = .ok (.aload 4, 2) := by decide +kernel
theorem d_PC_sendAsks_40 : decode b_PC_sendAsks 40 = .ok (.invokevirtual 329, 3) := by decide +kernel
theorem d_PC_sendAsks_43 : decode b_PC_sendAsks 43 = .ok (.iinc 3 1, 3) := by decide +kernel
theorem d_PC_sendAsks_46 : decode b_PC_sendAsks 46 = .ok (.goto (-44), 3) := by decide +kernel
theorem d_PC_sendAsks_49 : decode b_PC_sendAsks 49 = .ok (.return_, 1) := by decide +kernel
theorem d_PC_sendOutcomes_0 : decode b_PC_sendOutcomes 0 = .ok (.iconst 0, 1) := by decide +kernel
theorem d_PC_sendOutcomes_1 : decode b_PC_sendOutcomes 1 = .ok (.istore_n 3, 1) := by decide +kernel
theorem d_PC_sendOutcomes_2 : decode b_PC_sendOutcomes 2 = .ok (.iload_n 3, 1) := by decide +kernel
theorem d_PC_sendOutcomes_3 : decode b_PC_sendOutcomes 3 = .ok (.iconst 3, 1) := by decide +kernel
theorem d_PC_sendOutcomes_4 : decode b_PC_sendOutcomes 4 = .ok (.if_icmp .ge 30, 3) := by decide +kernel
theorem d_PC_sendOutcomes_7 : decode b_PC_sendOutcomes 7 = .ok (.aload_n 0, 1) := by decide +kernel
theorem d_PC_sendOutcomes_8 : decode b_PC_sendOutcomes 8 = .ok (.getfield 32, 3) := by decide +kernel
theorem d_PC_sendOutcomes_11 : decode b_PC_sendOutcomes 11 = .ok (.iload_n 1, 1) := by decide +kernel
theorem d_PC_sendOutcomes_12 : decode b_PC_sendOutcomes 12 = .ok (.iaload, 1) := by decide +kernel
theorem d_PC_sendOutcomes_13 : decode b_PC_sendOutcomes 13 = .ok (.iload_n 3, 1) := by decide +kernel
theorem d_PC_sendOutcomes_14 : decode b_PC_sendOutcomes 14 = .ok (.invokestatic 105, 3) := by decide +kernel
theorem d_PC_sendOutcomes_17 : decode b_PC_sendOutcomes 17 = .ok (.ifCond .eq 11, 3) := by decide +kernel
theorem d_PC_sendOutcomes_20 : decode b_PC_sendOutcomes 20 = .ok (.aload_n 0, 1) := by decide +kernel
theorem d_PC_sendOutcomes_21 : decode b_PC_sendOutcomes 21 = .ok (.iconst 5, 1) := by decide +kernel
theorem d_PC_sendOutcomes_22 : decode b_PC_sendOutcomes 22 = .ok (.iload_n 1, 1) := by decide +kernel
theorem d_PC_sendOutcomes_23 : decode b_PC_sendOutcomes 23 = .ok (.iload_n 3, 1) := by decide +kernel
theorem d_PC_sendOutcomes_24 : decode b_PC_sendOutcomes 24 = .ok (.iload_n 2, 1) := by decide +kernel
theorem d_PC_sendOutcomes_25 : decode b_PC_sendOutcomes 25 = .ok (.invokevirtual 108, 3) := by decide +kernel
theorem d_PC_sendOutcomes_28 : decode b_PC_sendOutcomes 28 = .ok (.iinc 3 1, 3) := by decide +kernel
theorem d_PC_sendOutcomes_31 : decode b_PC_sendOutcomes 31 = .ok (.goto (-29), 3) := by decide +kernel
theorem d_PC_sendOutcomes_34 : decode b_PC_sendOutcomes 34 = .ok (.return_, 1) := by decide +kernel
theorem d_PC_sendReply_0 : decode b_PC_sendReply 0 = .ok (.aload_n 0, 1) := by decide +kernel
theorem d_PC_sendReply_1 : decode b_PC_sendReply 1 = .ok (.getfield 28, 3) := by decide +kernel
theorem d_PC_sendReply_4 : decode b_PC_sendReply 4 = .ok (.iconst 2, 1) := by decide +kernel
theorem d_PC_sendReply_5 : decode b_PC_sendReply 5 = .ok (.iload_n 2, 1) := by decide +kernel
theorem d_PC_sendReply_6 : decode b_PC_sendReply 6 = .ok (.invokevirtual 325, 3) := by decide +kernel
theorem d_PC_sendReply_9 : decode b_PC_sendReply 9 = .ok (.astore 4, 2) := by decide +kernel
theorem d_PC_sendReply_11 : decode b_PC_sendReply 11 = .ok (.aload 4, 2) := by decide +kernel
theorem d_PC_sendReply_13 : decode b_PC_sendReply 13 = .ok (.iload_n 1, 1) := by decide +kernel
theorem d_PC_sendReply_14 : decode b_PC_sendReply 14 = .ok (.putfield 266, 3) := by decide +kernel
theorem d_PC_sendReply_17 : decode b_PC_sendReply 17 = .ok (.aload 4, 2) := by decide +kernel
theorem d_PC_sendReply_19 : decode b_PC_sendReply 19 = .ok (.iload_n 3, 1) := by decide +kernel
theorem d_PC_sendReply_20 : decode b_PC_sendReply 20 = .ok (.iconst 2, 1) := by decide +kernel
theorem d_PC_sendReply_21 : decode b_PC_sendReply 21 = .ok (.invokestatic 332, 3) := by decide +kernel
theorem d_PC_sendReply_24 : decode b_PC_sendReply 24 = .ok (.putfield 282, 3) := by decide +kernel
theorem d_PC_sendReply_27 : decode b_PC_sendReply 27 = .ok (.aload 4, 2) := by decide +kernel
theorem d_PC_sendReply_29 : decode b_PC_sendReply 29 = .ok (.iload_n 3, 1) := by decide +kernel
theorem d_PC_sendReply_30 : decode b_PC_sendReply 30 = .ok (.putfield 269, 3) := by decide +kernel
theorem d_PC_sendReply_33 : decode b_PC_sendReply 33 = .ok (.iconst 0, 1) := by decide +kernel
theorem d_PC_sendReply_34 : decode b_PC_sendReply 34 = .ok (.istore 5, 2) := by decide +kernel
theorem d_PC_sendReply_36 : decode b_PC_sendReply 36 = .ok (.iload 5, 2) := by decide +kernel
theorem d_PC_sendReply_38 : decode b_PC_sendReply 38 = .ok (.iconst 3, 1) := by decide +kernel
theorem d_PC_sendReply_39 : decode b_PC_sendReply 39 = .ok (.if_icmp .ge 45, 3) := by decide +kernel
theorem d_PC_sendReply_42 : decode b_PC_sendReply 42 = .ok (.aload_n 0, 1) := by decide +kernel
theorem d_PC_sendReply_43 : decode b_PC_sendReply 43 = .ok (.getfield 32, 3) := by decide +kernel
theorem d_PC_sendReply_46 : decode b_PC_sendReply 46 = .ok (.iload_n 2, 1) := by decide +kernel
theorem d_PC_sendReply_47 : decode b_PC_sendReply 47 = .ok (.iaload, 1) := by decide +kernel
theorem d_PC_sendReply_48 : decode b_PC_sendReply 48 = .ok (.iload 5, 2) := by decide +kernel
theorem d_PC_sendReply_50 : decode b_PC_sendReply 50 = .ok (.invokestatic 105, 3) := by decide +kernel
theorem d_PC_sendReply_53 : decode b_PC_sendReply 53 = .ok (.ifCond .eq 25, 3) := by decide +kernel
theorem d_PC_sendReply_56 : decode b_PC_sendReply 56 = .ok (.aload 4, 2) := by decide +kernel
theorem d_PC_sendReply_58 : decode b_PC_sendReply 58 = .ok (.getfield 290, 3) := by decide +kernel
theorem d_PC_sendReply_61 : decode b_PC_sendReply 61 = .ok (.iload 5, 2) := by decide +kernel
theorem d_PC_sendReply_63 : decode b_PC_sendReply 63 = .ok (.aload_n 0, 1) := by decide +kernel
theorem d_PC_sendReply_64 : decode b_PC_sendReply 64 = .ok (.getfield 48, 3) := by decide +kernel
theorem d_PC_sendReply_67 : decode b_PC_sendReply 67 = .ok (.iload_n 1, 1) := by decide +kernel
theorem d_PC_sendReply_68 : decode b_PC_sendReply 68 = .ok (.aaload, 1) := by decide +kernel
theorem d_PC_sendReply_69 : decode b_PC_sendReply 69 = .ok (.getfield 207, 3) := by decide +kernel
theorem d_PC_sendReply_72 : decode b_PC_sendReply 72 = .ok (.iload_n 2, 1) := by decide +kernel
theorem d_PC_sendReply_73 : decode b_PC_sendReply 73 = .ok (.aaload, 1) := by decide +kernel
theorem d_PC_sendReply_74 : decode b_PC_sendReply 74 = .ok (.iload 5, 2) := by decide +kernel
theorem d_PC_sendReply_76 : decode b_PC_sendReply 76 = .ok (.iaload, 1) := by decide +kernel
theorem d_PC_sendReply_77 : decode b_PC_sendReply 77 = .ok (.iastore, 1) := by decide +kernel
theorem d_PC_sendReply_78 : decode b_PC_sendReply 78 = .ok (.iinc 5 1, 3) := by decide +kernel
theorem d_PC_sendReply_81 : decode b_PC_sendReply 81 = .ok (.goto (-45), 3) := by decide +kernel
theorem d_PC_sendReply_84 : decode b_PC_sendReply 84 = .ok (.aload_n 0, 1) := by decide +kernel
theorem d_PC_sendReply_85 : decode b_PC_sendReply 85 = .ok (.getfield 28, 3) := by decide +kernel
theorem d_PC_sendReply_88 : decode b_PC_sendReply 88 = .ok (.aload 4, 2) := by decide +kernel
theorem d_PC_sendReply_90 : decode b_PC_sendReply 90 = .ok (.invokevirtual 329, 3) := by decide +kernel
theorem d_PC_sendReply_93 : decode b_PC_sendReply 93 = .ok (.return_, 1) := by decide +kernel
theorem d_PC_sendToStore_0 : decode b_PC_sendToStore 0 = .ok (.aload_n 0, 1) := by decide +kernel
theorem d_PC_sendToStore_1 : decode b_PC_sendToStore 1 = .ok (.getfield 28, 3) := by decide +kernel
theorem d_PC_sendToStore_4 : decode b_PC_sendToStore 4 = .ok (.iload_n 1, 1) := by decide +kernel
theorem d_PC_sendToStore_5 : decode b_PC_sendToStore 5 = .ok (.iload_n 2, 1) := by decide +kernel
theorem d_PC_sendToStore_6 : decode b_PC_sendToStore 6 = .ok (.invokevirtual 325, 3) := by decide +kernel
theorem d_PC_sendToStore_9 : decode b_PC_sendToStore 9 = .ok (.astore 5, 2) := by decide +kernel
theorem d_PC_sendToStore_11 : decode b_PC_sendToStore 11 = .ok (.aload 5, 2) := by decide +kernel
theorem d_PC_sendToStore_13 : decode b_PC_sendToStore 13 = .ok (.iload_n 3, 1) := by decide +kernel
theorem d_PC_sendToStore_14 : decode b_PC_sendToStore 14 = .ok (.putfield 260, 3) := by decide +kernel
theorem d_PC_sendToStore_17 : decode b_PC_sendToStore 17 = .ok (.aload 5, 2) := by decide +kernel
theorem d_PC_sendToStore_19 : decode b_PC_sendToStore 19 = .ok (.iload 4, 2) := by decide +kernel
theorem d_PC_sendToStore_21 : decode b_PC_sendToStore 21 = .ok (.putfield 303, 3) := by decide +kernel
theorem d_PC_sendToStore_24 : decode b_PC_sendToStore 24 = .ok (.aload_n 0, 1) := by decide +kernel
theorem d_PC_sendToStore_25 : decode b_PC_sendToStore 25 = .ok (.getfield 28, 3) := by decide +kernel
theorem d_PC_sendToStore_28 : decode b_PC_sendToStore 28 = .ok (.aload 5, 2) := by decide +kernel
theorem d_PC_sendToStore_30 : decode b_PC_sendToStore 30 = .ok (.invokevirtual 329, 3) := by decide +kernel
theorem d_PC_sendToStore_33 : decode b_PC_sendToStore 33 = .ok (.return_, 1) := by decide +kernel
theorem d_PC_sendTold_0 : decode b_PC_sendTold 0 = .ok (.aload_n 0, 1) := by decide +kernel
theorem d_PC_sendTold_1 : decode b_PC_sendTold 1 = .ok (.getfield 28, 3) := by decide +kernel
theorem d_PC_sendTold_4 : decode b_PC_sendTold 4 = .ok (.iconst 4, 1) := by decide +kernel
theorem d_PC_sendTold_5 : decode b_PC_sendTold 5 = .ok (.aload_n 1, 1) := by decide +kernel
theorem d_PC_sendTold_6 : decode b_PC_sendTold 6 = .ok (.getfield 263, 3) := by decide +kernel
theorem d_PC_sendTold_9 : decode b_PC_sendTold 9 = .ok (.invokevirtual 325, 3) := by decide +kernel
theorem d_PC_sendTold_12 : decode b_PC_sendTold 12 = .ok (.astore_n 3, 1) := by decide +kernel
theorem d_PC_sendTold_13 : decode b_PC_sendTold 13 = .ok (.aload_n 3, 1) := by decide +kernel
theorem d_PC_sendTold_14 : decode b_PC_sendTold 14 = .ok (.aload_n 1, 1) := by decide +kernel
theorem d_PC_sendTold_15 : decode b_PC_sendTold 15 = .ok (.getfield 260, 3) := by decide +kernel
theorem d_PC_sendTold_18 : decode b_PC_sendTold 18 = .ok (.putfield 260, 3) := by decide +kernel
theorem d_PC_sendTold_21 : decode b_PC_sendTold 21 = .ok (.aload_n 3, 1) := by decide +kernel
theorem d_PC_sendTold_22 : decode b_PC_sendTold 22 = .ok (.aload_n 1, 1) := by decide +kernel
theorem d_PC_sendTold_23 : decode b_PC_sendTold 23 = .ok (.getfield 266, 3) := by decide +kernel
theorem d_PC_sendTold_26 : decode b_PC_sendTold 26 = .ok (.putfield 266, 3) := by decide +kernel
theorem d_PC_sendTold_29 : decode b_PC_sendTold 29 = .ok (.aload_n 3, 1) := by decide +kernel
theorem d_PC_sendTold_30 : decode b_PC_sendTold 30 = .ok (.iload_n 2, 1) := by decide +kernel
theorem d_PC_sendTold_31 : decode b_PC_sendTold 31 = .ok (.putfield 282, 3) := by decide +kernel
theorem d_PC_sendTold_34 : decode b_PC_sendTold 34 = .ok (.aload_n 3, 1) := by decide +kernel
theorem d_PC_sendTold_35 : decode b_PC_sendTold 35 = .ok (.aload_n 1, 1) := by decide +kernel
theorem d_PC_sendTold_36 : decode b_PC_sendTold 36 = .ok (.getfield 269, 3) := by decide +kernel
theorem d_PC_sendTold_39 : decode b_PC_sendTold 39 = .ok (.putfield 269, 3) := by decide +kernel
theorem d_PC_sendTold_42 : decode b_PC_sendTold 42 = .ok (.aload_n 3, 1) := by decide +kernel
theorem d_PC_sendTold_43 : decode b_PC_sendTold 43 = .ok (.aload_n 1, 1) := by decide +kernel
theorem d_PC_sendTold_44 : decode b_PC_sendTold 44 = .ok (.getfield 303, 3) := by decide +kernel
theorem d_PC_sendTold_47 : decode b_PC_sendTold 47 = .ok (.putfield 303, 3) := by decide +kernel
theorem d_PC_sendTold_50 : decode b_PC_sendTold 50 = .ok (.aload_n 0, 1) := by decide +kernel
theorem d_PC_sendTold_51 : decode b_PC_sendTold 51 = .ok (.getfield 28, 3) := by decide +kernel
theorem d_PC_sendTold_54 : decode b_PC_sendTold 54 = .ok (.aload_n 3, 1) := by decide +kernel
theorem d_PC_sendTold_55 : decode b_PC_sendTold 55 = .ok (.invokevirtual 329, 3) := by decide +kernel
theorem d_PC_sendTold_58 : decode b_PC_sendTold 58 = .ok (.return_, 1) := by decide +kernel
theorem d_PC_sendVotes_0 : decode b_PC_sendVotes 0 = .ok (.iconst 0, 1) := by decide +kernel
theorem d_PC_sendVotes_1 : decode b_PC_sendVotes 1 = .ok (.istore 5, 2) := by decide +kernel
theorem d_PC_sendVotes_3 : decode b_PC_sendVotes 3 = .ok (.iload 5, 2) := by decide +kernel
theorem d_PC_sendVotes_5 : decode b_PC_sendVotes 5 = .ok (.aload_n 0, 1) := by decide +kernel
theorem d_PC_sendVotes_6 : decode b_PC_sendVotes 6 = .ok (.getfield 48, 3) := by decide +kernel
theorem d_PC_sendVotes_9 : decode b_PC_sendVotes 9 = .ok (.arraylength, 1) := by decide +kernel
theorem d_PC_sendVotes_10 : decode b_PC_sendVotes 10 = .ok (.if_icmp .ge 55, 3) := by decide +kernel
theorem d_PC_sendVotes_13 : decode b_PC_sendVotes 13 = .ok (.aload_n 0, 1) := by decide +kernel
theorem d_PC_sendVotes_14 : decode b_PC_sendVotes 14 = .ok (.getfield 28, 3) := by decide +kernel
theorem d_PC_sendVotes_17 : decode b_PC_sendVotes 17 = .ok (.iconst 3, 1) := by decide +kernel
theorem d_PC_sendVotes_18 : decode b_PC_sendVotes 18 = .ok (.iload_n 1, 1) := by decide +kernel
theorem d_PC_sendVotes_19 : decode b_PC_sendVotes 19 = .ok (.invokevirtual 325, 3) := by decide +kernel
theorem d_PC_sendVotes_22 : decode b_PC_sendVotes 22 = .ok (.astore 6, 2) := by decide +kernel
theorem d_PC_sendVotes_24 : decode b_PC_sendVotes 24 = .ok (.aload 6, 2) := by decide +kernel
theorem d_PC_sendVotes_26 : decode b_PC_sendVotes 26 = .ok (.iload_n 2, 1) := by decide +kernel
theorem d_PC_sendVotes_27 : decode b_PC_sendVotes 27 = .ok (.putfield 260, 3) := by decide +kernel
theorem d_PC_sendVotes_30 : decode b_PC_sendVotes 30 = .ok (.aload 6, 2) := by decide +kernel
theorem d_PC_sendVotes_32 : decode b_PC_sendVotes 32 = .ok (.iload 5, 2) := by decide +kernel
theorem d_PC_sendVotes_34 : decode b_PC_sendVotes 34 = .ok (.putfield 266, 3) := by decide +kernel
theorem d_PC_sendVotes_37 : decode b_PC_sendVotes 37 = .ok (.aload 6, 2) := by decide +kernel
theorem d_PC_sendVotes_39 : decode b_PC_sendVotes 39 = .ok (.iload_n 3, 1) := by decide +kernel
theorem d_PC_sendVotes_40 : decode b_PC_sendVotes 40 = .ok (.putfield 269, 3) := by decide +kernel
theorem d_PC_sendVotes_43 : decode b_PC_sendVotes 43 = .ok (.aload 6, 2) := by decide +kernel
theorem d_PC_sendVotes_45 : decode b_PC_sendVotes 45 = .ok (.iload 4, 2) := by decide +kernel
theorem d_PC_sendVotes_47 : decode b_PC_sendVotes 47 = .ok (.putfield 303, 3) := by decide +kernel
theorem d_PC_sendVotes_50 : decode b_PC_sendVotes 50 = .ok (.aload_n 0, 1) := by decide +kernel
theorem d_PC_sendVotes_51 : decode b_PC_sendVotes 51 = .ok (.getfield 28, 3) := by decide +kernel
theorem d_PC_sendVotes_54 : decode b_PC_sendVotes 54 = .ok (.aload 6, 2) := by decide +kernel
theorem d_PC_sendVotes_56 : decode b_PC_sendVotes 56 = .ok (.invokevirtual 329, 3) := by decide +kernel
theorem d_PC_sendVotes_59 : decode b_PC_sendVotes 59 = .ok (.iinc 5 1, 3) := by decide +kernel
theorem d_PC_sendVotes_62 : decode b_PC_sendVotes 62 = .ok (.goto (-59), 3) := by decide +kernel
theorem d_PC_sendVotes_65 : decode b_PC_sendVotes 65 = .ok (.return_, 1) := by decide +kernel
theorem d_PC_state_0 : decode b_PC_state 0 = .ok (.iload_n 1, 1) := by decide +kernel
theorem d_PC_state_1 : decode b_PC_state 1 = .ok (.bipush 8, 2) := by decide +kernel
theorem d_PC_state_3 : decode b_PC_state 3 = .ok (.invokestatic 64, 3) := by decide +kernel
theorem d_PC_state_6 : decode b_PC_state 6 = .ok (.iload_n 2, 1) := by decide +kernel
theorem d_PC_state_7 : decode b_PC_state 7 = .ok (.iconst 3, 1) := by decide +kernel
theorem d_PC_state_8 : decode b_PC_state 8 = .ok (.invokestatic 64, 3) := by decide +kernel
theorem d_PC_state_11 : decode b_PC_state 11 = .ok (.aload_n 0, 1) := by decide +kernel
theorem d_PC_state_12 : decode b_PC_state 12 = .ok (.iload_n 1, 1) := by decide +kernel
theorem d_PC_state_13 : decode b_PC_state 13 = .ok (.invokevirtual 68, 3) := by decide +kernel
theorem d_PC_state_16 : decode b_PC_state 16 = .ok (.aload_n 0, 1) := by decide +kernel
theorem d_PC_state_17 : decode b_PC_state 17 = .ok (.getfield 11, 3) := by decide +kernel
theorem d_PC_state_20 : decode b_PC_state 20 = .ok (.iload_n 2, 1) := by decide +kernel
theorem d_PC_state_21 : decode b_PC_state 21 = .ok (.aaload, 1) := by decide +kernel
theorem d_PC_state_22 : decode b_PC_state 22 = .ok (.getfield 117, 3) := by decide +kernel
theorem d_PC_state_25 : decode b_PC_state 25 = .ok (.iload_n 1, 1) := by decide +kernel
theorem d_PC_state_26 : decode b_PC_state 26 = .ok (.iaload, 1) := by decide +kernel
theorem d_PC_state_27 : decode b_PC_state 27 = .ok (.ireturn, 1) := by decide +kernel
theorem d_PC_stop_0 : decode b_PC_stop 0 = .ok (.iload_n 1, 1) := by decide +kernel
theorem d_PC_stop_1 : decode b_PC_stop 1 = .ok (.ifCond .ne 15, 3) := by decide +kernel
theorem d_PC_stop_4 : decode b_PC_stop 4 = .ok (.aload_n 0, 1) := by decide +kernel
theorem d_PC_stop_5 : decode b_PC_stop 5 = .ok (.getfield 11, 3) := by decide +kernel
theorem d_PC_stop_8 : decode b_PC_stop 8 = .ok (.iload_n 2, 1) := by decide +kernel
theorem d_PC_stop_9 : decode b_PC_stop 9 = .ok (.aaload, 1) := by decide +kernel
theorem d_PC_stop_10 : decode b_PC_stop 10 = .ok (.invokevirtual 227, 3) := by decide +kernel
theorem d_PC_stop_13 : decode b_PC_stop 13 = .ok (.goto 31, 3) := by decide +kernel
theorem d_PC_stop_16 : decode b_PC_stop 16 = .ok (.iload_n 1, 1) := by decide +kernel
theorem d_PC_stop_17 : decode b_PC_stop 17 = .ok (.iconst 2, 1) := by decide +kernel
theorem d_PC_stop_18 : decode b_PC_stop 18 = .ok (.if_icmp .ne 26, 3) := by decide +kernel
theorem d_PC_stop_21 : decode b_PC_stop 21 = .ok (.iconst 0, 1) := by decide +kernel
theorem d_PC_stop_22 : decode b_PC_stop 22 = .ok (.istore_n 3, 1) := by decide +kernel
theorem d_PC_stop_23 : decode b_PC_stop 23 = .ok (.iload_n 3, 1) := by decide +kernel
theorem d_PC_stop_24 : decode b_PC_stop 24 = .ok (.bipush 8, 2) := by decide +kernel
theorem d_PC_stop_26 : decode b_PC_stop 26 = .ok (.if_icmp .ge 18, 3) := by decide +kernel
theorem d_PC_stop_29 : decode b_PC_stop 29 = .ok (.aload_n 0, 1) := by decide +kernel
theorem d_PC_stop_30 : decode b_PC_stop 30 = .ok (.iload_n 2, 1) := by decide +kernel
theorem d_PC_stop_31 : decode b_PC_stop 31 = .ok (.iload_n 3, 1) := by decide +kernel
theorem d_PC_stop_32 : decode b_PC_stop 32 = .ok (.invokevirtual 130, 3) := by decide +kernel
theorem d_PC_stop_35 : decode b_PC_stop 35 = .ok (.invokevirtual 230, 3) := by decide +kernel
theorem d_PC_stop_38 : decode b_PC_stop 38 = .ok (.iinc 3 1, 3) := by decide +kernel
theorem d_PC_stop_41 : decode b_PC_stop 41 = .ok (.goto (-18), 3) := by decide +kernel
theorem d_PC_stop_44 : decode b_PC_stop 44 = .ok (.return_, 1) := by decide +kernel
theorem d_PC_take_0 : decode b_PC_take 0 = .ok (.iload_n 1, 1) := by decide +kernel
theorem d_PC_take_1 : decode b_PC_take 1 = .ok (.iconst 2, 1) := by decide +kernel
theorem d_PC_take_2 : decode b_PC_take 2 = .ok (.invokestatic 64, 3) := by decide +kernel
theorem d_PC_take_5 : decode b_PC_take 5 = .ok (.iload_n 2, 1) := by decide +kernel
theorem d_PC_take_6 : decode b_PC_take 6 = .ok (.bipush 8, 2) := by decide +kernel
theorem d_PC_take_8 : decode b_PC_take 8 = .ok (.invokestatic 64, 3) := by decide +kernel
theorem d_PC_take_11 : decode b_PC_take 11 = .ok (.aload_n 0, 1) := by decide +kernel
theorem d_PC_take_12 : decode b_PC_take 12 = .ok (.iload_n 2, 1) := by decide +kernel
theorem d_PC_take_13 : decode b_PC_take 13 = .ok (.invokevirtual 68, 3) := by decide +kernel
theorem d_PC_take_16 : decode b_PC_take 16 = .ok (.aload_n 0, 1) := by decide +kernel
theorem d_PC_take_17 : decode b_PC_take 17 = .ok (.iconst 2, 1) := by decide +kernel
theorem d_PC_take_18 : decode b_PC_take 18 = .ok (.iload_n 1, 1) := by decide +kernel
theorem d_PC_take_19 : decode b_PC_take 19 = .ok (.invokevirtual 71, 3) := by decide +kernel
theorem d_PC_take_22 : decode b_PC_take 22 = .ok (.aload_n 0, 1) := by decide +kernel
theorem d_PC_take_23 : decode b_PC_take 23 = .ok (.getfield 35, 3) := by decide +kernel
theorem d_PC_take_26 : decode b_PC_take 26 = .ok (.iload_n 2, 1) := by decide +kernel
theorem d_PC_take_27 : decode b_PC_take 27 = .ok (.baload, 1) := by decide +kernel
theorem d_PC_take_28 : decode b_PC_take 28 = .ok (.ifCond .ne 13, 3) := by decide +kernel
theorem d_PC_take_31 : decode b_PC_take 31 = .ok (.new 84, 3) := by decide +kernel
theorem d_PC_take_34 : decode b_PC_take 34 = .ok (.dup, 1) := by decide +kernel
theorem d_PC_take_35 : decode b_PC_take 35 = .ok (.ldc 128, 2) := by decide +kernel
theorem d_PC_take_37 : decode b_PC_take 37 = .ok (.invokespecial 88, 3) := by decide +kernel
theorem d_PC_take_40 : decode b_PC_take 40 = .ok (.athrow, 1) := by decide +kernel
theorem d_PC_take_41 : decode b_PC_take 41 = .ok (.aload_n 0, 1) := by decide +kernel
theorem d_PC_take_42 : decode b_PC_take 42 = .ok (.iload_n 1, 1) := by decide +kernel
theorem d_PC_take_43 : decode b_PC_take 43 = .ok (.iload_n 2, 1) := by decide +kernel
theorem d_PC_take_44 : decode b_PC_take 44 = .ok (.invokevirtual 130, 3) := by decide +kernel
theorem d_PC_take_47 : decode b_PC_take 47 = .ok (.iload_n 1, 1) := by decide +kernel
theorem d_PC_take_48 : decode b_PC_take 48 = .ok (.invokevirtual 134, 3) := by decide +kernel
theorem d_PC_take_51 : decode b_PC_take 51 = .ok (.istore_n 3, 1) := by decide +kernel
theorem d_PC_take_52 : decode b_PC_take 52 = .ok (.aload_n 0, 1) := by decide +kernel
theorem d_PC_take_53 : decode b_PC_take 53 = .ok (.iload_n 2, 1) := by decide +kernel
theorem d_PC_take_54 : decode b_PC_take 54 = .ok (.iload_n 3, 1) := by decide +kernel
theorem d_PC_take_55 : decode b_PC_take 55 = .ok (.invokevirtual 137, 3) := by decide +kernel
theorem d_PC_take_58 : decode b_PC_take 58 = .ok (.iload_n 3, 1) := by decide +kernel
theorem d_PC_take_59 : decode b_PC_take 59 = .ok (.ireturn, 1) := by decide +kernel
theorem d_PC_taken_0 : decode b_PC_taken 0 = .ok (.iload_n 1, 1) := by decide +kernel
theorem d_PC_taken_1 : decode b_PC_taken 1 = .ok (.aload_n 0, 1) := by decide +kernel
theorem d_PC_taken_2 : decode b_PC_taken 2 = .ok (.getfield 48, 3) := by decide +kernel
theorem d_PC_taken_5 : decode b_PC_taken 5 = .ok (.arraylength, 1) := by decide +kernel
theorem d_PC_taken_6 : decode b_PC_taken 6 = .ok (.invokestatic 64, 3) := by decide +kernel
theorem d_PC_taken_9 : decode b_PC_taken 9 = .ok (.iload_n 2, 1) := by decide +kernel
theorem d_PC_taken_10 : decode b_PC_taken 10 = .ok (.bipush 8, 2) := by decide +kernel
theorem d_PC_taken_12 : decode b_PC_taken 12 = .ok (.invokestatic 64, 3) := by decide +kernel
theorem d_PC_taken_15 : decode b_PC_taken 15 = .ok (.iload_n 3, 1) := by decide +kernel
theorem d_PC_taken_16 : decode b_PC_taken 16 = .ok (.iconst 3, 1) := by decide +kernel
theorem d_PC_taken_17 : decode b_PC_taken 17 = .ok (.invokestatic 64, 3) := by decide +kernel
theorem d_PC_taken_20 : decode b_PC_taken 20 = .ok (.aload_n 0, 1) := by decide +kernel
theorem d_PC_taken_21 : decode b_PC_taken 21 = .ok (.iload_n 2, 1) := by decide +kernel
theorem d_PC_taken_22 : decode b_PC_taken 22 = .ok (.invokevirtual 68, 3) := by decide +kernel
theorem d_PC_taken_25 : decode b_PC_taken 25 = .ok (.aload_n 0, 1) := by decide +kernel
theorem d_PC_taken_26 : decode b_PC_taken 26 = .ok (.getfield 48, 3) := by decide +kernel
theorem d_PC_taken_29 : decode b_PC_taken 29 = .ok (.iload_n 1, 1) := by decide +kernel
theorem d_PC_taken_30 : decode b_PC_taken 30 = .ok (.aaload, 1) := by decide +kernel
theorem d_PC_taken_31 : decode b_PC_taken 31 = .ok (.astore 5, 2) := by decide +kernel
theorem d_PC_taken_33 : decode b_PC_taken 33 = .ok (.iload 4, 2) := by decide +kernel
theorem d_PC_taken_35 : decode b_PC_taken 35 = .ok (.ifCond .eq 15, 3) := by decide +kernel
theorem d_PC_taken_38 : decode b_PC_taken 38 = .ok (.aload 5, 2) := by decide +kernel
theorem d_PC_taken_40 : decode b_PC_taken 40 = .ok (.getfield 203, 3) := by decide +kernel
theorem d_PC_taken_43 : decode b_PC_taken 43 = .ok (.iload_n 2, 1) := by decide +kernel
theorem d_PC_taken_44 : decode b_PC_taken 44 = .ok (.aaload, 1) := by decide +kernel
theorem d_PC_taken_45 : decode b_PC_taken 45 = .ok (.iload_n 3, 1) := by decide +kernel
theorem d_PC_taken_46 : decode b_PC_taken 46 = .ok (.iaload, 1) := by decide +kernel
theorem d_PC_taken_47 : decode b_PC_taken 47 = .ok (.goto 12, 3) := by decide +kernel
theorem d_PC_taken_50 : decode b_PC_taken 50 = .ok (.aload 5, 2) := by decide +kernel
theorem d_PC_taken_52 : decode b_PC_taken 52 = .ok (.getfield 207, 3) := by decide +kernel
theorem d_PC_taken_55 : decode b_PC_taken 55 = .ok (.iload_n 2, 1) := by decide +kernel
theorem d_PC_taken_56 : decode b_PC_taken 56 = .ok (.aaload, 1) := by decide +kernel
theorem d_PC_taken_57 : decode b_PC_taken 57 = .ok (.iload_n 3, 1) := by decide +kernel
theorem d_PC_taken_58 : decode b_PC_taken 58 = .ok (.iaload, 1) := by decide +kernel
theorem d_PC_taken_59 : decode b_PC_taken 59 = .ok (.ireturn, 1) := by decide +kernel
theorem d_PC_text_0 : decode b_PC_text 0 = .ok (.iload_n 2, 1) := by decide +kernel
theorem d_PC_text_1 : decode b_PC_text 1 = .ok (.ifCond .ge 13, 3) := by decide +kernel
theorem d_PC_text_4 : decode b_PC_text 4 = .ok (.new 166, 3) := by decide +kernel
theorem d_PC_text_7 : decode b_PC_text 7 = .ok (.dup, 1) := by decide +kernel
theorem d_PC_text_8 : decode b_PC_text 8 = .ok (.ldc 168, 2) := by decide +kernel
theorem d_PC_text_10 : decode b_PC_text 10 = .ok (.invokespecial 170, 3) := by decide +kernel
theorem d_PC_text_13 : decode b_PC_text 13 = .ok (.athrow, 1) := by decide +kernel
theorem d_PC_text_14 : decode b_PC_text 14 = .ok (.aload_n 0, 1) := by decide +kernel
theorem d_PC_text_15 : decode b_PC_text 15 = .ok (.iload_n 1, 1) := by decide +kernel
theorem d_PC_text_16 : decode b_PC_text 16 = .ok (.invokevirtual 140, 3) := by decide +kernel
theorem d_PC_text_19 : decode b_PC_text 19 = .ok (.new 171, 3) := by decide +kernel
theorem d_PC_text_22 : decode b_PC_text 22 = .ok (.dup, 1) := by decide +kernel
theorem d_PC_text_23 : decode b_PC_text 23 = .ok (.invokespecial 173, 3) := by decide +kernel
theorem d_PC_text_26 : decode b_PC_text 26 = .ok (.astore_n 3, 1) := by decide +kernel
theorem d_PC_text_27 : decode b_PC_text 27 = .ok (.aload_n 0, 1) := by decide +kernel
theorem d_PC_text_28 : decode b_PC_text 28 = .ok (.getfield 28, 3) := by decide +kernel
theorem d_PC_text_31 : decode b_PC_text 31 = .ok (.getfield 174, 3) := by decide +kernel
theorem d_PC_text_34 : decode b_PC_text 34 = .ok (.iload_n 1, 1) := by decide +kernel
theorem d_PC_text_35 : decode b_PC_text 35 = .ok (.aaload, 1) := by decide +kernel
theorem d_PC_text_36 : decode b_PC_text 36 = .ok (.aload_n 3, 1) := by decide +kernel
theorem d_PC_text_37 : decode b_PC_text 37 = .ok (.invokevirtual 178, 3) := by decide +kernel
theorem d_PC_text_40 : decode b_PC_text 40 = .ok (.iload_n 2, 1) := by decide +kernel
theorem d_PC_text_41 : decode b_PC_text 41 = .ok (.aload_n 3, 1) := by decide +kernel
theorem d_PC_text_42 : decode b_PC_text 42 = .ok (.invokevirtual 184, 3) := by decide +kernel
theorem d_PC_text_45 : decode b_PC_text 45 = .ok (.if_icmp .lt 5, 3) := by decide +kernel
theorem d_PC_text_48 : decode b_PC_text 48 = .ok (.iconst (-1), 1) := by decide +kernel
theorem d_PC_text_49 : decode b_PC_text 49 = .ok (.ireturn, 1) := by decide +kernel
theorem d_PC_text_50 : decode b_PC_text 50 = .ok (.aload_n 3, 1) := by decide +kernel
theorem d_PC_text_51 : decode b_PC_text 51 = .ok (.iload_n 2, 1) := by decide +kernel
theorem d_PC_text_52 : decode b_PC_text 52 = .ok (.invokevirtual 188, 3) := by decide +kernel
theorem d_PC_text_55 : decode b_PC_text 55 = .ok (.ireturn, 1) := by decide +kernel
theorem d_PC_up_0 : decode b_PC_up 0 = .ok (.iload_n 1, 1) := by decide +kernel
theorem d_PC_up_1 : decode b_PC_up 1 = .ok (.aload_n 0, 1) := by decide +kernel
theorem d_PC_up_2 : decode b_PC_up 2 = .ok (.getfield 21, 3) := by decide +kernel
theorem d_PC_up_5 : decode b_PC_up 5 = .ok (.arraylength, 1) := by decide +kernel
theorem d_PC_up_6 : decode b_PC_up 6 = .ok (.invokestatic 64, 3) := by decide +kernel
theorem d_PC_up_9 : decode b_PC_up 9 = .ok (.iload_n 2, 1) := by decide +kernel
theorem d_PC_up_10 : decode b_PC_up 10 = .ok (.aload_n 0, 1) := by decide +kernel
theorem d_PC_up_11 : decode b_PC_up 11 = .ok (.iload_n 1, 1) := by decide +kernel
theorem d_PC_up_12 : decode b_PC_up 12 = .ok (.invokevirtual 157, 3) := by decide +kernel
theorem d_PC_up_15 : decode b_PC_up 15 = .ok (.invokestatic 64, 3) := by decide +kernel
theorem d_PC_up_18 : decode b_PC_up 18 = .ok (.aload_n 0, 1) := by decide +kernel
theorem d_PC_up_19 : decode b_PC_up 19 = .ok (.getfield 21, 3) := by decide +kernel
theorem d_PC_up_22 : decode b_PC_up 22 = .ok (.iload_n 1, 1) := by decide +kernel
theorem d_PC_up_23 : decode b_PC_up 23 = .ok (.iaload, 1) := by decide +kernel
theorem d_PC_up_24 : decode b_PC_up 24 = .ok (.iload_n 2, 1) := by decide +kernel
theorem d_PC_up_25 : decode b_PC_up 25 = .ok (.invokestatic 105, 3) := by decide +kernel
theorem d_PC_up_28 : decode b_PC_up 28 = .ok (.istore 4, 2) := by decide +kernel
theorem d_PC_up_30 : decode b_PC_up 30 = .ok (.iload_n 3, 1) := by decide +kernel
theorem d_PC_up_31 : decode b_PC_up 31 = .ok (.ifCond .eq 22, 3) := by decide +kernel
theorem d_PC_up_34 : decode b_PC_up 34 = .ok (.aload_n 0, 1) := by decide +kernel
theorem d_PC_up_35 : decode b_PC_up 35 = .ok (.getfield 21, 3) := by decide +kernel
theorem d_PC_up_38 : decode b_PC_up 38 = .ok (.iload_n 1, 1) := by decide +kernel
theorem d_PC_up_39 : decode b_PC_up 39 = .ok (.aload_n 0, 1) := by decide +kernel
theorem d_PC_up_40 : decode b_PC_up 40 = .ok (.getfield 21, 3) := by decide +kernel
theorem d_PC_up_43 : decode b_PC_up 43 = .ok (.iload_n 1, 1) := by decide +kernel
theorem d_PC_up_44 : decode b_PC_up 44 = .ok (.iaload, 1) := by decide +kernel
theorem d_PC_up_45 : decode b_PC_up 45 = .ok (.iload_n 2, 1) := by decide +kernel
theorem d_PC_up_46 : decode b_PC_up 46 = .ok (.invokestatic 93, 3) := by decide +kernel
theorem d_PC_up_49 : decode b_PC_up 49 = .ok (.iastore, 1) := by decide +kernel
theorem d_PC_up_50 : decode b_PC_up 50 = .ok (.goto 25, 3) := by decide +kernel
theorem d_PC_up_53 : decode b_PC_up 53 = .ok (.aload_n 0, 1) := by decide +kernel
theorem d_PC_up_54 : decode b_PC_up 54 = .ok (.getfield 21, 3) := by decide +kernel
theorem d_PC_up_57 : decode b_PC_up 57 = .ok (.iload_n 1, 1) := by decide +kernel
theorem d_PC_up_58 : decode b_PC_up 58 = .ok (.aload_n 0, 1) := by decide +kernel
theorem d_PC_up_59 : decode b_PC_up 59 = .ok (.getfield 21, 3) := by decide +kernel
theorem d_PC_up_62 : decode b_PC_up 62 = .ok (.iload_n 1, 1) := by decide +kernel
theorem d_PC_up_63 : decode b_PC_up 63 = .ok (.iaload, 1) := by decide +kernel
theorem d_PC_up_64 : decode b_PC_up 64 = .ok (.iload_n 2, 1) := by decide +kernel
theorem d_PC_up_65 : decode b_PC_up 65 = .ok (.invokestatic 160, 3) := by decide +kernel
theorem d_PC_up_68 : decode b_PC_up 68 = .ok (.iastore, 1) := by decide +kernel
theorem d_PC_up_69 : decode b_PC_up 69 = .ok (.aload_n 0, 1) := by decide +kernel
theorem d_PC_up_70 : decode b_PC_up 70 = .ok (.iload_n 1, 1) := by decide +kernel
theorem d_PC_up_71 : decode b_PC_up 71 = .ok (.iload_n 2, 1) := by decide +kernel
theorem d_PC_up_72 : decode b_PC_up 72 = .ok (.invokevirtual 163, 3) := by decide +kernel
theorem d_PC_up_75 : decode b_PC_up 75 = .ok (.iload 4, 2) := by decide +kernel
theorem d_PC_up_77 : decode b_PC_up 77 = .ok (.ireturn, 1) := by decide +kernel
theorem d_PC_value_0 : decode b_PC_value 0 = .ok (.iload_n 1, 1) := by decide +kernel
theorem d_PC_value_1 : decode b_PC_value 1 = .ok (.iconst 3, 1) := by decide +kernel
theorem d_PC_value_2 : decode b_PC_value 2 = .ok (.invokestatic 64, 3) := by decide +kernel
theorem d_PC_value_5 : decode b_PC_value 5 = .ok (.iload_n 2, 1) := by decide +kernel
theorem d_PC_value_6 : decode b_PC_value 6 = .ok (.iconst 4, 1) := by decide +kernel
theorem d_PC_value_7 : decode b_PC_value 7 = .ok (.invokestatic 64, 3) := by decide +kernel
theorem d_PC_value_10 : decode b_PC_value 10 = .ok (.aload_n 0, 1) := by decide +kernel
theorem d_PC_value_11 : decode b_PC_value 11 = .ok (.getfield 11, 3) := by decide +kernel
theorem d_PC_value_14 : decode b_PC_value 14 = .ok (.iload_n 1, 1) := by decide +kernel
theorem d_PC_value_15 : decode b_PC_value 15 = .ok (.aaload, 1) := by decide +kernel
theorem d_PC_value_16 : decode b_PC_value 16 = .ok (.getfield 192, 3) := by decide +kernel
theorem d_PC_value_19 : decode b_PC_value 19 = .ok (.iload_n 2, 1) := by decide +kernel
theorem d_PC_value_20 : decode b_PC_value 20 = .ok (.iaload, 1) := by decide +kernel
theorem d_PC_value_21 : decode b_PC_value 21 = .ok (.ireturn, 1) := by decide +kernel
theorem d_PC_voteOf_0 : decode b_PC_voteOf 0 = .ok (.iload_n 0, 1) := by decide +kernel
theorem d_PC_voteOf_1 : decode b_PC_voteOf 1 = .ok (.iconst 2, 1) := by decide +kernel
theorem d_PC_voteOf_2 : decode b_PC_voteOf 2 = .ok (.irem, 1) := by decide +kernel
theorem d_PC_voteOf_3 : decode b_PC_voteOf 3 = .ok (.ifCond .ne 7, 3) := by decide +kernel
theorem d_PC_voteOf_6 : decode b_PC_voteOf 6 = .ok (.iconst 0, 1) := by decide +kernel
theorem d_PC_voteOf_7 : decode b_PC_voteOf 7 = .ok (.goto 4, 3) := by decide +kernel
theorem d_PC_voteOf_10 : decode b_PC_voteOf 10 = .ok (.iconst 1, 1) := by decide +kernel
theorem d_PC_voteOf_11 : decode b_PC_voteOf 11 = .ok (.ireturn, 1) := by decide +kernel
theorem d_PC_with_0 : decode b_PC_with 0 = .ok (.iload_n 0, 1) := by decide +kernel
theorem d_PC_with_1 : decode b_PC_with 1 = .ok (.iconst 1, 1) := by decide +kernel
theorem d_PC_with_2 : decode b_PC_with 2 = .ok (.iload_n 1, 1) := by decide +kernel
theorem d_PC_with_3 : decode b_PC_with 3 = .ok (.ishl, 1) := by decide +kernel
theorem d_PC_with_4 : decode b_PC_with 4 = .ok (.ior, 1) := by decide +kernel
theorem d_PC_with_5 : decode b_PC_with 5 = .ok (.ireturn, 1) := by decide +kernel
theorem d_PC_without_0 : decode b_PC_without 0 = .ok (.iload_n 0, 1) := by decide +kernel
theorem d_PC_without_1 : decode b_PC_without 1 = .ok (.iconst 1, 1) := by decide +kernel
theorem d_PC_without_2 : decode b_PC_without 2 = .ok (.iload_n 1, 1) := by decide +kernel
theorem d_PC_without_3 : decode b_PC_without 3 = .ok (.ishl, 1) := by decide +kernel
theorem d_PC_without_4 : decode b_PC_without 4 = .ok (.iconst (-1), 1) := by decide +kernel
theorem d_PC_without_5 : decode b_PC_without 5 = .ok (.ixor, 1) := by decide +kernel
theorem d_PC_without_6 : decode b_PC_without 6 = .ok (.iand, 1) := by decide +kernel
theorem d_PC_without_7 : decode b_PC_without 7 = .ok (.ireturn, 1) := by decide +kernel
theorem d_PC_write_0 : decode b_PC_write 0 = .ok (.iload_n 1, 1) := by decide +kernel
theorem d_PC_write_1 : decode b_PC_write 1 = .ok (.bipush 8, 2) := by decide +kernel
theorem d_PC_write_3 : decode b_PC_write 3 = .ok (.invokestatic 64, 3) := by decide +kernel
theorem d_PC_write_6 : decode b_PC_write 6 = .ok (.iload_n 2, 1) := by decide +kernel
theorem d_PC_write_7 : decode b_PC_write 7 = .ok (.iconst 3, 1) := by decide +kernel
theorem d_PC_write_8 : decode b_PC_write 8 = .ok (.invokestatic 64, 3) := by decide +kernel
theorem d_PC_write_11 : decode b_PC_write 11 = .ok (.iload_n 3, 1) := by decide +kernel
theorem d_PC_write_12 : decode b_PC_write 12 = .ok (.iconst 4, 1) := by decide +kernel
theorem d_PC_write_13 : decode b_PC_write 13 = .ok (.invokestatic 64, 3) := by decide +kernel
theorem d_PC_write_16 : decode b_PC_write 16 = .ok (.aload_n 0, 1) := by decide +kernel
theorem d_PC_write_17 : decode b_PC_write 17 = .ok (.iload_n 1, 1) := by decide +kernel
theorem d_PC_write_18 : decode b_PC_write 18 = .ok (.invokevirtual 68, 3) := by decide +kernel
theorem d_PC_write_21 : decode b_PC_write 21 = .ok (.aload_n 0, 1) := by decide +kernel
theorem d_PC_write_22 : decode b_PC_write 22 = .ok (.iconst 0, 1) := by decide +kernel
theorem d_PC_write_23 : decode b_PC_write 23 = .ok (.iload_n 2, 1) := by decide +kernel
theorem d_PC_write_24 : decode b_PC_write 24 = .ok (.invokevirtual 71, 3) := by decide +kernel
theorem d_PC_write_27 : decode b_PC_write 27 = .ok (.aload_n 0, 1) := by decide +kernel
theorem d_PC_write_28 : decode b_PC_write 28 = .ok (.getfield 11, 3) := by decide +kernel
theorem d_PC_write_31 : decode b_PC_write 31 = .ok (.iload_n 2, 1) := by decide +kernel
theorem d_PC_write_32 : decode b_PC_write 32 = .ok (.aaload, 1) := by decide +kernel
theorem d_PC_write_33 : decode b_PC_write 33 = .ok (.astore 5, 2) := by decide +kernel
theorem d_PC_write_35 : decode b_PC_write 35 = .ok (.aload 5, 2) := by decide +kernel
theorem d_PC_write_37 : decode b_PC_write 37 = .ok (.iload_n 1, 1) := by decide +kernel
theorem d_PC_write_38 : decode b_PC_write 38 = .ok (.iload_n 3, 1) := by decide +kernel
theorem d_PC_write_39 : decode b_PC_write 39 = .ok (.invokevirtual 74, 3) := by decide +kernel
theorem d_PC_write_42 : decode b_PC_write 42 = .ok (.ifCond .eq 13, 3) := by decide +kernel
theorem d_PC_write_45 : decode b_PC_write 45 = .ok (.new 57, 3) := by decide +kernel
theorem d_PC_write_48 : decode b_PC_write 48 = .ok (.dup, 1) := by decide +kernel
theorem d_PC_write_49 : decode b_PC_write 49 = .ok (.ldc 78, 2) := by decide +kernel
theorem d_PC_write_51 : decode b_PC_write 51 = .ok (.invokespecial 61, 3) := by decide +kernel
theorem d_PC_write_54 : decode b_PC_write 54 = .ok (.athrow, 1) := by decide +kernel
theorem d_PC_write_55 : decode b_PC_write 55 = .ok (.aload_n 0, 1) := by decide +kernel
theorem d_PC_write_56 : decode b_PC_write 56 = .ok (.getfield 35, 3) := by decide +kernel
theorem d_PC_write_59 : decode b_PC_write 59 = .ok (.iload_n 1, 1) := by decide +kernel
theorem d_PC_write_60 : decode b_PC_write 60 = .ok (.baload, 1) := by decide +kernel
theorem d_PC_write_61 : decode b_PC_write 61 = .ok (.ifCond .ne 12, 3) := by decide +kernel
theorem d_PC_write_64 : decode b_PC_write 64 = .ok (.aload 5, 2) := by decide +kernel
theorem d_PC_write_66 : decode b_PC_write 66 = .ok (.iload_n 1, 1) := by decide +kernel
theorem d_PC_write_67 : decode b_PC_write 67 = .ok (.invokevirtual 80, 3) := by decide +kernel
theorem d_PC_write_70 : decode b_PC_write 70 = .ok (.ifCond .ne 13, 3) := by decide +kernel
theorem d_PC_write_73 : decode b_PC_write 73 = .ok (.new 84, 3) := by decide +kernel
theorem d_PC_write_76 : decode b_PC_write 76 = .ok (.dup, 1) := by decide +kernel
theorem d_PC_write_77 : decode b_PC_write 77 = .ok (.ldc 86, 2) := by decide +kernel
theorem d_PC_write_79 : decode b_PC_write 79 = .ok (.invokespecial 88, 3) := by decide +kernel
theorem d_PC_write_82 : decode b_PC_write 82 = .ok (.athrow, 1) := by decide +kernel
theorem d_PC_write_83 : decode b_PC_write 83 = .ok (.aload 5, 2) := by decide +kernel
theorem d_PC_write_85 : decode b_PC_write 85 = .ok (.iload_n 1, 1) := by decide +kernel
theorem d_PC_write_86 : decode b_PC_write 86 = .ok (.iload_n 3, 1) := by decide +kernel
theorem d_PC_write_87 : decode b_PC_write 87 = .ok (.iload 4, 2) := by decide +kernel
theorem d_PC_write_89 : decode b_PC_write 89 = .ok (.invokevirtual 89, 3) := by decide +kernel
theorem d_PC_write_92 : decode b_PC_write 92 = .ok (.aload_n 0, 1) := by decide +kernel
theorem d_PC_write_93 : decode b_PC_write 93 = .ok (.getfield 32, 3) := by decide +kernel
