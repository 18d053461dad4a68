theorem d_Led_voteToPropose_52 : decode b_Led_voteToPropose 52 = .ok (.goto (-48), 3) := by decide +kernel
theorem d_Led_voteToPropose_55 : decode b_Led_voteToPropose 55 = .ok (.iload_n 2, 1) := by decide +kernel
theorem d_Led_voteToPropose_56 : decode b_Led_voteToPropose 56 = .ok (.iconst (-1), 1) := by decide +kernel
theorem d_Led_voteToPropose_57 : decode b_Led_voteToPropose 57 = .ok (.if_icmp .ne 7, 3) := by decide +kernel
theorem d_Led_voteToPropose_60 : decode b_Led_voteToPropose 60 = .ok (.iconst 0, 1) := by decide +kernel
theorem d_Led_voteToPropose_61 : decode b_Led_voteToPropose 61 = .ok (.goto 7, 3) := by decide +kernel
theorem d_Led_voteToPropose_64 : decode b_Led_voteToPropose 64 = .ok (.iload_n 2, 1) := by decide +kernel
theorem d_Led_voteToPropose_65 : decode b_Led_voteToPropose 65 = .ok (.invokestatic 53, 3) := by decide +kernel
theorem d_Led_voteToPropose_68 : decode b_Led_voteToPropose 68 = .ok (.ireturn, 1) := by decide +kernel
theorem d_Math_floorMod_0 : decode b_Math_floorMod 0 = .ok (.iload_n 0, 1) := by decide +kernel
theorem d_Math_floorMod_1 : decode b_Math_floorMod 1 = .ok (.iload_n 1, 1) := by decide +kernel
theorem d_Math_floorMod_2 : decode b_Math_floorMod 2 = .ok (.irem, 1) := by decide +kernel
theorem d_Math_floorMod_3 : decode b_Math_floorMod 3 = .ok (.istore_n 2, 1) := by decide +kernel
theorem d_Math_floorMod_4 : decode b_Math_floorMod 4 = .ok (.iload_n 0, 1) := by decide +kernel
theorem d_Math_floorMod_5 : decode b_Math_floorMod 5 = .ok (.iload_n 1, 1) := by decide +kernel
theorem d_Math_floorMod_6 : decode b_Math_floorMod 6 = .ok (.ixor, 1) := by decide +kernel
theorem d_Math_floorMod_7 : decode b_Math_floorMod 7 = .ok (.ifCond .ge 11, 3) := by decide +kernel
theorem d_Math_floorMod_10 : decode b_Math_floorMod 10 = .ok (.iload_n 2, 1) := by decide +kernel
theorem d_Math_floorMod_11 : decode b_Math_floorMod 11 = .ok (.ifCond .eq 7, 3) := by decide +kernel
theorem d_Math_floorMod_14 : decode b_Math_floorMod 14 = .ok (.iload_n 2, 1) := by decide +kernel
theorem d_Math_floorMod_15 : decode b_Math_floorMod 15 = .ok (.iload_n 1, 1) := by decide +kernel
theorem d_Math_floorMod_16 : decode b_Math_floorMod 16 = .ok (.iadd, 1) := by decide +kernel
theorem d_Math_floorMod_17 : decode b_Math_floorMod 17 = .ok (.ireturn, 1) := by decide +kernel
theorem d_Math_floorMod_18 : decode b_Math_floorMod 18 = .ok (.iload_n 2, 1) := by decide +kernel
theorem d_Math_floorMod_19 : decode b_Math_floorMod 19 = .ok (.ireturn, 1) := by decide +kernel
theorem d_Mo_abort_0 : decode b_Mo_abort 0 = .ok (.aload_n 0, 1) := by decide +kernel
theorem d_Mo_abort_1 : decode b_Mo_abort 1 = .ok (.getfield 32, 3) := by decide +kernel
theorem d_Mo_abort_4 : decode b_Mo_abort 4 = .ok (.iconst 3, 1) := by decide +kernel
theorem d_Mo_abort_5 : decode b_Mo_abort 5 = .ok (.iload_n 1, 1) := by decide +kernel
theorem d_Mo_abort_6 : decode b_Mo_abort 6 = .ok (.imul, 1) := by decide +kernel
theorem d_Mo_abort_7 : decode b_Mo_abort 7 = .ok (.iload_n 2, 1) := by decide +kernel
theorem d_Mo_abort_8 : decode b_Mo_abort 8 = .ok (.iadd, 1) := by decide +kernel
theorem d_Mo_abort_9 : decode b_Mo_abort 9 = .ok (.iconst 4, 1) := by decide +kernel
theorem d_Mo_abort_10 : decode b_Mo_abort 10 = .ok (.iastore, 1) := by decide +kernel
theorem d_Mo_abort_11 : decode b_Mo_abort 11 = .ok (.aload_n 0, 1) := by decide +kernel
theorem d_Mo_abort_12 : decode b_Mo_abort 12 = .ok (.iload_n 1, 1) := by decide +kernel
theorem d_Mo_abort_13 : decode b_Mo_abort 13 = .ok (.iload_n 2, 1) := by decide +kernel
theorem d_Mo_abort_14 : decode b_Mo_abort 14 = .ok (.invokevirtual 98, 3) := by decide +kernel
theorem d_Mo_abort_17 : decode b_Mo_abort 17 = .ok (.return_, 1) := by decide +kernel
theorem d_Mo_accept_0 : decode b_Mo_accept 0 = .ok (.bipush 24, 2) := by decide +kernel
theorem d_Mo_accept_2 : decode b_Mo_accept 2 = .ok (.iload_n 3, 1) := by decide +kernel
theorem d_Mo_accept_3 : decode b_Mo_accept 3 = .ok (.imul, 1) := by decide +kernel
theorem d_Mo_accept_4 : decode b_Mo_accept 4 = .ok (.iconst 3, 1) := by decide +kernel
theorem d_Mo_accept_5 : decode b_Mo_accept 5 = .ok (.iload_n 1, 1) := by decide +kernel
theorem d_Mo_accept_6 : decode b_Mo_accept 6 = .ok (.imul, 1) := by decide +kernel
theorem d_Mo_accept_7 : decode b_Mo_accept 7 = .ok (.iadd, 1) := by decide +kernel
theorem d_Mo_accept_8 : decode b_Mo_accept 8 = .ok (.iload_n 2, 1) := by decide +kernel
theorem d_Mo_accept_9 : decode b_Mo_accept 9 = .ok (.iadd, 1) := by decide +kernel
theorem d_Mo_accept_10 : decode b_Mo_accept 10 = .ok (.istore 6, 2) := by decide +kernel
theorem d_Mo_accept_12 : decode b_Mo_accept 12 = .ok (.aload_n 0, 1) := by decide +kernel
theorem d_Mo_accept_13 : decode b_Mo_accept 13 = .ok (.getfield 41, 3) := by decide +kernel
theorem d_Mo_accept_16 : decode b_Mo_accept 16 = .ok (.iload 6, 2) := by decide +kernel
theorem d_Mo_accept_18 : decode b_Mo_accept 18 = .ok (.iaload, 1) := by decide +kernel
theorem d_Mo_accept_19 : decode b_Mo_accept 19 = .ok (.iload 4, 2) := by decide +kernel
theorem d_Mo_accept_21 : decode b_Mo_accept 21 = .ok (.if_icmp .le 4, 3) := by decide +kernel
theorem d_Mo_accept_24 : decode b_Mo_accept 24 = .ok (.return_, 1) := by decide +kernel
theorem d_Mo_accept_25 : decode b_Mo_accept 25 = .ok (.aload_n 0, 1) := by decide +kernel
theorem d_Mo_accept_26 : decode b_Mo_accept 26 = .ok (.getfield 41, 3) := by decide +kernel
theorem d_Mo_accept_29 : decode b_Mo_accept 29 = .ok (.iload 6, 2) := by decide +kernel
theorem d_Mo_accept_31 : decode b_Mo_accept 31 = .ok (.iload 4, 2) := by decide +kernel
theorem d_Mo_accept_33 : decode b_Mo_accept 33 = .ok (.iastore, 1) := by decide +kernel
theorem d_Mo_accept_34 : decode b_Mo_accept 34 = .ok (.aload_n 0, 1) := by decide +kernel
theorem d_Mo_accept_35 : decode b_Mo_accept 35 = .ok (.getfield 44, 3) := by decide +kernel
theorem d_Mo_accept_38 : decode b_Mo_accept 38 = .ok (.iload 6, 2) := by decide +kernel
theorem d_Mo_accept_40 : decode b_Mo_accept 40 = .ok (.iload 4, 2) := by decide +kernel
theorem d_Mo_accept_42 : decode b_Mo_accept 42 = .ok (.iastore, 1) := by decide +kernel
theorem d_Mo_accept_43 : decode b_Mo_accept 43 = .ok (.aload_n 0, 1) := by decide +kernel
theorem d_Mo_accept_44 : decode b_Mo_accept 44 = .ok (.getfield 47, 3) := by decide +kernel
theorem d_Mo_accept_47 : decode b_Mo_accept 47 = .ok (.iload 6, 2) := by decide +kernel
theorem d_Mo_accept_49 : decode b_Mo_accept 49 = .ok (.iload 5, 2) := by decide +kernel
theorem d_Mo_accept_51 : decode b_Mo_accept 51 = .ok (.iastore, 1) := by decide +kernel
theorem d_Mo_accept_52 : decode b_Mo_accept 52 = .ok (.iconst 0, 1) := by decide +kernel
theorem d_Mo_accept_53 : decode b_Mo_accept 53 = .ok (.istore 7, 2) := by decide +kernel
theorem d_Mo_accept_55 : decode b_Mo_accept 55 = .ok (.iload 7, 2) := by decide +kernel
theorem d_Mo_accept_57 : decode b_Mo_accept 57 = .ok (.iconst 2, 1) := by decide +kernel
theorem d_Mo_accept_58 : decode b_Mo_accept 58 = .ok (.if_icmp .ge 26, 3) := by decide +kernel
theorem d_Mo_accept_61 : decode b_Mo_accept 61 = .ok (.aload_n 0, 1) := by decide +kernel
theorem d_Mo_accept_62 : decode b_Mo_accept 62 = .ok (.bipush 84, 2) := by decide +kernel
theorem d_Mo_accept_64 : decode b_Mo_accept 64 = .ok (.iload_n 1, 1) := by decide +kernel
theorem d_Mo_accept_65 : decode b_Mo_accept 65 = .ok (.iload_n 2, 1) := by decide +kernel
theorem d_Mo_accept_66 : decode b_Mo_accept 66 = .ok (.iload_n 3, 1) := by decide +kernel
theorem d_Mo_accept_67 : decode b_Mo_accept 67 = .ok (.iload 7, 2) := by decide +kernel
theorem d_Mo_accept_69 : decode b_Mo_accept 69 = .ok (.iload 4, 2) := by decide +kernel
theorem d_Mo_accept_71 : decode b_Mo_accept 71 = .ok (.iload 5, 2) := by decide +kernel
theorem d_Mo_accept_73 : decode b_Mo_accept 73 = .ok (.invokevirtual 94, 3) := by decide +kernel
theorem d_Mo_accept_76 : decode b_Mo_accept 76 = .ok (.istore 8, 2) := by decide +kernel
theorem d_Mo_accept_78 : decode b_Mo_accept 78 = .ok (.iinc 7 1, 3) := by decide +kernel
theorem d_Mo_accept_81 : decode b_Mo_accept 81 = .ok (.goto (-26), 3) := by decide +kernel
theorem d_Mo_accept_84 : decode b_Mo_accept 84 = .ok (.return_, 1) := by decide +kernel
theorem d_Mo_arrive_0 : decode b_Mo_arrive 0 = .ok (.aload_n 0, 1) := by decide +kernel
theorem d_Mo_arrive_1 : decode b_Mo_arrive 1 = .ok (.getfield 74, 3) := by decide +kernel
theorem d_Mo_arrive_4 : decode b_Mo_arrive 4 = .ok (.iload_n 1, 1) := by decide +kernel
theorem d_Mo_arrive_5 : decode b_Mo_arrive 5 = .ok (.iconst 1, 1) := by decide +kernel
theorem d_Mo_arrive_6 : decode b_Mo_arrive 6 = .ok (.iadd, 1) := by decide +kernel
theorem d_Mo_arrive_7 : decode b_Mo_arrive 7 = .ok (.iaload, 1) := by decide +kernel
theorem d_Mo_arrive_8 : decode b_Mo_arrive 8 = .ok (.istore_n 2, 1) := by decide +kernel
theorem d_Mo_arrive_9 : decode b_Mo_arrive 9 = .ok (.aload_n 0, 1) := by decide +kernel
theorem d_Mo_arrive_10 : decode b_Mo_arrive 10 = .ok (.getfield 74, 3) := by decide +kernel
theorem d_Mo_arrive_13 : decode b_Mo_arrive 13 = .ok (.iload_n 1, 1) := by decide +kernel
theorem d_Mo_arrive_14 : decode b_Mo_arrive 14 = .ok (.iconst 2, 1) := by decide +kernel
theorem d_Mo_arrive_15 : decode b_Mo_arrive 15 = .ok (.iadd, 1) := by decide +kernel
theorem d_Mo_arrive_16 : decode b_Mo_arrive 16 = .ok (.iaload, 1) := by decide +kernel
theorem d_Mo_arrive_17 : decode b_Mo_arrive 17 = .ok (.istore_n 3, 1) := by decide +kernel
theorem d_Mo_arrive_18 : decode b_Mo_arrive 18 = .ok (.aload_n 0, 1) := by decide +kernel
theorem d_Mo_arrive_19 : decode b_Mo_arrive 19 = .ok (.getfield 74, 3) := by decide +kernel
theorem d_Mo_arrive_22 : decode b_Mo_arrive 22 = .ok (.iload_n 1, 1) := by decide +kernel
theorem d_Mo_arrive_23 : decode b_Mo_arrive 23 = .ok (.iconst 3, 1) := by decide +kernel
theorem d_Mo_arrive_24 : decode b_Mo_arrive 24 = .ok (.iadd, 1) := by decide +kernel
theorem d_Mo_arrive_25 : decode b_Mo_arrive 25 = .ok (.iaload, 1) := by decide +kernel
theorem d_Mo_arrive_26 : decode b_Mo_arrive 26 = .ok (.istore 4, 2) := by decide +kernel
theorem d_Mo_arrive_28 : decode b_Mo_arrive 28 = .ok (.aload_n 0, 1) := by decide +kernel
theorem d_Mo_arrive_29 : decode b_Mo_arrive 29 = .ok (.getfield 74, 3) := by decide +kernel
theorem d_Mo_arrive_32 : decode b_Mo_arrive 32 = .ok (.iload_n 1, 1) := by decide +kernel
theorem d_Mo_arrive_33 : decode b_Mo_arrive 33 = .ok (.iconst 4, 1) := by decide +kernel
theorem d_Mo_arrive_34 : decode b_Mo_arrive 34 = .ok (.iadd, 1) := by decide +kernel
theorem d_Mo_arrive_35 : decode b_Mo_arrive 35 = .ok (.iaload, 1) := by decide +kernel
theorem d_Mo_arrive_36 : decode b_Mo_arrive 36 = .ok (.istore 5, 2) := by decide +kernel
theorem d_Mo_arrive_38 : decode b_Mo_arrive 38 = .ok (.aload_n 0, 1) := by decide +kernel
theorem d_Mo_arrive_39 : decode b_Mo_arrive 39 = .ok (.getfield 74, 3) := by decide +kernel
theorem d_Mo_arrive_42 : decode b_Mo_arrive 42 = .ok (.iload_n 1, 1) := by decide +kernel
theorem d_Mo_arrive_43 : decode b_Mo_arrive 43 = .ok (.iconst 5, 1) := by decide +kernel
theorem d_Mo_arrive_44 : decode b_Mo_arrive 44 = .ok (.iadd, 1) := by decide +kernel
theorem d_Mo_arrive_45 : decode b_Mo_arrive 45 = .ok (.iaload, 1) := by decide +kernel
theorem d_Mo_arrive_46 : decode b_Mo_arrive 46 = .ok (.istore 6, 2) := by decide +kernel
theorem d_Mo_arrive_48 : decode b_Mo_arrive 48 = .ok (.aload_n 0, 1) := by decide +kernel
theorem d_Mo_arrive_49 : decode b_Mo_arrive 49 = .ok (.getfield 74, 3) := by decide +kernel
theorem d_Mo_arrive_52 : decode b_Mo_arrive 52 = .ok (.iload_n 1, 1) := by decide +kernel
theorem d_Mo_arrive_53 : decode b_Mo_arrive 53 = .ok (.bipush 6, 2) := by decide +kernel
theorem d_Mo_arrive_55 : decode b_Mo_arrive 55 = .ok (.iadd, 1) := by decide +kernel
theorem d_Mo_arrive_56 : decode b_Mo_arrive 56 = .ok (.iaload, 1) := by decide +kernel
theorem d_Mo_arrive_57 : decode b_Mo_arrive 57 = .ok (.istore 7, 2) := by decide +kernel
theorem d_Mo_arrive_59 : decode b_Mo_arrive 59 = .ok (.aload_n 0, 1) := by decide +kernel
theorem d_Mo_arrive_60 : decode b_Mo_arrive 60 = .ok (.getfield 74, 3) := by decide +kernel
theorem d_Mo_arrive_63 : decode b_Mo_arrive 63 = .ok (.iload_n 1, 1) := by decide +kernel
theorem d_Mo_arrive_64 : decode b_Mo_arrive 64 = .ok (.iaload, 1) := by decide +kernel
theorem d_Mo_arrive_65 : decode b_Mo_arrive 65 = .ok (.lookupswitch 168 #[(65, 69), (80, 51), (82, 91), (84, 141), (86, 116)], 51) := by decide +kernel
theorem d_Mo_arrive_116 : decode b_Mo_arrive 116 = .ok (.aload_n 0, 1) := by decide +kernel
theorem d_Mo_arrive_117 : decode b_Mo_arrive 117 = .ok (.getfield 7, 3) := by decide +kernel
theorem d_Mo_arrive_120 : decode b_Mo_arrive 120 = .ok (.iload_n 3, 1) := by decide +kernel
theorem d_Mo_arrive_121 : decode b_Mo_arrive 121 = .ok (.baload, 1) := by decide +kernel
theorem d_Mo_arrive_122 : decode b_Mo_arrive 122 = .ok (.ifCond .ne 128, 3) := by decide +kernel
theorem d_Mo_arrive_125 : decode b_Mo_arrive 125 = .ok (.aload_n 0, 1) := by decide +kernel
theorem d_Mo_arrive_126 : decode b_Mo_arrive 126 = .ok (.iload_n 2, 1) := by decide +kernel
theorem d_Mo_arrive_127 : decode b_Mo_arrive 127 = .ok (.iload_n 3, 1) := by decide +kernel
theorem d_Mo_arrive_128 : decode b_Mo_arrive 128 = .ok (.invokevirtual 137, 3) := by decide +kernel
theorem d_Mo_arrive_131 : decode b_Mo_arrive 131 = .ok (.goto 119, 3) := by decide +kernel
theorem d_Mo_arrive_134 : decode b_Mo_arrive 134 = .ok (.aload_n 0, 1) := by decide +kernel
theorem d_Mo_arrive_135 : decode b_Mo_arrive 135 = .ok (.getfield 13, 3) := by decide +kernel
theorem d_Mo_arrive_138 : decode b_Mo_arrive 138 = .ok (.iload 4, 2) := by decide +kernel
theorem d_Mo_arrive_140 : decode b_Mo_arrive 140 = .ok (.baload, 1) := by decide +kernel
theorem d_Mo_arrive_141 : decode b_Mo_arrive 141 = .ok (.ifCond .ne 109, 3) := by decide +kernel
theorem d_Mo_arrive_144 : decode b_Mo_arrive 144 = .ok (.aload_n 0, 1) := by decide +kernel
theorem d_Mo_arrive_145 : decode b_Mo_arrive 145 = .ok (.iload_n 2, 1) := by decide +kernel
theorem d_Mo_arrive_146 : decode b_Mo_arrive 146 = .ok (.iload 4, 2) := by decide +kernel
theorem d_Mo_arrive_148 : decode b_Mo_arrive 148 = .ok (.iload 6, 2) := by decide +kernel
theorem d_Mo_arrive_150 : decode b_Mo_arrive 150 = .ok (.invokevirtual 140, 3) := by decide +kernel
theorem d_Mo_arrive_153 : decode b_Mo_arrive 153 = .ok (.goto 97, 3) := by decide +kernel
theorem d_Mo_arrive_156 : decode b_Mo_arrive 156 = .ok (.aload_n 0, 1) := by decide +kernel
theorem d_Mo_arrive_157 : decode b_Mo_arrive 157 = .ok (.getfield 16, 3) := by decide +kernel
theorem d_Mo_arrive_160 : decode b_Mo_arrive 160 = .ok (.iload 5, 2) := by decide +kernel
theorem d_Mo_arrive_162 : decode b_Mo_arrive 162 = .ok (.baload, 1) := by decide +kernel
theorem d_Mo_arrive_163 : decode b_Mo_arrive 163 = .ok (.ifCond .ne 87, 3) := by decide +kernel
theorem d_Mo_arrive_166 : decode b_Mo_arrive 166 = .ok (.aload_n 0, 1) := by decide +kernel
theorem d_Mo_arrive_167 : decode b_Mo_arrive 167 = .ok (.iload 5, 2) := by decide +kernel
theorem d_Mo_arrive_169 : decode b_Mo_arrive 169 = .ok (.iload_n 2, 1) := by decide +kernel
theorem d_Mo_arrive_170 : decode b_Mo_arrive 170 = .ok (.iload 4, 2) := by decide +kernel
theorem d_Mo_arrive_172 : decode b_Mo_arrive 172 = .ok (.iload 6, 2) := by decide +kernel
theorem d_Mo_arrive_174 : decode b_Mo_arrive 174 = .ok (.iload_n 1, 1) := by decide +kernel
theorem d_Mo_arrive_175 : decode b_Mo_arrive 175 = .ok (.invokevirtual 144, 3) := by decide +kernel
theorem d_Mo_arrive_178 : decode b_Mo_arrive 178 = .ok (.goto 72, 3) := by decide +kernel
theorem d_Mo_arrive_181 : decode b_Mo_arrive 181 = .ok (.aload_n 0, 1) := by decide +kernel
theorem d_Mo_arrive_182 : decode b_Mo_arrive 182 = .ok (.getfield 13, 3) := by decide +kernel
theorem d_Mo_arrive_185 : decode b_Mo_arrive 185 = .ok (.iload 4, 2) := by decide +kernel
theorem d_Mo_arrive_187 : decode b_Mo_arrive 187 = .ok (.baload, 1) := by decide +kernel
theorem d_Mo_arrive_188 : decode b_Mo_arrive 188 = .ok (.ifCond .ne 62, 3) := by decide +kernel
theorem d_Mo_arrive_191 : decode b_Mo_arrive 191 = .ok (.aload_n 0, 1) := by decide +kernel
theorem d_Mo_arrive_192 : decode b_Mo_arrive 192 = .ok (.iload_n 2, 1) := by decide +kernel
theorem d_Mo_arrive_193 : decode b_Mo_arrive 193 = .ok (.iload_n 3, 1) := by decide +kernel
theorem d_Mo_arrive_194 : decode b_Mo_arrive 194 = .ok (.iload 4, 2) := by decide +kernel
theorem d_Mo_arrive_196 : decode b_Mo_arrive 196 = .ok (.iload 6, 2) := by decide +kernel
theorem d_Mo_arrive_198 : decode b_Mo_arrive 198 = .ok (.iload 7, 2) := by decide +kernel
theorem d_Mo_arrive_200 : decode b_Mo_arrive 200 = .ok (.invokevirtual 148, 3) := by decide +kernel
theorem d_Mo_arrive_203 : decode b_Mo_arrive 203 = .ok (.goto 47, 3) := by decide +kernel
theorem d_Mo_arrive_206 : decode b_Mo_arrive 206 = .ok (.aload_n 0, 1) := by decide +kernel
theorem d_Mo_arrive_207 : decode b_Mo_arrive 207 = .ok (.getfield 16, 3) := by decide +kernel
theorem d_Mo_arrive_210 : decode b_Mo_arrive 210 = .ok (.iload 5, 2) := by decide +kernel
theorem d_Mo_arrive_212 : decode b_Mo_arrive 212 = .ok (.baload, 1) := by decide +kernel
theorem d_Mo_arrive_213 : decode b_Mo_arrive 213 = .ok (.ifCond .ne 37, 3) := by decide +kernel
theorem d_Mo_arrive_216 : decode b_Mo_arrive 216 = .ok (.aload_n 0, 1) := by decide +kernel
theorem d_Mo_arrive_217 : decode b_Mo_arrive 217 = .ok (.iload 5, 2) := by decide +kernel
theorem d_Mo_arrive_219 : decode b_Mo_arrive 219 = .ok (.iload_n 2, 1) := by decide +kernel
theorem d_Mo_arrive_220 : decode b_Mo_arrive 220 = .ok (.iload_n 3, 1) := by decide +kernel
theorem d_Mo_arrive_221 : decode b_Mo_arrive 221 = .ok (.iload 4, 2) := by decide +kernel
theorem d_Mo_arrive_223 : decode b_Mo_arrive 223 = .ok (.iload 6, 2) := by decide +kernel
theorem d_Mo_arrive_225 : decode b_Mo_arrive 225 = .ok (.iload 7, 2) := by decide +kernel
theorem d_Mo_arrive_227 : decode b_Mo_arrive 227 = .ok (.invokevirtual 151, 3) := by decide +kernel
theorem d_Mo_arrive_230 : decode b_Mo_arrive 230 = .ok (.goto 20, 3) := by decide +kernel
theorem d_Mo_arrive_233 : decode b_Mo_arrive 233 = .ok (.aload_n 0, 1) := by decide +kernel
theorem d_Mo_arrive_234 : decode b_Mo_arrive 234 = .ok (.getfield 7, 3) := by decide +kernel
theorem d_Mo_arrive_237 : decode b_Mo_arrive 237 = .ok (.iload_n 3, 1) := by decide +kernel
theorem d_Mo_arrive_238 : decode b_Mo_arrive 238 = .ok (.baload, 1) := by decide +kernel
theorem d_Mo_arrive_239 : decode b_Mo_arrive 239 = .ok (.ifCond .ne 11, 3) := by decide +kernel
theorem d_Mo_arrive_242 : decode b_Mo_arrive 242 = .ok (.aload_n 0, 1) := by decide +kernel
theorem d_Mo_arrive_243 : decode b_Mo_arrive 243 = .ok (.iload_n 2, 1) := by decide +kernel
theorem d_Mo_arrive_244 : decode b_Mo_arrive 244 = .ok (.iload_n 3, 1) := by decide +kernel
theorem d_Mo_arrive_245 : decode b_Mo_arrive 245 = .ok (.iload 7, 2) := by decide +kernel
theorem d_Mo_arrive_247 : decode b_Mo_arrive 247 = .ok (.invokevirtual 155, 3) := by decide +kernel
theorem d_Mo_arrive_250 : decode b_Mo_arrive 250 = .ok (.return_, 1) := by decide +kernel
theorem d_Mo_ask_0 : decode b_Mo_ask 0 = .ok (.iconst 0, 1) := by decide +kernel
theorem d_Mo_ask_1 : decode b_Mo_ask 1 = .ok (.istore 4, 2) := by decide +kernel
theorem d_Mo_ask_3 : decode b_Mo_ask 3 = .ok (.iload 4, 2) := by decide +kernel
theorem d_Mo_ask_5 : decode b_Mo_ask 5 = .ok (.iconst 3, 1) := by decide +kernel
theorem d_Mo_ask_6 : decode b_Mo_ask 6 = .ok (.if_icmp .ge 40, 3) := by decide +kernel
theorem d_Mo_ask_9 : decode b_Mo_ask 9 = .ok (.aload_n 0, 1) := by decide +kernel
theorem d_Mo_ask_10 : decode b_Mo_ask 10 = .ok (.iload_n 1, 1) := by decide +kernel
theorem d_Mo_ask_11 : decode b_Mo_ask 11 = .ok (.iload 4, 2) := by decide +kernel
theorem d_Mo_ask_13 : decode b_Mo_ask 13 = .ok (.invokevirtual 116, 3) := by decide +kernel
theorem d_Mo_ask_16 : decode b_Mo_ask 16 = .ok (.ifCond .eq 24, 3) := by decide +kernel
theorem d_Mo_ask_19 : decode b_Mo_ask 19 = .ok (.aload_n 0, 1) := by decide +kernel
theorem d_Mo_ask_20 : decode b_Mo_ask 20 = .ok (.getfield 41, 3) := by decide +kernel
theorem d_Mo_ask_23 : decode b_Mo_ask 23 = .ok (.bipush 24, 2) := by decide +kernel
theorem d_Mo_ask_25 : decode b_Mo_ask 25 = .ok (.iload_n 2, 1) := by decide +kernel
theorem d_Mo_ask_26 : decode b_Mo_ask 26 = .ok (.imul, 1) := by decide +kernel
theorem d_Mo_ask_27 : decode b_Mo_ask 27 = .ok (.iconst 3, 1) := by decide +kernel
theorem d_Mo_ask_28 : decode b_Mo_ask 28 = .ok (.iload_n 1, 1) := by decide +kernel
theorem d_Mo_ask_29 : decode b_Mo_ask 29 = .ok (.imul, 1) := by decide +kernel
theorem d_Mo_ask_30 : decode b_Mo_ask 30 = .ok (.iadd, 1) := by decide +kernel
theorem d_Mo_ask_31 : decode b_Mo_ask 31 = .ok (.iload 4, 2) := by decide +kernel
theorem d_Mo_ask_33 : decode b_Mo_ask 33 = .ok (.iadd, 1) := by decide +kernel
theorem d_Mo_ask_34 : decode b_Mo_ask 34 = .ok (.iaload, 1) := by decide +kernel
theorem d_Mo_ask_35 : decode b_Mo_ask 35 = .ok (.iload_n 3, 1) := by decide +kernel
theorem d_Mo_ask_36 : decode b_Mo_ask 36 = .ok (.if_icmp .le 4, 3) := by decide +kernel
theorem d_Mo_ask_39 : decode b_Mo_ask 39 = .ok (.return_, 1) := by decide +kernel
theorem d_Mo_ask_40 : decode b_Mo_ask 40 = .ok (.iinc 4 1, 3) := by decide +kernel
theorem d_Mo_ask_43 : decode b_Mo_ask 43 = .ok (.goto (-40), 3) := by decide +kernel
theorem d_Mo_ask_46 : decode b_Mo_ask 46 = .ok (.iconst 0, 1) := by decide +kernel
theorem d_Mo_ask_47 : decode b_Mo_ask 47 = .ok (.istore 4, 2) := by decide +kernel
theorem d_Mo_ask_49 : decode b_Mo_ask 49 = .ok (.iload 4, 2) := by decide +kernel
theorem d_Mo_ask_51 : decode b_Mo_ask 51 = .ok (.iconst 3, 1) := by decide +kernel
theorem d_Mo_ask_52 : decode b_Mo_ask 52 = .ok (.if_icmp .ge 36, 3) := by decide +kernel
theorem d_Mo_ask_55 : decode b_Mo_ask 55 = .ok (.aload_n 0, 1) := by decide +kernel
theorem d_Mo_ask_56 : decode b_Mo_ask 56 = .ok (.iload_n 1, 1) := by decide +kernel
theorem d_Mo_ask_57 : decode b_Mo_ask 57 = .ok (.iload 4, 2) := by decide +kernel
theorem d_Mo_ask_59 : decode b_Mo_ask 59 = .ok (.invokevirtual 116, 3) := by decide +kernel
theorem d_Mo_ask_62 : decode b_Mo_ask 62 = .ok (.ifCond .eq 20, 3) := by decide +kernel
theorem d_Mo_ask_65 : decode b_Mo_ask 65 = .ok (.aload_n 0, 1) := by decide +kernel
theorem d_Mo_ask_66 : decode b_Mo_ask 66 = .ok (.getfield 41, 3) := by decide +kernel
theorem d_Mo_ask_69 : decode b_Mo_ask 69 = .ok (.bipush 24, 2) := by decide +kernel
theorem d_Mo_ask_71 : decode b_Mo_ask 71 = .ok (.iload_n 2, 1) := by decide +kernel
theorem d_Mo_ask_72 : decode b_Mo_ask 72 = .ok (.imul, 1) := by decide +kernel
theorem d_Mo_ask_73 : decode b_Mo_ask 73 = .ok (.iconst 3, 1) := by decide +kernel
theorem d_Mo_ask_74 : decode b_Mo_ask 74 = .ok (.iload_n 1, 1) := by decide +kernel
theorem d_Mo_ask_75 : decode b_Mo_ask 75 = .ok (.imul, 1) := by decide +kernel
theorem d_Mo_ask_76 : decode b_Mo_ask 76 = .ok (.iadd, 1) := by decide +kernel
theorem d_Mo_ask_77 : decode b_Mo_ask 77 = .ok (.iload 4, 2) := by decide +kernel
theorem d_Mo_ask_79 : decode b_Mo_ask 79 = .ok (.iadd, 1) := by decide +kernel
theorem d_Mo_ask_80 : decode b_Mo_ask 80 = .ok (.iload_n 3, 1) := by decide +kernel
theorem d_Mo_ask_81 : decode b_Mo_ask 81 = .ok (.iastore, 1) := by decide +kernel
theorem d_Mo_ask_82 : decode b_Mo_ask 82 = .ok (.iinc 4 1, 3) := by decide +kernel
theorem d_Mo_ask_85 : decode b_Mo_ask 85 = .ok (.goto (-36), 3) := by decide +kernel
theorem d_Mo_ask_88 : decode b_Mo_ask 88 = .ok (.aload_n 0, 1) := by decide +kernel
theorem d_Mo_ask_89 : decode b_Mo_ask 89 = .ok (.bipush 82, 2) := by decide +kernel
theorem d_Mo_ask_91 : decode b_Mo_ask 91 = .ok (.iload_n 1, 1) := by decide +kernel
theorem d_Mo_ask_92 : decode b_Mo_ask 92 = .ok (.iconst (-1), 1) := by decide +kernel
theorem d_Mo_ask_93 : decode b_Mo_ask 93 = .ok (.iload_n 2, 1) := by decide +kernel
theorem d_Mo_ask_94 : decode b_Mo_ask 94 = .ok (.iload_n 3, 1) := by decide +kernel
theorem d_Mo_ask_95 : decode b_Mo_ask 95 = .ok (.iconst 2, 1) := by decide +kernel
theorem d_Mo_ask_96 : decode b_Mo_ask 96 = .ok (.irem, 1) := by decide +kernel
theorem d_Mo_ask_97 : decode b_Mo_ask 97 = .ok (.iload_n 3, 1) := by decide +kernel
theorem d_Mo_ask_98 : decode b_Mo_ask 98 = .ok (.iconst (-1), 1) := by decide +kernel
theorem d_Mo_ask_99 : decode b_Mo_ask 99 = .ok (.invokevirtual 94, 3) := by decide +kernel
theorem d_Mo_ask_102 : decode b_Mo_ask 102 = .ok (.ifCond .ne 4, 3) := by decide +kernel
theorem d_Mo_ask_105 : decode b_Mo_ask 105 = .ok (.return_, 1) := by decide +kernel
theorem d_Mo_ask_106 : decode b_Mo_ask 106 = .ok (.iconst 0, 1) := by decide +kernel
theorem d_Mo_ask_107 : decode b_Mo_ask 107 = .ok (.istore 4, 2) := by decide +kernel
theorem d_Mo_ask_109 : decode b_Mo_ask 109 = .ok (.iload 4, 2) := by decide +kernel
theorem d_Mo_ask_111 : decode b_Mo_ask 111 = .ok (.iconst 3, 1) := by decide +kernel
theorem d_Mo_ask_112 : decode b_Mo_ask 112 = .ok (.if_icmp .ge 85, 3) := by decide +kernel
theorem d_Mo_ask_115 : decode b_Mo_ask 115 = .ok (.bipush 24, 2) := by decide +kernel
theorem d_Mo_ask_117 : decode b_Mo_ask 117 = .ok (.iload_n 2, 1) := by decide +kernel
theorem d_Mo_ask_118 : decode b_Mo_ask 118 = .ok (.imul, 1) := by decide +kernel
theorem d_Mo_ask_119 : decode b_Mo_ask 119 = .ok (.iconst 3, 1) := by decide +kernel
theorem d_Mo_ask_120 : decode b_Mo_ask 120 = .ok (.iload_n 1, 1) := by decide +kernel
theorem d_Mo_ask_121 : decode b_Mo_ask 121 = .ok (.imul, 1) := by decide +kernel
theorem d_Mo_ask_122 : decode b_Mo_ask 122 = .ok (.iadd, 1) := by decide +kernel
theorem d_Mo_ask_123 : decode b_Mo_ask 123 = .ok (.iload 4, 2) := by decide +kernel
theorem d_Mo_ask_125 : decode b_Mo_ask 125 = .ok (.iadd, 1) := by decide +kernel
theorem d_Mo_ask_126 : decode b_Mo_ask 126 = .ok (.istore 5, 2) := by decide +kernel
theorem d_Mo_ask_128 : decode b_Mo_ask 128 = .ok (.aload_n 0, 1) := by decide +kernel
theorem d_Mo_ask_129 : decode b_Mo_ask 129 = .ok (.getfield 74, 3) := by decide +kernel
theorem d_Mo_ask_132 : decode b_Mo_ask 132 = .ok (.bipush 13, 2) := by decide +kernel
theorem d_Mo_ask_134 : decode b_Mo_ask 134 = .ok (.aload_n 0, 1) := by decide +kernel
theorem d_Mo_ask_135 : decode b_Mo_ask 135 = .ok (.getfield 88, 3) := by decide +kernel
theorem d_Mo_ask_138 : decode b_Mo_ask 138 = .ok (.imul, 1) := by decide +kernel
theorem d_Mo_ask_139 : decode b_Mo_ask 139 = .ok (.bipush 6, 2) := by decide +kernel
theorem d_Mo_ask_141 : decode b_Mo_ask 141 = .ok (.isub, 1) := by decide +kernel
theorem d_Mo_ask_142 : decode b_Mo_ask 142 = .ok (.iload 4, 2) := by decide +kernel
theorem d_Mo_ask_144 : decode b_Mo_ask 144 = .ok (.iadd, 1) := by decide +kernel
theorem d_Mo_ask_145 : decode b_Mo_ask 145 = .ok (.aload_n 0, 1) := by decide +kernel
theorem d_Mo_ask_146 : decode b_Mo_ask 146 = .ok (.iload_n 1, 1) := by decide +kernel
theorem d_Mo_ask_147 : decode b_Mo_ask 147 = .ok (.iload 4, 2) := by decide +kernel
theorem d_Mo_ask_149 : decode b_Mo_ask 149 = .ok (.invokevirtual 116, 3) := by decide +kernel
theorem d_Mo_ask_152 : decode b_Mo_ask 152 = .ok (.ifCond .eq 13, 3) := by decide +kernel
theorem d_Mo_ask_155 : decode b_Mo_ask 155 = .ok (.aload_n 0, 1) := by decide +kernel
theorem d_Mo_ask_156 : decode b_Mo_ask 156 = .ok (.getfield 44, 3) := by decide +kernel
theorem d_Mo_ask_159 : decode b_Mo_ask 159 = .ok (.iload 5, 2) := by decide +kernel
theorem d_Mo_ask_161 : decode b_Mo_ask 161 = .ok (.iaload, 1) := by decide +kernel
theorem d_Mo_ask_162 : decode b_Mo_ask 162 = .ok (.goto 4, 3) := by decide +kernel
theorem d_Mo_ask_165 : decode b_Mo_ask 165 = .ok (.iconst (-1), 1) := by decide +kernel
theorem d_Mo_ask_166 : decode b_Mo_ask 166 = .ok (.iastore, 1) := by decide +kernel
theorem d_Mo_ask_167 : decode b_Mo_ask 167 = .ok (.aload_n 0, 1) := by decide +kernel
theorem d_Mo_ask_168 : decode b_Mo_ask 168 = .ok (.getfield 74, 3) := by decide +kernel
theorem d_Mo_ask_171 : decode b_Mo_ask 171 = .ok (.bipush 13, 2) := by decide +kernel
theorem d_Mo_ask_173 : decode b_Mo_ask 173 = .ok (.aload_n 0, 1) := by decide +kernel
theorem d_Mo_ask_174 : decode b_Mo_ask 174 = .ok (.getfield 88, 3) := by decide +kernel
theorem d_Mo_ask_177 : decode b_Mo_ask 177 = .ok (.imul, 1) := by decide +kernel
theorem d_Mo_ask_178 : decode b_Mo_ask 178 = .ok (.iconst 3, 1) := by decide +kernel
theorem d_Mo_ask_179 : decode b_Mo_ask 179 = .ok (.isub, 1) := by decide +kernel
theorem d_Mo_ask_180 : decode b_Mo_ask 180 = .ok (.iload 4, 2) := by decide +kernel
theorem d_Mo_ask_182 : decode b_Mo_ask 182 = .ok (.iadd, 1) := by decide +kernel
theorem d_Mo_ask_183 : decode b_Mo_ask 183 = .ok (.aload_n 0, 1) := by decide +kernel
theorem d_Mo_ask_184 : decode b_Mo_ask 184 = .ok (.getfield 47, 3) := by decide +kernel
theorem d_Mo_ask_187 : decode b_Mo_ask 187 = .ok (.iload 5, 2) := by decide +kernel
theorem d_Mo_ask_189 : decode b_Mo_ask 189 = .ok (.iaload, 1) := by decide +kernel
theorem d_Mo_ask_190 : decode b_Mo_ask 190 = .ok (.iastore, 1) := by decide +kernel
theorem d_Mo_ask_191 : decode b_Mo_ask 191 = .ok (.iinc 4 1, 3) := by decide +kernel
theorem d_Mo_ask_194 : decode b_Mo_ask 194 = .ok (.goto (-85), 3) := by decide +kernel
theorem d_Mo_ask_197 : decode b_Mo_ask 197 = .ok (.return_, 1) := by decide +kernel
theorem d_Mo_begin_0 : decode b_Mo_begin 0 = .ok (.aload_n 0, 1) := by decide +kernel
theorem d_Mo_begin_1 : decode b_Mo_begin 1 = .ok (.iconst 0, 1) := by decide +kernel
theorem d_Mo_begin_2 : decode b_Mo_begin 2 = .ok (.putfield 85, 3) := by decide +kernel
theorem d_Mo_begin_5 : decode b_Mo_begin 5 = .ok (.aload_n 0, 1) := by decide +kernel
theorem d_Mo_begin_6 : decode b_Mo_begin 6 = .ok (.getfield 102, 3) := by decide +kernel
theorem d_Mo_begin_9 : decode b_Mo_begin 9 = .ok (.bipush 8, 2) := by decide +kernel
theorem d_Mo_begin_11 : decode b_Mo_begin 11 = .ok (.if_icmp .ne 9, 3) := by decide +kernel
theorem d_Mo_begin_14 : decode b_Mo_begin 14 = .ok (.aload_n 0, 1) := by decide +kernel
theorem d_Mo_begin_15 : decode b_Mo_begin 15 = .ok (.iconst 1, 1) := by decide +kernel
theorem d_Mo_begin_16 : decode b_Mo_begin 16 = .ok (.invokevirtual 105, 3) := by decide +kernel
theorem d_Mo_begin_19 : decode b_Mo_begin 19 = .ok (.ireturn, 1) := by decide +kernel
theorem d_Mo_begin_20 : decode b_Mo_begin 20 = .ok (.aload_n 0, 1) := by decide +kernel
theorem d_Mo_begin_21 : decode b_Mo_begin 21 = .ok (.dup, 1) := by decide +kernel
theorem d_Mo_begin_22 : decode b_Mo_begin 22 = .ok (.getfield 102, 3) := by decide +kernel
theorem d_Mo_begin_25 : decode b_Mo_begin 25 = .ok (.iconst 1, 1) := by decide +kernel
theorem d_Mo_begin_26 : decode b_Mo_begin 26 = .ok (.iadd, 1) := by decide +kernel
theorem d_Mo_begin_27 : decode b_Mo_begin 27 = .ok (.putfield 102, 3) := by decide +kernel
theorem d_Mo_begin_30 : decode b_Mo_begin 30 = .ok (.aload_n 0, 1) := by decide +kernel
theorem d_Mo_begin_31 : decode b_Mo_begin 31 = .ok (.getfield 102, 3) := by decide +kernel
theorem d_Mo_begin_34 : decode b_Mo_begin 34 = .ok (.iconst 1, 1) := by decide +kernel
theorem d_Mo_begin_35 : decode b_Mo_begin 35 = .ok (.isub, 1) := by decide +kernel
theorem d_Mo_begin_36 : decode b_Mo_begin 36 = .ok (.ireturn, 1) := by decide +kernel
theorem d_Mo_count_0 : decode b_Mo_count 0 = .ok (.aload_n 0, 1) := by decide +kernel
theorem d_Mo_count_1 : decode b_Mo_count 1 = .ok (.iconst 0, 1) := by decide +kernel
theorem d_Mo_count_2 : decode b_Mo_count 2 = .ok (.putfield 85, 3) := by decide +kernel
theorem d_Mo_count_5 : decode b_Mo_count 5 = .ok (.iload_n 1, 1) := by decide +kernel
theorem d_Mo_count_6 : decode b_Mo_count 6 = .ok (.tableswitch 95 0 6 #[42, 47, 52, 57, 62, 72, 85], 42) := by decide +kernel
theorem d_Mo_count_48 : decode b_Mo_count 48 = .ok (.aload_n 0, 1) := by decide +kernel
theorem d_Mo_count_49 : decode b_Mo_count 49 = .ok (.getfield 88, 3) := by decide +kernel
theorem d_Mo_count_52 : decode b_Mo_count 52 = .ok (.ireturn, 1) := by decide +kernel
theorem d_Mo_count_53 : decode b_Mo_count 53 = .ok (.aload_n 0, 1) := by decide +kernel
theorem d_Mo_count_54 : decode b_Mo_count 54 = .ok (.getfield 91, 3) := by decide +kernel
theorem d_Mo_count_57 : decode b_Mo_count 57 = .ok (.ireturn, 1) := by decide +kernel
theorem d_Mo_count_58 : decode b_Mo_count 58 = .ok (.aload_n 0, 1) := by decide +kernel
theorem d_Mo_count_59 : decode b_Mo_count 59 = .ok (.getfield 102, 3) := by decide +kernel
theorem d_Mo_count_62 : decode b_Mo_count 62 = .ok (.ireturn, 1) := by decide +kernel
theorem d_Mo_count_63 : decode b_Mo_count 63 = .ok (.aload_n 0, 1) := by decide +kernel
theorem d_Mo_count_64 : decode b_Mo_count 64 = .ok (.getfield 77, 3) := by decide +kernel
theorem d_Mo_count_67 : decode b_Mo_count 67 = .ok (.ireturn, 1) := by decide +kernel
theorem d_Mo_count_68 : decode b_Mo_count 68 = .ok (.aload_n 0, 1) := by decide +kernel
theorem d_Mo_count_69 : decode b_Mo_count 69 = .ok (.aload_n 0, 1) := by decide +kernel
theorem d_Mo_count_70 : decode b_Mo_count 70 = .ok (.getfield 7, 3) := by decide +kernel
theorem d_Mo_count_73 : decode b_Mo_count 73 = .ok (.iconst 3, 1) := by decide +kernel
theorem d_Mo_count_74 : decode b_Mo_count 74 = .ok (.invokevirtual 178, 3) := by decide +kernel
theorem d_Mo_count_77 : decode b_Mo_count 77 = .ok (.ireturn, 1) := by decide +kernel
theorem d_Mo_count_78 : decode b_Mo_count 78 = .ok (.aload_n 0, 1) := by decide +kernel
theorem d_Mo_count_79 : decode b_Mo_count 79 = .ok (.aload_n 0, 1) := by decide +kernel
theorem d_Mo_count_80 : decode b_Mo_count 80 = .ok (.getfield 13, 3) := by decide +kernel
theorem d_Mo_count_83 : decode b_Mo_count 83 = .ok (.aload_n 0, 1) := by decide +kernel
theorem d_Mo_count_84 : decode b_Mo_count 84 = .ok (.getfield 77, 3) := by decide +kernel
theorem d_Mo_count_87 : decode b_Mo_count 87 = .ok (.invokevirtual 178, 3) := by decide +kernel
theorem d_Mo_count_90 : decode b_Mo_count 90 = .ok (.ireturn, 1) := by decide +kernel
theorem d_Mo_count_91 : decode b_Mo_count 91 = .ok (.aload_n 0, 1) := by decide +kernel
theorem d_Mo_count_92 : decode b_Mo_count 92 = .ok (.aload_n 0, 1) := by decide +kernel
theorem d_Mo_count_93 : decode b_Mo_count 93 = .ok (.getfield 16, 3) := by decide +kernel
theorem d_Mo_count_96 : decode b_Mo_count 96 = .ok (.iconst 2, 1) := by decide +kernel
theorem d_Mo_count_97 : decode b_Mo_count 97 = .ok (.invokevirtual 178, 3) := by decide +kernel
theorem d_Mo_count_100 : decode b_Mo_count 100 = .ok (.ireturn, 1) := by decide +kernel
theorem d_Mo_count_101 : decode b_Mo_count 101 = .ok (.aload_n 0, 1) := by decide +kernel
theorem d_Mo_count_102 : decode b_Mo_count 102 = .ok (.iconst 1, 1) := by decide +kernel
theorem d_Mo_count_103 : decode b_Mo_count 103 = .ok (.invokevirtual 105, 3) := by decide +kernel
theorem d_Mo_count_106 : decode b_Mo_count 106 = .ok (.ireturn, 1) := by decide +kernel
theorem d_Mo_decided_0 : decode b_Mo_decided 0 = .ok (.iconst 0, 1) := by decide +kernel
theorem d_Mo_decided_1 : decode b_Mo_decided 1 = .ok (.istore_n 3, 1) := by decide +kernel
theorem d_Mo_decided_2 : decode b_Mo_decided 2 = .ok (.iload_n 3, 1) := by decide +kernel
theorem d_Mo_decided_3 : decode b_Mo_decided 3 = .ok (.iconst 3, 1) := by decide +kernel
theorem d_Mo_decided_4 : decode b_Mo_decided 4 = .ok (.if_icmp .ge 116, 3) := by decide +kernel
theorem d_Mo_decided_7 : decode b_Mo_decided 7 = .ok (.bipush 9, 2) := by decide +kernel
theorem d_Mo_decided_9 : decode b_Mo_decided 9 = .ok (.iload_n 1, 1) := by decide +kernel
theorem d_Mo_decided_10 : decode b_Mo_decided 10 = .ok (.imul, 1) := by decide +kernel
theorem d_Mo_decided_11 : decode b_Mo_decided 11 = .ok (.iconst 3, 1) := by decide +kernel
theorem d_Mo_decided_12 : decode b_Mo_decided 12 = .ok (.iload_n 3, 1) := by decide +kernel
theorem d_Mo_decided_13 : decode b_Mo_decided 13 = .ok (.imul, 1) := by decide +kernel
theorem d_Mo_decided_14 : decode b_Mo_decided 14 = .ok (.iadd, 1) := by decide +kernel
theorem d_Mo_decided_15 : decode b_Mo_decided 15 = .ok (.iload_n 2, 1) := by decide +kernel
theorem d_Mo_decided_16 : decode b_Mo_decided 16 = .ok (.iadd, 1) := by decide +kernel
theorem d_Mo_decided_17 : decode b_Mo_decided 17 = .ok (.istore 4, 2) := by decide +kernel
theorem d_Mo_decided_19 : decode b_Mo_decided 19 = .ok (.iconst 0, 1) := by decide +kernel
theorem d_Mo_decided_20 : decode b_Mo_decided 20 = .ok (.istore 5, 2) := by decide +kernel
theorem d_Mo_decided_22 : decode b_Mo_decided 22 = .ok (.iconst 0, 1) := by decide +kernel
theorem d_Mo_decided_23 : decode b_Mo_decided 23 = .ok (.istore 6, 2) := by decide +kernel
theorem d_Mo_decided_25 : decode b_Mo_decided 25 = .ok (.iload 6, 2) := by decide +kernel
theorem d_Mo_decided_27 : decode b_Mo_decided 27 = .ok (.iconst 3, 1) := by decide +kernel
theorem d_Mo_decided_28 : decode b_Mo_decided 28 = .ok (.if_icmp .ge 69, 3) := by decide +kernel
theorem d_Mo_decided_31 : decode b_Mo_decided 31 = .ok (.bipush 9, 2) := by decide +kernel
theorem d_Mo_decided_33 : decode b_Mo_decided 33 = .ok (.iload_n 1, 1) := by decide +kernel
theorem d_Mo_decided_34 : decode b_Mo_decided 34 = .ok (.imul, 1) := by decide +kernel
theorem d_Mo_decided_35 : decode b_Mo_decided 35 = .ok (.iconst 3, 1) := by decide +kernel
theorem d_Mo_decided_36 : decode b_Mo_decided 36 = .ok (.iload 6, 2) := by decide +kernel
theorem d_Mo_decided_38 : decode b_Mo_decided 38 = .ok (.imul, 1) := by decide +kernel
theorem d_Mo_decided_39 : decode b_Mo_decided 39 = .ok (.iadd, 1) := by decide +kernel
theorem d_Mo_decided_40 : decode b_Mo_decided 40 = .ok (.iload_n 2, 1) := by decide +kernel
theorem d_Mo_decided_41 : decode b_Mo_decided 41 = .ok (.iadd, 1) := by decide +kernel
theorem d_Mo_decided_42 : decode b_Mo_decided 42 = .ok (.istore 7, 2) := by decide +kernel
theorem d_Mo_decided_44 : decode b_Mo_decided 44 = .ok (.aload_n 0, 1) := by decide +kernel
theorem d_Mo_decided_45 : decode b_Mo_decided 45 = .ok (.getfield 68, 3) := by decide +kernel
theorem d_Mo_decided_48 : decode b_Mo_decided 48 = .ok (.iload 4, 2) := by decide +kernel
theorem d_Mo_decided_50 : decode b_Mo_decided 50 = .ok (.iaload, 1) := by decide +kernel
theorem d_Mo_decided_51 : decode b_Mo_decided 51 = .ok (.ifCond .lt 40, 3) := by decide +kernel
theorem d_Mo_decided_54 : decode b_Mo_decided 54 = .ok (.aload_n 0, 1) := by decide +kernel
theorem d_Mo_decided_55 : decode b_Mo_decided 55 = .ok (.getfield 68, 3) := by decide +kernel
theorem d_Mo_decided_58 : decode b_Mo_decided 58 = .ok (.iload 7, 2) := by decide +kernel
theorem d_Mo_decided_60 : decode b_Mo_decided 60 = .ok (.iaload, 1) := by decide +kernel
theorem d_Mo_decided_61 : decode b_Mo_decided 61 = .ok (.aload_n 0, 1) := by decide +kernel
theorem d_Mo_decided_62 : decode b_Mo_decided 62 = .ok (.getfield 68, 3) := by decide +kernel
theorem d_Mo_decided_65 : decode b_Mo_decided 65 = .ok (.iload 4, 2) := by decide +kernel
theorem d_Mo_decided_67 : decode b_Mo_decided 67 = .ok (.iaload, 1) := by decide +kernel
theorem d_Mo_decided_68 : decode b_Mo_decided 68 = .ok (.if_icmp .ne 23, 3) := by decide +kernel
theorem d_Mo_decided_71 : decode b_Mo_decided 71 = .ok (.aload_n 0, 1) := by decide +kernel
theorem d_Mo_decided_72 : decode b_Mo_decided 72 = .ok (.getfield 71, 3) := by decide +kernel
theorem d_Mo_decided_75 : decode b_Mo_decided 75 = .ok (.iload 7, 2) := by decide +kernel
theorem d_Mo_decided_77 : decode b_Mo_decided 77 = .ok (.iaload, 1) := by decide +kernel
theorem d_Mo_decided_78 : decode b_Mo_decided 78 = .ok (.aload_n 0, 1) := by decide +kernel
theorem d_Mo_decided_79 : decode b_Mo_decided 79 = .ok (.getfield 71, 3) := by decide +kernel
theorem d_Mo_decided_82 : decode b_Mo_decided 82 = .ok (.iload 4, 2) := by decide +kernel
theorem d_Mo_decided_84 : decode b_Mo_decided 84 = .ok (.iaload, 1) := by decide +kernel
theorem d_Mo_decided_85 : decode b_Mo_decided 85 = .ok (.if_icmp .ne 6, 3) := by decide +kernel
theorem d_Mo_decided_88 : decode b_Mo_decided 88 = .ok (.iinc 5 1, 3) := by decide +kernel
theorem d_Mo_decided_91 : decode b_Mo_decided 91 = .ok (.iinc 6 1, 3) := by decide +kernel
theorem d_Mo_decided_94 : decode b_Mo_decided 94 = .ok (.goto (-69), 3) := by decide +kernel
theorem d_Mo_decided_97 : decode b_Mo_decided 97 = .ok (.iload 5, 2) := by decide +kernel
theorem d_Mo_decided_99 : decode b_Mo_decided 99 = .ok (.aload_n 0, 1) := by decide +kernel
theorem d_Mo_decided_100 : decode b_Mo_decided 100 = .ok (.invokevirtual 126, 3) := by decide +kernel
theorem d_Mo_decided_103 : decode b_Mo_decided 103 = .ok (.if_icmp .lt 11, 3) := by decide +kernel
theorem d_Mo_decided_106 : decode b_Mo_decided 106 = .ok (.aload_n 0, 1) := by decide +kernel
theorem d_Mo_decided_107 : decode b_Mo_decided 107 = .ok (.getfield 71, 3) := by decide +kernel
theorem d_Mo_decided_110 : decode b_Mo_decided 110 = .ok (.iload 4, 2) := by decide +kernel
theorem d_Mo_decided_112 : decode b_Mo_decided 112 = .ok (.iaload, 1) := by decide +kernel
theorem d_Mo_decided_113 : decode b_Mo_decided 113 = .ok (.ireturn, 1) := by decide +kernel
theorem d_Mo_decided_114 : decode b_Mo_decided 114 = .ok (.iinc 3 1, 3) := by decide +kernel
theorem d_Mo_decided_117 : decode b_Mo_decided 117 = .ok (.goto (-115), 3) := by decide +kernel
theorem d_Mo_decided_120 : decode b_Mo_decided 120 = .ok (.iconst (-1), 1) := by decide +kernel
theorem d_Mo_decided_121 : decode b_Mo_decided 121 = .ok (.ireturn, 1) := by decide +kernel
theorem d_Mo_deliver_0 : decode b_Mo_deliver 0 = .ok (.aload_n 0, 1) := by decide +kernel
theorem d_Mo_deliver_1 : decode b_Mo_deliver 1 = .ok (.iconst 0, 1) := by decide +kernel
theorem d_Mo_deliver_2 : decode b_Mo_deliver 2 = .ok (.putfield 85, 3) := by decide +kernel
theorem d_Mo_deliver_5 : decode b_Mo_deliver 5 = .ok (.aload_n 0, 1) := by decide +kernel
theorem d_Mo_deliver_6 : decode b_Mo_deliver 6 = .ok (.iload_n 1, 1) := by decide +kernel
theorem d_Mo_deliver_7 : decode b_Mo_deliver 7 = .ok (.aload_n 0, 1) := by decide +kernel
theorem d_Mo_deliver_8 : decode b_Mo_deliver 8 = .ok (.getfield 88, 3) := by decide +kernel
theorem d_Mo_deliver_11 : decode b_Mo_deliver 11 = .ok (.invokevirtual 109, 3) := by decide +kernel
theorem d_Mo_deliver_14 : decode b_Mo_deliver 14 = .ok (.ifCond .eq 9, 3) := by decide +kernel
theorem d_Mo_deliver_17 : decode b_Mo_deliver 17 = .ok (.aload_n 0, 1) := by decide +kernel
theorem d_Mo_deliver_18 : decode b_Mo_deliver 18 = .ok (.iconst 1, 1) := by decide +kernel
theorem d_Mo_deliver_19 : decode b_Mo_deliver 19 = .ok (.invokevirtual 105, 3) := by decide +kernel
theorem d_Mo_deliver_22 : decode b_Mo_deliver 22 = .ok (.ireturn, 1) := by decide +kernel
theorem d_Mo_deliver_23 : decode b_Mo_deliver 23 = .ok (.aload_n 0, 1) := by decide +kernel
theorem d_Mo_deliver_24 : decode b_Mo_deliver 24 = .ok (.iload_n 1, 1) := by decide +kernel
theorem d_Mo_deliver_25 : decode b_Mo_deliver 25 = .ok (.iload_n 2, 1) := by decide +kernel
theorem d_Mo_deliver_26 : decode b_Mo_deliver 26 = .ok (.invokevirtual 158, 3) := by decide +kernel
theorem d_Mo_deliver_29 : decode b_Mo_deliver 29 = .ok (.aload_n 0, 1) := by decide +kernel
theorem d_Mo_deliver_30 : decode b_Mo_deliver 30 = .ok (.sipush 780, 3) := by decide +kernel
theorem d_Mo_deliver_33 : decode b_Mo_deliver 33 = .ok (.invokevirtual 162, 3) := by decide +kernel
theorem d_Mo_deliver_36 : decode b_Mo_deliver 36 = .ok (.aload_n 0, 1) := by decide +kernel
theorem d_Mo_deliver_37 : decode b_Mo_deliver 37 = .ok (.getfield 88, 3) := by decide +kernel
theorem d_Mo_deliver_40 : decode b_Mo_deliver 40 = .ok (.ireturn, 1) := by decide +kernel
theorem d_Mo_fail_0 : decode b_Mo_fail 0 = .ok (.aload_n 0, 1) := by decide +kernel
theorem d_Mo_fail_1 : decode b_Mo_fail 1 = .ok (.iload_n 1, 1) := by decide +kernel
theorem d_Mo_fail_2 : decode b_Mo_fail 2 = .ok (.putfield 85, 3) := by decide +kernel
theorem d_Mo_fail_5 : decode b_Mo_fail 5 = .ok (.iconst 0, 1) := by decide +kernel
theorem d_Mo_fail_6 : decode b_Mo_fail 6 = .ok (.ireturn, 1) := by decide +kernel
theorem d_Mo_finish_0 : decode b_Mo_finish 0 = .ok (.iconst 3, 1) := by decide +kernel
theorem d_Mo_finish_1 : decode b_Mo_finish 1 = .ok (.iload_n 1, 1) := by decide +kernel
theorem d_Mo_finish_2 : decode b_Mo_finish 2 = .ok (.imul, 1) := by decide +kernel
theorem d_Mo_finish_3 : decode b_Mo_finish 3 = .ok (.iload_n 2, 1) := by decide +kernel
theorem d_Mo_finish_4 : decode b_Mo_finish 4 = .ok (.iadd, 1) := by decide +kernel
theorem d_Mo_finish_5 : decode b_Mo_finish 5 = .ok (.istore 4, 2) := by decide +kernel
theorem d_Mo_finish_7 : decode b_Mo_finish 7 = .ok (.aload_n 0, 1) := by decide +kernel
theorem d_Mo_finish_8 : decode b_Mo_finish 8 = .ok (.getfield 32, 3) := by decide +kernel
theorem d_Mo_finish_11 : decode b_Mo_finish 11 = .ok (.iload 4, 2) := by decide +kernel
theorem d_Mo_finish_13 : decode b_Mo_finish 13 = .ok (.iaload, 1) := by decide +kernel
theorem d_Mo_finish_14 : decode b_Mo_finish 14 = .ok (.istore 5, 2) := by decide +kernel
theorem d_Mo_finish_16 : decode b_Mo_finish 16 = .ok (.iload 5, 2) := by decide +kernel
theorem d_Mo_finish_18 : decode b_Mo_finish 18 = .ok (.iconst 2, 1) := by decide +kernel
theorem d_Mo_finish_19 : decode b_Mo_finish 19 = .ok (.if_icmp .ne 78, 3) := by decide +kernel
theorem d_Mo_finish_22 : decode b_Mo_finish 22 = .ok (.iload_n 3, 1) := by decide +kernel
theorem d_Mo_finish_23 : decode b_Mo_finish 23 = .ok (.iconst 1, 1) := by decide +kernel
theorem d_Mo_finish_24 : decode b_Mo_finish 24 = .ok (.if_icmp .ne 73, 3) := by decide +kernel
theorem d_Mo_finish_27 : decode b_Mo_finish 27 = .ok (.iconst 0, 1) := by decide +kernel
theorem d_Mo_finish_28 : decode b_Mo_finish 28 = .ok (.istore 6, 2) := by decide +kernel
theorem d_Mo_finish_30 : decode b_Mo_finish 30 = .ok (.iload 6, 2) := by decide +kernel
theorem d_Mo_finish_32 : decode b_Mo_finish 32 = .ok (.iconst 4, 1) := by decide +kernel
theorem d_Mo_finish_33 : decode b_Mo_finish 33 = .ok (.if_icmp .ge 47, 3) := by decide +kernel
theorem d_Mo_finish_36 : decode b_Mo_finish 36 = .ok (.aload_n 0, 1) := by decide +kernel
theorem d_Mo_finish_37 : decode b_Mo_finish 37 = .ok (.getfield 35, 3) := by decide +kernel
theorem d_Mo_finish_40 : decode b_Mo_finish 40 = .ok (.iload 4, 2) := by decide +kernel
theorem d_Mo_finish_42 : decode b_Mo_finish 42 = .ok (.iaload, 1) := by decide +kernel
theorem d_Mo_finish_43 : decode b_Mo_finish 43 = .ok (.iload 6, 2) := by decide +kernel
theorem d_Mo_finish_45 : decode b_Mo_finish 45 = .ok (.ishr, 1) := by decide +kernel
theorem d_Mo_finish_46 : decode b_Mo_finish 46 = .ok (.iconst 1, 1) := by decide +kernel
theorem d_Mo_finish_47 : decode b_Mo_finish 47 = .ok (.iand, 1) := by decide +kernel
theorem d_Mo_finish_48 : decode b_Mo_finish 48 = .ok (.ifCond .eq 26, 3) := by decide +kernel
theorem d_Mo_finish_51 : decode b_Mo_finish 51 = .ok (.aload_n 0, 1) := by decide +kernel
theorem d_Mo_finish_52 : decode b_Mo_finish 52 = .ok (.getfield 19, 3) := by decide +kernel
theorem d_Mo_finish_55 : decode b_Mo_finish 55 = .ok (.iconst 4, 1) := by decide +kernel
theorem d_Mo_finish_56 : decode b_Mo_finish 56 = .ok (.iload_n 2, 1) := by decide +kernel
theorem d_Mo_finish_57 : decode b_Mo_finish 57 = .ok (.imul, 1) := by decide +kernel
theorem d_Mo_finish_58 : decode b_Mo_finish 58 = .ok (.iload 6, 2) := by decide +kernel
theorem d_Mo_finish_60 : decode b_Mo_finish 60 = .ok (.iadd, 1) := by decide +kernel
theorem d_Mo_finish_61 : decode b_Mo_finish 61 = .ok (.aload_n 0, 1) := by decide +kernel
theorem d_Mo_finish_62 : decode b_Mo_finish 62 = .ok (.getfield 38, 3) := by decide +kernel
theorem d_Mo_finish_65 : decode b_Mo_finish 65 = .ok (.iconst 4, 1) := by decide +kernel
theorem d_Mo_finish_66 : decode b_Mo_finish 66 = .ok (.iload 4, 2) := by decide +kernel
theorem d_Mo_finish_68 : decode b_Mo_finish 68 = .ok (.imul, 1) := by decide +kernel
theorem d_Mo_finish_69 : decode b_Mo_finish 69 = .ok (.iload 6, 2) := by decide +kernel
theorem d_Mo_finish_71 : decode b_Mo_finish 71 = .ok (.iadd, 1) := by decide +kernel
theorem d_Mo_finish_72 : decode b_Mo_finish 72 = .ok (.iaload, 1) := by decide +kernel
theorem d_Mo_finish_73 : decode b_Mo_finish 73 = .ok (.iastore, 1) := by decide +kernel
theorem d_Mo_finish_74 : decode b_Mo_finish 74 = .ok (.iinc 6 1, 3) := by decide +kernel
theorem d_Mo_finish_77 : decode b_Mo_finish 77 = .ok (.goto (-47), 3) := by decide +kernel
theorem d_Mo_finish_80 : decode b_Mo_finish 80 = .ok (.aload_n 0, 1) := by decide +kernel
theorem d_Mo_finish_81 : decode b_Mo_finish 81 = .ok (.getfield 32, 3) := by decide +kernel
theorem d_Mo_finish_84 : decode b_Mo_finish 84 = .ok (.iload 4, 2) := by decide +kernel
theorem d_Mo_finish_86 : decode b_Mo_finish 86 = .ok (.iconst 3, 1) := by decide +kernel
theorem d_Mo_finish_87 : decode b_Mo_finish 87 = .ok (.iastore, 1) := by decide +kernel
theorem d_Mo_finish_88 : decode b_Mo_finish 88 = .ok (.aload_n 0, 1) := by decide +kernel
theorem d_Mo_finish_89 : decode b_Mo_finish 89 = .ok (.iload_n 1, 1) := by decide +kernel
theorem d_Mo_finish_90 : decode b_Mo_finish 90 = .ok (.iload_n 2, 1) := by decide +kernel
theorem d_Mo_finish_91 : decode b_Mo_finish 91 = .ok (.invokevirtual 98, 3) := by decide +kernel
theorem d_Mo_finish_94 : decode b_Mo_finish 94 = .ok (.goto 19, 3) := by decide +kernel
theorem d_Mo_finish_97 : decode b_Mo_finish 97 = .ok (.iload 5, 2) := by decide +kernel
theorem d_Mo_finish_99 : decode b_Mo_finish 99 = .ok (.iconst 2, 1) := by decide +kernel
theorem d_Mo_finish_100 : decode b_Mo_finish 100 = .ok (.if_icmp .gt 13, 3) := by decide +kernel
theorem d_Mo_finish_103 : decode b_Mo_finish 103 = .ok (.iload_n 3, 1) := by decide +kernel
theorem d_Mo_finish_104 : decode b_Mo_finish 104 = .ok (.ifCond .ne 9, 3) := by decide +kernel
theorem d_Mo_finish_107 : decode b_Mo_finish 107 = .ok (.aload_n 0, 1) := by decide +kernel
theorem d_Mo_finish_108 : decode b_Mo_finish 108 = .ok (.iload_n 1, 1) := by decide +kernel
theorem d_Mo_finish_109 : decode b_Mo_finish 109 = .ok (.iload_n 2, 1) := by decide +kernel
theorem d_Mo_finish_110 : decode b_Mo_finish 110 = .ok (.invokevirtual 119, 3) := by decide +kernel
theorem d_Mo_finish_113 : decode b_Mo_finish 113 = .ok (.return_, 1) := by decide +kernel
theorem d_Mo_forget_0 : decode b_Mo_forget 0 = .ok (.iconst 0, 1) := by decide +kernel
theorem d_Mo_forget_1 : decode b_Mo_forget 1 = .ok (.istore_n 2, 1) := by decide +kernel
theorem d_Mo_forget_2 : decode b_Mo_forget 2 = .ok (.iload_n 2, 1) := by decide +kernel
theorem d_Mo_forget_3 : decode b_Mo_forget 3 = .ok (.bipush 8, 2) := by decide +kernel
theorem d_Mo_forget_5 : decode b_Mo_forget 5 = .ok (.if_icmp .ge 33, 3) := by decide +kernel
theorem d_Mo_forget_8 : decode b_Mo_forget 8 = .ok (.aload_n 0, 1) := by decide +kernel
theorem d_Mo_forget_9 : decode b_Mo_forget 9 = .ok (.getfield 53, 3) := by decide +kernel
theorem d_Mo_forget_12 : decode b_Mo_forget 12 = .ok (.bipush 8, 2) := by decide +kernel
theorem d_Mo_forget_14 : decode b_Mo_forget 14 = .ok (.iload_n 1, 1) := by decide +kernel
theorem d_Mo_forget_15 : decode b_Mo_forget 15 = .ok (.imul, 1) := by decide +kernel
theorem d_Mo_forget_16 : decode b_Mo_forget 16 = .ok (.iload_n 2, 1) := by decide +kernel
theorem d_Mo_forget_17 : decode b_Mo_forget 17 = .ok (.iadd, 1) := by decide +kernel
theorem d_Mo_forget_18 : decode b_Mo_forget 18 = .ok (.iconst 1, 1) := by decide +kernel
theorem d_Mo_forget_19 : decode b_Mo_forget 19 = .ok (.bastore, 1) := by decide +kernel
theorem d_Mo_forget_20 : decode b_Mo_forget 20 = .ok (.aload_n 0, 1) := by decide +kernel
theorem d_Mo_forget_21 : decode b_Mo_forget 21 = .ok (.getfield 56, 3) := by decide +kernel
theorem d_Mo_forget_24 : decode b_Mo_forget 24 = .ok (.bipush 8, 2) := by decide +kernel
theorem d_Mo_forget_26 : decode b_Mo_forget 26 = .ok (.iload_n 1, 1) := by decide +kernel
theorem d_Mo_forget_27 : decode b_Mo_forget 27 = .ok (.imul, 1) := by decide +kernel
theorem d_Mo_forget_28 : decode b_Mo_forget 28 = .ok (.iload_n 2, 1) := by decide +kernel
theorem d_Mo_forget_29 : decode b_Mo_forget 29 = .ok (.iadd, 1) := by decide +kernel
theorem d_Mo_forget_30 : decode b_Mo_forget 30 = .ok (.iconst (-1), 1) := by decide +kernel
theorem d_Mo_forget_31 : decode b_Mo_forget 31 = .ok (.iastore, 1) := by decide +kernel
theorem d_Mo_forget_32 : decode b_Mo_forget 32 = .ok (.iinc 2 1, 3) := by decide +kernel
theorem d_Mo_forget_35 : decode b_Mo_forget 35 = .ok (.goto (-33), 3) := by decide +kernel
theorem d_Mo_forget_38 : decode b_Mo_forget 38 = .ok (.bipush 24, 2) := by decide +kernel
theorem d_Mo_forget_40 : decode b_Mo_forget 40 = .ok (.iload_n 1, 1) := by decide +kernel
theorem d_Mo_forget_41 : decode b_Mo_forget 41 = .ok (.imul, 1) := by decide +kernel
theorem d_Mo_forget_42 : decode b_Mo_forget 42 = .ok (.istore_n 2, 1) := by decide +kernel
theorem d_Mo_forget_43 : decode b_Mo_forget 43 = .ok (.iload_n 2, 1) := by decide +kernel
theorem d_Mo_forget_44 : decode b_Mo_forget 44 = .ok (.bipush 24, 2) := by decide +kernel
theorem d_Mo_forget_46 : decode b_Mo_forget 46 = .ok (.iload_n 1, 1) := by decide +kernel
theorem d_Mo_forget_47 : decode b_Mo_forget 47 = .ok (.imul, 1) := by decide +kernel
theorem d_Mo_forget_48 : decode b_Mo_forget 48 = .ok (.bipush 24, 2) := by decide +kernel
theorem d_Mo_forget_50 : decode b_Mo_forget 50 = .ok (.iadd, 1) := by decide +kernel
theorem d_Mo_forget_51 : decode b_Mo_forget 51 = .ok (.if_icmp .ge 16, 3) := by decide +kernel
theorem d_Mo_forget_54 : decode b_Mo_forget 54 = .ok (.aload_n 0, 1) := by decide +kernel
theorem d_Mo_forget_55 : decode b_Mo_forget 55 = .ok (.getfield 59, 3) := by decide +kernel
theorem d_Mo_forget_58 : decode b_Mo_forget 58 = .ok (.iload_n 2, 1) := by decide +kernel
theorem d_Mo_forget_59 : decode b_Mo_forget 59 = .ok (.iconst 0, 1) := by decide +kernel
theorem d_Mo_forget_60 : decode b_Mo_forget 60 = .ok (.bastore, 1) := by decide +kernel
theorem d_Mo_forget_61 : decode b_Mo_forget 61 = .ok (.iinc 2 1, 3) := by decide +kernel
theorem d_Mo_forget_64 : decode b_Mo_forget 64 = .ok (.goto (-21), 3) := by decide +kernel
theorem d_Mo_forget_67 : decode b_Mo_forget 67 = .ok (.bipush 72, 2) := by decide +kernel
theorem d_Mo_forget_69 : decode b_Mo_forget 69 = .ok (.iload_n 1, 1) := by decide +kernel
theorem d_Mo_forget_70 : decode b_Mo_forget 70 = .ok (.imul, 1) := by decide +kernel
theorem d_Mo_forget_71 : decode b_Mo_forget 71 = .ok (.istore_n 2, 1) := by decide +kernel
theorem d_Mo_forget_72 : decode b_Mo_forget 72 = .ok (.iload_n 2, 1) := by decide +kernel
theorem d_Mo_forget_73 : decode b_Mo_forget 73 = .ok (.bipush 72, 2) := by decide +kernel
theorem d_Mo_forget_75 : decode b_Mo_forget 75 = .ok (.iload_n 1, 1) := by decide +kernel
theorem d_Mo_forget_76 : decode b_Mo_forget 76 = .ok (.imul, 1) := by decide +kernel
theorem d_Mo_forget_77 : decode b_Mo_forget 77 = .ok (.bipush 72, 2) := by decide +kernel
theorem d_Mo_forget_79 : decode b_Mo_forget 79 = .ok (.iadd, 1) := by decide +kernel
theorem d_Mo_forget_80 : decode b_Mo_forget 80 = .ok (.if_icmp .ge 16, 3) := by decide +kernel
theorem d_Mo_forget_83 : decode b_Mo_forget 83 = .ok (.aload_n 0, 1) := by decide +kernel
theorem d_Mo_forget_84 : decode b_Mo_forget 84 = .ok (.getfield 68, 3) := by decide +kernel
theorem d_Mo_forget_87 : decode b_Mo_forget 87 = .ok (.iload_n 2, 1) := by decide +kernel
theorem d_Mo_forget_88 : decode b_Mo_forget 88 = .ok (.iconst (-1), 1) := by decide +kernel
theorem d_Mo_forget_89 : decode b_Mo_forget 89 = .ok (.iastore, 1) := by decide +kernel
theorem d_Mo_forget_90 : decode b_Mo_forget 90 = .ok (.iinc 2 1, 3) := by decide +kernel
theorem d_Mo_forget_93 : decode b_Mo_forget 93 = .ok (.goto (-21), 3) := by decide +kernel
theorem d_Mo_forget_96 : decode b_Mo_forget 96 = .ok (.return_, 1) := by decide +kernel
theorem d_Mo_init_0 : decode b_Mo_init 0 = .ok (.aload_n 0, 1) := by decide +kernel
theorem d_Mo_init_1 : decode b_Mo_init 1 = .ok (.invokespecial 1, 3) := by decide +kernel
theorem d_Mo_init_4 : decode b_Mo_init 4 = .ok (.aload_n 0, 1) := by decide +kernel
theorem d_Mo_init_5 : decode b_Mo_init 5 = .ok (.iconst 3, 1) := by decide +kernel
theorem d_Mo_init_6 : decode b_Mo_init 6 = .ok (.newarray .boolean, 2) := by decide +kernel
theorem d_Mo_init_8 : decode b_Mo_init 8 = .ok (.putfield 7, 3) := by decide +kernel
theorem d_Mo_init_11 : decode b_Mo_init 11 = .ok (.aload_n 0, 1) := by decide +kernel
theorem d_Mo_init_12 : decode b_Mo_init 12 = .ok (.iconst 3, 1) := by decide +kernel
theorem d_Mo_init_13 : decode b_Mo_init 13 = .ok (.newarray .boolean, 2) := by decide +kernel
theorem d_Mo_init_15 : decode b_Mo_init 15 = .ok (.putfield 13, 3) := by decide +kernel
theorem d_Mo_init_18 : decode b_Mo_init 18 = .ok (.aload_n 0, 1) := by decide +kernel
theorem d_Mo_init_19 : decode b_Mo_init 19 = .ok (.iconst 2, 1) := by decide +kernel
theorem d_Mo_init_20 : decode b_Mo_init 20 = .ok (.newarray .boolean, 2) := by decide +kernel
theorem d_Mo_init_22 : decode b_Mo_init 22 = .ok (.putfield 16, 3) := by decide +kernel
theorem d_Mo_init_25 : decode b_Mo_init 25 = .ok (.aload_n 0, 1) := by decide +kernel
theorem d_Mo_init_26 : decode b_Mo_init 26 = .ok (.bipush 12, 2) := by decide +kernel
theorem d_Mo_init_28 : decode b_Mo_init 28 = .ok (.newarray .int, 2) := by decide +kernel
theorem d_Mo_init_30 : decode b_Mo_init 30 = .ok (.putfield 19, 3) := by decide +kernel
theorem d_Mo_init_33 : decode b_Mo_init 33 = .ok (.aload_n 0, 1) := by decide +kernel
theorem d_Mo_init_34 : decode b_Mo_init 34 = .ok (.bipush 12, 2) := by decide +kernel
theorem d_Mo_init_36 : decode b_Mo_init 36 = .ok (.newarray .int, 2) := by decide +kernel
theorem d_Mo_init_38 : decode b_Mo_init 38 = .ok (.putfield 23, 3) := by decide +kernel
theorem d_Mo_init_41 : decode b_Mo_init 41 = .ok (.aload_n 0, 1) := by decide +kernel
theorem d_Mo_init_42 : decode b_Mo_init 42 = .ok (.bipush 8, 2) := by decide +kernel
theorem d_Mo_init_44 : decode b_Mo_init 44 = .ok (.newarray .int, 2) := by decide +kernel
theorem d_Mo_init_46 : decode b_Mo_init 46 = .ok (.putfield 26, 3) := by decide +kernel
theorem d_Mo_init_49 : decode b_Mo_init 49 = .ok (.aload_n 0, 1) := by decide +kernel
theorem d_Mo_init_50 : decode b_Mo_init 50 = .ok (.bipush 8, 2) := by decide +kernel
theorem d_Mo_init_52 : decode b_Mo_init 52 = .ok (.newarray .boolean, 2) := by decide +kernel
theorem d_Mo_init_54 : decode b_Mo_init 54 = .ok (.putfield 29, 3) := by decide +kernel
theorem d_Mo_init_57 : decode b_Mo_init 57 = .ok (.aload_n 0, 1) := by decide +kernel
theorem d_Mo_init_58 : decode b_Mo_init 58 = .ok (.bipush 24, 2) := by decide +kernel
theorem d_Mo_init_60 : decode b_Mo_init 60 = .ok (.newarray .int, 2) := by decide +kernel
theorem d_Mo_init_62 : decode b_Mo_init 62 = .ok (.putfield 32, 3) := by decide +kernel
theorem d_Mo_init_65 : decode b_Mo_init 65 = .ok (.aload_n 0, 1) := by decide +kernel
theorem d_Mo_init_66 : decode b_Mo_init 66 = .ok (.bipush 24, 2) := by decide +kernel
theorem d_Mo_init_68 : decode b_Mo_init 68 = .ok (.newarray .int, 2) := by decide +kernel
theorem d_Mo_init_70 : decode b_Mo_init 70 = .ok (.putfield 35, 3) := by decide +kernel
theorem d_Mo_init_73 : decode b_Mo_init 73 = .ok (.aload_n 0, 1) := by decide +kernel
theorem d_Mo_init_74 : decode b_Mo_init 74 = .ok (.bipush 96, 2) := by decide +kernel
theorem d_Mo_init_76 : decode b_Mo_init 76 = .ok (.newarray .int, 2) := by decide +kernel
theorem d_Mo_init_78 : decode b_Mo_init 78 = .ok (.putfield 38, 3) := by decide +kernel
theorem d_Mo_init_81 : decode b_Mo_init 81 = .ok (.aload_n 0, 1) := by decide +kernel
theorem d_Mo_init_82 : decode b_Mo_init 82 = .ok (.bipush 72, 2) := by decide +kernel
theorem d_Mo_init_84 : decode b_Mo_init 84 = .ok (.newarray .int, 2) := by decide +kernel
theorem d_Mo_init_86 : decode b_Mo_init 86 = .ok (.putfield 41, 3) := by decide +kernel
theorem d_Mo_init_89 : decode b_Mo_init 89 = .ok (.aload_n 0, 1) := by decide +kernel
theorem d_Mo_init_90 : decode b_Mo_init 90 = .ok (.bipush 72, 2) := by decide +kernel
theorem d_Mo_init_92 : decode b_Mo_init 92 = .ok (.newarray .int, 2) := by decide +kernel
theorem d_Mo_init_94 : decode b_Mo_init 94 = .ok (.putfield 44, 3) := by decide +kernel
theorem d_Mo_init_97 : decode b_Mo_init 97 = .ok (.aload_n 0, 1) := by decide +kernel
theorem d_Mo_init_98 : decode b_Mo_init 98 = .ok (.bipush 72, 2) := by decide +kernel
theorem d_Mo_init_100 : decode b_Mo_init 100 = .ok (.newarray .int, 2) := by decide +kernel
theorem d_Mo_init_102 : decode b_Mo_init 102 = .ok (.putfield 47, 3) := by decide +kernel
theorem d_Mo_init_105 : decode b_Mo_init 105 = .ok (.aload_n 0, 1) := by decide +kernel
theorem d_Mo_init_106 : decode b_Mo_init 106 = .ok (.bipush 16, 2) := by decide +kernel
theorem d_Mo_init_108 : decode b_Mo_init 108 = .ok (.newarray .int, 2) := by decide +kernel
theorem d_Mo_init_110 : decode b_Mo_init 110 = .ok (.putfield 50, 3) := by decide +kernel
theorem d_Mo_init_113 : decode b_Mo_init 113 = .ok (.aload_n 0, 1) := by decide +kernel
theorem d_Mo_init_114 : decode b_Mo_init 114 = .ok (.bipush 16, 2) := by decide +kernel
theorem d_Mo_init_116 : decode b_Mo_init 116 = .ok (.newarray .boolean, 2) := by decide +kernel
theorem d_Mo_init_118 : decode b_Mo_init 118 = .ok (.putfield 53, 3) := by decide +kernel
theorem d_Mo_init_121 : decode b_Mo_init 121 = .ok (.aload_n 0, 1) := by decide +kernel
theorem d_Mo_init_122 : decode b_Mo_init 122 = .ok (.bipush 16, 2) := by decide +kernel
theorem d_Mo_init_124 : decode b_Mo_init 124 = .ok (.newarray .int, 2) := by decide +kernel
theorem d_Mo_init_126 : decode b_Mo_init 126 = .ok (.putfield 56, 3) := by decide +kernel
theorem d_Mo_init_129 : decode b_Mo_init 129 = .ok (.aload_n 0, 1) := by decide +kernel
theorem d_Mo_init_130 : decode b_Mo_init 130 = .ok (.bipush 48, 2) := by decide +kernel
theorem d_Mo_init_132 : decode b_Mo_init 132 = .ok (.newarray .boolean, 2) := by decide +kernel
theorem d_Mo_init_134 : decode b_Mo_init 134 = .ok (.putfield 59, 3) := by decide +kernel
theorem d_Mo_init_137 : decode b_Mo_init 137 = .ok (.aload_n 0, 1) := by decide +kernel
theorem d_Mo_init_138 : decode b_Mo_init 138 = .ok (.sipush 144, 3) := by decide +kernel
theorem d_Mo_init_141 : decode b_Mo_init 141 = .ok (.newarray .int, 2) := by decide +kernel
theorem d_Mo_init_143 : decode b_Mo_init 143 = .ok (.putfield 62, 3) := by decide +kernel
theorem d_Mo_init_146 : decode b_Mo_init 146 = .ok (.aload_n 0, 1) := by decide +kernel
theorem d_Mo_init_147 : decode b_Mo_init 147 = .ok (.sipush 144, 3) := by decide +kernel
theorem d_Mo_init_150 : decode b_Mo_init 150 = .ok (.newarray .int, 2) := by decide +kernel
theorem d_Mo_init_152 : decode b_Mo_init 152 = .ok (.putfield 65, 3) := by decide +kernel
theorem d_Mo_init_155 : decode b_Mo_init 155 = .ok (.aload_n 0, 1) := by decide +kernel
theorem d_Mo_init_156 : decode b_Mo_init 156 = .ok (.sipush 144, 3) := by decide +kernel
