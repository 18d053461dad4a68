theorem d_Mo_init_159 : decode b_Mo_init 159 = .ok (.newarray .int, 2) := by decide +kernel
theorem d_Mo_init_161 : decode b_Mo_init 161 = .ok (.putfield 68, 3) := by decide +kernel
theorem d_Mo_init_164 : decode b_Mo_init 164 = .ok (.aload_n 0, 1) := by decide +kernel
theorem d_Mo_init_165 : decode b_Mo_init 165 = .ok (.sipush 144, 3) := by decide +kernel
theorem d_Mo_init_168 : decode b_Mo_init 168 = .ok (.newarray .int, 2) := by decide +kernel
theorem d_Mo_init_170 : decode b_Mo_init 170 = .ok (.putfield 71, 3) := by decide +kernel
theorem d_Mo_init_173 : decode b_Mo_init 173 = .ok (.aload_n 0, 1) := by decide +kernel
theorem d_Mo_init_174 : decode b_Mo_init 174 = .ok (.sipush 793, 3) := by decide +kernel
theorem d_Mo_init_177 : decode b_Mo_init 177 = .ok (.newarray .int, 2) := by decide +kernel
theorem d_Mo_init_179 : decode b_Mo_init 179 = .ok (.putfield 74, 3) := by decide +kernel
theorem d_Mo_init_182 : decode b_Mo_init 182 = .ok (.aload_n 0, 1) := by decide +kernel
theorem d_Mo_init_183 : decode b_Mo_init 183 = .ok (.iload_n 1, 1) := by decide +kernel
theorem d_Mo_init_184 : decode b_Mo_init 184 = .ok (.ifCond .ne 7, 3) := by decide +kernel
theorem d_Mo_init_187 : decode b_Mo_init 187 = .ok (.iconst 1, 1) := by decide +kernel
theorem d_Mo_init_188 : decode b_Mo_init 188 = .ok (.goto 4, 3) := by decide +kernel
theorem d_Mo_init_191 : decode b_Mo_init 191 = .ok (.iconst 3, 1) := by decide +kernel
theorem d_Mo_init_192 : decode b_Mo_init 192 = .ok (.putfield 77, 3) := by decide +kernel
theorem d_Mo_init_195 : decode b_Mo_init 195 = .ok (.iconst 0, 1) := by decide +kernel
theorem d_Mo_init_196 : decode b_Mo_init 196 = .ok (.istore_n 2, 1) := by decide +kernel
theorem d_Mo_init_197 : decode b_Mo_init 197 = .ok (.iload_n 2, 1) := by decide +kernel
theorem d_Mo_init_198 : decode b_Mo_init 198 = .ok (.bipush 12, 2) := by decide +kernel
theorem d_Mo_init_200 : decode b_Mo_init 200 = .ok (.if_icmp .ge 16, 3) := by decide +kernel
theorem d_Mo_init_203 : decode b_Mo_init 203 = .ok (.aload_n 0, 1) := by decide +kernel
theorem d_Mo_init_204 : decode b_Mo_init 204 = .ok (.getfield 23, 3) := by decide +kernel
theorem d_Mo_init_207 : decode b_Mo_init 207 = .ok (.iload_n 2, 1) := by decide +kernel
theorem d_Mo_init_208 : decode b_Mo_init 208 = .ok (.iconst (-1), 1) := by decide +kernel
theorem d_Mo_init_209 : decode b_Mo_init 209 = .ok (.iastore, 1) := by decide +kernel
theorem d_Mo_init_210 : decode b_Mo_init 210 = .ok (.iinc 2 1, 3) := by decide +kernel
theorem d_Mo_init_213 : decode b_Mo_init 213 = .ok (.goto (-16), 3) := by decide +kernel
theorem d_Mo_init_216 : decode b_Mo_init 216 = .ok (.iconst 0, 1) := by decide +kernel
theorem d_Mo_init_217 : decode b_Mo_init 217 = .ok (.istore_n 2, 1) := by decide +kernel
theorem d_Mo_init_218 : decode b_Mo_init 218 = .ok (.iload_n 2, 1) := by decide +kernel
theorem d_Mo_init_219 : decode b_Mo_init 219 = .ok (.bipush 72, 2) := by decide +kernel
theorem d_Mo_init_221 : decode b_Mo_init 221 = .ok (.if_icmp .ge 16, 3) := by decide +kernel
theorem d_Mo_init_224 : decode b_Mo_init 224 = .ok (.aload_n 0, 1) := by decide +kernel
theorem d_Mo_init_225 : decode b_Mo_init 225 = .ok (.getfield 44, 3) := by decide +kernel
theorem d_Mo_init_228 : decode b_Mo_init 228 = .ok (.iload_n 2, 1) := by decide +kernel
theorem d_Mo_init_229 : decode b_Mo_init 229 = .ok (.iconst (-1), 1) := by decide +kernel
theorem d_Mo_init_230 : decode b_Mo_init 230 = .ok (.iastore, 1) := by decide +kernel
theorem d_Mo_init_231 : decode b_Mo_init 231 = .ok (.iinc 2 1, 3) := by decide +kernel
theorem d_Mo_init_234 : decode b_Mo_init 234 = .ok (.goto (-16), 3) := by decide +kernel
theorem d_Mo_init_237 : decode b_Mo_init 237 = .ok (.iconst 0, 1) := by decide +kernel
theorem d_Mo_init_238 : decode b_Mo_init 238 = .ok (.istore_n 2, 1) := by decide +kernel
theorem d_Mo_init_239 : decode b_Mo_init 239 = .ok (.iload_n 2, 1) := by decide +kernel
theorem d_Mo_init_240 : decode b_Mo_init 240 = .ok (.iconst 2, 1) := by decide +kernel
theorem d_Mo_init_241 : decode b_Mo_init 241 = .ok (.if_icmp .ge 14, 3) := by decide +kernel
theorem d_Mo_init_244 : decode b_Mo_init 244 = .ok (.aload_n 0, 1) := by decide +kernel
theorem d_Mo_init_245 : decode b_Mo_init 245 = .ok (.iload_n 2, 1) := by decide +kernel
theorem d_Mo_init_246 : decode b_Mo_init 246 = .ok (.invokevirtual 81, 3) := by decide +kernel
theorem d_Mo_init_249 : decode b_Mo_init 249 = .ok (.iinc 2 1, 3) := by decide +kernel
theorem d_Mo_init_252 : decode b_Mo_init 252 = .ok (.goto (-13), 3) := by decide +kernel
theorem d_Mo_init_255 : decode b_Mo_init 255 = .ok (.return_, 1) := by decide +kernel
theorem d_Mo_lock_0 : decode b_Mo_lock 0 = .ok (.aload_n 0, 1) := by decide +kernel
theorem d_Mo_lock_1 : decode b_Mo_lock 1 = .ok (.iconst 0, 1) := by decide +kernel
theorem d_Mo_lock_2 : decode b_Mo_lock 2 = .ok (.putfield 85, 3) := by decide +kernel
theorem d_Mo_lock_5 : decode b_Mo_lock 5 = .ok (.aload_n 0, 1) := by decide +kernel
theorem d_Mo_lock_6 : decode b_Mo_lock 6 = .ok (.iload_n 1, 1) := by decide +kernel
theorem d_Mo_lock_7 : decode b_Mo_lock 7 = .ok (.iconst 3, 1) := by decide +kernel
theorem d_Mo_lock_8 : decode b_Mo_lock 8 = .ok (.invokevirtual 109, 3) := by decide +kernel
theorem d_Mo_lock_11 : decode b_Mo_lock 11 = .ok (.ifCond .ne 12, 3) := by decide +kernel
theorem d_Mo_lock_14 : decode b_Mo_lock 14 = .ok (.aload_n 0, 1) := by decide +kernel
theorem d_Mo_lock_15 : decode b_Mo_lock 15 = .ok (.iload_n 2, 1) := by decide +kernel
theorem d_Mo_lock_16 : decode b_Mo_lock 16 = .ok (.iconst 4, 1) := by decide +kernel
theorem d_Mo_lock_17 : decode b_Mo_lock 17 = .ok (.invokevirtual 109, 3) := by decide +kernel
theorem d_Mo_lock_20 : decode b_Mo_lock 20 = .ok (.ifCond .eq 11, 3) := by decide +kernel
theorem d_Mo_lock_23 : decode b_Mo_lock 23 = .ok (.aload_n 0, 1) := by decide +kernel
theorem d_Mo_lock_24 : decode b_Mo_lock 24 = .ok (.iconst 1, 1) := by decide +kernel
theorem d_Mo_lock_25 : decode b_Mo_lock 25 = .ok (.invokevirtual 105, 3) := by decide +kernel
theorem d_Mo_lock_28 : decode b_Mo_lock 28 = .ok (.goto 13, 3) := by decide +kernel
theorem d_Mo_lock_31 : decode b_Mo_lock 31 = .ok (.aload_n 0, 1) := by decide +kernel
theorem d_Mo_lock_32 : decode b_Mo_lock 32 = .ok (.getfield 23, 3) := by decide +kernel
theorem d_Mo_lock_35 : decode b_Mo_lock 35 = .ok (.iconst 4, 1) := by decide +kernel
theorem d_Mo_lock_36 : decode b_Mo_lock 36 = .ok (.iload_n 1, 1) := by decide +kernel
theorem d_Mo_lock_37 : decode b_Mo_lock 37 = .ok (.imul, 1) := by decide +kernel
theorem d_Mo_lock_38 : decode b_Mo_lock 38 = .ok (.iload_n 2, 1) := by decide +kernel
theorem d_Mo_lock_39 : decode b_Mo_lock 39 = .ok (.iadd, 1) := by decide +kernel
theorem d_Mo_lock_40 : decode b_Mo_lock 40 = .ok (.iaload, 1) := by decide +kernel
theorem d_Mo_lock_41 : decode b_Mo_lock 41 = .ok (.ireturn, 1) := by decide +kernel
theorem d_Mo_lose_0 : decode b_Mo_lose 0 = .ok (.aload_n 0, 1) := by decide +kernel
theorem d_Mo_lose_1 : decode b_Mo_lose 1 = .ok (.iconst 0, 1) := by decide +kernel
theorem d_Mo_lose_2 : decode b_Mo_lose 2 = .ok (.putfield 85, 3) := by decide +kernel
theorem d_Mo_lose_5 : decode b_Mo_lose 5 = .ok (.aload_n 0, 1) := by decide +kernel
theorem d_Mo_lose_6 : decode b_Mo_lose 6 = .ok (.iload_n 1, 1) := by decide +kernel
theorem d_Mo_lose_7 : decode b_Mo_lose 7 = .ok (.aload_n 0, 1) := by decide +kernel
theorem d_Mo_lose_8 : decode b_Mo_lose 8 = .ok (.getfield 88, 3) := by decide +kernel
theorem d_Mo_lose_11 : decode b_Mo_lose 11 = .ok (.invokevirtual 109, 3) := by decide +kernel
theorem d_Mo_lose_14 : decode b_Mo_lose 14 = .ok (.ifCond .eq 9, 3) := by decide +kernel
theorem d_Mo_lose_17 : decode b_Mo_lose 17 = .ok (.aload_n 0, 1) := by decide +kernel
theorem d_Mo_lose_18 : decode b_Mo_lose 18 = .ok (.iconst 1, 1) := by decide +kernel
theorem d_Mo_lose_19 : decode b_Mo_lose 19 = .ok (.invokevirtual 105, 3) := by decide +kernel
theorem d_Mo_lose_22 : decode b_Mo_lose 22 = .ok (.ireturn, 1) := by decide +kernel
theorem d_Mo_lose_23 : decode b_Mo_lose 23 = .ok (.aload_n 0, 1) := by decide +kernel
theorem d_Mo_lose_24 : decode b_Mo_lose 24 = .ok (.iload_n 1, 1) := by decide +kernel
theorem d_Mo_lose_25 : decode b_Mo_lose 25 = .ok (.iconst 0, 1) := by decide +kernel
theorem d_Mo_lose_26 : decode b_Mo_lose 26 = .ok (.invokevirtual 158, 3) := by decide +kernel
theorem d_Mo_lose_29 : decode b_Mo_lose 29 = .ok (.aload_n 0, 1) := by decide +kernel
theorem d_Mo_lose_30 : decode b_Mo_lose 30 = .ok (.getfield 88, 3) := by decide +kernel
theorem d_Mo_lose_33 : decode b_Mo_lose 33 = .ok (.ireturn, 1) := by decide +kernel
theorem d_Mo_member_0 : decode b_Mo_member 0 = .ok (.aload_n 0, 1) := by decide +kernel
theorem d_Mo_member_1 : decode b_Mo_member 1 = .ok (.getfield 26, 3) := by decide +kernel
theorem d_Mo_member_4 : decode b_Mo_member 4 = .ok (.iload_n 1, 1) := by decide +kernel
theorem d_Mo_member_5 : decode b_Mo_member 5 = .ok (.iaload, 1) := by decide +kernel
theorem d_Mo_member_6 : decode b_Mo_member 6 = .ok (.iload_n 2, 1) := by decide +kernel
theorem d_Mo_member_7 : decode b_Mo_member 7 = .ok (.ishr, 1) := by decide +kernel
theorem d_Mo_member_8 : decode b_Mo_member 8 = .ok (.iconst 1, 1) := by decide +kernel
theorem d_Mo_member_9 : decode b_Mo_member 9 = .ok (.iand, 1) := by decide +kernel
theorem d_Mo_member_10 : decode b_Mo_member 10 = .ok (.ifCond .eq 7, 3) := by decide +kernel
theorem d_Mo_member_13 : decode b_Mo_member 13 = .ok (.iconst 1, 1) := by decide +kernel
theorem d_Mo_member_14 : decode b_Mo_member 14 = .ok (.goto 4, 3) := by decide +kernel
theorem d_Mo_member_17 : decode b_Mo_member 17 = .ok (.iconst 0, 1) := by decide +kernel
theorem d_Mo_member_18 : decode b_Mo_member 18 = .ok (.ireturn, 1) := by decide +kernel
theorem d_Mo_most_0 : decode b_Mo_most 0 = .ok (.aload_n 0, 1) := by decide +kernel
theorem d_Mo_most_1 : decode b_Mo_most 1 = .ok (.getfield 77, 3) := by decide +kernel
theorem d_Mo_most_4 : decode b_Mo_most 4 = .ok (.iconst 1, 1) := by decide +kernel
theorem d_Mo_most_5 : decode b_Mo_most 5 = .ok (.if_icmp .ne 7, 3) := by decide +kernel
theorem d_Mo_most_8 : decode b_Mo_most 8 = .ok (.iconst 1, 1) := by decide +kernel
theorem d_Mo_most_9 : decode b_Mo_most 9 = .ok (.goto 4, 3) := by decide +kernel
theorem d_Mo_most_12 : decode b_Mo_most 12 = .ok (.iconst 2, 1) := by decide +kernel
theorem d_Mo_most_13 : decode b_Mo_most 13 = .ok (.ireturn, 1) := by decide +kernel
theorem d_Mo_ones_0 : decode b_Mo_ones 0 = .ok (.iconst 0, 1) := by decide +kernel
theorem d_Mo_ones_1 : decode b_Mo_ones 1 = .ok (.istore_n 2, 1) := by decide +kernel
theorem d_Mo_ones_2 : decode b_Mo_ones 2 = .ok (.iconst 0, 1) := by decide +kernel
theorem d_Mo_ones_3 : decode b_Mo_ones 3 = .ok (.istore_n 3, 1) := by decide +kernel
theorem d_Mo_ones_4 : decode b_Mo_ones 4 = .ok (.iload_n 3, 1) := by decide +kernel
theorem d_Mo_ones_5 : decode b_Mo_ones 5 = .ok (.iconst 4, 1) := by decide +kernel
theorem d_Mo_ones_6 : decode b_Mo_ones 6 = .ok (.if_icmp .ge 17, 3) := by decide +kernel
theorem d_Mo_ones_9 : decode b_Mo_ones 9 = .ok (.iload_n 2, 1) := by decide +kernel
theorem d_Mo_ones_10 : decode b_Mo_ones 10 = .ok (.iload_n 1, 1) := by decide +kernel
theorem d_Mo_ones_11 : decode b_Mo_ones 11 = .ok (.iload_n 3, 1) := by decide +kernel
theorem d_Mo_ones_12 : decode b_Mo_ones 12 = .ok (.ishr, 1) := by decide +kernel
theorem d_Mo_ones_13 : decode b_Mo_ones 13 = .ok (.iconst 1, 1) := by decide +kernel
theorem d_Mo_ones_14 : decode b_Mo_ones 14 = .ok (.iand, 1) := by decide +kernel
theorem d_Mo_ones_15 : decode b_Mo_ones 15 = .ok (.iadd, 1) := by decide +kernel
theorem d_Mo_ones_16 : decode b_Mo_ones 16 = .ok (.istore_n 2, 1) := by decide +kernel
theorem d_Mo_ones_17 : decode b_Mo_ones 17 = .ok (.iinc 3 1, 3) := by decide +kernel
theorem d_Mo_ones_20 : decode b_Mo_ones 20 = .ok (.goto (-16), 3) := by decide +kernel
theorem d_Mo_ones_23 : decode b_Mo_ones 23 = .ok (.iload_n 2, 1) := by decide +kernel
theorem d_Mo_ones_24 : decode b_Mo_ones 24 = .ok (.ireturn, 1) := by decide +kernel
theorem d_Mo_out_0 : decode b_Mo_out 0 = .ok (.iload_n 1, 1) := by decide +kernel
theorem d_Mo_out_1 : decode b_Mo_out 1 = .ok (.ifCond .lt 8, 3) := by decide +kernel
theorem d_Mo_out_4 : decode b_Mo_out 4 = .ok (.iload_n 1, 1) := by decide +kernel
theorem d_Mo_out_5 : decode b_Mo_out 5 = .ok (.iload_n 2, 1) := by decide +kernel
theorem d_Mo_out_6 : decode b_Mo_out 6 = .ok (.if_icmp .lt 7, 3) := by decide +kernel
theorem d_Mo_out_9 : decode b_Mo_out 9 = .ok (.iconst 1, 1) := by decide +kernel
theorem d_Mo_out_10 : decode b_Mo_out 10 = .ok (.goto 4, 3) := by decide +kernel
theorem d_Mo_out_13 : decode b_Mo_out 13 = .ok (.iconst 0, 1) := by decide +kernel
theorem d_Mo_out_14 : decode b_Mo_out 14 = .ok (.ireturn, 1) := by decide +kernel
theorem d_Mo_outcome_0 : decode b_Mo_outcome 0 = .ok (.aload_n 0, 1) := by decide +kernel
theorem d_Mo_outcome_1 : decode b_Mo_outcome 1 = .ok (.iconst 0, 1) := by decide +kernel
theorem d_Mo_outcome_2 : decode b_Mo_outcome 2 = .ok (.putfield 85, 3) := by decide +kernel
theorem d_Mo_outcome_5 : decode b_Mo_outcome 5 = .ok (.aload_n 0, 1) := by decide +kernel
theorem d_Mo_outcome_6 : decode b_Mo_outcome 6 = .ok (.iload_n 1, 1) := by decide +kernel
theorem d_Mo_outcome_7 : decode b_Mo_outcome 7 = .ok (.iconst 2, 1) := by decide +kernel
theorem d_Mo_outcome_8 : decode b_Mo_outcome 8 = .ok (.invokevirtual 109, 3) := by decide +kernel
theorem d_Mo_outcome_11 : decode b_Mo_outcome 11 = .ok (.ifCond .ne 13, 3) := by decide +kernel
theorem d_Mo_outcome_14 : decode b_Mo_outcome 14 = .ok (.aload_n 0, 1) := by decide +kernel
theorem d_Mo_outcome_15 : decode b_Mo_outcome 15 = .ok (.iload_n 2, 1) := by decide +kernel
theorem d_Mo_outcome_16 : decode b_Mo_outcome 16 = .ok (.bipush 8, 2) := by decide +kernel
theorem d_Mo_outcome_18 : decode b_Mo_outcome 18 = .ok (.invokevirtual 109, 3) := by decide +kernel
theorem d_Mo_outcome_21 : decode b_Mo_outcome 21 = .ok (.ifCond .eq 9, 3) := by decide +kernel
theorem d_Mo_outcome_24 : decode b_Mo_outcome 24 = .ok (.aload_n 0, 1) := by decide +kernel
theorem d_Mo_outcome_25 : decode b_Mo_outcome 25 = .ok (.iconst 1, 1) := by decide +kernel
theorem d_Mo_outcome_26 : decode b_Mo_outcome 26 = .ok (.invokevirtual 105, 3) := by decide +kernel
theorem d_Mo_outcome_29 : decode b_Mo_outcome 29 = .ok (.ireturn, 1) := by decide +kernel
theorem d_Mo_outcome_30 : decode b_Mo_outcome 30 = .ok (.iload_n 2, 1) := by decide +kernel
theorem d_Mo_outcome_31 : decode b_Mo_outcome 31 = .ok (.aload_n 0, 1) := by decide +kernel
theorem d_Mo_outcome_32 : decode b_Mo_outcome 32 = .ok (.getfield 102, 3) := by decide +kernel
theorem d_Mo_outcome_35 : decode b_Mo_outcome 35 = .ok (.if_icmp .lt 9, 3) := by decide +kernel
theorem d_Mo_outcome_38 : decode b_Mo_outcome 38 = .ok (.aload_n 0, 1) := by decide +kernel
theorem d_Mo_outcome_39 : decode b_Mo_outcome 39 = .ok (.iconst 2, 1) := by decide +kernel
theorem d_Mo_outcome_40 : decode b_Mo_outcome 40 = .ok (.invokevirtual 105, 3) := by decide +kernel
theorem d_Mo_outcome_43 : decode b_Mo_outcome 43 = .ok (.ireturn, 1) := by decide +kernel
theorem d_Mo_outcome_44 : decode b_Mo_outcome 44 = .ok (.aload_n 0, 1) := by decide +kernel
theorem d_Mo_outcome_45 : decode b_Mo_outcome 45 = .ok (.getfield 56, 3) := by decide +kernel
theorem d_Mo_outcome_48 : decode b_Mo_outcome 48 = .ok (.bipush 8, 2) := by decide +kernel
theorem d_Mo_outcome_50 : decode b_Mo_outcome 50 = .ok (.iload_n 1, 1) := by decide +kernel
theorem d_Mo_outcome_51 : decode b_Mo_outcome 51 = .ok (.imul, 1) := by decide +kernel
theorem d_Mo_outcome_52 : decode b_Mo_outcome 52 = .ok (.iload_n 2, 1) := by decide +kernel
theorem d_Mo_outcome_53 : decode b_Mo_outcome 53 = .ok (.iadd, 1) := by decide +kernel
theorem d_Mo_outcome_54 : decode b_Mo_outcome 54 = .ok (.iaload, 1) := by decide +kernel
theorem d_Mo_outcome_55 : decode b_Mo_outcome 55 = .ok (.istore_n 3, 1) := by decide +kernel
theorem d_Mo_outcome_56 : decode b_Mo_outcome 56 = .ok (.iload_n 3, 1) := by decide +kernel
theorem d_Mo_outcome_57 : decode b_Mo_outcome 57 = .ok (.ifCond .ge 11, 3) := by decide +kernel
theorem d_Mo_outcome_60 : decode b_Mo_outcome 60 = .ok (.aload_n 0, 1) := by decide +kernel
theorem d_Mo_outcome_61 : decode b_Mo_outcome 61 = .ok (.iconst 3, 1) := by decide +kernel
theorem d_Mo_outcome_62 : decode b_Mo_outcome 62 = .ok (.invokevirtual 105, 3) := by decide +kernel
theorem d_Mo_outcome_65 : decode b_Mo_outcome 65 = .ok (.goto 4, 3) := by decide +kernel
theorem d_Mo_outcome_68 : decode b_Mo_outcome 68 = .ok (.iload_n 3, 1) := by decide +kernel
theorem d_Mo_outcome_69 : decode b_Mo_outcome 69 = .ok (.ireturn, 1) := by decide +kernel
theorem d_Mo_pass_0 : decode b_Mo_pass 0 = .ok (.iload_n 1, 1) := by decide +kernel
theorem d_Mo_pass_1 : decode b_Mo_pass 1 = .ok (.ifCond .ge 7, 3) := by decide +kernel
theorem d_Mo_pass_4 : decode b_Mo_pass 4 = .ok (.iload_n 1, 1) := by decide +kernel
theorem d_Mo_pass_5 : decode b_Mo_pass 5 = .ok (.goto 17, 3) := by decide +kernel
theorem d_Mo_pass_8 : decode b_Mo_pass 8 = .ok (.iload_n 1, 1) := by decide +kernel
theorem d_Mo_pass_9 : decode b_Mo_pass 9 = .ok (.ifCond .ne 10, 3) := by decide +kernel
theorem d_Mo_pass_12 : decode b_Mo_pass 12 = .ok (.iload_n 2, 1) := by decide +kernel
theorem d_Mo_pass_13 : decode b_Mo_pass 13 = .ok (.ineg, 1) := by decide +kernel
theorem d_Mo_pass_14 : decode b_Mo_pass 14 = .ok (.iconst 1, 1) := by decide +kernel
theorem d_Mo_pass_15 : decode b_Mo_pass 15 = .ok (.isub, 1) := by decide +kernel
theorem d_Mo_pass_16 : decode b_Mo_pass 16 = .ok (.goto 6, 3) := by decide +kernel
theorem d_Mo_pass_19 : decode b_Mo_pass 19 = .ok (.iload_n 1, 1) := by decide +kernel
theorem d_Mo_pass_20 : decode b_Mo_pass 20 = .ok (.iconst 1, 1) := by decide +kernel
theorem d_Mo_pass_21 : decode b_Mo_pass 21 = .ok (.isub, 1) := by decide +kernel
theorem d_Mo_pass_22 : decode b_Mo_pass 22 = .ok (.ireturn, 1) := by decide +kernel
theorem d_Mo_passNumber_0 : decode b_Mo_passNumber 0 = .ok (.iconst 1, 1) := by decide +kernel
theorem d_Mo_passNumber_1 : decode b_Mo_passNumber 1 = .ok (.istore_n 3, 1) := by decide +kernel
theorem d_Mo_passNumber_2 : decode b_Mo_passNumber 2 = .ok (.iload_n 2, 1) := by decide +kernel
theorem d_Mo_passNumber_3 : decode b_Mo_passNumber 3 = .ok (.iload_n 3, 1) := by decide +kernel
theorem d_Mo_passNumber_4 : decode b_Mo_passNumber 4 = .ok (.idiv, 1) := by decide +kernel
theorem d_Mo_passNumber_5 : decode b_Mo_passNumber 5 = .ok (.bipush 10, 2) := by decide +kernel
theorem d_Mo_passNumber_7 : decode b_Mo_passNumber 7 = .ok (.if_icmp .lt 11, 3) := by decide +kernel
theorem d_Mo_passNumber_10 : decode b_Mo_passNumber 10 = .ok (.iload_n 3, 1) := by decide +kernel
theorem d_Mo_passNumber_11 : decode b_Mo_passNumber 11 = .ok (.bipush 10, 2) := by decide +kernel
theorem d_Mo_passNumber_13 : decode b_Mo_passNumber 13 = .ok (.imul, 1) := by decide +kernel
theorem d_Mo_passNumber_14 : decode b_Mo_passNumber 14 = .ok (.istore_n 3, 1) := by decide +kernel
theorem d_Mo_passNumber_15 : decode b_Mo_passNumber 15 = .ok (.goto (-13), 3) := by decide +kernel
theorem d_Mo_passNumber_18 : decode b_Mo_passNumber 18 = .ok (.iload_n 1, 1) := by decide +kernel
theorem d_Mo_passNumber_19 : decode b_Mo_passNumber 19 = .ok (.istore 4, 2) := by decide +kernel
theorem d_Mo_passNumber_21 : decode b_Mo_passNumber 21 = .ok (.iload_n 3, 1) := by decide +kernel
theorem d_Mo_passNumber_22 : decode b_Mo_passNumber 22 = .ok (.ifCond .le 28, 3) := by decide +kernel
theorem d_Mo_passNumber_25 : decode b_Mo_passNumber 25 = .ok (.aload_n 0, 1) := by decide +kernel
theorem d_Mo_passNumber_26 : decode b_Mo_passNumber 26 = .ok (.iload 4, 2) := by decide +kernel
theorem d_Mo_passNumber_28 : decode b_Mo_passNumber 28 = .ok (.bipush 48, 2) := by decide +kernel
theorem d_Mo_passNumber_30 : decode b_Mo_passNumber 30 = .ok (.iload_n 2, 1) := by decide +kernel
theorem d_Mo_passNumber_31 : decode b_Mo_passNumber 31 = .ok (.iload_n 3, 1) := by decide +kernel
theorem d_Mo_passNumber_32 : decode b_Mo_passNumber 32 = .ok (.idiv, 1) := by decide +kernel
theorem d_Mo_passNumber_33 : decode b_Mo_passNumber 33 = .ok (.bipush 10, 2) := by decide +kernel
theorem d_Mo_passNumber_35 : decode b_Mo_passNumber 35 = .ok (.irem, 1) := by decide +kernel
theorem d_Mo_passNumber_36 : decode b_Mo_passNumber 36 = .ok (.iadd, 1) := by decide +kernel
theorem d_Mo_passNumber_37 : decode b_Mo_passNumber 37 = .ok (.invokevirtual 165, 3) := by decide +kernel
theorem d_Mo_passNumber_40 : decode b_Mo_passNumber 40 = .ok (.istore 4, 2) := by decide +kernel
theorem d_Mo_passNumber_42 : decode b_Mo_passNumber 42 = .ok (.iload_n 3, 1) := by decide +kernel
theorem d_Mo_passNumber_43 : decode b_Mo_passNumber 43 = .ok (.bipush 10, 2) := by decide +kernel
theorem d_Mo_passNumber_45 : decode b_Mo_passNumber 45 = .ok (.idiv, 1) := by decide +kernel
theorem d_Mo_passNumber_46 : decode b_Mo_passNumber 46 = .ok (.istore_n 3, 1) := by decide +kernel
theorem d_Mo_passNumber_47 : decode b_Mo_passNumber 47 = .ok (.goto (-26), 3) := by decide +kernel
theorem d_Mo_passNumber_50 : decode b_Mo_passNumber 50 = .ok (.iload 4, 2) := by decide +kernel
theorem d_Mo_passNumber_52 : decode b_Mo_passNumber 52 = .ok (.ireturn, 1) := by decide +kernel
theorem d_Mo_passPart_0 : decode b_Mo_passPart 0 = .ok (.iload_n 3, 1) := by decide +kernel
theorem d_Mo_passPart_1 : decode b_Mo_passPart 1 = .ok (.ifCond .ge 7, 3) := by decide +kernel
theorem d_Mo_passPart_4 : decode b_Mo_passPart 4 = .ok (.iload_n 1, 1) := by decide +kernel
theorem d_Mo_passPart_5 : decode b_Mo_passPart 5 = .ok (.goto 14, 3) := by decide +kernel
theorem d_Mo_passPart_8 : decode b_Mo_passPart 8 = .ok (.aload_n 0, 1) := by decide +kernel
theorem d_Mo_passPart_9 : decode b_Mo_passPart 9 = .ok (.aload_n 0, 1) := by decide +kernel
theorem d_Mo_passPart_10 : decode b_Mo_passPart 10 = .ok (.iload_n 1, 1) := by decide +kernel
theorem d_Mo_passPart_11 : decode b_Mo_passPart 11 = .ok (.iload_n 2, 1) := by decide +kernel
theorem d_Mo_passPart_12 : decode b_Mo_passPart 12 = .ok (.invokevirtual 165, 3) := by decide +kernel
theorem d_Mo_passPart_15 : decode b_Mo_passPart 15 = .ok (.iload_n 3, 1) := by decide +kernel
theorem d_Mo_passPart_16 : decode b_Mo_passPart 16 = .ok (.invokevirtual 168, 3) := by decide +kernel
theorem d_Mo_passPart_19 : decode b_Mo_passPart 19 = .ok (.ireturn, 1) := by decide +kernel
theorem d_Mo_passVote_0 : decode b_Mo_passVote 0 = .ok (.iload_n 2, 1) := by decide +kernel
theorem d_Mo_passVote_1 : decode b_Mo_passVote 1 = .ok (.ifCond .ge 7, 3) := by decide +kernel
theorem d_Mo_passVote_4 : decode b_Mo_passVote 4 = .ok (.iload_n 1, 1) := by decide +kernel
theorem d_Mo_passVote_5 : decode b_Mo_passVote 5 = .ok (.goto 20, 3) := by decide +kernel
theorem d_Mo_passVote_8 : decode b_Mo_passVote 8 = .ok (.aload_n 0, 1) := by decide +kernel
theorem d_Mo_passVote_9 : decode b_Mo_passVote 9 = .ok (.iload_n 1, 1) := by decide +kernel
theorem d_Mo_passVote_10 : decode b_Mo_passVote 10 = .ok (.iload_n 2, 1) := by decide +kernel
theorem d_Mo_passVote_11 : decode b_Mo_passVote 11 = .ok (.iconst 1, 1) := by decide +kernel
theorem d_Mo_passVote_12 : decode b_Mo_passVote 12 = .ok (.if_icmp .ne 8, 3) := by decide +kernel
theorem d_Mo_passVote_15 : decode b_Mo_passVote 15 = .ok (.bipush 89, 2) := by decide +kernel
theorem d_Mo_passVote_17 : decode b_Mo_passVote 17 = .ok (.goto 5, 3) := by decide +kernel
theorem d_Mo_passVote_20 : decode b_Mo_passVote 20 = .ok (.bipush 78, 2) := by decide +kernel
theorem d_Mo_passVote_22 : decode b_Mo_passVote 22 = .ok (.invokevirtual 165, 3) := by decide +kernel
theorem d_Mo_passVote_25 : decode b_Mo_passVote 25 = .ok (.ireturn, 1) := by decide +kernel
theorem d_Mo_prepare_0 : decode b_Mo_prepare 0 = .ok (.aload_n 0, 1) := by decide +kernel
theorem d_Mo_prepare_1 : decode b_Mo_prepare 1 = .ok (.getfield 32, 3) := by decide +kernel
theorem d_Mo_prepare_4 : decode b_Mo_prepare 4 = .ok (.iconst 3, 1) := by decide +kernel
theorem d_Mo_prepare_5 : decode b_Mo_prepare 5 = .ok (.iload_n 1, 1) := by decide +kernel
theorem d_Mo_prepare_6 : decode b_Mo_prepare 6 = .ok (.imul, 1) := by decide +kernel
theorem d_Mo_prepare_7 : decode b_Mo_prepare 7 = .ok (.iload_n 2, 1) := by decide +kernel
theorem d_Mo_prepare_8 : decode b_Mo_prepare 8 = .ok (.iadd, 1) := by decide +kernel
theorem d_Mo_prepare_9 : decode b_Mo_prepare 9 = .ok (.iaload, 1) := by decide +kernel
theorem d_Mo_prepare_10 : decode b_Mo_prepare 10 = .ok (.istore_n 3, 1) := by decide +kernel
theorem d_Mo_prepare_11 : decode b_Mo_prepare 11 = .ok (.iload_n 3, 1) := by decide +kernel
theorem d_Mo_prepare_12 : decode b_Mo_prepare 12 = .ok (.iconst 1, 1) := by decide +kernel
theorem d_Mo_prepare_13 : decode b_Mo_prepare 13 = .ok (.if_icmp .ne 25, 3) := by decide +kernel
theorem d_Mo_prepare_16 : decode b_Mo_prepare 16 = .ok (.aload_n 0, 1) := by decide +kernel
theorem d_Mo_prepare_17 : decode b_Mo_prepare 17 = .ok (.getfield 32, 3) := by decide +kernel
theorem d_Mo_prepare_20 : decode b_Mo_prepare 20 = .ok (.iconst 3, 1) := by decide +kernel
theorem d_Mo_prepare_21 : decode b_Mo_prepare 21 = .ok (.iload_n 1, 1) := by decide +kernel
theorem d_Mo_prepare_22 : decode b_Mo_prepare 22 = .ok (.imul, 1) := by decide +kernel
theorem d_Mo_prepare_23 : decode b_Mo_prepare 23 = .ok (.iload_n 2, 1) := by decide +kernel
theorem d_Mo_prepare_24 : decode b_Mo_prepare 24 = .ok (.iadd, 1) := by decide +kernel
theorem d_Mo_prepare_25 : decode b_Mo_prepare 25 = .ok (.iconst 2, 1) := by decide +kernel
theorem d_Mo_prepare_26 : decode b_Mo_prepare 26 = .ok (.iastore, 1) := by decide +kernel
theorem d_Mo_prepare_27 : decode b_Mo_prepare 27 = .ok (.aload_n 0, 1) := by decide +kernel
theorem d_Mo_prepare_28 : decode b_Mo_prepare 28 = .ok (.iload_n 1, 1) := by decide +kernel
theorem d_Mo_prepare_29 : decode b_Mo_prepare 29 = .ok (.iload_n 2, 1) := by decide +kernel
theorem d_Mo_prepare_30 : decode b_Mo_prepare 30 = .ok (.iconst 0, 1) := by decide +kernel
theorem d_Mo_prepare_31 : decode b_Mo_prepare 31 = .ok (.iconst 1, 1) := by decide +kernel
theorem d_Mo_prepare_32 : decode b_Mo_prepare 32 = .ok (.invokevirtual 122, 3) := by decide +kernel
theorem d_Mo_prepare_35 : decode b_Mo_prepare 35 = .ok (.goto 26, 3) := by decide +kernel
theorem d_Mo_prepare_38 : decode b_Mo_prepare 38 = .ok (.iload_n 3, 1) := by decide +kernel
theorem d_Mo_prepare_39 : decode b_Mo_prepare 39 = .ok (.ifCond .eq 8, 3) := by decide +kernel
theorem d_Mo_prepare_42 : decode b_Mo_prepare 42 = .ok (.iload_n 3, 1) := by decide +kernel
theorem d_Mo_prepare_43 : decode b_Mo_prepare 43 = .ok (.iconst 4, 1) := by decide +kernel
theorem d_Mo_prepare_44 : decode b_Mo_prepare 44 = .ok (.if_icmp .ne 17, 3) := by decide +kernel
theorem d_Mo_prepare_47 : decode b_Mo_prepare 47 = .ok (.aload_n 0, 1) := by decide +kernel
theorem d_Mo_prepare_48 : decode b_Mo_prepare 48 = .ok (.iload_n 1, 1) := by decide +kernel
theorem d_Mo_prepare_49 : decode b_Mo_prepare 49 = .ok (.iload_n 2, 1) := by decide +kernel
theorem d_Mo_prepare_50 : decode b_Mo_prepare 50 = .ok (.invokevirtual 119, 3) := by decide +kernel
theorem d_Mo_prepare_53 : decode b_Mo_prepare 53 = .ok (.aload_n 0, 1) := by decide +kernel
theorem d_Mo_prepare_54 : decode b_Mo_prepare 54 = .ok (.iload_n 1, 1) := by decide +kernel
theorem d_Mo_prepare_55 : decode b_Mo_prepare 55 = .ok (.iload_n 2, 1) := by decide +kernel
theorem d_Mo_prepare_56 : decode b_Mo_prepare 56 = .ok (.iconst 0, 1) := by decide +kernel
theorem d_Mo_prepare_57 : decode b_Mo_prepare 57 = .ok (.iconst 0, 1) := by decide +kernel
theorem d_Mo_prepare_58 : decode b_Mo_prepare 58 = .ok (.invokevirtual 122, 3) := by decide +kernel
theorem d_Mo_prepare_61 : decode b_Mo_prepare 61 = .ok (.return_, 1) := by decide +kernel
theorem d_Mo_proposal_0 : decode b_Mo_proposal 0 = .ok (.iconst (-1), 1) := by decide +kernel
theorem d_Mo_proposal_1 : decode b_Mo_proposal 1 = .ok (.istore_n 3, 1) := by decide +kernel
theorem d_Mo_proposal_2 : decode b_Mo_proposal 2 = .ok (.iconst 0, 1) := by decide +kernel
theorem d_Mo_proposal_3 : decode b_Mo_proposal 3 = .ok (.istore 4, 2) := by decide +kernel
theorem d_Mo_proposal_5 : decode b_Mo_proposal 5 = .ok (.iconst 0, 1) := by decide +kernel
theorem d_Mo_proposal_6 : decode b_Mo_proposal 6 = .ok (.istore 5, 2) := by decide +kernel
theorem d_Mo_proposal_8 : decode b_Mo_proposal 8 = .ok (.iload 5, 2) := by decide +kernel
theorem d_Mo_proposal_10 : decode b_Mo_proposal 10 = .ok (.iconst 3, 1) := by decide +kernel
theorem d_Mo_proposal_11 : decode b_Mo_proposal 11 = .ok (.if_icmp .ge 67, 3) := by decide +kernel
theorem d_Mo_proposal_14 : decode b_Mo_proposal 14 = .ok (.bipush 9, 2) := by decide +kernel
theorem d_Mo_proposal_16 : decode b_Mo_proposal 16 = .ok (.iload_n 1, 1) := by decide +kernel
theorem d_Mo_proposal_17 : decode b_Mo_proposal 17 = .ok (.imul, 1) := by decide +kernel
theorem d_Mo_proposal_18 : decode b_Mo_proposal 18 = .ok (.iconst 3, 1) := by decide +kernel
theorem d_Mo_proposal_19 : decode b_Mo_proposal 19 = .ok (.iload 5, 2) := by decide +kernel
theorem d_Mo_proposal_21 : decode b_Mo_proposal 21 = .ok (.imul, 1) := by decide +kernel
theorem d_Mo_proposal_22 : decode b_Mo_proposal 22 = .ok (.iadd, 1) := by decide +kernel
theorem d_Mo_proposal_23 : decode b_Mo_proposal 23 = .ok (.iload_n 2, 1) := by decide +kernel
theorem d_Mo_proposal_24 : decode b_Mo_proposal 24 = .ok (.iadd, 1) := by decide +kernel
theorem d_Mo_proposal_25 : decode b_Mo_proposal 25 = .ok (.istore 6, 2) := by decide +kernel
theorem d_Mo_proposal_27 : decode b_Mo_proposal 27 = .ok (.aload_n 0, 1) := by decide +kernel
theorem d_Mo_proposal_28 : decode b_Mo_proposal 28 = .ok (.getfield 59, 3) := by decide +kernel
theorem d_Mo_proposal_31 : decode b_Mo_proposal 31 = .ok (.iconst 3, 1) := by decide +kernel
theorem d_Mo_proposal_32 : decode b_Mo_proposal 32 = .ok (.iload_n 1, 1) := by decide +kernel
theorem d_Mo_proposal_33 : decode b_Mo_proposal 33 = .ok (.imul, 1) := by decide +kernel
theorem d_Mo_proposal_34 : decode b_Mo_proposal 34 = .ok (.iload 5, 2) := by decide +kernel
theorem d_Mo_proposal_36 : decode b_Mo_proposal 36 = .ok (.iadd, 1) := by decide +kernel
theorem d_Mo_proposal_37 : decode b_Mo_proposal 37 = .ok (.baload, 1) := by decide +kernel
theorem d_Mo_proposal_38 : decode b_Mo_proposal 38 = .ok (.ifCond .eq 34, 3) := by decide +kernel
theorem d_Mo_proposal_41 : decode b_Mo_proposal 41 = .ok (.aload_n 0, 1) := by decide +kernel
theorem d_Mo_proposal_42 : decode b_Mo_proposal 42 = .ok (.getfield 62, 3) := by decide +kernel
theorem d_Mo_proposal_45 : decode b_Mo_proposal 45 = .ok (.iload 6, 2) := by decide +kernel
theorem d_Mo_proposal_47 : decode b_Mo_proposal 47 = .ok (.iaload, 1) := by decide +kernel
theorem d_Mo_proposal_48 : decode b_Mo_proposal 48 = .ok (.iload_n 3, 1) := by decide +kernel
theorem d_Mo_proposal_49 : decode b_Mo_proposal 49 = .ok (.if_icmp .gt 6, 3) := by decide +kernel
theorem d_Mo_proposal_52 : decode b_Mo_proposal 52 = .ok (.goto 20, 3) := by decide +kernel
theorem d_Mo_proposal_55 : decode b_Mo_proposal 55 = .ok (.aload_n 0, 1) := by decide +kernel
theorem d_Mo_proposal_56 : decode b_Mo_proposal 56 = .ok (.getfield 62, 3) := by decide +kernel
theorem d_Mo_proposal_59 : decode b_Mo_proposal 59 = .ok (.iload 6, 2) := by decide +kernel
theorem d_Mo_proposal_61 : decode b_Mo_proposal 61 = .ok (.iaload, 1) := by decide +kernel
theorem d_Mo_proposal_62 : decode b_Mo_proposal 62 = .ok (.istore_n 3, 1) := by decide +kernel
theorem d_Mo_proposal_63 : decode b_Mo_proposal 63 = .ok (.aload_n 0, 1) := by decide +kernel
theorem d_Mo_proposal_64 : decode b_Mo_proposal 64 = .ok (.getfield 65, 3) := by decide +kernel
theorem d_Mo_proposal_67 : decode b_Mo_proposal 67 = .ok (.iload 6, 2) := by decide +kernel
theorem d_Mo_proposal_69 : decode b_Mo_proposal 69 = .ok (.iaload, 1) := by decide +kernel
theorem d_Mo_proposal_70 : decode b_Mo_proposal 70 = .ok (.istore 4, 2) := by decide +kernel
theorem d_Mo_proposal_72 : decode b_Mo_proposal 72 = .ok (.iinc 5 1, 3) := by decide +kernel
theorem d_Mo_proposal_75 : decode b_Mo_proposal 75 = .ok (.goto (-67), 3) := by decide +kernel
theorem d_Mo_proposal_78 : decode b_Mo_proposal 78 = .ok (.iload 4, 2) := by decide +kernel
theorem d_Mo_proposal_80 : decode b_Mo_proposal 80 = .ok (.ireturn, 1) := by decide +kernel
theorem d_Mo_refuse_0 : decode b_Mo_refuse 0 = .ok (.aload_n 0, 1) := by decide +kernel
theorem d_Mo_refuse_1 : decode b_Mo_refuse 1 = .ok (.iconst 0, 1) := by decide +kernel
theorem d_Mo_refuse_2 : decode b_Mo_refuse 2 = .ok (.putfield 85, 3) := by decide +kernel
theorem d_Mo_refuse_5 : decode b_Mo_refuse 5 = .ok (.aload_n 0, 1) := by decide +kernel
theorem d_Mo_refuse_6 : decode b_Mo_refuse 6 = .ok (.iload_n 1, 1) := by decide +kernel
theorem d_Mo_refuse_7 : decode b_Mo_refuse 7 = .ok (.bipush 8, 2) := by decide +kernel
theorem d_Mo_refuse_9 : decode b_Mo_refuse 9 = .ok (.invokevirtual 109, 3) := by decide +kernel
theorem d_Mo_refuse_12 : decode b_Mo_refuse 12 = .ok (.ifCond .ne 12, 3) := by decide +kernel
theorem d_Mo_refuse_15 : decode b_Mo_refuse 15 = .ok (.aload_n 0, 1) := by decide +kernel
theorem d_Mo_refuse_16 : decode b_Mo_refuse 16 = .ok (.iload_n 2, 1) := by decide +kernel
theorem d_Mo_refuse_17 : decode b_Mo_refuse 17 = .ok (.iconst 3, 1) := by decide +kernel
theorem d_Mo_refuse_18 : decode b_Mo_refuse 18 = .ok (.invokevirtual 109, 3) := by decide +kernel
theorem d_Mo_refuse_21 : decode b_Mo_refuse 21 = .ok (.ifCond .eq 9, 3) := by decide +kernel
theorem d_Mo_refuse_24 : decode b_Mo_refuse 24 = .ok (.aload_n 0, 1) := by decide +kernel
theorem d_Mo_refuse_25 : decode b_Mo_refuse 25 = .ok (.iconst 1, 1) := by decide +kernel
theorem d_Mo_refuse_26 : decode b_Mo_refuse 26 = .ok (.invokevirtual 105, 3) := by decide +kernel
theorem d_Mo_refuse_29 : decode b_Mo_refuse 29 = .ok (.ireturn, 1) := by decide +kernel
theorem d_Mo_refuse_30 : decode b_Mo_refuse 30 = .ok (.iload_n 1, 1) := by decide +kernel
theorem d_Mo_refuse_31 : decode b_Mo_refuse 31 = .ok (.aload_n 0, 1) := by decide +kernel
theorem d_Mo_refuse_32 : decode b_Mo_refuse 32 = .ok (.getfield 102, 3) := by decide +kernel
theorem d_Mo_refuse_35 : decode b_Mo_refuse 35 = .ok (.if_icmp .lt 9, 3) := by decide +kernel
theorem d_Mo_refuse_38 : decode b_Mo_refuse 38 = .ok (.aload_n 0, 1) := by decide +kernel
theorem d_Mo_refuse_39 : decode b_Mo_refuse 39 = .ok (.iconst 2, 1) := by decide +kernel
theorem d_Mo_refuse_40 : decode b_Mo_refuse 40 = .ok (.invokevirtual 105, 3) := by decide +kernel
theorem d_Mo_refuse_43 : decode b_Mo_refuse 43 = .ok (.ireturn, 1) := by decide +kernel
theorem d_Mo_refuse_44 : decode b_Mo_refuse 44 = .ok (.aload_n 0, 1) := by decide +kernel
theorem d_Mo_refuse_45 : decode b_Mo_refuse 45 = .ok (.getfield 7, 3) := by decide +kernel
theorem d_Mo_refuse_48 : decode b_Mo_refuse 48 = .ok (.iload_n 2, 1) := by decide +kernel
theorem d_Mo_refuse_49 : decode b_Mo_refuse 49 = .ok (.baload, 1) := by decide +kernel
theorem d_Mo_refuse_50 : decode b_Mo_refuse 50 = .ok (.ifCond .eq 9, 3) := by decide +kernel
theorem d_Mo_refuse_53 : decode b_Mo_refuse 53 = .ok (.aload_n 0, 1) := by decide +kernel
theorem d_Mo_refuse_54 : decode b_Mo_refuse 54 = .ok (.iconst 3, 1) := by decide +kernel
theorem d_Mo_refuse_55 : decode b_Mo_refuse 55 = .ok (.invokevirtual 105, 3) := by decide +kernel
theorem d_Mo_refuse_58 : decode b_Mo_refuse 58 = .ok (.ireturn, 1) := by decide +kernel
theorem d_Mo_refuse_59 : decode b_Mo_refuse 59 = .ok (.aload_n 0, 1) := by decide +kernel
theorem d_Mo_refuse_60 : decode b_Mo_refuse 60 = .ok (.getfield 32, 3) := by decide +kernel
theorem d_Mo_refuse_63 : decode b_Mo_refuse 63 = .ok (.iconst 3, 1) := by decide +kernel
theorem d_Mo_refuse_64 : decode b_Mo_refuse 64 = .ok (.iload_n 1, 1) := by decide +kernel
theorem d_Mo_refuse_65 : decode b_Mo_refuse 65 = .ok (.imul, 1) := by decide +kernel
theorem d_Mo_refuse_66 : decode b_Mo_refuse 66 = .ok (.iload_n 2, 1) := by decide +kernel
theorem d_Mo_refuse_67 : decode b_Mo_refuse 67 = .ok (.iadd, 1) := by decide +kernel
theorem d_Mo_refuse_68 : decode b_Mo_refuse 68 = .ok (.iaload, 1) := by decide +kernel
theorem d_Mo_refuse_69 : decode b_Mo_refuse 69 = .ok (.iconst 1, 1) := by decide +kernel
theorem d_Mo_refuse_70 : decode b_Mo_refuse 70 = .ok (.if_icmp .eq 9, 3) := by decide +kernel
theorem d_Mo_refuse_73 : decode b_Mo_refuse 73 = .ok (.aload_n 0, 1) := by decide +kernel
theorem d_Mo_refuse_74 : decode b_Mo_refuse 74 = .ok (.iconst 4, 1) := by decide +kernel
theorem d_Mo_refuse_75 : decode b_Mo_refuse 75 = .ok (.invokevirtual 105, 3) := by decide +kernel
theorem d_Mo_refuse_78 : decode b_Mo_refuse 78 = .ok (.ireturn, 1) := by decide +kernel
theorem d_Mo_refuse_79 : decode b_Mo_refuse 79 = .ok (.aload_n 0, 1) := by decide +kernel
theorem d_Mo_refuse_80 : decode b_Mo_refuse 80 = .ok (.iload_n 1, 1) := by decide +kernel
theorem d_Mo_refuse_81 : decode b_Mo_refuse 81 = .ok (.iload_n 2, 1) := by decide +kernel
theorem d_Mo_refuse_82 : decode b_Mo_refuse 82 = .ok (.invokevirtual 119, 3) := by decide +kernel
theorem d_Mo_refuse_85 : decode b_Mo_refuse 85 = .ok (.aload_n 0, 1) := by decide +kernel
theorem d_Mo_refuse_86 : decode b_Mo_refuse 86 = .ok (.iload_n 1, 1) := by decide +kernel
theorem d_Mo_refuse_87 : decode b_Mo_refuse 87 = .ok (.iload_n 2, 1) := by decide +kernel
theorem d_Mo_refuse_88 : decode b_Mo_refuse 88 = .ok (.iconst 0, 1) := by decide +kernel
theorem d_Mo_refuse_89 : decode b_Mo_refuse 89 = .ok (.iconst 0, 1) := by decide +kernel
theorem d_Mo_refuse_90 : decode b_Mo_refuse 90 = .ok (.invokevirtual 122, 3) := by decide +kernel
theorem d_Mo_refuse_93 : decode b_Mo_refuse 93 = .ok (.aload_n 0, 1) := by decide +kernel
theorem d_Mo_refuse_94 : decode b_Mo_refuse 94 = .ok (.aload_n 0, 1) := by decide +kernel
theorem d_Mo_refuse_95 : decode b_Mo_refuse 95 = .ok (.getfield 35, 3) := by decide +kernel
theorem d_Mo_refuse_98 : decode b_Mo_refuse 98 = .ok (.iconst 3, 1) := by decide +kernel
theorem d_Mo_refuse_99 : decode b_Mo_refuse 99 = .ok (.iload_n 1, 1) := by decide +kernel
theorem d_Mo_refuse_100 : decode b_Mo_refuse 100 = .ok (.imul, 1) := by decide +kernel
theorem d_Mo_refuse_101 : decode b_Mo_refuse 101 = .ok (.iload_n 2, 1) := by decide +kernel
theorem d_Mo_refuse_102 : decode b_Mo_refuse 102 = .ok (.iadd, 1) := by decide +kernel
theorem d_Mo_refuse_103 : decode b_Mo_refuse 103 = .ok (.iaload, 1) := by decide +kernel
theorem d_Mo_refuse_104 : decode b_Mo_refuse 104 = .ok (.invokevirtual 113, 3) := by decide +kernel
theorem d_Mo_refuse_107 : decode b_Mo_refuse 107 = .ok (.ireturn, 1) := by decide +kernel
theorem d_Mo_reply_0 : decode b_Mo_reply 0 = .ok (.bipush 8, 2) := by decide +kernel
theorem d_Mo_reply_2 : decode b_Mo_reply 2 = .ok (.iload_n 1, 1) := by decide +kernel
theorem d_Mo_reply_3 : decode b_Mo_reply 3 = .ok (.imul, 1) := by decide +kernel
theorem d_Mo_reply_4 : decode b_Mo_reply 4 = .ok (.iload_n 2, 1) := by decide +kernel
theorem d_Mo_reply_5 : decode b_Mo_reply 5 = .ok (.iadd, 1) := by decide +kernel
theorem d_Mo_reply_6 : decode b_Mo_reply 6 = .ok (.istore 6, 2) := by decide +kernel
theorem d_Mo_reply_8 : decode b_Mo_reply 8 = .ok (.aload_n 0, 1) := by decide +kernel
theorem d_Mo_reply_9 : decode b_Mo_reply 9 = .ok (.getfield 50, 3) := by decide +kernel
theorem d_Mo_reply_12 : decode b_Mo_reply 12 = .ok (.iload 6, 2) := by decide +kernel
theorem d_Mo_reply_14 : decode b_Mo_reply 14 = .ok (.iaload, 1) := by decide +kernel
theorem d_Mo_reply_15 : decode b_Mo_reply 15 = .ok (.iload 4, 2) := by decide +kernel
theorem d_Mo_reply_17 : decode b_Mo_reply 17 = .ok (.if_icmp .ne 13, 3) := by decide +kernel
theorem d_Mo_reply_20 : decode b_Mo_reply 20 = .ok (.aload_n 0, 1) := by decide +kernel
theorem d_Mo_reply_21 : decode b_Mo_reply 21 = .ok (.getfield 53, 3) := by decide +kernel
theorem d_Mo_reply_24 : decode b_Mo_reply 24 = .ok (.iload 6, 2) := by decide +kernel
theorem d_Mo_reply_26 : decode b_Mo_reply 26 = .ok (.baload, 1) := by decide +kernel
theorem d_Mo_reply_27 : decode b_Mo_reply 27 = .ok (.ifCond .eq 4, 3) := by decide +kernel
theorem d_Mo_reply_30 : decode b_Mo_reply 30 = .ok (.return_, 1) := by decide +kernel
theorem d_Mo_reply_31 : decode b_Mo_reply 31 = .ok (.aload_n 0, 1) := by decide +kernel
theorem d_Mo_reply_32 : decode b_Mo_reply 32 = .ok (.getfield 59, 3) := by decide +kernel
theorem d_Mo_reply_35 : decode b_Mo_reply 35 = .ok (.iconst 3, 1) := by decide +kernel
theorem d_Mo_reply_36 : decode b_Mo_reply 36 = .ok (.iload 6, 2) := by decide +kernel
theorem d_Mo_reply_38 : decode b_Mo_reply 38 = .ok (.imul, 1) := by decide +kernel
theorem d_Mo_reply_39 : decode b_Mo_reply 39 = .ok (.iload_n 3, 1) := by decide +kernel
theorem d_Mo_reply_40 : decode b_Mo_reply 40 = .ok (.iadd, 1) := by decide +kernel
theorem d_Mo_reply_41 : decode b_Mo_reply 41 = .ok (.iconst 1, 1) := by decide +kernel
theorem d_Mo_reply_42 : decode b_Mo_reply 42 = .ok (.bastore, 1) := by decide +kernel
theorem d_Mo_reply_43 : decode b_Mo_reply 43 = .ok (.iconst 0, 1) := by decide +kernel
theorem d_Mo_reply_44 : decode b_Mo_reply 44 = .ok (.istore 7, 2) := by decide +kernel
theorem d_Mo_reply_46 : decode b_Mo_reply 46 = .ok (.iconst 0, 1) := by decide +kernel
theorem d_Mo_reply_47 : decode b_Mo_reply 47 = .ok (.istore 8, 2) := by decide +kernel
theorem d_Mo_reply_49 : decode b_Mo_reply 49 = .ok (.iload 8, 2) := by decide +kernel
theorem d_Mo_reply_51 : decode b_Mo_reply 51 = .ok (.iconst 3, 1) := by decide +kernel
theorem d_Mo_reply_52 : decode b_Mo_reply 52 = .ok (.if_icmp .ge 94, 3) := by decide +kernel
theorem d_Mo_reply_55 : decode b_Mo_reply 55 = .ok (.aload_n 0, 1) := by decide +kernel
theorem d_Mo_reply_56 : decode b_Mo_reply 56 = .ok (.getfield 62, 3) := by decide +kernel
theorem d_Mo_reply_59 : decode b_Mo_reply 59 = .ok (.bipush 9, 2) := by decide +kernel
theorem d_Mo_reply_61 : decode b_Mo_reply 61 = .ok (.iload 6, 2) := by decide +kernel
theorem d_Mo_reply_63 : decode b_Mo_reply 63 = .ok (.imul, 1) := by decide +kernel
theorem d_Mo_reply_64 : decode b_Mo_reply 64 = .ok (.iconst 3, 1) := by decide +kernel
theorem d_Mo_reply_65 : decode b_Mo_reply 65 = .ok (.iload_n 3, 1) := by decide +kernel
theorem d_Mo_reply_66 : decode b_Mo_reply 66 = .ok (.imul, 1) := by decide +kernel
theorem d_Mo_reply_67 : decode b_Mo_reply 67 = .ok (.iadd, 1) := by decide +kernel
theorem d_Mo_reply_68 : decode b_Mo_reply 68 = .ok (.iload 8, 2) := by decide +kernel
theorem d_Mo_reply_70 : decode b_Mo_reply 70 = .ok (.iadd, 1) := by decide +kernel
theorem d_Mo_reply_71 : decode b_Mo_reply 71 = .ok (.aload_n 0, 1) := by decide +kernel
theorem d_Mo_reply_72 : decode b_Mo_reply 72 = .ok (.getfield 74, 3) := by decide +kernel
theorem d_Mo_reply_75 : decode b_Mo_reply 75 = .ok (.iload 5, 2) := by decide +kernel
theorem d_Mo_reply_77 : decode b_Mo_reply 77 = .ok (.bipush 7, 2) := by decide +kernel
theorem d_Mo_reply_79 : decode b_Mo_reply 79 = .ok (.iadd, 1) := by decide +kernel
theorem d_Mo_reply_80 : decode b_Mo_reply 80 = .ok (.iload 8, 2) := by decide +kernel
theorem d_Mo_reply_82 : decode b_Mo_reply 82 = .ok (.iadd, 1) := by decide +kernel
theorem d_Mo_reply_83 : decode b_Mo_reply 83 = .ok (.iaload, 1) := by decide +kernel
theorem d_Mo_reply_84 : decode b_Mo_reply 84 = .ok (.iastore, 1) := by decide +kernel
theorem d_Mo_reply_85 : decode b_Mo_reply 85 = .ok (.aload_n 0, 1) := by decide +kernel
theorem d_Mo_reply_86 : decode b_Mo_reply 86 = .ok (.getfield 65, 3) := by decide +kernel
theorem d_Mo_reply_89 : decode b_Mo_reply 89 = .ok (.bipush 9, 2) := by decide +kernel
theorem d_Mo_reply_91 : decode b_Mo_reply 91 = .ok (.iload 6, 2) := by decide +kernel
theorem d_Mo_reply_93 : decode b_Mo_reply 93 = .ok (.imul, 1) := by decide +kernel
theorem d_Mo_reply_94 : decode b_Mo_reply 94 = .ok (.iconst 3, 1) := by decide +kernel
theorem d_Mo_reply_95 : decode b_Mo_reply 95 = .ok (.iload_n 3, 1) := by decide +kernel
theorem d_Mo_reply_96 : decode b_Mo_reply 96 = .ok (.imul, 1) := by decide +kernel
theorem d_Mo_reply_97 : decode b_Mo_reply 97 = .ok (.iadd, 1) := by decide +kernel
theorem d_Mo_reply_98 : decode b_Mo_reply 98 = .ok (.iload 8, 2) := by decide +kernel
theorem d_Mo_reply_100 : decode b_Mo_reply 100 = .ok (.iadd, 1) := by decide +kernel
theorem d_Mo_reply_101 : decode b_Mo_reply 101 = .ok (.aload_n 0, 1) := by decide +kernel
theorem d_Mo_reply_102 : decode b_Mo_reply 102 = .ok (.getfield 74, 3) := by decide +kernel
theorem d_Mo_reply_105 : decode b_Mo_reply 105 = .ok (.iload 5, 2) := by decide +kernel
theorem d_Mo_reply_107 : decode b_Mo_reply 107 = .ok (.bipush 10, 2) := by decide +kernel
theorem d_Mo_reply_109 : decode b_Mo_reply 109 = .ok (.iadd, 1) := by decide +kernel
theorem d_Mo_reply_110 : decode b_Mo_reply 110 = .ok (.iload 8, 2) := by decide +kernel
theorem d_Mo_reply_112 : decode b_Mo_reply 112 = .ok (.iadd, 1) := by decide +kernel
theorem d_Mo_reply_113 : decode b_Mo_reply 113 = .ok (.iaload, 1) := by decide +kernel
theorem d_Mo_reply_114 : decode b_Mo_reply 114 = .ok (.iastore, 1) := by decide +kernel
theorem d_Mo_reply_115 : decode b_Mo_reply 115 = .ok (.iload 7, 2) := by decide +kernel
theorem d_Mo_reply_117 : decode b_Mo_reply 117 = .ok (.aload_n 0, 1) := by decide +kernel
theorem d_Mo_reply_118 : decode b_Mo_reply 118 = .ok (.getfield 59, 3) := by decide +kernel
theorem d_Mo_reply_121 : decode b_Mo_reply 121 = .ok (.iconst 3, 1) := by decide +kernel
theorem d_Mo_reply_122 : decode b_Mo_reply 122 = .ok (.iload 6, 2) := by decide +kernel
theorem d_Mo_reply_124 : decode b_Mo_reply 124 = .ok (.imul, 1) := by decide +kernel
theorem d_Mo_reply_125 : decode b_Mo_reply 125 = .ok (.iload 8, 2) := by decide +kernel
theorem d_Mo_reply_127 : decode b_Mo_reply 127 = .ok (.iadd, 1) := by decide +kernel
theorem d_Mo_reply_128 : decode b_Mo_reply 128 = .ok (.baload, 1) := by decide +kernel
theorem d_Mo_reply_129 : decode b_Mo_reply 129 = .ok (.ifCond .eq 7, 3) := by decide +kernel
theorem d_Mo_reply_132 : decode b_Mo_reply 132 = .ok (.iconst 1, 1) := by decide +kernel
theorem d_Mo_reply_133 : decode b_Mo_reply 133 = .ok (.goto 4, 3) := by decide +kernel
theorem d_Mo_reply_136 : decode b_Mo_reply 136 = .ok (.iconst 0, 1) := by decide +kernel
theorem d_Mo_reply_137 : decode b_Mo_reply 137 = .ok (.iadd, 1) := by decide +kernel
theorem d_Mo_reply_138 : decode b_Mo_reply 138 = .ok (.istore 7, 2) := by decide +kernel
theorem d_Mo_reply_140 : decode b_Mo_reply 140 = .ok (.iinc 8 1, 3) := by decide +kernel
theorem d_Mo_reply_143 : decode b_Mo_reply 143 = .ok (.goto (-94), 3) := by decide +kernel
theorem d_Mo_reply_146 : decode b_Mo_reply 146 = .ok (.iload 7, 2) := by decide +kernel
theorem d_Mo_reply_148 : decode b_Mo_reply 148 = .ok (.aload_n 0, 1) := by decide +kernel
theorem d_Mo_reply_149 : decode b_Mo_reply 149 = .ok (.invokevirtual 126, 3) := by decide +kernel
theorem d_Mo_reply_152 : decode b_Mo_reply 152 = .ok (.if_icmp .ge 4, 3) := by decide +kernel
theorem d_Mo_reply_155 : decode b_Mo_reply 155 = .ok (.return_, 1) := by decide +kernel
theorem d_Mo_reply_156 : decode b_Mo_reply 156 = .ok (.aload_n 0, 1) := by decide +kernel
theorem d_Mo_reply_157 : decode b_Mo_reply 157 = .ok (.getfield 53, 3) := by decide +kernel
theorem d_Mo_reply_160 : decode b_Mo_reply 160 = .ok (.iload 6, 2) := by decide +kernel
theorem d_Mo_reply_162 : decode b_Mo_reply 162 = .ok (.iconst 1, 1) := by decide +kernel
theorem d_Mo_reply_163 : decode b_Mo_reply 163 = .ok (.bastore, 1) := by decide +kernel
theorem d_Mo_reply_164 : decode b_Mo_reply 164 = .ok (.iconst 0, 1) := by decide +kernel
theorem d_Mo_reply_165 : decode b_Mo_reply 165 = .ok (.istore 8, 2) := by decide +kernel
theorem d_Mo_reply_167 : decode b_Mo_reply 167 = .ok (.iload 8, 2) := by decide +kernel
theorem d_Mo_reply_169 : decode b_Mo_reply 169 = .ok (.iconst 3, 1) := by decide +kernel
theorem d_Mo_reply_170 : decode b_Mo_reply 170 = .ok (.if_icmp .ge 36, 3) := by decide +kernel
theorem d_Mo_reply_173 : decode b_Mo_reply 173 = .ok (.aload_n 0, 1) := by decide +kernel
theorem d_Mo_reply_174 : decode b_Mo_reply 174 = .ok (.iload_n 2, 1) := by decide +kernel
theorem d_Mo_reply_175 : decode b_Mo_reply 175 = .ok (.iload 8, 2) := by decide +kernel
theorem d_Mo_reply_177 : decode b_Mo_reply 177 = .ok (.invokevirtual 116, 3) := by decide +kernel
theorem d_Mo_reply_180 : decode b_Mo_reply 180 = .ok (.ifCond .eq 20, 3) := by decide +kernel
theorem d_Mo_reply_183 : decode b_Mo_reply 183 = .ok (.aload_n 0, 1) := by decide +kernel
theorem d_Mo_reply_184 : decode b_Mo_reply 184 = .ok (.iload_n 2, 1) := by decide +kernel
theorem d_Mo_reply_185 : decode b_Mo_reply 185 = .ok (.iload 8, 2) := by decide +kernel
theorem d_Mo_reply_187 : decode b_Mo_reply 187 = .ok (.iload 4, 2) := by decide +kernel
theorem d_Mo_reply_189 : decode b_Mo_reply 189 = .ok (.aload_n 0, 1) := by decide +kernel
theorem d_Mo_reply_190 : decode b_Mo_reply 190 = .ok (.iload 6, 2) := by decide +kernel
theorem d_Mo_reply_192 : decode b_Mo_reply 192 = .ok (.iload 8, 2) := by decide +kernel
theorem d_Mo_reply_194 : decode b_Mo_reply 194 = .ok (.invokevirtual 130, 3) := by decide +kernel
theorem d_Mo_reply_197 : decode b_Mo_reply 197 = .ok (.invokevirtual 122, 3) := by decide +kernel
theorem d_Mo_reply_200 : decode b_Mo_reply 200 = .ok (.iinc 8 1, 3) := by decide +kernel
theorem d_Mo_reply_203 : decode b_Mo_reply 203 = .ok (.goto (-36), 3) := by decide +kernel
theorem d_Mo_reply_206 : decode b_Mo_reply 206 = .ok (.return_, 1) := by decide +kernel
theorem d_Mo_request_0 : decode b_Mo_request 0 = .ok (.aload_n 0, 1) := by decide +kernel
theorem d_Mo_request_1 : decode b_Mo_request 1 = .ok (.iconst 0, 1) := by decide +kernel
theorem d_Mo_request_2 : decode b_Mo_request 2 = .ok (.putfield 85, 3) := by decide +kernel
theorem d_Mo_request_5 : decode b_Mo_request 5 = .ok (.aload_n 0, 1) := by decide +kernel
theorem d_Mo_request_6 : decode b_Mo_request 6 = .ok (.iload_n 1, 1) := by decide +kernel
theorem d_Mo_request_7 : decode b_Mo_request 7 = .ok (.bipush 8, 2) := by decide +kernel
theorem d_Mo_request_9 : decode b_Mo_request 9 = .ok (.invokevirtual 109, 3) := by decide +kernel
theorem d_Mo_request_12 : decode b_Mo_request 12 = .ok (.ifCond .eq 9, 3) := by decide +kernel
theorem d_Mo_request_15 : decode b_Mo_request 15 = .ok (.aload_n 0, 1) := by decide +kernel
theorem d_Mo_request_16 : decode b_Mo_request 16 = .ok (.iconst 1, 1) := by decide +kernel
theorem d_Mo_request_17 : decode b_Mo_request 17 = .ok (.invokevirtual 105, 3) := by decide +kernel
theorem d_Mo_request_20 : decode b_Mo_request 20 = .ok (.ireturn, 1) := by decide +kernel
theorem d_Mo_request_21 : decode b_Mo_request 21 = .ok (.iload_n 1, 1) := by decide +kernel
theorem d_Mo_request_22 : decode b_Mo_request 22 = .ok (.aload_n 0, 1) := by decide +kernel
theorem d_Mo_request_23 : decode b_Mo_request 23 = .ok (.getfield 102, 3) := by decide +kernel
theorem d_Mo_request_26 : decode b_Mo_request 26 = .ok (.if_icmp .lt 9, 3) := by decide +kernel
theorem d_Mo_request_29 : decode b_Mo_request 29 = .ok (.aload_n 0, 1) := by decide +kernel
theorem d_Mo_request_30 : decode b_Mo_request 30 = .ok (.iconst 2, 1) := by decide +kernel
theorem d_Mo_request_31 : decode b_Mo_request 31 = .ok (.invokevirtual 105, 3) := by decide +kernel
theorem d_Mo_request_34 : decode b_Mo_request 34 = .ok (.ireturn, 1) := by decide +kernel
theorem d_Mo_request_35 : decode b_Mo_request 35 = .ok (.aload_n 0, 1) := by decide +kernel
theorem d_Mo_request_36 : decode b_Mo_request 36 = .ok (.getfield 26, 3) := by decide +kernel
theorem d_Mo_request_39 : decode b_Mo_request 39 = .ok (.iload_n 1, 1) := by decide +kernel
theorem d_Mo_request_40 : decode b_Mo_request 40 = .ok (.iaload, 1) := by decide +kernel
theorem d_Mo_request_41 : decode b_Mo_request 41 = .ok (.ifCond .ne 9, 3) := by decide +kernel
theorem d_Mo_request_44 : decode b_Mo_request 44 = .ok (.aload_n 0, 1) := by decide +kernel
theorem d_Mo_request_45 : decode b_Mo_request 45 = .ok (.iconst 3, 1) := by decide +kernel
theorem d_Mo_request_46 : decode b_Mo_request 46 = .ok (.invokevirtual 105, 3) := by decide +kernel
theorem d_Mo_request_49 : decode b_Mo_request 49 = .ok (.ireturn, 1) := by decide +kernel
theorem d_Mo_request_50 : decode b_Mo_request 50 = .ok (.aload_n 0, 1) := by decide +kernel
theorem d_Mo_request_51 : decode b_Mo_request 51 = .ok (.getfield 29, 3) := by decide +kernel
theorem d_Mo_request_54 : decode b_Mo_request 54 = .ok (.iload_n 1, 1) := by decide +kernel
theorem d_Mo_request_55 : decode b_Mo_request 55 = .ok (.baload, 1) := by decide +kernel
theorem d_Mo_request_56 : decode b_Mo_request 56 = .ok (.ifCond .eq 9, 3) := by decide +kernel
theorem d_Mo_request_59 : decode b_Mo_request 59 = .ok (.aload_n 0, 1) := by decide +kernel
theorem d_Mo_request_60 : decode b_Mo_request 60 = .ok (.iconst 4, 1) := by decide +kernel
theorem d_Mo_request_61 : decode b_Mo_request 61 = .ok (.invokevirtual 105, 3) := by decide +kernel
theorem d_Mo_request_64 : decode b_Mo_request 64 = .ok (.ireturn, 1) := by decide +kernel
theorem d_Mo_request_65 : decode b_Mo_request 65 = .ok (.aload_n 0, 1) := by decide +kernel
theorem d_Mo_request_66 : decode b_Mo_request 66 = .ok (.getfield 29, 3) := by decide +kernel
theorem d_Mo_request_69 : decode b_Mo_request 69 = .ok (.iload_n 1, 1) := by decide +kernel
theorem d_Mo_request_70 : decode b_Mo_request 70 = .ok (.iconst 1, 1) := by decide +kernel
theorem d_Mo_request_71 : decode b_Mo_request 71 = .ok (.bastore, 1) := by decide +kernel
theorem d_Mo_request_72 : decode b_Mo_request 72 = .ok (.iconst 0, 1) := by decide +kernel
theorem d_Mo_request_73 : decode b_Mo_request 73 = .ok (.istore_n 2, 1) := by decide +kernel
theorem d_Mo_request_74 : decode b_Mo_request 74 = .ok (.iload_n 2, 1) := by decide +kernel
theorem d_Mo_request_75 : decode b_Mo_request 75 = .ok (.iconst 3, 1) := by decide +kernel
theorem d_Mo_request_76 : decode b_Mo_request 76 = .ok (.if_icmp .ge 31, 3) := by decide +kernel
theorem d_Mo_request_79 : decode b_Mo_request 79 = .ok (.aload_n 0, 1) := by decide +kernel
theorem d_Mo_request_80 : decode b_Mo_request 80 = .ok (.iload_n 1, 1) := by decide +kernel
theorem d_Mo_request_81 : decode b_Mo_request 81 = .ok (.iload_n 2, 1) := by decide +kernel
theorem d_Mo_request_82 : decode b_Mo_request 82 = .ok (.invokevirtual 116, 3) := by decide +kernel
theorem d_Mo_request_85 : decode b_Mo_request 85 = .ok (.ifCond .eq 16, 3) := by decide +kernel
theorem d_Mo_request_88 : decode b_Mo_request 88 = .ok (.aload_n 0, 1) := by decide +kernel
theorem d_Mo_request_89 : decode b_Mo_request 89 = .ok (.bipush 80, 2) := by decide +kernel
theorem d_Mo_request_91 : decode b_Mo_request 91 = .ok (.iload_n 1, 1) := by decide +kernel
theorem d_Mo_request_92 : decode b_Mo_request 92 = .ok (.iload_n 2, 1) := by decide +kernel
theorem d_Mo_request_93 : decode b_Mo_request 93 = .ok (.iconst (-1), 1) := by decide +kernel
theorem d_Mo_request_94 : decode b_Mo_request 94 = .ok (.iconst (-1), 1) := by decide +kernel
theorem d_Mo_request_95 : decode b_Mo_request 95 = .ok (.iconst (-1), 1) := by decide +kernel
theorem d_Mo_request_96 : decode b_Mo_request 96 = .ok (.iconst (-1), 1) := by decide +kernel
theorem d_Mo_request_97 : decode b_Mo_request 97 = .ok (.invokevirtual 94, 3) := by decide +kernel
theorem d_Mo_request_100 : decode b_Mo_request 100 = .ok (.istore_n 3, 1) := by decide +kernel
theorem d_Mo_request_101 : decode b_Mo_request 101 = .ok (.iinc 2 1, 3) := by decide +kernel
theorem d_Mo_request_104 : decode b_Mo_request 104 = .ok (.goto (-30), 3) := by decide +kernel
theorem d_Mo_request_107 : decode b_Mo_request 107 = .ok (.aload_n 0, 1) := by decide +kernel
theorem d_Mo_request_108 : decode b_Mo_request 108 = .ok (.aload_n 0, 1) := by decide +kernel
theorem d_Mo_request_109 : decode b_Mo_request 109 = .ok (.getfield 26, 3) := by decide +kernel
theorem d_Mo_request_112 : decode b_Mo_request 112 = .ok (.iload_n 1, 1) := by decide +kernel
theorem d_Mo_request_113 : decode b_Mo_request 113 = .ok (.iaload, 1) := by decide +kernel
theorem d_Mo_request_114 : decode b_Mo_request 114 = .ok (.invokevirtual 113, 3) := by decide +kernel
theorem d_Mo_request_117 : decode b_Mo_request 117 = .ok (.ireturn, 1) := by decide +kernel
theorem d_Mo_send_0 : decode b_Mo_send 0 = .ok (.aload_n 0, 1) := by decide +kernel
theorem d_Mo_send_1 : decode b_Mo_send 1 = .ok (.getfield 88, 3) := by decide +kernel
theorem d_Mo_send_4 : decode b_Mo_send 4 = .ok (.bipush 60, 2) := by decide +kernel
theorem d_Mo_send_6 : decode b_Mo_send 6 = .ok (.if_icmp .ne 15, 3) := by decide +kernel
theorem d_Mo_send_9 : decode b_Mo_send 9 = .ok (.aload_n 0, 1) := by decide +kernel
theorem d_Mo_send_10 : decode b_Mo_send 10 = .ok (.dup, 1) := by decide +kernel
theorem d_Mo_send_11 : decode b_Mo_send 11 = .ok (.getfield 91, 3) := by decide +kernel
theorem d_Mo_send_14 : decode b_Mo_send 14 = .ok (.iconst 1, 1) := by decide +kernel
theorem d_Mo_send_15 : decode b_Mo_send 15 = .ok (.iadd, 1) := by decide +kernel
theorem d_Mo_send_16 : decode b_Mo_send 16 = .ok (.putfield 91, 3) := by decide +kernel
theorem d_Mo_send_19 : decode b_Mo_send 19 = .ok (.iconst 0, 1) := by decide +kernel
theorem d_Mo_send_20 : decode b_Mo_send 20 = .ok (.ireturn, 1) := by decide +kernel
theorem d_Mo_send_21 : decode b_Mo_send 21 = .ok (.bipush 13, 2) := by decide +kernel
theorem d_Mo_send_23 : decode b_Mo_send 23 = .ok (.aload_n 0, 1) := by decide +kernel
theorem d_Mo_send_24 : decode b_Mo_send 24 = .ok (.getfield 88, 3) := by decide +kernel
theorem d_Mo_send_27 : decode b_Mo_send 27 = .ok (.imul, 1) := by decide +kernel
theorem d_Mo_send_28 : decode b_Mo_send 28 = .ok (.istore 8, 2) := by decide +kernel
theorem d_Mo_send_30 : decode b_Mo_send 30 = .ok (.aload_n 0, 1) := by decide +kernel
theorem d_Mo_send_31 : decode b_Mo_send 31 = .ok (.getfield 74, 3) := by decide +kernel
theorem d_Mo_send_34 : decode b_Mo_send 34 = .ok (.iload 8, 2) := by decide +kernel
theorem d_Mo_send_36 : decode b_Mo_send 36 = .ok (.iload_n 1, 1) := by decide +kernel
theorem d_Mo_send_37 : decode b_Mo_send 37 = .ok (.iastore, 1) := by decide +kernel
theorem d_Mo_send_38 : decode b_Mo_send 38 = .ok (.aload_n 0, 1) := by decide +kernel
theorem d_Mo_send_39 : decode b_Mo_send 39 = .ok (.getfield 74, 3) := by decide +kernel
theorem d_Mo_send_42 : decode b_Mo_send 42 = .ok (.iload 8, 2) := by decide +kernel
theorem d_Mo_send_44 : decode b_Mo_send 44 = .ok (.iconst 1, 1) := by decide +kernel
theorem d_Mo_send_45 : decode b_Mo_send 45 = .ok (.iadd, 1) := by decide +kernel
theorem d_Mo_send_46 : decode b_Mo_send 46 = .ok (.iload_n 2, 1) := by decide +kernel
theorem d_Mo_send_47 : decode b_Mo_send 47 = .ok (.iastore, 1) := by decide +kernel
theorem d_Mo_send_48 : decode b_Mo_send 48 = .ok (.aload_n 0, 1) := by decide +kernel
theorem d_Mo_send_49 : decode b_Mo_send 49 = .ok (.getfield 74, 3) := by decide +kernel
theorem d_Mo_send_52 : decode b_Mo_send 52 = .ok (.iload 8, 2) := by decide +kernel
theorem d_Mo_send_54 : decode b_Mo_send 54 = .ok (.iconst 2, 1) := by decide +kernel
theorem d_Mo_send_55 : decode b_Mo_send 55 = .ok (.iadd, 1) := by decide +kernel
theorem d_Mo_send_56 : decode b_Mo_send 56 = .ok (.iload_n 3, 1) := by decide +kernel
theorem d_Mo_send_57 : decode b_Mo_send 57 = .ok (.iastore, 1) := by decide +kernel
theorem d_Mo_send_58 : decode b_Mo_send 58 = .ok (.aload_n 0, 1) := by decide +kernel
theorem d_Mo_send_59 : decode b_Mo_send 59 = .ok (.getfield 74, 3) := by decide +kernel
theorem d_Mo_send_62 : decode b_Mo_send 62 = .ok (.iload 8, 2) := by decide +kernel
theorem d_Mo_send_64 : decode b_Mo_send 64 = .ok (.iconst 3, 1) := by decide +kernel
theorem d_Mo_send_65 : decode b_Mo_send 65 = .ok (.iadd, 1) := by decide +kernel
theorem d_Mo_send_66 : decode b_Mo_send 66 = .ok (.iload 4, 2) := by decide +kernel
theorem d_Mo_send_68 : decode b_Mo_send 68 = .ok (.iastore, 1) := by decide +kernel
theorem d_Mo_send_69 : decode b_Mo_send 69 = .ok (.aload_n 0, 1) := by decide +kernel
theorem d_Mo_send_70 : decode b_Mo_send 70 = .ok (.getfield 74, 3) := by decide +kernel
theorem d_Mo_send_73 : decode b_Mo_send 73 = .ok (.iload 8, 2) := by decide +kernel
theorem d_Mo_send_75 : decode b_Mo_send 75 = .ok (.iconst 4, 1) := by decide +kernel
theorem d_Mo_send_76 : decode b_Mo_send 76 = .ok (.iadd, 1) := by decide +kernel
theorem d_Mo_send_77 : decode b_Mo_send 77 = .ok (.iload 5, 2) := by decide +kernel
theorem d_Mo_send_79 : decode b_Mo_send 79 = .ok (.iastore, 1) := by decide +kernel
theorem d_Mo_send_80 : decode b_Mo_send 80 = .ok (.aload_n 0, 1) := by decide +kernel
theorem d_Mo_send_81 : decode b_Mo_send 81 = .ok (.getfield 74, 3) := by decide +kernel
theorem d_Mo_send_84 : decode b_Mo_send 84 = .ok (.iload 8, 2) := by decide +kernel
theorem d_Mo_send_86 : decode b_Mo_send 86 = .ok (.iconst 5, 1) := by decide +kernel
theorem d_Mo_send_87 : decode b_Mo_send 87 = .ok (.iadd, 1) := by decide +kernel
theorem d_Mo_send_88 : decode b_Mo_send 88 = .ok (.iload 6, 2) := by decide +kernel
theorem d_Mo_send_90 : decode b_Mo_send 90 = .ok (.iastore, 1) := by decide +kernel
theorem d_Mo_send_91 : decode b_Mo_send 91 = .ok (.aload_n 0, 1) := by decide +kernel
theorem d_Mo_send_92 : decode b_Mo_send 92 = .ok (.getfield 74, 3) := by decide +kernel
theorem d_Mo_send_95 : decode b_Mo_send 95 = .ok (.iload 8, 2) := by decide +kernel
theorem d_Mo_send_97 : decode b_Mo_send 97 = .ok (.bipush 6, 2) := by decide +kernel
theorem d_Mo_send_99 : decode b_Mo_send 99 = .ok (.iadd, 1) := by decide +kernel
theorem d_Mo_send_100 : decode b_Mo_send 100 = .ok (.iload 7, 2) := by decide +kernel
theorem d_Mo_send_102 : decode b_Mo_send 102 = .ok (.iastore, 1) := by decide +kernel
theorem d_Mo_send_103 : decode b_Mo_send 103 = .ok (.aload_n 0, 1) := by decide +kernel
theorem d_Mo_send_104 : decode b_Mo_send 104 = .ok (.dup, 1) := by decide +kernel
theorem d_Mo_send_105 : decode b_Mo_send 105 = .ok (.getfield 88, 3) := by decide +kernel
theorem d_Mo_send_108 : decode b_Mo_send 108 = .ok (.iconst 1, 1) := by decide +kernel
theorem d_Mo_send_109 : decode b_Mo_send 109 = .ok (.iadd, 1) := by decide +kernel
theorem d_Mo_send_110 : decode b_Mo_send 110 = .ok (.putfield 88, 3) := by decide +kernel
theorem d_Mo_send_113 : decode b_Mo_send 113 = .ok (.iconst 1, 1) := by decide +kernel
theorem d_Mo_send_114 : decode b_Mo_send 114 = .ok (.ireturn, 1) := by decide +kernel
theorem d_Mo_state_0 : decode b_Mo_state 0 = .ok (.aload_n 0, 1) := by decide +kernel
theorem d_Mo_state_1 : decode b_Mo_state 1 = .ok (.iconst 0, 1) := by decide +kernel
theorem d_Mo_state_2 : decode b_Mo_state 2 = .ok (.putfield 85, 3) := by decide +kernel
theorem d_Mo_state_5 : decode b_Mo_state 5 = .ok (.aload_n 0, 1) := by decide +kernel
theorem d_Mo_state_6 : decode b_Mo_state 6 = .ok (.iload_n 1, 1) := by decide +kernel
theorem d_Mo_state_7 : decode b_Mo_state 7 = .ok (.bipush 8, 2) := by decide +kernel
theorem d_Mo_state_9 : decode b_Mo_state 9 = .ok (.invokevirtual 109, 3) := by decide +kernel
