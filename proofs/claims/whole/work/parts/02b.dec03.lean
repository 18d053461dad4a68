theorem d_Mo_ask_165 : decode b_Mo_ask 165 = .ok (.iconst (-1), 1) := by decide +kernel
theorem d_Mo_ask_166 : decode b_Mo_ask 166 = .ok (.iastore, 1) := by decide +kernel
theorem d_Mo_ask_167 : decode b_Mo_ask 167 = .ok (.aload_n 0, 1) := by decide +kernel
theorem d_Mo_ask_168 : decode b_Mo_ask 168 = .ok (.getfield 74, 3) := by decide +kernel
theorem d_Mo_ask_171 : decode b_Mo_ask 171 = .ok (.bipush 13, 2) := by decide +kernel
theorem d_Mo_ask_173 : decode b_Mo_ask 173 = .ok (.aload_n 0, 1) := by decide +kernel
theorem d_Mo_ask_174 : decode b_Mo_ask 174 = .ok (.getfield 88, 3) := by decide +kernel
theorem d_Mo_ask_177 : decode b_Mo_ask 177 = .ok (.imul, 1) := by decide +kernel
theorem d_Mo_ask_178 : decode b_Mo_ask 178 = .ok (.iconst 3, 1) := by decide +kernel
theorem d_Mo_ask_179 : decode b_Mo_ask 179 = .ok (.isub, 1) := by decide +kernel
theorem d_Mo_ask_180 : decode b_Mo_ask 180 = .ok (.iload 4, 2) := by decide +kernel
theorem d_Mo_ask_182 : decode b_Mo_ask 182 = .ok (.iadd, 1) := by decide +kernel
theorem d_Mo_ask_183 : decode b_Mo_ask 183 = .ok (.aload_n 0, 1) := by decide +kernel
theorem d_Mo_ask_184 : decode b_Mo_ask 184 = .ok (.getfield 47, 3) := by decide +kernel
theorem d_Mo_ask_187 : decode b_Mo_ask 187 = .ok (.iload 5, 2) := by decide +kernel
theorem d_Mo_ask_189 : decode b_Mo_ask 189 = .ok (.iaload, 1) := by decide +kernel
theorem d_Mo_ask_190 : decode b_Mo_ask 190 = .ok (.iastore, 1) := by decide +kernel
theorem d_Mo_ask_191 : decode b_Mo_ask 191 = .ok (.iinc 4 1, 3) := by decide +kernel
theorem d_Mo_ask_194 : decode b_Mo_ask 194 = .ok (.goto (-85), 3) := by decide +kernel
theorem d_Mo_ask_197 : decode b_Mo_ask 197 = .ok (.return_, 1) := by decide +kernel
theorem d_Mo_begin_0 : decode b_Mo_begin 0 = .ok (.aload_n 0, 1) := by decide +kernel
theorem d_Mo_begin_1 : decode b_Mo_begin 1 = .ok (.iconst 0, 1) := by decide +kernel
theorem d_Mo_begin_2 : decode b_Mo_begin 2 = .ok (.putfield 85, 3) := by decide +kernel
theorem d_Mo_begin_5 : decode b_Mo_begin 5 = .ok (.aload_n 0, 1) := by decide +kernel
theorem d_Mo_begin_6 : decode b_Mo_begin 6 = .ok (.getfield 102, 3) := by decide +kernel
theorem d_Mo_begin_9 : decode b_Mo_begin 9 = .ok (.bipush 8, 2) := by decide +kernel
theorem d_Mo_begin_11 : decode b_Mo_begin 11 = .ok (.if_icmp .ne 9, 3) := by decide +kernel
theorem d_Mo_begin_14 : decode b_Mo_begin 14 = .ok (.aload_n 0, 1) := by decide +kernel
theorem d_Mo_begin_15 : decode b_Mo_begin 15 = .ok (.iconst 1, 1) := by decide +kernel
theorem d_Mo_begin_16 : decode b_Mo_begin 16 = .ok (.invokevirtual 105, 3) := by decide +kernel
theorem d_Mo_begin_19 : decode b_Mo_begin 19 = .ok (.ireturn, 1) := by decide +kernel
theorem d_Mo_begin_20 : decode b_Mo_begin 20 = .ok (.aload_n 0, 1) := by decide +kernel
theorem d_Mo_begin_21 : decode b_Mo_begin 21 = .ok (.dup, 1) := by decide +kernel
theorem d_Mo_begin_22 : decode b_Mo_begin 22 = .ok (.getfield 102, 3) := by decide +kernel
theorem d_Mo_begin_25 : decode b_Mo_begin 25 = .ok (.iconst 1, 1) := by decide +kernel
theorem d_Mo_begin_26 : decode b_Mo_begin 26 = .ok (.iadd, 1) := by decide +kernel
theorem d_Mo_begin_27 : decode b_Mo_begin 27 = .ok (.putfield 102, 3) := by decide +kernel
theorem d_Mo_begin_30 : decode b_Mo_begin 30 = .ok (.aload_n 0, 1) := by decide +kernel
theorem d_Mo_begin_31 : decode b_Mo_begin 31 = .ok (.getfield 102, 3) := by decide +kernel
theorem d_Mo_begin_34 : decode b_Mo_begin 34 = .ok (.iconst 1, 1) := by decide +kernel
theorem d_Mo_begin_35 : decode b_Mo_begin 35 = .ok (.isub, 1) := by decide +kernel
theorem d_Mo_begin_36 : decode b_Mo_begin 36 = .ok (.ireturn, 1) := by decide +kernel
theorem d_Mo_count_0 : decode b_Mo_count 0 = .ok (.aload_n 0, 1) := by decide +kernel
theorem d_Mo_count_1 : decode b_Mo_count 1 = .ok (.iconst 0, 1) := by decide +kernel
theorem d_Mo_count_2 : decode b_Mo_count 2 = .ok (.putfield 85, 3) := by decide +kernel
theorem d_Mo_count_5 : decode b_Mo_count 5 = .ok (.iload_n 1, 1) := by decide +kernel
theorem d_Mo_count_6 : decode b_Mo_count 6 = .ok (.tableswitch 95 0 6 #[42, 47, 52, 57, 62, 72, 85], 42) := by decide +kernel
theorem d_Mo_count_48 : decode b_Mo_count 48 = .ok (.aload_n 0, 1) := by decide +kernel
theorem d_Mo_count_49 : decode b_Mo_count 49 = .ok (.getfield 88, 3) := by decide +kernel
theorem d_Mo_count_52 : decode b_Mo_count 52 = .ok (.ireturn, 1) := by decide +kernel
theorem d_Mo_count_53 : decode b_Mo_count 53 = .ok (.aload_n 0, 1) := by decide +kernel
theorem d_Mo_count_54 : decode b_Mo_count 54 = .ok (.getfield 91, 3) := by decide +kernel
theorem d_Mo_count_57 : decode b_Mo_count 57 = .ok (.ireturn, 1) := by decide +kernel
theorem d_Mo_count_58 : decode b_Mo_count 58 = .ok (.aload_n 0, 1) := by decide +kernel
theorem d_Mo_count_59 : decode b_Mo_count 59 = .ok (.getfield 102, 3) := by decide +kernel
theorem d_Mo_count_62 : decode b_Mo_count 62 = .ok (.ireturn, 1) := by decide +kernel
theorem d_Mo_count_63 : decode b_Mo_count 63 = .ok (.aload_n 0, 1) := by decide +kernel
theorem d_Mo_count_64 : decode b_Mo_count 64 = .ok (.getfield 77, 3) := by decide +kernel
theorem d_Mo_count_67 : decode b_Mo_count 67 = .ok (.ireturn, 1) := by decide +kernel
theorem d_Mo_count_68 : decode b_Mo_count 68 = .ok (.aload_n 0, 1) := by decide +kernel
theorem d_Mo_count_69 : decode b_Mo_count 69 = .ok (.aload_n 0, 1) := by decide +kernel
theorem d_Mo_count_70 : decode b_Mo_count 70 = .ok (.getfield 7, 3) := by decide +kernel
theorem d_Mo_count_73 : decode b_Mo_count 73 = .ok (.iconst 3, 1) := by decide +kernel
theorem d_Mo_count_74 : decode b_Mo_count 74 = .ok (.invokevirtual 178, 3) := by decide +kernel
theorem d_Mo_count_77 : decode b_Mo_count 77 = .ok (.ireturn, 1) := by decide +kernel
theorem d_Mo_count_78 : decode b_Mo_count 78 = .ok (.aload_n 0, 1) := by decide +kernel
theorem d_Mo_count_79 : decode b_Mo_count 79 = .ok (.aload_n 0, 1) := by decide +kernel
theorem d_Mo_count_80 : decode b_Mo_count 80 = .ok (.getfield 13, 3) := by decide +kernel
theorem d_Mo_count_83 : decode b_Mo_count 83 = .ok (.aload_n 0, 1) := by decide +kernel
theorem d_Mo_count_84 : decode b_Mo_count 84 = .ok (.getfield 77, 3) := by decide +kernel
theorem d_Mo_count_87 : decode b_Mo_count 87 = .ok (.invokevirtual 178, 3) := by decide +kernel
theorem d_Mo_count_90 : decode b_Mo_count 90 = .ok (.ireturn, 1) := by decide +kernel
theorem d_Mo_count_91 : decode b_Mo_count 91 = .ok (.aload_n 0, 1) := by decide +kernel
theorem d_Mo_count_92 : decode b_Mo_count 92 = .ok (.aload_n 0, 1) := by decide +kernel
theorem d_Mo_count_93 : decode b_Mo_count 93 = .ok (.getfield 16, 3) := by decide +kernel
theorem d_Mo_count_96 : decode b_Mo_count 96 = .ok (.iconst 2, 1) := by decide +kernel
theorem d_Mo_count_97 : decode b_Mo_count 97 = .ok (.invokevirtual 178, 3) := by decide +kernel
theorem d_Mo_count_100 : decode b_Mo_count 100 = .ok (.ireturn, 1) := by decide +kernel
theorem d_Mo_count_101 : decode b_Mo_count 101 = .ok (.aload_n 0, 1) := by decide +kernel
theorem d_Mo_count_102 : decode b_Mo_count 102 = .ok (.iconst 1, 1) := by decide +kernel
theorem d_Mo_count_103 : decode b_Mo_count 103 = .ok (.invokevirtual 105, 3) := by decide +kernel
theorem d_Mo_count_106 : decode b_Mo_count 106 = .ok (.ireturn, 1) := by decide +kernel
theorem d_Mo_decided_0 : decode b_Mo_decided 0 = .ok (.iconst 0, 1) := by decide +kernel
theorem d_Mo_decided_1 : decode b_Mo_decided 1 = .ok (.istore_n 3, 1) := by decide +kernel
theorem d_Mo_decided_2 : decode b_Mo_decided 2 = .ok (.iload_n 3, 1) := by decide +kernel
theorem d_Mo_decided_3 : decode b_Mo_decided 3 = .ok (.iconst 3, 1) := by decide +kernel
theorem d_Mo_decided_4 : decode b_Mo_decided 4 = .ok (.if_icmp .ge 116, 3) := by decide +kernel
theorem d_Mo_decided_7 : decode b_Mo_decided 7 = .ok (.bipush 9, 2) := by decide +kernel
theorem d_Mo_decided_9 : decode b_Mo_decided 9 = .ok (.iload_n 1, 1) := by decide +kernel
theorem d_Mo_decided_10 : decode b_Mo_decided 10 = .ok (.imul, 1) := by decide +kernel
theorem d_Mo_decided_11 : decode b_Mo_decided 11 = .ok (.iconst 3, 1) := by decide +kernel
theorem d_Mo_decided_12 : decode b_Mo_decided 12 = .ok (.iload_n 3, 1) := by decide +kernel
theorem d_Mo_decided_13 : decode b_Mo_decided 13 = .ok (.imul, 1) := by decide +kernel
theorem d_Mo_decided_14 : decode b_Mo_decided 14 = .ok (.iadd, 1) := by decide +kernel
theorem d_Mo_decided_15 : decode b_Mo_decided 15 = .ok (.iload_n 2, 1) := by decide +kernel
theorem d_Mo_decided_16 : decode b_Mo_decided 16 = .ok (.iadd, 1) := by decide +kernel
theorem d_Mo_decided_17 : decode b_Mo_decided 17 = .ok (.istore 4, 2) := by decide +kernel
theorem d_Mo_decided_19 : decode b_Mo_decided 19 = .ok (.iconst 0, 1) := by decide +kernel
theorem d_Mo_decided_20 : decode b_Mo_decided 20 = .ok (.istore 5, 2) := by decide +kernel
theorem d_Mo_decided_22 : decode b_Mo_decided 22 = .ok (.iconst 0, 1) := by decide +kernel
theorem d_Mo_decided_23 : decode b_Mo_decided 23 = .ok (.istore 6, 2) := by decide +kernel
theorem d_Mo_decided_25 : decode b_Mo_decided 25 = .ok (.iload 6, 2) := by decide +kernel
theorem d_Mo_decided_27 : decode b_Mo_decided 27 = .ok (.iconst 3, 1) := by decide +kernel
theorem d_Mo_decided_28 : decode b_Mo_decided 28 = .ok (.if_icmp .ge 69, 3) := by decide +kernel
theorem d_Mo_decided_31 : decode b_Mo_decided 31 = .ok (.bipush 9, 2) := by decide +kernel
theorem d_Mo_decided_33 : decode b_Mo_decided 33 = .ok (.iload_n 1, 1) := by decide +kernel
theorem d_Mo_decided_34 : decode b_Mo_decided 34 = .ok (.imul, 1) := by decide +kernel
theorem d_Mo_decided_35 : decode b_Mo_decided 35 = .ok (.iconst 3, 1) := by decide +kernel
theorem d_Mo_decided_36 : decode b_Mo_decided 36 = .ok (.iload 6, 2) := by decide +kernel
theorem d_Mo_decided_38 : decode b_Mo_decided 38 = .ok (.imul, 1) := by decide +kernel
theorem d_Mo_decided_39 : decode b_Mo_decided 39 = .ok (.iadd, 1) := by decide +kernel
theorem d_Mo_decided_40 : decode b_Mo_decided 40 = .ok (.iload_n 2, 1) := by decide +kernel
theorem d_Mo_decided_41 : decode b_Mo_decided 41 = .ok (.iadd, 1) := by decide +kernel
theorem d_Mo_decided_42 : decode b_Mo_decided 42 = .ok (.istore 7, 2) := by decide +kernel
theorem d_Mo_decided_44 : decode b_Mo_decided 44 = .ok (.aload_n 0, 1) := by decide +kernel
theorem d_Mo_decided_45 : decode b_Mo_decided 45 = .ok (.getfield 68, 3) := by decide +kernel
theorem d_Mo_decided_48 : decode b_Mo_decided 48 = .ok (.iload 4, 2) := by decide +kernel
theorem d_Mo_decided_50 : decode b_Mo_decided 50 = .ok (.iaload, 1) := by decide +kernel
theorem d_Mo_decided_51 : decode b_Mo_decided 51 = .ok (.ifCond .lt 40, 3) := by decide +kernel
theorem d_Mo_decided_54 : decode b_Mo_decided 54 = .ok (.aload_n 0, 1) := by decide +kernel
theorem d_Mo_decided_55 : decode b_Mo_decided 55 = .ok (.getfield 68, 3) := by decide +kernel
theorem d_Mo_decided_58 : decode b_Mo_decided 58 = .ok (.iload 7, 2) := by decide +kernel
theorem d_Mo_decided_60 : decode b_Mo_decided 60 = .ok (.iaload, 1) := by decide +kernel
theorem d_Mo_decided_61 : decode b_Mo_decided 61 = .ok (.aload_n 0, 1) := by decide +kernel
theorem d_Mo_decided_62 : decode b_Mo_decided 62 = .ok (.getfield 68, 3) := by decide +kernel
theorem d_Mo_decided_65 : decode b_Mo_decided 65 = .ok (.iload 4, 2) := by decide +kernel
theorem d_Mo_decided_67 : decode b_Mo_decided 67 = .ok (.iaload, 1) := by decide +kernel
theorem d_Mo_decided_68 : decode b_Mo_decided 68 = .ok (.if_icmp .ne 23, 3) := by decide +kernel
theorem d_Mo_decided_71 : decode b_Mo_decided 71 = .ok (.aload_n 0, 1) := by decide +kernel
theorem d_Mo_decided_72 : decode b_Mo_decided 72 = .ok (.getfield 71, 3) := by decide +kernel
theorem d_Mo_decided_75 : decode b_Mo_decided 75 = .ok (.iload 7, 2) := by decide +kernel
theorem d_Mo_decided_77 : decode b_Mo_decided 77 = .ok (.iaload, 1) := by decide +kernel
theorem d_Mo_decided_78 : decode b_Mo_decided 78 = .ok (.aload_n 0, 1) := by decide +kernel
theorem d_Mo_decided_79 : decode b_Mo_decided 79 = .ok (.getfield 71, 3) := by decide +kernel
theorem d_Mo_decided_82 : decode b_Mo_decided 82 = .ok (.iload 4, 2) := by decide +kernel
theorem d_Mo_decided_84 : decode b_Mo_decided 84 = .ok (.iaload, 1) := by decide +kernel
theorem d_Mo_decided_85 : decode b_Mo_decided 85 = .ok (.if_icmp .ne 6, 3) := by decide +kernel
theorem d_Mo_decided_88 : decode b_Mo_decided 88 = .ok (.iinc 5 1, 3) := by decide +kernel
theorem d_Mo_decided_91 : decode b_Mo_decided 91 = .ok (.iinc 6 1, 3) := by decide +kernel
theorem d_Mo_decided_94 : decode b_Mo_decided 94 = .ok (.goto (-69), 3) := by decide +kernel
theorem d_Mo_decided_97 : decode b_Mo_decided 97 = .ok (.iload 5, 2) := by decide +kernel
theorem d_Mo_decided_99 : decode b_Mo_decided 99 = .ok (.aload_n 0, 1) := by decide +kernel
theorem d_Mo_decided_100 : decode b_Mo_decided 100 = .ok (.invokevirtual 126, 3) := by decide +kernel
theorem d_Mo_decided_103 : decode b_Mo_decided 103 = .ok (.if_icmp .lt 11, 3) := by decide +kernel
theorem d_Mo_decided_106 : decode b_Mo_decided 106 = .ok (.aload_n 0, 1) := by decide +kernel
theorem d_Mo_decided_107 : decode b_Mo_decided 107 = .ok (.getfield 71, 3) := by decide +kernel
theorem d_Mo_decided_110 : decode b_Mo_decided 110 = .ok (.iload 4, 2) := by decide +kernel
theorem d_Mo_decided_112 : decode b_Mo_decided 112 = .ok (.iaload, 1) := by decide +kernel
theorem d_Mo_decided_113 : decode b_Mo_decided 113 = .ok (.ireturn, 1) := by decide +kernel
theorem d_Mo_decided_114 : decode b_Mo_decided 114 = .ok (.iinc 3 1, 3) := by decide +kernel
theorem d_Mo_decided_117 : decode b_Mo_decided 117 = .ok (.goto (-115), 3) := by decide +kernel
theorem d_Mo_decided_120 : decode b_Mo_decided 120 = .ok (.iconst (-1), 1) := by decide +kernel
theorem d_Mo_decided_121 : decode b_Mo_decided 121 = .ok (.ireturn, 1) := by decide +kernel
theorem d_Mo_deliver_0 : decode b_Mo_deliver 0 = .ok (.aload_n 0, 1) := by decide +kernel
theorem d_Mo_deliver_1 : decode b_Mo_deliver 1 = .ok (.iconst 0, 1) := by decide +kernel
theorem d_Mo_deliver_2 : decode b_Mo_deliver 2 = .ok (.putfield 85, 3) := by decide +kernel
theorem d_Mo_deliver_5 : decode b_Mo_deliver 5 = .ok (.aload_n 0, 1) := by decide +kernel
theorem d_Mo_deliver_6 : decode b_Mo_deliver 6 = .ok (.iload_n 1, 1) := by decide +kernel
theorem d_Mo_deliver_7 : decode b_Mo_deliver 7 = .ok (.aload_n 0, 1) := by decide +kernel
theorem d_Mo_deliver_8 : decode b_Mo_deliver 8 = .ok (.getfield 88, 3) := by decide +kernel
theorem d_Mo_deliver_11 : decode b_Mo_deliver 11 = .ok (.invokevirtual 109, 3) := by decide +kernel
theorem d_Mo_deliver_14 : decode b_Mo_deliver 14 = .ok (.ifCond .eq 9, 3) := by decide +kernel
theorem d_Mo_deliver_17 : decode b_Mo_deliver 17 = .ok (.aload_n 0, 1) := by decide +kernel
theorem d_Mo_deliver_18 : decode b_Mo_deliver 18 = .ok (.iconst 1, 1) := by decide +kernel
theorem d_Mo_deliver_19 : decode b_Mo_deliver 19 = .ok (.invokevirtual 105, 3) := by decide +kernel
theorem d_Mo_deliver_22 : decode b_Mo_deliver 22 = .ok (.ireturn, 1) := by decide +kernel
theorem d_Mo_deliver_23 : decode b_Mo_deliver 23 = .ok (.aload_n 0, 1) := by decide +kernel
theorem d_Mo_deliver_24 : decode b_Mo_deliver 24 = .ok (.iload_n 1, 1) := by decide +kernel
theorem d_Mo_deliver_25 : decode b_Mo_deliver 25 = .ok (.iload_n 2, 1) := by decide +kernel
theorem d_Mo_deliver_26 : decode b_Mo_deliver 26 = .ok (.invokevirtual 158, 3) := by decide +kernel
theorem d_Mo_deliver_29 : decode b_Mo_deliver 29 = .ok (.aload_n 0, 1) := by decide +kernel
theorem d_Mo_deliver_30 : decode b_Mo_deliver 30 = .ok (.sipush 780, 3) := by decide +kernel
theorem d_Mo_deliver_33 : decode b_Mo_deliver 33 = .ok (.invokevirtual 162, 3) := by decide +kernel
theorem d_Mo_deliver_36 : decode b_Mo_deliver 36 = .ok (.aload_n 0, 1) := by decide +kernel
theorem d_Mo_deliver_37 : decode b_Mo_deliver 37 = .ok (.getfield 88, 3) := by decide +kernel
theorem d_Mo_deliver_40 : decode b_Mo_deliver 40 = .ok (.ireturn, 1) := by decide +kernel
theorem d_Mo_fail_0 : decode b_Mo_fail 0 = .ok (.aload_n 0, 1) := by decide +kernel
theorem d_Mo_fail_1 : decode b_Mo_fail 1 = .ok (.iload_n 1, 1) := by decide +kernel
theorem d_Mo_fail_2 : decode b_Mo_fail 2 = .ok (.putfield 85, 3) := by decide +kernel
theorem d_Mo_fail_5 : decode b_Mo_fail 5 = .ok (.iconst 0, 1) := by decide +kernel
theorem d_Mo_fail_6 : decode b_Mo_fail 6 = .ok (.ireturn, 1) := by decide +kernel
theorem d_Mo_finish_0 : decode b_Mo_finish 0 = .ok (.iconst 3, 1) := by decide +kernel
theorem d_Mo_finish_1 : decode b_Mo_finish 1 = .ok (.iload_n 1, 1) := by decide +kernel
theorem d_Mo_finish_2 : decode b_Mo_finish 2 = .ok (.imul, 1) := by decide +kernel
theorem d_Mo_finish_3 : decode b_Mo_finish 3 = .ok (.iload_n 2, 1) := by decide +kernel
theorem d_Mo_finish_4 : decode b_Mo_finish 4 = .ok (.iadd, 1) := by decide +kernel
theorem d_Mo_finish_5 : decode b_Mo_finish 5 = .ok (.istore 4, 2) := by decide +kernel
theorem d_Mo_finish_7 : decode b_Mo_finish 7 = .ok (.aload_n 0, 1) := by decide +kernel
theorem d_Mo_finish_8 : decode b_Mo_finish 8 = .ok (.getfield 32, 3) := by decide +kernel
theorem d_Mo_finish_11 : decode b_Mo_finish 11 = .ok (.iload 4, 2) := by decide +kernel
theorem d_Mo_finish_13 : decode b_Mo_finish 13 = .ok (.iaload, 1) := by decide +kernel
theorem d_Mo_finish_14 : decode b_Mo_finish 14 = .ok (.istore 5, 2) := by decide +kernel
theorem d_Mo_finish_16 : decode b_Mo_finish 16 = .ok (.iload 5, 2) := by decide +kernel
theorem d_Mo_finish_18 : decode b_Mo_finish 18 = .ok (.iconst 2, 1) := by decide +kernel
theorem d_Mo_finish_19 : decode b_Mo_finish 19 = .ok (.if_icmp .ne 78, 3) := by decide +kernel
theorem d_Mo_finish_22 : decode b_Mo_finish 22 = .ok (.iload_n 3, 1) := by decide +kernel
theorem d_Mo_finish_23 : decode b_Mo_finish 23 = .ok (.iconst 1, 1) := by decide +kernel
theorem d_Mo_finish_24 : decode b_Mo_finish 24 = .ok (.if_icmp .ne 73, 3) := by decide +kernel
theorem d_Mo_finish_27 : decode b_Mo_finish 27 = .ok (.iconst 0, 1) := by decide +kernel
theorem d_Mo_finish_28 : decode b_Mo_finish 28 = .ok (.istore 6, 2) := by decide +kernel
theorem d_Mo_finish_30 : decode b_Mo_finish 30 = .ok (.iload 6, 2) := by decide +kernel
theorem d_Mo_finish_32 : decode b_Mo_finish 32 = .ok (.iconst 4, 1) := by decide +kernel
theorem d_Mo_finish_33 : decode b_Mo_finish 33 = .ok (.if_icmp .ge 47, 3) := by decide +kernel
theorem d_Mo_finish_36 : decode b_Mo_finish 36 = .ok (.aload_n 0, 1) := by decide +kernel
theorem d_Mo_finish_37 : decode b_Mo_finish 37 = .ok (.getfield 35, 3) := by decide +kernel
theorem d_Mo_finish_40 : decode b_Mo_finish 40 = .ok (.iload 4, 2) := by decide +kernel
theorem d_Mo_finish_42 : decode b_Mo_finish 42 = .ok (.iaload, 1) := by decide +kernel
theorem d_Mo_finish_43 : decode b_Mo_finish 43 = .ok (.iload 6, 2) := by decide +kernel
theorem d_Mo_finish_45 : decode b_Mo_finish 45 = .ok (.ishr, 1) := by decide +kernel
theorem d_Mo_finish_46 : decode b_Mo_finish 46 = .ok (.iconst 1, 1) := by decide +kernel
theorem d_Mo_finish_47 : decode b_Mo_finish 47 = .ok (.iand, 1) := by decide +kernel
theorem d_Mo_finish_48 : decode b_Mo_finish 48 = .ok (.ifCond .eq 26, 3) := by decide +kernel
theorem d_Mo_finish_51 : decode b_Mo_finish 51 = .ok (.aload_n 0, 1) := by decide +kernel
theorem d_Mo_finish_52 : decode b_Mo_finish 52 = .ok (.getfield 19, 3) := by decide +kernel
theorem d_Mo_finish_55 : decode b_Mo_finish 55 = .ok (.iconst 4, 1) := by decide +kernel
theorem d_Mo_finish_56 : decode b_Mo_finish 56 = .ok (.iload_n 2, 1) := by decide +kernel
theorem d_Mo_finish_57 : decode b_Mo_finish 57 = .ok (.imul, 1) := by decide +kernel
theorem d_Mo_finish_58 : decode b_Mo_finish 58 = .ok (.iload 6, 2) := by decide +kernel
theorem d_Mo_finish_60 : decode b_Mo_finish 60 = .ok (.iadd, 1) := by decide +kernel
theorem d_Mo_finish_61 : decode b_Mo_finish 61 = .ok (.aload_n 0, 1) := by decide +kernel
theorem d_Mo_finish_62 : decode b_Mo_finish 62 = .ok (.getfield 38, 3) := by decide +kernel
theorem d_Mo_finish_65 : decode b_Mo_finish 65 = .ok (.iconst 4, 1) := by decide +kernel
theorem d_Mo_finish_66 : decode b_Mo_finish 66 = .ok (.iload 4, 2) := by decide +kernel
theorem d_Mo_finish_68 : decode b_Mo_finish 68 = .ok (.imul, 1) := by decide +kernel
theorem d_Mo_finish_69 : decode b_Mo_finish 69 = .ok (.iload 6, 2) := by decide +kernel
theorem d_Mo_finish_71 : decode b_Mo_finish 71 = .ok (.iadd, 1) := by decide +kernel
theorem d_Mo_finish_72 : decode b_Mo_finish 72 = .ok (.iaload, 1) := by decide +kernel
theorem d_Mo_finish_73 : decode b_Mo_finish 73 = .ok (.iastore, 1) := by decide +kernel
theorem d_Mo_finish_74 : decode b_Mo_finish 74 = .ok (.iinc 6 1, 3) := by decide +kernel
theorem d_Mo_finish_77 : decode b_Mo_finish 77 = .ok (.goto (-47), 3) := by decide +kernel
theorem d_Mo_finish_80 : decode b_Mo_finish 80 = .ok (.aload_n 0, 1) := by decide +kernel
theorem d_Mo_finish_81 : decode b_Mo_finish 81 = .ok (.getfield 32, 3) := by decide +kernel
theorem d_Mo_finish_84 : decode b_Mo_finish 84 = .ok (.iload 4, 2) := by decide +kernel
theorem d_Mo_finish_86 : decode b_Mo_finish 86 = .ok (.iconst 3, 1) := by decide +kernel
theorem d_Mo_finish_87 : decode b_Mo_finish 87 = .ok (.iastore, 1) := by decide +kernel
theorem d_Mo_finish_88 : decode b_Mo_finish 88 = .ok (.aload_n 0, 1) := by decide +kernel
theorem d_Mo_finish_89 : decode b_Mo_finish 89 = .ok (.iload_n 1, 1) := by decide +kernel
theorem d_Mo_finish_90 : decode b_Mo_finish 90 = .ok (.iload_n 2, 1) := by decide +kernel
theorem d_Mo_finish_91 : decode b_Mo_finish 91 = .ok (.invokevirtual 98, 3) := by decide +kernel
theorem d_Mo_finish_94 : decode b_Mo_finish 94 = .ok (.goto 19, 3) := by decide +kernel
theorem d_Mo_finish_97 : decode b_Mo_finish 97 = .ok (.iload 5, 2) := by decide +kernel
theorem d_Mo_finish_99 : decode b_Mo_finish 99 = .ok (.iconst 2, 1) := by decide +kernel
theorem d_Mo_finish_100 : decode b_Mo_finish 100 = .ok (.if_icmp .gt 13, 3) := by decide +kernel
theorem d_Mo_finish_103 : decode b_Mo_finish 103 = .ok (.iload_n 3, 1) := by decide +kernel
theorem d_Mo_finish_104 : decode b_Mo_finish 104 = .ok (.ifCond .ne 9, 3) := by decide +kernel
theorem d_Mo_finish_107 : decode b_Mo_finish 107 = .ok (.aload_n 0, 1) := by decide +kernel
theorem d_Mo_finish_108 : decode b_Mo_finish 108 = .ok (.iload_n 1, 1) := by decide +kernel
theorem d_Mo_finish_109 : decode b_Mo_finish 109 = .ok (.iload_n 2, 1) := by decide +kernel
theorem d_Mo_finish_110 : decode b_Mo_finish 110 = .ok (.invokevirtual 119, 3) := by decide +kernel
theorem d_Mo_finish_113 : decode b_Mo_finish 113 = .ok (.return_, 1) := by decide +kernel
theorem d_Mo_forget_0 : decode b_Mo_forget 0 = .ok (.iconst 0, 1) := by decide +kernel
theorem d_Mo_forget_1 : decode b_Mo_forget 1 = .ok (.istore_n 2, 1) := by decide +kernel
theorem d_Mo_forget_2 : decode b_Mo_forget 2 = .ok (.iload_n 2, 1) := by decide +kernel
theorem d_Mo_forget_3 : decode b_Mo_forget 3 = .ok (.bipush 8, 2) := by decide +kernel
theorem d_Mo_forget_5 : decode b_Mo_forget 5 = .ok (.if_icmp .ge 33, 3) := by decide +kernel
theorem d_Mo_forget_8 : decode b_Mo_forget 8 = .ok (.aload_n 0, 1) := by decide +kernel
theorem d_Mo_forget_9 : decode b_Mo_forget 9 = .ok (.getfield 53, 3) := by decide +kernel
theorem d_Mo_forget_12 : decode b_Mo_forget 12 = .ok (.bipush 8, 2) := by decide +kernel
theorem d_Mo_forget_14 : decode b_Mo_forget 14 = .ok (.iload_n 1, 1) := by decide +kernel
theorem d_Mo_forget_15 : decode b_Mo_forget 15 = .ok (.imul, 1) := by decide +kernel
theorem d_Mo_forget_16 : decode b_Mo_forget 16 = .ok (.iload_n 2, 1) := by decide +kernel
theorem d_Mo_forget_17 : decode b_Mo_forget 17 = .ok (.iadd, 1) := by decide +kernel
theorem d_Mo_forget_18 : decode b_Mo_forget 18 = .ok (.iconst 1, 1) := by decide +kernel
theorem d_Mo_forget_19 : decode b_Mo_forget 19 = .ok (.bastore, 1) := by decide +kernel
theorem d_Mo_forget_20 : decode b_Mo_forget 20 = .ok (.aload_n 0, 1) := by decide +kernel
theorem d_Mo_forget_21 : decode b_Mo_forget 21 = .ok (.getfield 56, 3) := by decide +kernel
theorem d_Mo_forget_24 : decode b_Mo_forget 24 = .ok (.bipush 8, 2) := by decide +kernel
theorem d_Mo_forget_26 : decode b_Mo_forget 26 = .ok (.iload_n 1, 1) := by decide +kernel
theorem d_Mo_forget_27 : decode b_Mo_forget 27 = .ok (.imul, 1) := by decide +kernel
theorem d_Mo_forget_28 : decode b_Mo_forget 28 = .ok (.iload_n 2, 1) := by decide +kernel
theorem d_Mo_forget_29 : decode b_Mo_forget 29 = .ok (.iadd, 1) := by decide +kernel
theorem d_Mo_forget_30 : decode b_Mo_forget 30 = .ok (.iconst (-1), 1) := by decide +kernel
theorem d_Mo_forget_31 : decode b_Mo_forget 31 = .ok (.iastore, 1) := by decide +kernel
theorem d_Mo_forget_32 : decode b_Mo_forget 32 = .ok (.iinc 2 1, 3) := by decide +kernel
theorem d_Mo_forget_35 : decode b_Mo_forget 35 = .ok (.goto (-33), 3) := by decide +kernel
theorem d_Mo_forget_38 : decode b_Mo_forget 38 = .ok (.bipush 24, 2) := by decide +kernel
theorem d_Mo_forget_40 : decode b_Mo_forget 40 = .ok (.iload_n 1, 1) := by decide +kernel
theorem d_Mo_forget_41 : decode b_Mo_forget 41 = .ok (.imul, 1) := by decide +kernel
theorem d_Mo_forget_42 : decode b_Mo_forget 42 = .ok (.istore_n 2, 1) := by decide +kernel
theorem d_Mo_forget_43 : decode b_Mo_forget 43 = .ok (.iload_n 2, 1) := by decide +kernel
theorem d_Mo_forget_44 : decode b_Mo_forget 44 = .ok (.bipush 24, 2) := by decide +kernel
theorem d_Mo_forget_46 : decode b_Mo_forget 46 = .ok (.iload_n 1, 1) := by decide +kernel
theorem d_Mo_forget_47 : decode b_Mo_forget 47 = .ok (.imul, 1) := by decide +kernel
theorem d_Mo_forget_48 : decode b_Mo_forget 48 = .ok (.bipush 24, 2) := by decide +kernel
theorem d_Mo_forget_50 : decode b_Mo_forget 50 = .ok (.iadd, 1) := by decide +kernel
theorem d_Mo_forget_51 : decode b_Mo_forget 51 = .ok (.if_icmp .ge 16, 3) := by decide +kernel
theorem d_Mo_forget_54 : decode b_Mo_forget 54 = .ok (.aload_n 0, 1) := by decide +kernel
theorem d_Mo_forget_55 : decode b_Mo_forget 55 = .ok (.getfield 59, 3) := by decide +kernel
theorem d_Mo_forget_58 : decode b_Mo_forget 58 = .ok (.iload_n 2, 1) := by decide +kernel
theorem d_Mo_forget_59 : decode b_Mo_forget 59 = .ok (.iconst 0, 1) := by decide +kernel
theorem d_Mo_forget_60 : decode b_Mo_forget 60 = .ok (.bastore, 1) := by decide +kernel
theorem d_Mo_forget_61 : decode b_Mo_forget 61 = .ok (.iinc 2 1, 3) := by decide +kernel
theorem d_Mo_forget_64 : decode b_Mo_forget 64 = .ok (.goto (-21), 3) := by decide +kernel
theorem d_Mo_forget_67 : decode b_Mo_forget 67 = .ok (.bipush 72, 2) := by decide +kernel
theorem d_Mo_forget_69 : decode b_Mo_forget 69 = .ok (.iload_n 1, 1) := by decide +kernel
theorem d_Mo_forget_70 : decode b_Mo_forget 70 = .ok (.imul, 1) := by decide +kernel
theorem d_Mo_forget_71 : decode b_Mo_forget 71 = .ok (.istore_n 2, 1) := by decide +kernel
theorem d_Mo_forget_72 : decode b_Mo_forget 72 = .ok (.iload_n 2, 1) := by decide +kernel
theorem d_Mo_forget_73 : decode b_Mo_forget 73 = .ok (.bipush 72, 2) := by decide +kernel
theorem d_Mo_forget_75 : decode b_Mo_forget 75 = .ok (.iload_n 1, 1) := by decide +kernel
theorem d_Mo_forget_76 : decode b_Mo_forget 76 = .ok (.imul, 1) := by decide +kernel
theorem d_Mo_forget_77 : decode b_Mo_forget 77 = .ok (.bipush 72, 2) := by decide +kernel
theorem d_Mo_forget_79 : decode b_Mo_forget 79 = .ok (.iadd, 1) := by decide +kernel
theorem d_Mo_forget_80 : decode b_Mo_forget 80 = .ok (.if_icmp .ge 16, 3) := by decide +kernel
theorem d_Mo_forget_83 : decode b_Mo_forget 83 = .ok (.aload_n 0, 1) := by decide +kernel
theorem d_Mo_forget_84 : decode b_Mo_forget 84 = .ok (.getfield 68, 3) := by decide +kernel
theorem d_Mo_forget_87 : decode b_Mo_forget 87 = .ok (.iload_n 2, 1) := by decide +kernel
theorem d_Mo_forget_88 : decode b_Mo_forget 88 = .ok (.iconst (-1), 1) := by decide +kernel
theorem d_Mo_forget_89 : decode b_Mo_forget 89 = .ok (.iastore, 1) := by decide +kernel
theorem d_Mo_forget_90 : decode b_Mo_forget 90 = .ok (.iinc 2 1, 3) := by decide +kernel
theorem d_Mo_forget_93 : decode b_Mo_forget 93 = .ok (.goto (-21), 3) := by decide +kernel
theorem d_Mo_forget_96 : decode b_Mo_forget 96 = .ok (.return_, 1) := by decide +kernel
theorem d_Mo_init_0 : decode b_Mo_init 0 = .ok (.aload_n 0, 1) := by decide +kernel
theorem d_Mo_init_1 : decode b_Mo_init 1 = .ok (.invokespecial 1, 3) := by decide +kernel
theorem d_Mo_init_4 : decode b_Mo_init 4 = .ok (.aload_n 0, 1) := by decide +kernel
theorem d_Mo_init_5 : decode b_Mo_init 5 = .ok (.iconst 3, 1) := by decide +kernel
theorem d_Mo_init_6 : decode b_Mo_init 6 = .ok (.newarray .boolean, 2) := by decide +kernel
theorem d_Mo_init_8 : decode b_Mo_init 8 = .ok (.putfield 7, 3) := by decide +kernel
theorem d_Mo_init_11 : decode b_Mo_init 11 = .ok (.aload_n 0, 1) := by decide +kernel
theorem d_Mo_init_12 : decode b_Mo_init 12 = .ok (.iconst 3, 1) := by decide +kernel
theorem d_Mo_init_13 : decode b_Mo_init 13 = .ok (.newarray .boolean, 2) := by decide +kernel
theorem d_Mo_init_15 : decode b_Mo_init 15 = .ok (.putfield 13, 3) := by decide +kernel
theorem d_Mo_init_18 : decode b_Mo_init 18 = .ok (.aload_n 0, 1) := by decide +kernel
theorem d_Mo_init_19 : decode b_Mo_init 19 = .ok (.iconst 2, 1) := by decide +kernel
theorem d_Mo_init_20 : decode b_Mo_init 20 = .ok (.newarray .boolean, 2) := by decide +kernel
theorem d_Mo_init_22 : decode b_Mo_init 22 = .ok (.putfield 16, 3) := by decide +kernel
theorem d_Mo_init_25 : decode b_Mo_init 25 = .ok (.aload_n 0, 1) := by decide +kernel
theorem d_Mo_init_26 : decode b_Mo_init 26 = .ok (.bipush 12, 2) := by decide +kernel
theorem d_Mo_init_28 : decode b_Mo_init 28 = .ok (.newarray .int, 2) := by decide +kernel
theorem d_Mo_init_30 : decode b_Mo_init 30 = .ok (.putfield 19, 3) := by decide +kernel
theorem d_Mo_init_33 : decode b_Mo_init 33 = .ok (.aload_n 0, 1) := by decide +kernel
theorem d_Mo_init_34 : decode b_Mo_init 34 = .ok (.bipush 12, 2) := by decide +kernel
theorem d_Mo_init_36 : decode b_Mo_init 36 = .ok (.newarray .int, 2) := by decide +kernel
theorem d_Mo_init_38 : decode b_Mo_init 38 = .ok (.putfield 23, 3) := by decide +kernel
theorem d_Mo_init_41 : decode b_Mo_init 41 = .ok (.aload_n 0, 1) := by decide +kernel
theorem d_Mo_init_42 : decode b_Mo_init 42 = .ok (.bipush 8, 2) := by decide +kernel
theorem d_Mo_init_44 : decode b_Mo_init 44 = .ok (.newarray .int, 2) := by decide +kernel
theorem d_Mo_init_46 : decode b_Mo_init 46 = .ok (.putfield 26, 3) := by decide +kernel
theorem d_Mo_init_49 : decode b_Mo_init 49 = .ok (.aload_n 0, 1) := by decide +kernel
theorem d_Mo_init_50 : decode b_Mo_init 50 = .ok (.bipush 8, 2) := by decide +kernel
theorem d_Mo_init_52 : decode b_Mo_init 52 = .ok (.newarray .boolean, 2) := by decide +kernel
theorem d_Mo_init_54 : decode b_Mo_init 54 = .ok (.putfield 29, 3) := by decide +kernel
theorem d_Mo_init_57 : decode b_Mo_init 57 = .ok (.aload_n 0, 1) := by decide +kernel
theorem d_Mo_init_58 : decode b_Mo_init 58 = .ok (.bipush 24, 2) := by decide +kernel
theorem d_Mo_init_60 : decode b_Mo_init 60 = .ok (.newarray .int, 2) := by decide +kernel
theorem d_Mo_init_62 : decode b_Mo_init 62 = .ok (.putfield 32, 3) := by decide +kernel
theorem d_Mo_init_65 : decode b_Mo_init 65 = .ok (.aload_n 0, 1) := by decide +kernel
theorem d_Mo_init_66 : decode b_Mo_init 66 = .ok (.bipush 24, 2) := by decide +kernel
theorem d_Mo_init_68 : decode b_Mo_init 68 = .ok (.newarray .int, 2) := by decide +kernel
theorem d_Mo_init_70 : decode b_Mo_init 70 = .ok (.putfield 35, 3) := by decide +kernel
theorem d_Mo_init_73 : decode b_Mo_init 73 = .ok (.aload_n 0, 1) := by decide +kernel
theorem d_Mo_init_74 : decode b_Mo_init 74 = .ok (.bipush 96, 2) := by decide +kernel
theorem d_Mo_init_76 : decode b_Mo_init 76 = .ok (.newarray .int, 2) := by decide +kernel
theorem d_Mo_init_78 : decode b_Mo_init 78 = .ok (.putfield 38, 3) := by decide +kernel
theorem d_Mo_init_81 : decode b_Mo_init 81 = .ok (.aload_n 0, 1) := by decide +kernel
theorem d_Mo_init_82 : decode b_Mo_init 82 = .ok (.bipush 72, 2) := by decide +kernel
theorem d_Mo_init_84 : decode b_Mo_init 84 = .ok (.newarray .int, 2) := by decide +kernel
theorem d_Mo_init_86 : decode b_Mo_init 86 = .ok (.putfield 41, 3) := by decide +kernel
theorem d_Mo_init_89 : decode b_Mo_init 89 = .ok (.aload_n 0, 1) := by decide +kernel
theorem d_Mo_init_90 : decode b_Mo_init 90 = .ok (.bipush 72, 2) := by decide +kernel
theorem d_Mo_init_92 : decode b_Mo_init 92 = .ok (.newarray .int, 2) := by decide +kernel
theorem d_Mo_init_94 : decode b_Mo_init 94 = .ok (.putfield 44, 3) := by decide +kernel
theorem d_Mo_init_97 : decode b_Mo_init 97 = .ok (.aload_n 0, 1) := by decide +kernel
theorem d_Mo_init_98 : decode b_Mo_init 98 = .ok (.bipush 72, 2) := by decide +kernel
theorem d_Mo_init_100 : decode b_Mo_init 100 = .ok (.newarray .int, 2) := by decide +kernel
theorem d_Mo_init_102 : decode b_Mo_init 102 = .ok (.putfield 47, 3) := by decide +kernel
theorem d_Mo_init_105 : decode b_Mo_init 105 = .ok (.aload_n 0, 1) := by decide +kernel
theorem d_Mo_init_106 : decode b_Mo_init 106 = .ok (.bipush 16, 2) := by decide +kernel
theorem d_Mo_init_108 : decode b_Mo_init 108 = .ok (.newarray .int, 2) := by decide +kernel
theorem d_Mo_init_110 : decode b_Mo_init 110 = .ok (.putfield 50, 3) := by decide +kernel
theorem d_Mo_init_113 : decode b_Mo_init 113 = .ok (.aload_n 0, 1) := by decide +kernel
theorem d_Mo_init_114 : decode b_Mo_init 114 = .ok (.bipush 16, 2) := by decide +kernel
theorem d_Mo_init_116 : decode b_Mo_init 116 = .ok (.newarray .boolean, 2) := by decide +kernel
theorem d_Mo_init_118 : decode b_Mo_init 118 = .ok (.putfield 53, 3) := by decide +kernel
theorem d_Mo_init_121 : decode b_Mo_init 121 = .ok (.aload_n 0, 1) := by decide +kernel
theorem d_Mo_init_122 : decode b_Mo_init 122 = .ok (.bipush 16, 2) := by decide +kernel
theorem d_Mo_init_124 : decode b_Mo_init 124 = .ok (.newarray .int, 2) := by decide +kernel
theorem d_Mo_init_126 : decode b_Mo_init 126 = .ok (.putfield 56, 3) := by decide +kernel
theorem d_Mo_init_129 : decode b_Mo_init 129 = .ok (.aload_n 0, 1) := by decide +kernel
theorem d_Mo_init_130 : decode b_Mo_init 130 = .ok (.bipush 48, 2) := by decide +kernel
theorem d_Mo_init_132 : decode b_Mo_init 132 = .ok (.newarray .boolean, 2) := by decide +kernel
theorem d_Mo_init_134 : decode b_Mo_init 134 = .ok (.putfield 59, 3) := by decide +kernel
theorem d_Mo_init_137 : decode b_Mo_init 137 = .ok (.aload_n 0, 1) := by decide +kernel
theorem d_Mo_init_138 : decode b_Mo_init 138 = .ok (.sipush 144, 3) := by decide +kernel
theorem d_Mo_init_141 : decode b_Mo_init 141 = .ok (.newarray .int, 2) := by decide +kernel
theorem d_Mo_init_143 : decode b_Mo_init 143 = .ok (.putfield 62, 3) := by decide +kernel
theorem d_Mo_init_146 : decode b_Mo_init 146 = .ok (.aload_n 0, 1) := by decide +kernel
theorem d_Mo_init_147 : decode b_Mo_init 147 = .ok (.sipush 144, 3) := by decide +kernel
theorem d_Mo_init_150 : decode b_Mo_init 150 = .ok (.newarray .int, 2) := by decide +kernel
theorem d_Mo_init_152 : decode b_Mo_init 152 = .ok (.putfield 65, 3) := by decide +kernel
theorem d_Mo_init_155 : decode b_Mo_init 155 = .ok (.aload_n 0, 1) := by decide +kernel
theorem d_Mo_init_156 : decode b_Mo_init 156 = .ok (.sipush 144, 3) := by decide +kernel
theorem d_Mo_init_159 : decode b_Mo_init 159 = .ok (.newarray .int, 2) := by decide +kernel
theorem d_Mo_init_161 : decode b_Mo_init 161 = .ok (.putfield 68, 3) := by decide +kernel
theorem d_Mo_init_164 : decode b_Mo_init 164 = .ok (.aload_n 0, 1) := by decide +kernel
theorem d_Mo_init_165 : decode b_Mo_init 165 = .ok (.sipush 144, 3) := by decide +kernel
theorem d_Mo_init_168 : decode b_Mo_init 168 = .ok (.newarray .int, 2) := by decide +kernel
theorem d_Mo_init_170 : decode b_Mo_init 170 = .ok (.putfield 71, 3) := by decide +kernel
theorem d_Mo_init_173 : decode b_Mo_init 173 = .ok (.aload_n 0, 1) := by decide +kernel
theorem d_Mo_init_174 : decode b_Mo_init 174 = .ok (.sipush 793, 3) := by decide +kernel
theorem d_Mo_init_177 : decode b_Mo_init 177 = .ok (.newarray .int, 2) := by decide +kernel
theorem d_Mo_init_179 : decode b_Mo_init 179 = .ok (.putfield 74, 3) := by decide +kernel
theorem d_Mo_init_182 : decode b_Mo_init 182 = .ok (.aload_n 0, 1) := by decide +kernel
theorem d_Mo_init_183 : decode b_Mo_init 183 = .ok (.iload_n 1, 1) := by decide +kernel
theorem d_Mo_init_184 : decode b_Mo_init 184 = .ok (.ifCond .ne 7, 3) := by decide +kernel
theorem d_Mo_init_187 : decode b_Mo_init 187 = .ok (.iconst 1, 1) := by decide +kernel
theorem d_Mo_init_188 : decode b_Mo_init 188 = .ok (.goto 4, 3) := by decide +kernel
theorem d_Mo_init_191 : decode b_Mo_init 191 = .ok (.iconst 3, 1) := by decide +kernel
theorem d_Mo_init_192 : decode b_Mo_init 192 = .ok (.putfield 77, 3) := by decide +kernel
theorem d_Mo_init_195 : decode b_Mo_init 195 = .ok (.iconst 0, 1) := by decide +kernel
theorem d_Mo_init_196 : decode b_Mo_init 196 = .ok (.istore_n 2, 1) := by decide +kernel
theorem d_Mo_init_197 : decode b_Mo_init 197 = .ok (.iload_n 2, 1) := by decide +kernel
theorem d_Mo_init_198 : decode b_Mo_init 198 = .ok (.bipush 12, 2) := by decide +kernel
theorem d_Mo_init_200 : decode b_Mo_init 200 = .ok (.if_icmp .ge 16, 3) := by decide +kernel
theorem d_Mo_init_203 : decode b_Mo_init 203 = .ok (.aload_n 0, 1) := by decide +kernel
theorem d_Mo_init_204 : decode b_Mo_init 204 = .ok (.getfield 23, 3) := by decide +kernel
theorem d_Mo_init_207 : decode b_Mo_init 207 = .ok (.iload_n 2, 1) := by decide +kernel
theorem d_Mo_init_208 : decode b_Mo_init 208 = .ok (.iconst (-1), 1) := by decide +kernel
theorem d_Mo_init_209 : decode b_Mo_init 209 = .ok (.iastore, 1) := by decide +kernel
theorem d_Mo_init_210 : decode b_Mo_init 210 = .ok (.iinc 2 1, 3) := by decide +kernel
theorem d_Mo_init_213 : decode b_Mo_init 213 = .ok (.goto (-16), 3) := by decide +kernel
theorem d_Mo_init_216 : decode b_Mo_init 216 = .ok (.iconst 0, 1) := by decide +kernel
theorem d_Mo_init_217 : decode b_Mo_init 217 = .ok (.istore_n 2, 1) := by decide +kernel
theorem d_Mo_init_218 : decode b_Mo_init 218 = .ok (.iload_n 2, 1) := by decide +kernel
theorem d_Mo_init_219 : decode b_Mo_init 219 = .ok (.bipush 72, 2) := by decide +kernel
theorem d_Mo_init_221 : decode b_Mo_init 221 = .ok (.if_icmp .ge 16, 3) := by decide +kernel
theorem d_Mo_init_224 : decode b_Mo_init 224 = .ok (.aload_n 0, 1) := by decide +kernel
theorem d_Mo_init_225 : decode b_Mo_init 225 = .ok (.getfield 44, 3) := by decide +kernel
theorem d_Mo_init_228 : decode b_Mo_init 228 = .ok (.iload_n 2, 1) := by decide +kernel
theorem d_Mo_init_229 : decode b_Mo_init 229 = .ok (.iconst (-1), 1) := by decide +kernel
theorem d_Mo_init_230 : decode b_Mo_init 230 = .ok (.iastore, 1) := by decide +kernel
theorem d_Mo_init_231 : decode b_Mo_init 231 = .ok (.iinc 2 1, 3) := by decide +kernel
theorem d_Mo_init_234 : decode b_Mo_init 234 = .ok (.goto (-16), 3) := by decide +kernel
theorem d_Mo_init_237 : decode b_Mo_init 237 = .ok (.iconst 0, 1) := by decide +kernel
theorem d_Mo_init_238 : decode b_Mo_init 238 = .ok (.istore_n 2, 1) := by decide +kernel
theorem d_Mo_init_239 : decode b_Mo_init 239 = .ok (.iload_n 2, 1) := by decide +kernel
theorem d_Mo_init_240 : decode b_Mo_init 240 = .ok (.iconst 2, 1) := by decide +kernel
theorem d_Mo_init_241 : decode b_Mo_init 241 = .ok (.if_icmp .ge 14, 3) := by decide +kernel
theorem d_Mo_init_244 : decode b_Mo_init 244 = .ok (.aload_n 0, 1) := by decide +kernel
theorem d_Mo_init_245 : decode b_Mo_init 245 = .ok (.iload_n 2, 1) := by decide +kernel
theorem d_Mo_init_246 : decode b_Mo_init 246 = .ok (.invokevirtual 81, 3) := by decide +kernel
theorem d_Mo_init_249 : decode b_Mo_init 249 = .ok (.iinc 2 1, 3) := by decide +kernel
theorem d_Mo_init_252 : decode b_Mo_init 252 = .ok (.goto (-13), 3) := by decide +kernel
theorem d_Mo_init_255 : decode b_Mo_init 255 = .ok (.return_, 1) := by decide +kernel
theorem d_Mo_lock_0 : decode b_Mo_lock 0 = .ok (.aload_n 0, 1) := by decide +kernel
theorem d_Mo_lock_1 : decode b_Mo_lock 1 = .ok (.iconst 0, 1) := by decide +kernel
theorem d_Mo_lock_2 : decode b_Mo_lock 2 = .ok (.putfield 85, 3) := by decide +kernel
theorem d_Mo_lock_5 : decode b_Mo_lock 5 = .ok (.aload_n 0, 1) := by decide +kernel
theorem d_Mo_lock_6 : decode b_Mo_lock 6 = .ok (.iload_n 1, 1) := by decide +kernel
theorem d_Mo_lock_7 : decode b_Mo_lock 7 = .ok (.iconst 3, 1) := by decide +kernel
theorem d_Mo_lock_8 : decode b_Mo_lock 8 = .ok (.invokevirtual 109, 3) := by decide +kernel
theorem d_Mo_lock_11 : decode b_Mo_lock 11 = .ok (.ifCond .ne 12, 3) := by decide +kernel
theorem d_Mo_lock_14 : decode b_Mo_lock 14 = .ok (.aload_n 0, 1) := by decide +kernel
theorem d_Mo_lock_15 : decode b_Mo_lock 15 = .ok (.iload_n 2, 1) := by decide +kernel
theorem d_Mo_lock_16 : decode b_Mo_lock 16 = .ok (.iconst 4, 1) := by decide +kernel
theorem d_Mo_lock_17 : decode b_Mo_lock 17 = .ok (.invokevirtual 109, 3) := by decide +kernel
theorem d_Mo_lock_20 : decode b_Mo_lock 20 = .ok (.ifCond .eq 11, 3) := by decide +kernel
theorem d_Mo_lock_23 : decode b_Mo_lock 23 = .ok (.aload_n 0, 1) := by decide +kernel
theorem d_Mo_lock_24 : decode b_Mo_lock 24 = .ok (.iconst 1, 1) := by decide +kernel
theorem d_Mo_lock_25 : decode b_Mo_lock 25 = .ok (.invokevirtual 105, 3) := by decide +kernel
theorem d_Mo_lock_28 : decode b_Mo_lock 28 = .ok (.goto 13, 3) := by decide +kernel
theorem d_Mo_lock_31 : decode b_Mo_lock 31 = .ok (.aload_n 0, 1) := by decide +kernel
theorem d_Mo_lock_32 : decode b_Mo_lock 32 = .ok (.getfield 23, 3) := by decide +kernel
theorem d_Mo_lock_35 : decode b_Mo_lock 35 = .ok (.iconst 4, 1) := by decide +kernel
theorem d_Mo_lock_36 : decode b_Mo_lock 36 = .ok (.iload_n 1, 1) := by decide +kernel
theorem d_Mo_lock_37 : decode b_Mo_lock 37 = .ok (.imul, 1) := by decide +kernel
theorem d_Mo_lock_38 : decode b_Mo_lock 38 = .ok (.iload_n 2, 1) := by decide +kernel
theorem d_Mo_lock_39 : decode b_Mo_lock 39 = .ok (.iadd, 1) := by decide +kernel
theorem d_Mo_lock_40 : decode b_Mo_lock 40 = .ok (.iaload, 1) := by decide +kernel
theorem d_Mo_lock_41 : decode b_Mo_lock 41 = .ok (.ireturn, 1) := by decide +kernel
theorem d_Mo_lose_0 : decode b_Mo_lose 0 = .ok (.aload_n 0, 1) := by decide +kernel
theorem d_Mo_lose_1 : decode b_Mo_lose 1 = .ok (.iconst 0, 1) := by decide +kernel
theorem d_Mo_lose_2 : decode b_Mo_lose 2 = .ok (.putfield 85, 3) := by decide +kernel
theorem d_Mo_lose_5 : decode b_Mo_lose 5 = .ok (.aload_n 0, 1) := by decide +kernel
theorem d_Mo_lose_6 : decode b_Mo_lose 6 = .ok (.iload_n 1, 1) := by decide +kernel
theorem d_Mo_lose_7 : decode b_Mo_lose 7 = .ok (.aload_n 0, 1) := by decide +kernel
theorem d_Mo_lose_8 : decode b_Mo_lose 8 = .ok (.getfield 88, 3) := by decide +kernel
theorem d_Mo_lose_11 : decode b_Mo_lose 11 = .ok (.invokevirtual 109, 3) := by decide +kernel
theorem d_Mo_lose_14 : decode b_Mo_lose 14 = .ok (.ifCond .eq 9, 3) := by decide +kernel
theorem d_Mo_lose_17 : decode b_Mo_lose 17 = .ok (.aload_n 0, 1) := by decide +kernel
theorem d_Mo_lose_18 : decode b_Mo_lose 18 = .ok (.iconst 1, 1) := by decide +kernel
theorem d_Mo_lose_19 : decode b_Mo_lose 19 = .ok (.invokevirtual 105, 3) := by decide +kernel
theorem d_Mo_lose_22 : decode b_Mo_lose 22 = .ok (.ireturn, 1) := by decide +kernel
theorem d_Mo_lose_23 : decode b_Mo_lose 23 = .ok (.aload_n 0, 1) := by decide +kernel
theorem d_Mo_lose_24 : decode b_Mo_lose 24 = .ok (.iload_n 1, 1) := by decide +kernel
theorem d_Mo_lose_25 : decode b_Mo_lose 25 = .ok (.iconst 0, 1) := by decide +kernel
theorem d_Mo_lose_26 : decode b_Mo_lose 26 = .ok (.invokevirtual 158, 3) := by decide +kernel
theorem d_Mo_lose_29 : decode b_Mo_lose 29 = .ok (.aload_n 0, 1) := by decide +kernel
theorem d_Mo_lose_30 : decode b_Mo_lose 30 = .ok (.getfield 88, 3) := by decide +kernel
theorem d_Mo_lose_33 : decode b_Mo_lose 33 = .ok (.ireturn, 1) := by decide +kernel
theorem d_Mo_member_0 : decode b_Mo_member 0 = .ok (.aload_n 0, 1) := by decide +kernel
theorem d_Mo_member_1 : decode b_Mo_member 1 = .ok (.getfield 26, 3) := by decide +kernel
theorem d_Mo_member_4 : decode b_Mo_member 4 = .ok (.iload_n 1, 1) := by decide +kernel
theorem d_Mo_member_5 : decode b_Mo_member 5 = .ok (.iaload, 1) := by decide +kernel
theorem d_Mo_member_6 : decode b_Mo_member 6 = .ok (.iload_n 2, 1) := by decide +kernel
theorem d_Mo_member_7 : decode b_Mo_member 7 = .ok (.ishr, 1) := by decide +kernel
theorem d_Mo_member_8 : decode b_Mo_member 8 = .ok (.iconst 1, 1) := by decide +kernel
theorem d_Mo_member_9 : decode b_Mo_member 9 = .ok (.iand, 1) := by decide +kernel
theorem d_Mo_member_10 : decode b_Mo_member 10 = .ok (.ifCond .eq 7, 3) := by decide +kernel
theorem d_Mo_member_13 : decode b_Mo_member 13 = .ok (.iconst 1, 1) := by decide +kernel
theorem d_Mo_member_14 : decode b_Mo_member 14 = .ok (.goto 4, 3) := by decide +kernel
theorem d_Mo_member_17 : decode b_Mo_member 17 = .ok (.iconst 0, 1) := by decide +kernel
theorem d_Mo_member_18 : decode b_Mo_member 18 = .ok (.ireturn, 1) := by decide +kernel
theorem d_Mo_most_0 : decode b_Mo_most 0 = .ok (.aload_n 0, 1) := by decide +kernel
theorem d_Mo_most_1 : decode b_Mo_most 1 = .ok (.getfield 77, 3) := by decide +kernel
theorem d_Mo_most_4 : decode b_Mo_most 4 = .ok (.iconst 1, 1) := by decide +kernel
theorem d_Mo_most_5 : decode b_Mo_most 5 = .ok (.if_icmp .ne 7, 3) := by decide +kernel
theorem d_Mo_most_8 : decode b_Mo_most 8 = .ok (.iconst 1, 1) := by decide +kernel
theorem d_Mo_most_9 : decode b_Mo_most 9 = .ok (.goto 4, 3) := by decide +kernel
theorem d_Mo_most_12 : decode b_Mo_most 12 = .ok (.iconst 2, 1) := by decide +kernel
theorem d_Mo_most_13 : decode b_Mo_most 13 = .ok (.ireturn, 1) := by decide +kernel
theorem d_Mo_ones_0 : decode b_Mo_ones 0 = .ok (.iconst 0, 1) := by decide +kernel
theorem d_Mo_ones_1 : decode b_Mo_ones 1 = .ok (.istore_n 2, 1) := by decide +kernel
theorem d_Mo_ones_2 : decode b_Mo_ones 2 = .ok (.iconst 0, 1) := by decide +kernel
theorem d_Mo_ones_3 : decode b_Mo_ones 3 = .ok (.istore_n 3, 1) := by decide +kernel
theorem d_Mo_ones_4 : decode b_Mo_ones 4 = .ok (.iload_n 3, 1) := by decide +kernel
theorem d_Mo_ones_5 : decode b_Mo_ones 5 = .ok (.iconst 4, 1) := by decide +kernel
theorem d_Mo_ones_6 : decode b_Mo_ones 6 = .ok (.if_icmp .ge 17, 3) := by decide +kernel
theorem d_Mo_ones_9 : decode b_Mo_ones 9 = .ok (.iload_n 2, 1) := by decide +kernel
theorem d_Mo_ones_10 : decode b_Mo_ones 10 = .ok (.iload_n 1, 1) := by decide +kernel
theorem d_Mo_ones_11 : decode b_Mo_ones 11 = .ok (.iload_n 3, 1) := by decide +kernel
theorem d_Mo_ones_12 : decode b_Mo_ones 12 = .ok (.ishr, 1) := by decide +kernel
theorem d_Mo_ones_13 : decode b_Mo_ones 13 = .ok (.iconst 1, 1) := by decide +kernel
theorem d_Mo_ones_14 : decode b_Mo_ones 14 = .ok (.iand, 1) := by decide +kernel
theorem d_Mo_ones_15 : decode b_Mo_ones 15 = .ok (.iadd, 1) := by decide +kernel
theorem d_Mo_ones_16 : decode b_Mo_ones 16 = .ok (.istore_n 2, 1) := by decide +kernel
theorem d_Mo_ones_17 : decode b_Mo_ones 17 = .ok (.iinc 3 1, 3) := by decide +kernel
theorem d_Mo_ones_20 : decode b_Mo_ones 20 = .ok (.goto (-16), 3) := by decide +kernel
theorem d_Mo_ones_23 : decode b_Mo_ones 23 = .ok (.iload_n 2, 1) := by decide +kernel
theorem d_Mo_ones_24 : decode b_Mo_ones 24 = .ok (.ireturn, 1) := by decide +kernel
theorem d_Mo_out_0 : decode b_Mo_out 0 = .ok (.iload_n 1, 1) := by decide +kernel
theorem d_Mo_out_1 : decode b_Mo_out 1 = .ok (.ifCond .lt 8, 3) := by decide +kernel
theorem d_Mo_out_4 : decode b_Mo_out 4 = .ok (.iload_n 1, 1) := by decide +kernel
theorem d_Mo_out_5 : decode b_Mo_out 5 = .ok (.iload_n 2, 1) := by decide +kernel
theorem d_Mo_out_6 : decode b_Mo_out 6 = .ok (.if_icmp .lt 7, 3) := by decide +kernel
theorem d_Mo_out_9 : decode b_Mo_out 9 = .ok (.iconst 1, 1) := by decide +kernel
theorem d_Mo_out_10 : decode b_Mo_out 10 = .ok (.goto 4, 3) := by decide +kernel
theorem d_Mo_out_13 : decode b_Mo_out 13 = .ok (.iconst 0, 1) := by decide +kernel
theorem d_Mo_out_14 : decode b_Mo_out 14 = .ok (.ireturn, 1) := by decide +kernel
theorem d_Mo_outcome_0 : decode b_Mo_outcome 0 = .ok (.aload_n 0, 1) := by decide +kernel
theorem d_Mo_outcome_1 : decode b_Mo_outcome 1 = .ok (.iconst 0, 1) := by decide +kernel
theorem d_Mo_outcome_2 : decode b_Mo_outcome 2 = .ok (.putfield 85, 3) := by decide +kernel
theorem d_Mo_outcome_5 : decode b_Mo_outcome 5 = .ok (.aload_n 0, 1) := by decide +kernel
theorem d_Mo_outcome_6 : decode b_Mo_outcome 6 = .ok (.iload_n 1, 1) := by decide +kernel
theorem d_Mo_outcome_7 : decode b_Mo_outcome 7 = .ok (.iconst 2, 1) := by decide +kernel
theorem d_Mo_outcome_8 : decode b_Mo_outcome 8 = .ok (.invokevirtual 109, 3) := by decide +kernel
theorem d_Mo_outcome_11 : decode b_Mo_outcome 11 = .ok (.ifCond .ne 13, 3) := by decide +kernel
theorem d_Mo_outcome_14 : decode b_Mo_outcome 14 = .ok (.aload_n 0, 1) := by decide +kernel
theorem d_Mo_outcome_15 : decode b_Mo_outcome 15 = .ok (.iload_n 2, 1) := by decide +kernel
theorem d_Mo_outcome_16 : decode b_Mo_outcome 16 = .ok (.bipush 8, 2) := by decide +kernel
theorem d_Mo_outcome_18 : decode b_Mo_outcome 18 = .ok (.invokevirtual 109, 3) := by decide +kernel
theorem d_Mo_outcome_21 : decode b_Mo_outcome 21 = .ok (.ifCond .eq 9, 3) := by decide +kernel
theorem d_Mo_outcome_24 : decode b_Mo_outcome 24 = .ok (.aload_n 0, 1) := by decide +kernel
theorem d_Mo_outcome_25 : decode b_Mo_outcome 25 = .ok (.iconst 1, 1) := by decide +kernel
theorem d_Mo_outcome_26 : decode b_Mo_outcome 26 = .ok (.invokevirtual 105, 3) := by decide +kernel
theorem d_Mo_outcome_29 : decode b_Mo_outcome 29 = .ok (.ireturn, 1) := by decide +kernel
theorem d_Mo_outcome_30 : decode b_Mo_outcome 30 = .ok (.iload_n 2, 1) := by decide +kernel
theorem d_Mo_outcome_31 : decode b_Mo_outcome 31 = .ok (.aload_n 0, 1) := by decide +kernel
theorem d_Mo_outcome_32 : decode b_Mo_outcome 32 = .ok (.getfield 102, 3) := by decide +kernel
theorem d_Mo_outcome_35 : decode b_Mo_outcome 35 = .ok (.if_icmp .lt 9, 3) := by decide +kernel
theorem d_Mo_outcome_38 : decode b_Mo_outcome 38 = .ok (.aload_n 0, 1) := by decide +kernel
theorem d_Mo_outcome_39 : decode b_Mo_outcome 39 = .ok (.iconst 2, 1) := by decide +kernel
theorem d_Mo_outcome_40 : decode b_Mo_outcome 40 = .ok (.invokevirtual 105, 3) := by decide +kernel
theorem d_Mo_outcome_43 : decode b_Mo_outcome 43 = .ok (.ireturn, 1) := by decide +kernel
theorem d_Mo_outcome_44 : decode b_Mo_outcome 44 = .ok (.aload_n 0, 1) := by decide +kernel
theorem d_Mo_outcome_45 : decode b_Mo_outcome 45 = .ok (.getfield 56, 3) := by decide +kernel
theorem d_Mo_outcome_48 : decode b_Mo_outcome 48 = .ok (.bipush 8, 2) := by decide +kernel
theorem d_Mo_outcome_50 : decode b_Mo_outcome 50 = .ok (.iload_n 1, 1) := by decide +kernel
theorem d_Mo_outcome_51 : decode b_Mo_outcome 51 = .ok (.imul, 1) := by decide +kernel
theorem d_Mo_outcome_52 : decode b_Mo_outcome 52 = .ok (.iload_n 2, 1) := by decide +kernel
theorem d_Mo_outcome_53 : decode b_Mo_outcome 53 = .ok (.iadd, 1) := by decide +kernel
theorem d_Mo_outcome_54 : decode b_Mo_outcome 54 = .ok (.iaload, 1) := by decide +kernel
theorem d_Mo_outcome_55 : decode b_Mo_outcome 55 = .ok (.istore_n 3, 1) := by decide +kernel
theorem d_Mo_outcome_56 : decode b_Mo_outcome 56 = .ok (.iload_n 3, 1) := by decide +kernel
theorem d_Mo_outcome_57 : decode b_Mo_outcome 57 = .ok (.ifCond .ge 11, 3) := by decide +kernel
theorem d_Mo_outcome_60 : decode b_Mo_outcome 60 = .ok (.aload_n 0, 1) := by decide +kernel
theorem d_Mo_outcome_61 : decode b_Mo_outcome 61 = .ok (.iconst 3, 1) := by decide +kernel
theorem d_Mo_outcome_62 : decode b_Mo_outcome 62 = .ok (.invokevirtual 105, 3) := by decide +kernel
theorem d_Mo_outcome_65 : decode b_Mo_outcome 65 = .ok (.goto 4, 3) := by decide +kernel
theorem d_Mo_outcome_68 : decode b_Mo_outcome 68 = .ok (.iload_n 3, 1) := by decide +kernel
theorem d_Mo_outcome_69 : decode b_Mo_outcome 69 = .ok (.ireturn, 1) := by decide +kernel
theorem d_Mo_pass_0 : decode b_Mo_pass 0 = .ok (.iload_n 1, 1) := by decide +kernel
theorem d_Mo_pass_1 : decode b_Mo_pass 1 = .ok (.ifCond .ge 7, 3) := by decide +kernel
theorem d_Mo_pass_4 : decode b_Mo_pass 4 = .ok (.iload_n 1, 1) := by decide +kernel
theorem d_Mo_pass_5 : decode b_Mo_pass 5 = .ok (.goto 17, 3) := by decide +kernel
theorem d_Mo_pass_8 : decode b_Mo_pass 8 = .ok (.iload_n 1, 1) := by decide +kernel
theorem d_Mo_pass_9 : decode b_Mo_pass 9 = .ok (.ifCond .ne 10, 3) := by decide +kernel
theorem d_Mo_pass_12 : decode b_Mo_pass 12 = .ok (.iload_n 2, 1) := by decide +kernel
theorem d_Mo_pass_13 : decode b_Mo_pass 13 = .ok (.ineg, 1) := by decide +kernel
theorem d_Mo_pass_14 : decode b_Mo_pass 14 = .ok (.iconst 1, 1) := by decide +kernel
theorem d_Mo_pass_15 : decode b_Mo_pass 15 = .ok (.isub, 1) := by decide +kernel
theorem d_Mo_pass_16 : decode b_Mo_pass 16 = .ok (.goto 6, 3) := by decide +kernel
theorem d_Mo_pass_19 : decode b_Mo_pass 19 = .ok (.iload_n 1, 1) := by decide +kernel
theorem d_Mo_pass_20 : decode b_Mo_pass 20 = .ok (.iconst 1, 1) := by decide +kernel
theorem d_Mo_pass_21 : decode b_Mo_pass 21 = .ok (.isub, 1) := by decide +kernel
theorem d_Mo_pass_22 : decode b_Mo_pass 22 = .ok (.ireturn, 1) := by decide +kernel
theorem d_Mo_passNumber_0 : decode b_Mo_passNumber 0 = .ok (.iconst 1, 1) := by decide +kernel
theorem d_Mo_passNumber_1 : decode b_Mo_passNumber 1 = .ok (.istore_n 3, 1) := by decide +kernel
theorem d_Mo_passNumber_2 : decode b_Mo_passNumber 2 = .ok (.iload_n 2, 1) := by decide +kernel
theorem d_Mo_passNumber_3 : decode b_Mo_passNumber 3 = .ok (.iload_n 3, 1) := by decide +kernel
theorem d_Mo_passNumber_4 : decode b_Mo_passNumber 4 = .ok (.idiv, 1) := by decide +kernel
theorem d_Mo_passNumber_5 : decode b_Mo_passNumber 5 = .ok (.bipush 10, 2) := by decide +kernel
theorem d_Mo_passNumber_7 : decode b_Mo_passNumber 7 = .ok (.if_icmp .lt 11, 3) := by decide +kernel
theorem d_Mo_passNumber_10 : decode b_Mo_passNumber 10 = .ok (.iload_n 3, 1) := by decide +kernel
theorem d_Mo_passNumber_11 : decode b_Mo_passNumber 11 = .ok (.bipush 10, 2) := by decide +kernel
theorem d_Mo_passNumber_13 : decode b_Mo_passNumber 13 = .ok (.imul, 1) := by decide +kernel
theorem d_Mo_passNumber_14 : decode b_Mo_passNumber 14 = .ok (.istore_n 3, 1) := by decide +kernel
theorem d_Mo_passNumber_15 : decode b_Mo_passNumber 15 = .ok (.goto (-13), 3) := by decide +kernel
theorem d_Mo_passNumber_18 : decode b_Mo_passNumber 18 = .ok (.iload_n 1, 1) := by decide +kernel
theorem d_Mo_passNumber_19 : decode b_Mo_passNumber 19 = .ok (.istore 4, 2) := by decide +kernel
theorem d_Mo_passNumber_21 : decode b_Mo_passNumber 21 = .ok (.iload_n 3, 1) := by decide +kernel
theorem d_Mo_passNumber_22 : decode b_Mo_passNumber 22 = .ok (.ifCond .le 28, 3) := by decide +kernel
theorem d_Mo_passNumber_25 : decode b_Mo_passNumber 25 = .ok (.aload_n 0, 1) := by decide +kernel
theorem d_Mo_passNumber_26 : decode b_Mo_passNumber 26 = .ok (.iload 4, 2) := by decide +kernel
theorem d_Mo_passNumber_28 : decode b_Mo_passNumber 28 = .ok (.bipush 48, 2) := by decide +kernel
theorem d_Mo_passNumber_30 : decode b_Mo_passNumber 30 = .ok (.iload_n 2, 1) := by decide +kernel
theorem d_Mo_passNumber_31 : decode b_Mo_passNumber 31 = .ok (.iload_n 3, 1) := by decide +kernel
theorem d_Mo_passNumber_32 : decode b_Mo_passNumber 32 = .ok (.idiv, 1) := by decide +kernel
theorem d_Mo_passNumber_33 : decode b_Mo_passNumber 33 = .ok (.bipush 10, 2) := by decide +kernel
theorem d_Mo_passNumber_35 : decode b_Mo_passNumber 35 = .ok (.irem, 1) := by decide +kernel
theorem d_Mo_passNumber_36 : decode b_Mo_passNumber 36 = .ok (.iadd, 1) := by decide +kernel
theorem d_Mo_passNumber_37 : decode b_Mo_passNumber 37 = .ok (.invokevirtual 165, 3) := by decide +kernel
theorem d_Mo_passNumber_40 : decode b_Mo_passNumber 40 = .ok (.istore 4, 2) := by decide +kernel
theorem d_Mo_passNumber_42 : decode b_Mo_passNumber 42 = .ok (.iload_n 3, 1) := by decide +kernel
theorem d_Mo_passNumber_43 : decode b_Mo_passNumber 43 = .ok (.bipush 10, 2) := by decide +kernel
theorem d_Mo_passNumber_45 : decode b_Mo_passNumber 45 = .ok (.idiv, 1) := by decide +kernel
theorem d_Mo_passNumber_46 : decode b_Mo_passNumber 46 = .ok (.istore_n 3, 1) := by decide +kernel
theorem d_Mo_passNumber_47 : decode b_Mo_passNumber 47 = .ok (.goto (-26), 3) := by decide +kernel
theorem d_Mo_passNumber_50 : decode b_Mo_passNumber 50 = .ok (.iload 4, 2) := by decide +kernel
theorem d_Mo_passNumber_52 : decode b_Mo_passNumber 52 = .ok (.ireturn, 1) := by decide +kernel
theorem d_Mo_passPart_0 : decode b_Mo_passPart 0 = .ok (.iload_n 3, 1) := by decide +kernel
theorem d_Mo_passPart_1 : decode b_Mo_passPart 1 = .ok (.ifCond .ge 7, 3) := by decide +kernel
theorem d_Mo_passPart_4 : decode b_Mo_passPart 4 = .ok (.iload_n 1, 1) := by decide +kernel
theorem d_Mo_passPart_5 : decode b_Mo_passPart 5 = .ok (.goto 14, 3) := by decide +kernel
theorem d_Mo_passPart_8 : decode b_Mo_passPart 8 = .ok (.aload_n 0, 1) := by decide +kernel
theorem d_Mo_passPart_9 : decode b_Mo_passPart 9 = .ok (.aload_n 0, 1) := by decide +kernel
theorem d_Mo_passPart_10 : decode b_Mo_passPart 10 = .ok (.iload_n 1, 1) := by decide +kernel
theorem d_Mo_passPart_11 : decode b_Mo_passPart 11 = .ok (.iload_n 2, 1) := by decide +kernel
theorem d_Mo_passPart_12 : decode b_Mo_passPart 12 = .ok (.invokevirtual 165, 3) := by decide +kernel
theorem d_Mo_passPart_15 : decode b_Mo_passPart 15 = .ok (.iload_n 3, 1) := by decide +kernel
theorem d_Mo_passPart_16 : decode b_Mo_passPart 16 = .ok (.invokevirtual 168, 3) := by decide +kernel
theorem d_Mo_passPart_19 : decode b_Mo_passPart 19 = .ok (.ireturn, 1) := by decide +kernel
theorem d_Mo_passVote_0 : decode b_Mo_passVote 0 = .ok (.iload_n 2, 1) := by decide +kernel
theorem d_Mo_passVote_1 : decode b_Mo_passVote 1 = .ok (.ifCond .ge 7, 3) := by decide +kernel
theorem d_Mo_passVote_4 : decode b_Mo_passVote 4 = .ok (.iload_n 1, 1) := by decide +kernel
theorem d_Mo_passVote_5 : decode b_Mo_passVote 5 = .ok (.goto 20, 3) := by decide +kernel
theorem d_Mo_passVote_8 : decode b_Mo_passVote 8 = .ok (.aload_n 0, 1) := by decide +kernel
theorem d_Mo_passVote_9 : decode b_Mo_passVote 9 = .ok (.iload_n 1, 1) := by decide +kernel
theorem d_Mo_passVote_10 : decode b_Mo_passVote 10 = .ok (.iload_n 2, 1) := by decide +kernel
theorem d_Mo_passVote_11 : decode b_Mo_passVote 11 = .ok (.iconst 1, 1) := by decide +kernel
theorem d_Mo_passVote_12 : decode b_Mo_passVote 12 = .ok (.if_icmp .ne 8, 3) := by decide +kernel
theorem d_Mo_passVote_15 : decode b_Mo_passVote 15 = .ok (.bipush 89, 2) := by decide +kernel
theorem d_Mo_passVote_17 : decode b_Mo_passVote 17 = .ok (.goto 5, 3) := by decide +kernel
theorem d_Mo_passVote_20 : decode b_Mo_passVote 20 = .ok (.bipush 78, 2) := by decide +kernel
theorem d_Mo_passVote_22 : decode b_Mo_passVote 22 = .ok (.invokevirtual 165, 3) := by decide +kernel
theorem d_Mo_passVote_25 : decode b_Mo_passVote 25 = .ok (.ireturn, 1) := by decide +kernel
theorem d_Mo_prepare_0 : decode b_Mo_prepare 0 = .ok (.aload_n 0, 1) := by decide +kernel
theorem d_Mo_prepare_1 : decode b_Mo_prepare 1 = .ok (.getfield 32, 3) := by decide +kernel
theorem d_Mo_prepare_4 : decode b_Mo_prepare 4 = .ok (.iconst 3, 1) := by decide +kernel
theorem d_Mo_prepare_5 : decode b_Mo_prepare 5 = .ok (.iload_n 1, 1) := by decide +kernel
theorem d_Mo_prepare_6 : decode b_Mo_prepare 6 = .ok (.imul, 1) := by decide +kernel
theorem d_Mo_prepare_7 : decode b_Mo_prepare 7 = .ok (.iload_n 2, 1) := by decide +kernel
theorem d_Mo_prepare_8 : decode b_Mo_prepare 8 = .ok (.iadd, 1) := by decide +kernel
theorem d_Mo_prepare_9 : decode b_Mo_prepare 9 = .ok (.iaload, 1) := by decide +kernel
theorem d_Mo_prepare_10 : decode b_Mo_prepare 10 = .ok (.istore_n 3, 1) := by decide +kernel
theorem d_Mo_prepare_11 : decode b_Mo_prepare 11 = .ok (.iload_n 3, 1) := by decide +kernel
theorem d_Mo_prepare_12 : decode b_Mo_prepare 12 = .ok (.iconst 1, 1) := by decide +kernel
theorem d_Mo_prepare_13 : decode b_Mo_prepare 13 = .ok (.if_icmp .ne 25, 3) := by decide +kernel
theorem d_Mo_prepare_16 : decode b_Mo_prepare 16 = .ok (.aload_n 0, 1) := by decide +kernel
theorem d_Mo_prepare_17 : decode b_Mo_prepare 17 = .ok (.getfield 32, 3) := by decide +kernel
theorem d_Mo_prepare_20 : decode b_Mo_prepare 20 = .ok (.iconst 3, 1) := by decide +kernel
theorem d_Mo_prepare_21 : decode b_Mo_prepare 21 = .ok (.iload_n 1, 1) := by decide +kernel
theorem d_Mo_prepare_22 : decode b_Mo_prepare 22 = .ok (.imul, 1) := by decide +kernel
theorem d_Mo_prepare_23 : decode b_Mo_prepare 23 = .ok (.iload_n 2, 1) := by decide +kernel
theorem d_Mo_prepare_24 : decode b_Mo_prepare 24 = .ok (.iadd, 1) := by decide +kernel
theorem d_Mo_prepare_25 : decode b_Mo_prepare 25 = .ok (.iconst 2, 1) := by decide +kernel
theorem d_Mo_prepare_26 : decode b_Mo_prepare 26 = .ok (.iastore, 1) := by decide +kernel
theorem d_Mo_prepare_27 : decode b_Mo_prepare 27 = .ok (.aload_n 0, 1) := by decide +kernel
theorem d_Mo_prepare_28 : decode b_Mo_prepare 28 = .ok (.iload_n 1, 1) := by decide +kernel
theorem d_Mo_prepare_29 : decode b_Mo_prepare 29 = .ok (.iload_n 2, 1) := by decide +kernel
theorem d_Mo_prepare_30 : decode b_Mo_prepare 30 = .ok (.iconst 0, 1) := by decide +kernel
theorem d_Mo_prepare_31 : decode b_Mo_prepare 31 = .ok (.iconst 1, 1) := by decide +kernel
theorem d_Mo_prepare_32 : decode b_Mo_prepare 32 = .ok (.invokevirtual 122, 3) := by decide +kernel
theorem d_Mo_prepare_35 : decode b_Mo_prepare 35 = .ok (.goto 26, 3) := by decide +kernel
theorem d_Mo_prepare_38 : decode b_Mo_prepare 38 = .ok (.iload_n 3, 1) := by decide +kernel
theorem d_Mo_prepare_39 : decode b_Mo_prepare 39 = .ok (.ifCond .eq 8, 3) := by decide +kernel
theorem d_Mo_prepare_42 : decode b_Mo_prepare 42 = .ok (.iload_n 3, 1) := by decide +kernel
theorem d_Mo_prepare_43 : decode b_Mo_prepare 43 = .ok (.iconst 4, 1) := by decide +kernel
theorem d_Mo_prepare_44 : decode b_Mo_prepare 44 = .ok (.if_icmp .ne 17, 3) := by decide +kernel
theorem d_Mo_prepare_47 : decode b_Mo_prepare 47 = .ok (.aload_n 0, 1) := by decide +kernel
theorem d_Mo_prepare_48 : decode b_Mo_prepare 48 = .ok (.iload_n 1, 1) := by decide +kernel
theorem d_Mo_prepare_49 : decode b_Mo_prepare 49 = .ok (.iload_n 2, 1) := by decide +kernel
theorem d_Mo_prepare_50 : decode b_Mo_prepare 50 = .ok (.invokevirtual 119, 3) := by decide +kernel
theorem d_Mo_prepare_53 : decode b_Mo_prepare 53 = .ok (.aload_n 0, 1) := by decide +kernel
theorem d_Mo_prepare_54 : decode b_Mo_prepare 54 = .ok (.iload_n 1, 1) := by decide +kernel
theorem d_Mo_prepare_55 : decode b_Mo_prepare 55 = .ok (.iload_n 2, 1) := by decide +kernel
theorem d_Mo_prepare_56 : decode b_Mo_prepare 56 = .ok (.iconst 0, 1) := by decide +kernel
theorem d_Mo_prepare_57 : decode b_Mo_prepare 57 = .ok (.iconst 0, 1) := by decide +kernel
theorem d_Mo_prepare_58 : decode b_Mo_prepare 58 = .ok (.invokevirtual 122, 3) := by decide +kernel
theorem d_Mo_prepare_61 : decode b_Mo_prepare 61 = .ok (.return_, 1) := by decide +kernel
