theorem d_Mo_state_12 : decode b_Mo_state 12 = .ok (.ifCond .ne 12, 3) := by decide +kernel
theorem d_Mo_state_15 : decode b_Mo_state 15 = .ok (.aload_n 0, 1) := by decide +kernel
theorem d_Mo_state_16 : decode b_Mo_state 16 = .ok (.iload_n 2, 1) := by decide +kernel
theorem d_Mo_state_17 : decode b_Mo_state 17 = .ok (.iconst 3, 1) := by decide +kernel
theorem d_Mo_state_18 : decode b_Mo_state 18 = .ok (.invokevirtual 109, 3) := by decide +kernel
theorem d_Mo_state_21 : decode b_Mo_state 21 = .ok (.ifCond .eq 9, 3) := by decide +kernel
theorem d_Mo_state_24 : decode b_Mo_state 24 = .ok (.aload_n 0, 1) := by decide +kernel
theorem d_Mo_state_25 : decode b_Mo_state 25 = .ok (.iconst 1, 1) := by decide +kernel
theorem d_Mo_state_26 : decode b_Mo_state 26 = .ok (.invokevirtual 105, 3) := by decide +kernel
theorem d_Mo_state_29 : decode b_Mo_state 29 = .ok (.ireturn, 1) := by decide +kernel
theorem d_Mo_state_30 : decode b_Mo_state 30 = .ok (.iload_n 1, 1) := by decide +kernel
theorem d_Mo_state_31 : decode b_Mo_state 31 = .ok (.aload_n 0, 1) := by decide +kernel
theorem d_Mo_state_32 : decode b_Mo_state 32 = .ok (.getfield 102, 3) := by decide +kernel
theorem d_Mo_state_35 : decode b_Mo_state 35 = .ok (.if_icmp .lt 11, 3) := by decide +kernel
theorem d_Mo_state_38 : decode b_Mo_state 38 = .ok (.aload_n 0, 1) := by decide +kernel
theorem d_Mo_state_39 : decode b_Mo_state 39 = .ok (.iconst 2, 1) := by decide +kernel
theorem d_Mo_state_40 : decode b_Mo_state 40 = .ok (.invokevirtual 105, 3) := by decide +kernel
theorem d_Mo_state_43 : decode b_Mo_state 43 = .ok (.goto 13, 3) := by decide +kernel
theorem d_Mo_state_46 : decode b_Mo_state 46 = .ok (.aload_n 0, 1) := by decide +kernel
theorem d_Mo_state_47 : decode b_Mo_state 47 = .ok (.getfield 32, 3) := by decide +kernel
theorem d_Mo_state_50 : decode b_Mo_state 50 = .ok (.iconst 3, 1) := by decide +kernel
theorem d_Mo_state_51 : decode b_Mo_state 51 = .ok (.iload_n 1, 1) := by decide +kernel
theorem d_Mo_state_52 : decode b_Mo_state 52 = .ok (.imul, 1) := by decide +kernel
theorem d_Mo_state_53 : decode b_Mo_state 53 = .ok (.iload_n 2, 1) := by decide +kernel
theorem d_Mo_state_54 : decode b_Mo_state 54 = .ok (.iadd, 1) := by decide +kernel
theorem d_Mo_state_55 : decode b_Mo_state 55 = .ok (.iaload, 1) := by decide +kernel
theorem d_Mo_state_56 : decode b_Mo_state 56 = .ok (.ireturn, 1) := by decide +kernel
theorem d_Mo_take_0 : decode b_Mo_take 0 = .ok (.aload_n 0, 1) := by decide +kernel
theorem d_Mo_take_1 : decode b_Mo_take 1 = .ok (.iconst 0, 1) := by decide +kernel
theorem d_Mo_take_2 : decode b_Mo_take 2 = .ok (.putfield 85, 3) := by decide +kernel
theorem d_Mo_take_5 : decode b_Mo_take 5 = .ok (.aload_n 0, 1) := by decide +kernel
theorem d_Mo_take_6 : decode b_Mo_take 6 = .ok (.iload_n 1, 1) := by decide +kernel
theorem d_Mo_take_7 : decode b_Mo_take 7 = .ok (.iconst 2, 1) := by decide +kernel
theorem d_Mo_take_8 : decode b_Mo_take 8 = .ok (.invokevirtual 109, 3) := by decide +kernel
theorem d_Mo_take_11 : decode b_Mo_take 11 = .ok (.ifCond .ne 13, 3) := by decide +kernel
theorem d_Mo_take_14 : decode b_Mo_take 14 = .ok (.aload_n 0, 1) := by decide +kernel
theorem d_Mo_take_15 : decode b_Mo_take 15 = .ok (.iload_n 2, 1) := by decide +kernel
theorem d_Mo_take_16 : decode b_Mo_take 16 = .ok (.bipush 8, 2) := by decide +kernel
theorem d_Mo_take_18 : decode b_Mo_take 18 = .ok (.invokevirtual 109, 3) := by decide +kernel
theorem d_Mo_take_21 : decode b_Mo_take 21 = .ok (.ifCond .eq 9, 3) := by decide +kernel
theorem d_Mo_take_24 : decode b_Mo_take 24 = .ok (.aload_n 0, 1) := by decide +kernel
theorem d_Mo_take_25 : decode b_Mo_take 25 = .ok (.iconst 1, 1) := by decide +kernel
theorem d_Mo_take_26 : decode b_Mo_take 26 = .ok (.invokevirtual 105, 3) := by decide +kernel
theorem d_Mo_take_29 : decode b_Mo_take 29 = .ok (.ireturn, 1) := by decide +kernel
theorem d_Mo_take_30 : decode b_Mo_take 30 = .ok (.iload_n 2, 1) := by decide +kernel
theorem d_Mo_take_31 : decode b_Mo_take 31 = .ok (.aload_n 0, 1) := by decide +kernel
theorem d_Mo_take_32 : decode b_Mo_take 32 = .ok (.getfield 102, 3) := by decide +kernel
theorem d_Mo_take_35 : decode b_Mo_take 35 = .ok (.if_icmp .lt 9, 3) := by decide +kernel
theorem d_Mo_take_38 : decode b_Mo_take 38 = .ok (.aload_n 0, 1) := by decide +kernel
theorem d_Mo_take_39 : decode b_Mo_take 39 = .ok (.iconst 2, 1) := by decide +kernel
theorem d_Mo_take_40 : decode b_Mo_take 40 = .ok (.invokevirtual 105, 3) := by decide +kernel
theorem d_Mo_take_43 : decode b_Mo_take 43 = .ok (.ireturn, 1) := by decide +kernel
theorem d_Mo_take_44 : decode b_Mo_take 44 = .ok (.aload_n 0, 1) := by decide +kernel
theorem d_Mo_take_45 : decode b_Mo_take 45 = .ok (.getfield 16, 3) := by decide +kernel
theorem d_Mo_take_48 : decode b_Mo_take 48 = .ok (.iload_n 1, 1) := by decide +kernel
theorem d_Mo_take_49 : decode b_Mo_take 49 = .ok (.baload, 1) := by decide +kernel
theorem d_Mo_take_50 : decode b_Mo_take 50 = .ok (.ifCond .eq 9, 3) := by decide +kernel
theorem d_Mo_take_53 : decode b_Mo_take 53 = .ok (.aload_n 0, 1) := by decide +kernel
theorem d_Mo_take_54 : decode b_Mo_take 54 = .ok (.iconst 3, 1) := by decide +kernel
theorem d_Mo_take_55 : decode b_Mo_take 55 = .ok (.invokevirtual 105, 3) := by decide +kernel
theorem d_Mo_take_58 : decode b_Mo_take 58 = .ok (.ireturn, 1) := by decide +kernel
theorem d_Mo_take_59 : decode b_Mo_take 59 = .ok (.aload_n 0, 1) := by decide +kernel
theorem d_Mo_take_60 : decode b_Mo_take 60 = .ok (.getfield 29, 3) := by decide +kernel
theorem d_Mo_take_63 : decode b_Mo_take 63 = .ok (.iload_n 2, 1) := by decide +kernel
theorem d_Mo_take_64 : decode b_Mo_take 64 = .ok (.baload, 1) := by decide +kernel
theorem d_Mo_take_65 : decode b_Mo_take 65 = .ok (.ifCond .ne 9, 3) := by decide +kernel
theorem d_Mo_take_68 : decode b_Mo_take 68 = .ok (.aload_n 0, 1) := by decide +kernel
theorem d_Mo_take_69 : decode b_Mo_take 69 = .ok (.iconst 4, 1) := by decide +kernel
theorem d_Mo_take_70 : decode b_Mo_take 70 = .ok (.invokevirtual 105, 3) := by decide +kernel
theorem d_Mo_take_73 : decode b_Mo_take 73 = .ok (.ireturn, 1) := by decide +kernel
theorem d_Mo_take_74 : decode b_Mo_take 74 = .ok (.bipush 8, 2) := by decide +kernel
theorem d_Mo_take_76 : decode b_Mo_take 76 = .ok (.iload_n 1, 1) := by decide +kernel
theorem d_Mo_take_77 : decode b_Mo_take 77 = .ok (.imul, 1) := by decide +kernel
theorem d_Mo_take_78 : decode b_Mo_take 78 = .ok (.iload_n 2, 1) := by decide +kernel
theorem d_Mo_take_79 : decode b_Mo_take 79 = .ok (.iadd, 1) := by decide +kernel
theorem d_Mo_take_80 : decode b_Mo_take 80 = .ok (.istore_n 3, 1) := by decide +kernel
theorem d_Mo_take_81 : decode b_Mo_take 81 = .ok (.aload_n 0, 1) := by decide +kernel
theorem d_Mo_take_82 : decode b_Mo_take 82 = .ok (.getfield 50, 3) := by decide +kernel
theorem d_Mo_take_85 : decode b_Mo_take 85 = .ok (.iload_n 3, 1) := by decide +kernel
theorem d_Mo_take_86 : decode b_Mo_take 86 = .ok (.iaload, 1) := by decide +kernel
theorem d_Mo_take_87 : decode b_Mo_take 87 = .ok (.iconst 1, 1) := by decide +kernel
theorem d_Mo_take_88 : decode b_Mo_take 88 = .ok (.iadd, 1) := by decide +kernel
theorem d_Mo_take_89 : decode b_Mo_take 89 = .ok (.istore 4, 2) := by decide +kernel
theorem d_Mo_take_91 : decode b_Mo_take 91 = .ok (.iload 4, 2) := by decide +kernel
theorem d_Mo_take_93 : decode b_Mo_take 93 = .ok (.iconst 2, 1) := by decide +kernel
theorem d_Mo_take_94 : decode b_Mo_take 94 = .ok (.irem, 1) := by decide +kernel
theorem d_Mo_take_95 : decode b_Mo_take 95 = .ok (.iload_n 1, 1) := by decide +kernel
theorem d_Mo_take_96 : decode b_Mo_take 96 = .ok (.if_icmp .eq 6, 3) := by decide +kernel
theorem d_Mo_take_99 : decode b_Mo_take 99 = .ok (.iinc 4 1, 3) := by decide +kernel
theorem d_Mo_take_102 : decode b_Mo_take 102 = .ok (.aload_n 0, 1) := by decide +kernel
theorem d_Mo_take_103 : decode b_Mo_take 103 = .ok (.getfield 50, 3) := by decide +kernel
theorem d_Mo_take_106 : decode b_Mo_take 106 = .ok (.iload_n 3, 1) := by decide +kernel
theorem d_Mo_take_107 : decode b_Mo_take 107 = .ok (.iload 4, 2) := by decide +kernel
theorem d_Mo_take_109 : decode b_Mo_take 109 = .ok (.iastore, 1) := by decide +kernel
theorem d_Mo_take_110 : decode b_Mo_take 110 = .ok (.aload_n 0, 1) := by decide +kernel
theorem d_Mo_take_111 : decode b_Mo_take 111 = .ok (.getfield 53, 3) := by decide +kernel
theorem d_Mo_take_114 : decode b_Mo_take 114 = .ok (.iload_n 3, 1) := by decide +kernel
theorem d_Mo_take_115 : decode b_Mo_take 115 = .ok (.iconst 0, 1) := by decide +kernel
theorem d_Mo_take_116 : decode b_Mo_take 116 = .ok (.bastore, 1) := by decide +kernel
theorem d_Mo_take_117 : decode b_Mo_take 117 = .ok (.iconst 0, 1) := by decide +kernel
theorem d_Mo_take_118 : decode b_Mo_take 118 = .ok (.istore 5, 2) := by decide +kernel
theorem d_Mo_take_120 : decode b_Mo_take 120 = .ok (.iload 5, 2) := by decide +kernel
theorem d_Mo_take_122 : decode b_Mo_take 122 = .ok (.iconst 3, 1) := by decide +kernel
theorem d_Mo_take_123 : decode b_Mo_take 123 = .ok (.if_icmp .ge 21, 3) := by decide +kernel
theorem d_Mo_take_126 : decode b_Mo_take 126 = .ok (.aload_n 0, 1) := by decide +kernel
theorem d_Mo_take_127 : decode b_Mo_take 127 = .ok (.getfield 59, 3) := by decide +kernel
theorem d_Mo_take_130 : decode b_Mo_take 130 = .ok (.iconst 3, 1) := by decide +kernel
theorem d_Mo_take_131 : decode b_Mo_take 131 = .ok (.iload_n 3, 1) := by decide +kernel
theorem d_Mo_take_132 : decode b_Mo_take 132 = .ok (.imul, 1) := by decide +kernel
theorem d_Mo_take_133 : decode b_Mo_take 133 = .ok (.iload 5, 2) := by decide +kernel
theorem d_Mo_take_135 : decode b_Mo_take 135 = .ok (.iadd, 1) := by decide +kernel
theorem d_Mo_take_136 : decode b_Mo_take 136 = .ok (.iconst 0, 1) := by decide +kernel
theorem d_Mo_take_137 : decode b_Mo_take 137 = .ok (.bastore, 1) := by decide +kernel
theorem d_Mo_take_138 : decode b_Mo_take 138 = .ok (.iinc 5 1, 3) := by decide +kernel
theorem d_Mo_take_141 : decode b_Mo_take 141 = .ok (.goto (-21), 3) := by decide +kernel
theorem d_Mo_take_144 : decode b_Mo_take 144 = .ok (.iconst 0, 1) := by decide +kernel
theorem d_Mo_take_145 : decode b_Mo_take 145 = .ok (.istore 5, 2) := by decide +kernel
theorem d_Mo_take_147 : decode b_Mo_take 147 = .ok (.iload 5, 2) := by decide +kernel
theorem d_Mo_take_149 : decode b_Mo_take 149 = .ok (.aload_n 0, 1) := by decide +kernel
theorem d_Mo_take_150 : decode b_Mo_take 150 = .ok (.getfield 77, 3) := by decide +kernel
theorem d_Mo_take_153 : decode b_Mo_take 153 = .ok (.if_icmp .ge 25, 3) := by decide +kernel
theorem d_Mo_take_156 : decode b_Mo_take 156 = .ok (.aload_n 0, 1) := by decide +kernel
theorem d_Mo_take_157 : decode b_Mo_take 157 = .ok (.bipush 65, 2) := by decide +kernel
theorem d_Mo_take_159 : decode b_Mo_take 159 = .ok (.iload_n 2, 1) := by decide +kernel
theorem d_Mo_take_160 : decode b_Mo_take 160 = .ok (.iconst (-1), 1) := by decide +kernel
theorem d_Mo_take_161 : decode b_Mo_take 161 = .ok (.iload 5, 2) := by decide +kernel
theorem d_Mo_take_163 : decode b_Mo_take 163 = .ok (.iconst (-1), 1) := by decide +kernel
theorem d_Mo_take_164 : decode b_Mo_take 164 = .ok (.iload 4, 2) := by decide +kernel
theorem d_Mo_take_166 : decode b_Mo_take 166 = .ok (.iconst (-1), 1) := by decide +kernel
theorem d_Mo_take_167 : decode b_Mo_take 167 = .ok (.invokevirtual 94, 3) := by decide +kernel
theorem d_Mo_take_170 : decode b_Mo_take 170 = .ok (.istore 6, 2) := by decide +kernel
theorem d_Mo_take_172 : decode b_Mo_take 172 = .ok (.iinc 5 1, 3) := by decide +kernel
theorem d_Mo_take_175 : decode b_Mo_take 175 = .ok (.goto (-28), 3) := by decide +kernel
theorem d_Mo_take_178 : decode b_Mo_take 178 = .ok (.iload 4, 2) := by decide +kernel
theorem d_Mo_take_180 : decode b_Mo_take 180 = .ok (.ireturn, 1) := by decide +kernel
theorem d_Mo_takeOut_0 : decode b_Mo_takeOut 0 = .ok (.iconst 0, 1) := by decide +kernel
theorem d_Mo_takeOut_1 : decode b_Mo_takeOut 1 = .ok (.istore_n 3, 1) := by decide +kernel
theorem d_Mo_takeOut_2 : decode b_Mo_takeOut 2 = .ok (.iload_n 3, 1) := by decide +kernel
theorem d_Mo_takeOut_3 : decode b_Mo_takeOut 3 = .ok (.bipush 13, 2) := by decide +kernel
theorem d_Mo_takeOut_5 : decode b_Mo_takeOut 5 = .ok (.if_icmp .ge 30, 3) := by decide +kernel
theorem d_Mo_takeOut_8 : decode b_Mo_takeOut 8 = .ok (.aload_n 0, 1) := by decide +kernel
theorem d_Mo_takeOut_9 : decode b_Mo_takeOut 9 = .ok (.getfield 74, 3) := by decide +kernel
theorem d_Mo_takeOut_12 : decode b_Mo_takeOut 12 = .ok (.sipush 780, 3) := by decide +kernel
theorem d_Mo_takeOut_15 : decode b_Mo_takeOut 15 = .ok (.iload_n 3, 1) := by decide +kernel
theorem d_Mo_takeOut_16 : decode b_Mo_takeOut 16 = .ok (.iadd, 1) := by decide +kernel
theorem d_Mo_takeOut_17 : decode b_Mo_takeOut 17 = .ok (.aload_n 0, 1) := by decide +kernel
theorem d_Mo_takeOut_18 : decode b_Mo_takeOut 18 = .ok (.getfield 74, 3) := by decide +kernel
theorem d_Mo_takeOut_21 : decode b_Mo_takeOut 21 = .ok (.bipush 13, 2) := by decide +kernel
theorem d_Mo_takeOut_23 : decode b_Mo_takeOut 23 = .ok (.iload_n 1, 1) := by decide +kernel
theorem d_Mo_takeOut_24 : decode b_Mo_takeOut 24 = .ok (.imul, 1) := by decide +kernel
theorem d_Mo_takeOut_25 : decode b_Mo_takeOut 25 = .ok (.iload_n 3, 1) := by decide +kernel
theorem d_Mo_takeOut_26 : decode b_Mo_takeOut 26 = .ok (.iadd, 1) := by decide +kernel
theorem d_Mo_takeOut_27 : decode b_Mo_takeOut 27 = .ok (.iaload, 1) := by decide +kernel
theorem d_Mo_takeOut_28 : decode b_Mo_takeOut 28 = .ok (.iastore, 1) := by decide +kernel
theorem d_Mo_takeOut_29 : decode b_Mo_takeOut 29 = .ok (.iinc 3 1, 3) := by decide +kernel
theorem d_Mo_takeOut_32 : decode b_Mo_takeOut 32 = .ok (.goto (-30), 3) := by decide +kernel
theorem d_Mo_takeOut_35 : decode b_Mo_takeOut 35 = .ok (.iload_n 2, 1) := by decide +kernel
theorem d_Mo_takeOut_36 : decode b_Mo_takeOut 36 = .ok (.ifCond .eq 4, 3) := by decide +kernel
theorem d_Mo_takeOut_39 : decode b_Mo_takeOut 39 = .ok (.return_, 1) := by decide +kernel
theorem d_Mo_takeOut_40 : decode b_Mo_takeOut 40 = .ok (.aload_n 0, 1) := by decide +kernel
theorem d_Mo_takeOut_41 : decode b_Mo_takeOut 41 = .ok (.dup, 1) := by decide +kernel
theorem d_Mo_takeOut_42 : decode b_Mo_takeOut 42 = .ok (.getfield 88, 3) := by decide +kernel
theorem d_Mo_takeOut_45 : decode b_Mo_takeOut 45 = .ok (.iconst 1, 1) := by decide +kernel
theorem d_Mo_takeOut_46 : decode b_Mo_takeOut 46 = .ok (.isub, 1) := by decide +kernel
theorem d_Mo_takeOut_47 : decode b_Mo_takeOut 47 = .ok (.putfield 88, 3) := by decide +kernel
theorem d_Mo_takeOut_50 : decode b_Mo_takeOut 50 = .ok (.bipush 13, 2) := by decide +kernel
theorem d_Mo_takeOut_52 : decode b_Mo_takeOut 52 = .ok (.iload_n 1, 1) := by decide +kernel
theorem d_Mo_takeOut_53 : decode b_Mo_takeOut 53 = .ok (.imul, 1) := by decide +kernel
theorem d_Mo_takeOut_54 : decode b_Mo_takeOut 54 = .ok (.istore_n 3, 1) := by decide +kernel
theorem d_Mo_takeOut_55 : decode b_Mo_takeOut 55 = .ok (.iload_n 3, 1) := by decide +kernel
theorem d_Mo_takeOut_56 : decode b_Mo_takeOut 56 = .ok (.bipush 13, 2) := by decide +kernel
theorem d_Mo_takeOut_58 : decode b_Mo_takeOut 58 = .ok (.aload_n 0, 1) := by decide +kernel
theorem d_Mo_takeOut_59 : decode b_Mo_takeOut 59 = .ok (.getfield 88, 3) := by decide +kernel
theorem d_Mo_takeOut_62 : decode b_Mo_takeOut 62 = .ok (.imul, 1) := by decide +kernel
theorem d_Mo_takeOut_63 : decode b_Mo_takeOut 63 = .ok (.if_icmp .ge 24, 3) := by decide +kernel
theorem d_Mo_takeOut_66 : decode b_Mo_takeOut 66 = .ok (.aload_n 0, 1) := by decide +kernel
theorem d_Mo_takeOut_67 : decode b_Mo_takeOut 67 = .ok (.getfield 74, 3) := by decide +kernel
theorem d_Mo_takeOut_70 : decode b_Mo_takeOut 70 = .ok (.iload_n 3, 1) := by decide +kernel
theorem d_Mo_takeOut_71 : decode b_Mo_takeOut 71 = .ok (.aload_n 0, 1) := by decide +kernel
theorem d_Mo_takeOut_72 : decode b_Mo_takeOut 72 = .ok (.getfield 74, 3) := by decide +kernel
theorem d_Mo_takeOut_75 : decode b_Mo_takeOut 75 = .ok (.iload_n 3, 1) := by decide +kernel
theorem d_Mo_takeOut_76 : decode b_Mo_takeOut 76 = .ok (.bipush 13, 2) := by decide +kernel
theorem d_Mo_takeOut_78 : decode b_Mo_takeOut 78 = .ok (.iadd, 1) := by decide +kernel
theorem d_Mo_takeOut_79 : decode b_Mo_takeOut 79 = .ok (.iaload, 1) := by decide +kernel
theorem d_Mo_takeOut_80 : decode b_Mo_takeOut 80 = .ok (.iastore, 1) := by decide +kernel
theorem d_Mo_takeOut_81 : decode b_Mo_takeOut 81 = .ok (.iinc 3 1, 3) := by decide +kernel
theorem d_Mo_takeOut_84 : decode b_Mo_takeOut 84 = .ok (.goto (-29), 3) := by decide +kernel
theorem d_Mo_takeOut_87 : decode b_Mo_takeOut 87 = .ok (.return_, 1) := by decide +kernel
theorem d_Mo_taken_0 : decode b_Mo_taken 0 = .ok (.aload_n 0, 1) := by decide +kernel
theorem d_Mo_taken_1 : decode b_Mo_taken 1 = .ok (.iconst 0, 1) := by decide +kernel
theorem d_Mo_taken_2 : decode b_Mo_taken 2 = .ok (.putfield 85, 3) := by decide +kernel
theorem d_Mo_taken_5 : decode b_Mo_taken 5 = .ok (.aload_n 0, 1) := by decide +kernel
theorem d_Mo_taken_6 : decode b_Mo_taken 6 = .ok (.iload_n 1, 1) := by decide +kernel
theorem d_Mo_taken_7 : decode b_Mo_taken 7 = .ok (.aload_n 0, 1) := by decide +kernel
theorem d_Mo_taken_8 : decode b_Mo_taken 8 = .ok (.getfield 77, 3) := by decide +kernel
theorem d_Mo_taken_11 : decode b_Mo_taken 11 = .ok (.invokevirtual 109, 3) := by decide +kernel
theorem d_Mo_taken_14 : decode b_Mo_taken 14 = .ok (.ifCond .ne 22, 3) := by decide +kernel
theorem d_Mo_taken_17 : decode b_Mo_taken 17 = .ok (.aload_n 0, 1) := by decide +kernel
theorem d_Mo_taken_18 : decode b_Mo_taken 18 = .ok (.iload_n 2, 1) := by decide +kernel
theorem d_Mo_taken_19 : decode b_Mo_taken 19 = .ok (.bipush 8, 2) := by decide +kernel
theorem d_Mo_taken_21 : decode b_Mo_taken 21 = .ok (.invokevirtual 109, 3) := by decide +kernel
theorem d_Mo_taken_24 : decode b_Mo_taken 24 = .ok (.ifCond .ne 12, 3) := by decide +kernel
theorem d_Mo_taken_27 : decode b_Mo_taken 27 = .ok (.aload_n 0, 1) := by decide +kernel
theorem d_Mo_taken_28 : decode b_Mo_taken 28 = .ok (.iload_n 3, 1) := by decide +kernel
theorem d_Mo_taken_29 : decode b_Mo_taken 29 = .ok (.iconst 3, 1) := by decide +kernel
theorem d_Mo_taken_30 : decode b_Mo_taken 30 = .ok (.invokevirtual 109, 3) := by decide +kernel
theorem d_Mo_taken_33 : decode b_Mo_taken 33 = .ok (.ifCond .eq 9, 3) := by decide +kernel
theorem d_Mo_taken_36 : decode b_Mo_taken 36 = .ok (.aload_n 0, 1) := by decide +kernel
theorem d_Mo_taken_37 : decode b_Mo_taken 37 = .ok (.iconst 1, 1) := by decide +kernel
theorem d_Mo_taken_38 : decode b_Mo_taken 38 = .ok (.invokevirtual 105, 3) := by decide +kernel
theorem d_Mo_taken_41 : decode b_Mo_taken 41 = .ok (.ireturn, 1) := by decide +kernel
theorem d_Mo_taken_42 : decode b_Mo_taken 42 = .ok (.iload_n 2, 1) := by decide +kernel
theorem d_Mo_taken_43 : decode b_Mo_taken 43 = .ok (.aload_n 0, 1) := by decide +kernel
theorem d_Mo_taken_44 : decode b_Mo_taken 44 = .ok (.getfield 102, 3) := by decide +kernel
theorem d_Mo_taken_47 : decode b_Mo_taken 47 = .ok (.if_icmp .lt 9, 3) := by decide +kernel
theorem d_Mo_taken_50 : decode b_Mo_taken 50 = .ok (.aload_n 0, 1) := by decide +kernel
theorem d_Mo_taken_51 : decode b_Mo_taken 51 = .ok (.iconst 2, 1) := by decide +kernel
theorem d_Mo_taken_52 : decode b_Mo_taken 52 = .ok (.invokevirtual 105, 3) := by decide +kernel
theorem d_Mo_taken_55 : decode b_Mo_taken 55 = .ok (.ireturn, 1) := by decide +kernel
theorem d_Mo_taken_56 : decode b_Mo_taken 56 = .ok (.bipush 24, 2) := by decide +kernel
theorem d_Mo_taken_58 : decode b_Mo_taken 58 = .ok (.iload_n 1, 1) := by decide +kernel
theorem d_Mo_taken_59 : decode b_Mo_taken 59 = .ok (.imul, 1) := by decide +kernel
theorem d_Mo_taken_60 : decode b_Mo_taken 60 = .ok (.iconst 3, 1) := by decide +kernel
theorem d_Mo_taken_61 : decode b_Mo_taken 61 = .ok (.iload_n 2, 1) := by decide +kernel
theorem d_Mo_taken_62 : decode b_Mo_taken 62 = .ok (.imul, 1) := by decide +kernel
theorem d_Mo_taken_63 : decode b_Mo_taken 63 = .ok (.iadd, 1) := by decide +kernel
theorem d_Mo_taken_64 : decode b_Mo_taken 64 = .ok (.iload_n 3, 1) := by decide +kernel
theorem d_Mo_taken_65 : decode b_Mo_taken 65 = .ok (.iadd, 1) := by decide +kernel
theorem d_Mo_taken_66 : decode b_Mo_taken 66 = .ok (.istore 5, 2) := by decide +kernel
theorem d_Mo_taken_68 : decode b_Mo_taken 68 = .ok (.iload 4, 2) := by decide +kernel
theorem d_Mo_taken_70 : decode b_Mo_taken 70 = .ok (.ifCond .eq 11, 3) := by decide +kernel
theorem d_Mo_taken_73 : decode b_Mo_taken 73 = .ok (.aload_n 0, 1) := by decide +kernel
theorem d_Mo_taken_74 : decode b_Mo_taken 74 = .ok (.getfield 41, 3) := by decide +kernel
theorem d_Mo_taken_77 : decode b_Mo_taken 77 = .ok (.iload 5, 2) := by decide +kernel
theorem d_Mo_taken_79 : decode b_Mo_taken 79 = .ok (.iaload, 1) := by decide +kernel
theorem d_Mo_taken_80 : decode b_Mo_taken 80 = .ok (.ireturn, 1) := by decide +kernel
theorem d_Mo_taken_81 : decode b_Mo_taken 81 = .ok (.aload_n 0, 1) := by decide +kernel
theorem d_Mo_taken_82 : decode b_Mo_taken 82 = .ok (.getfield 44, 3) := by decide +kernel
theorem d_Mo_taken_85 : decode b_Mo_taken 85 = .ok (.iload 5, 2) := by decide +kernel
theorem d_Mo_taken_87 : decode b_Mo_taken 87 = .ok (.iaload, 1) := by decide +kernel
theorem d_Mo_taken_88 : decode b_Mo_taken 88 = .ok (.ifCond .ge 7, 3) := by decide +kernel
theorem d_Mo_taken_91 : decode b_Mo_taken 91 = .ok (.iconst (-1), 1) := by decide +kernel
theorem d_Mo_taken_92 : decode b_Mo_taken 92 = .ok (.goto 20, 3) := by decide +kernel
theorem d_Mo_taken_95 : decode b_Mo_taken 95 = .ok (.iconst 2, 1) := by decide +kernel
theorem d_Mo_taken_96 : decode b_Mo_taken 96 = .ok (.aload_n 0, 1) := by decide +kernel
theorem d_Mo_taken_97 : decode b_Mo_taken 97 = .ok (.getfield 44, 3) := by decide +kernel
theorem d_Mo_taken_100 : decode b_Mo_taken 100 = .ok (.iload 5, 2) := by decide +kernel
theorem d_Mo_taken_102 : decode b_Mo_taken 102 = .ok (.iaload, 1) := by decide +kernel
theorem d_Mo_taken_103 : decode b_Mo_taken 103 = .ok (.imul, 1) := by decide +kernel
theorem d_Mo_taken_104 : decode b_Mo_taken 104 = .ok (.aload_n 0, 1) := by decide +kernel
theorem d_Mo_taken_105 : decode b_Mo_taken 105 = .ok (.getfield 47, 3) := by decide +kernel
theorem d_Mo_taken_108 : decode b_Mo_taken 108 = .ok (.iload 5, 2) := by decide +kernel
theorem d_Mo_taken_110 : decode b_Mo_taken 110 = .ok (.iaload, 1) := by decide +kernel
theorem d_Mo_taken_111 : decode b_Mo_taken 111 = .ok (.iadd, 1) := by decide +kernel
theorem d_Mo_taken_112 : decode b_Mo_taken 112 = .ok (.ireturn, 1) := by decide +kernel
theorem d_Mo_text_0 : decode b_Mo_text 0 = .ok (.aload_n 0, 1) := by decide +kernel
theorem d_Mo_text_1 : decode b_Mo_text 1 = .ok (.iconst 0, 1) := by decide +kernel
theorem d_Mo_text_2 : decode b_Mo_text 2 = .ok (.putfield 85, 3) := by decide +kernel
theorem d_Mo_text_5 : decode b_Mo_text 5 = .ok (.iload_n 2, 1) := by decide +kernel
theorem d_Mo_text_6 : decode b_Mo_text 6 = .ok (.ifCond .ge 9, 3) := by decide +kernel
theorem d_Mo_text_9 : decode b_Mo_text 9 = .ok (.aload_n 0, 1) := by decide +kernel
theorem d_Mo_text_10 : decode b_Mo_text 10 = .ok (.iconst 1, 1) := by decide +kernel
theorem d_Mo_text_11 : decode b_Mo_text 11 = .ok (.invokevirtual 105, 3) := by decide +kernel
theorem d_Mo_text_14 : decode b_Mo_text 14 = .ok (.ireturn, 1) := by decide +kernel
theorem d_Mo_text_15 : decode b_Mo_text 15 = .ok (.aload_n 0, 1) := by decide +kernel
theorem d_Mo_text_16 : decode b_Mo_text 16 = .ok (.iload_n 1, 1) := by decide +kernel
theorem d_Mo_text_17 : decode b_Mo_text 17 = .ok (.aload_n 0, 1) := by decide +kernel
theorem d_Mo_text_18 : decode b_Mo_text 18 = .ok (.getfield 88, 3) := by decide +kernel
theorem d_Mo_text_21 : decode b_Mo_text 21 = .ok (.invokevirtual 109, 3) := by decide +kernel
theorem d_Mo_text_24 : decode b_Mo_text 24 = .ok (.ifCond .eq 9, 3) := by decide +kernel
theorem d_Mo_text_27 : decode b_Mo_text 27 = .ok (.aload_n 0, 1) := by decide +kernel
theorem d_Mo_text_28 : decode b_Mo_text 28 = .ok (.iconst 2, 1) := by decide +kernel
theorem d_Mo_text_29 : decode b_Mo_text 29 = .ok (.invokevirtual 105, 3) := by decide +kernel
theorem d_Mo_text_32 : decode b_Mo_text 32 = .ok (.ireturn, 1) := by decide +kernel
theorem d_Mo_text_33 : decode b_Mo_text 33 = .ok (.bipush 13, 2) := by decide +kernel
theorem d_Mo_text_35 : decode b_Mo_text 35 = .ok (.iload_n 1, 1) := by decide +kernel
theorem d_Mo_text_36 : decode b_Mo_text 36 = .ok (.imul, 1) := by decide +kernel
theorem d_Mo_text_37 : decode b_Mo_text 37 = .ok (.istore_n 3, 1) := by decide +kernel
theorem d_Mo_text_38 : decode b_Mo_text 38 = .ok (.aload_n 0, 1) := by decide +kernel
theorem d_Mo_text_39 : decode b_Mo_text 39 = .ok (.iload_n 2, 1) := by decide +kernel
theorem d_Mo_text_40 : decode b_Mo_text 40 = .ok (.aload_n 0, 1) := by decide +kernel
theorem d_Mo_text_41 : decode b_Mo_text 41 = .ok (.getfield 74, 3) := by decide +kernel
theorem d_Mo_text_44 : decode b_Mo_text 44 = .ok (.iload_n 3, 1) := by decide +kernel
theorem d_Mo_text_45 : decode b_Mo_text 45 = .ok (.iaload, 1) := by decide +kernel
theorem d_Mo_text_46 : decode b_Mo_text 46 = .ok (.invokevirtual 165, 3) := by decide +kernel
theorem d_Mo_text_49 : decode b_Mo_text 49 = .ok (.istore 4, 2) := by decide +kernel
theorem d_Mo_text_51 : decode b_Mo_text 51 = .ok (.aload_n 0, 1) := by decide +kernel
theorem d_Mo_text_52 : decode b_Mo_text 52 = .ok (.iload 4, 2) := by decide +kernel
theorem d_Mo_text_54 : decode b_Mo_text 54 = .ok (.bipush 116, 2) := by decide +kernel
theorem d_Mo_text_56 : decode b_Mo_text 56 = .ok (.aload_n 0, 1) := by decide +kernel
theorem d_Mo_text_57 : decode b_Mo_text 57 = .ok (.getfield 74, 3) := by decide +kernel
theorem d_Mo_text_60 : decode b_Mo_text 60 = .ok (.iload_n 3, 1) := by decide +kernel
theorem d_Mo_text_61 : decode b_Mo_text 61 = .ok (.iconst 1, 1) := by decide +kernel
theorem d_Mo_text_62 : decode b_Mo_text 62 = .ok (.iadd, 1) := by decide +kernel
theorem d_Mo_text_63 : decode b_Mo_text 63 = .ok (.iaload, 1) := by decide +kernel
theorem d_Mo_text_64 : decode b_Mo_text 64 = .ok (.invokevirtual 171, 3) := by decide +kernel
theorem d_Mo_text_67 : decode b_Mo_text 67 = .ok (.istore 4, 2) := by decide +kernel
theorem d_Mo_text_69 : decode b_Mo_text 69 = .ok (.aload_n 0, 1) := by decide +kernel
theorem d_Mo_text_70 : decode b_Mo_text 70 = .ok (.iload 4, 2) := by decide +kernel
theorem d_Mo_text_72 : decode b_Mo_text 72 = .ok (.bipush 115, 2) := by decide +kernel
theorem d_Mo_text_74 : decode b_Mo_text 74 = .ok (.aload_n 0, 1) := by decide +kernel
theorem d_Mo_text_75 : decode b_Mo_text 75 = .ok (.getfield 74, 3) := by decide +kernel
theorem d_Mo_text_78 : decode b_Mo_text 78 = .ok (.iload_n 3, 1) := by decide +kernel
theorem d_Mo_text_79 : decode b_Mo_text 79 = .ok (.iconst 2, 1) := by decide +kernel
theorem d_Mo_text_80 : decode b_Mo_text 80 = .ok (.iadd, 1) := by decide +kernel
theorem d_Mo_text_81 : decode b_Mo_text 81 = .ok (.iaload, 1) := by decide +kernel
theorem d_Mo_text_82 : decode b_Mo_text 82 = .ok (.invokevirtual 171, 3) := by decide +kernel
theorem d_Mo_text_85 : decode b_Mo_text 85 = .ok (.istore 4, 2) := by decide +kernel
theorem d_Mo_text_87 : decode b_Mo_text 87 = .ok (.aload_n 0, 1) := by decide +kernel
theorem d_Mo_text_88 : decode b_Mo_text 88 = .ok (.iload 4, 2) := by decide +kernel
theorem d_Mo_text_90 : decode b_Mo_text 90 = .ok (.bipush 97, 2) := by decide +kernel
theorem d_Mo_text_92 : decode b_Mo_text 92 = .ok (.aload_n 0, 1) := by decide +kernel
theorem d_Mo_text_93 : decode b_Mo_text 93 = .ok (.getfield 74, 3) := by decide +kernel
theorem d_Mo_text_96 : decode b_Mo_text 96 = .ok (.iload_n 3, 1) := by decide +kernel
theorem d_Mo_text_97 : decode b_Mo_text 97 = .ok (.iconst 3, 1) := by decide +kernel
theorem d_Mo_text_98 : decode b_Mo_text 98 = .ok (.iadd, 1) := by decide +kernel
theorem d_Mo_text_99 : decode b_Mo_text 99 = .ok (.iaload, 1) := by decide +kernel
theorem d_Mo_text_100 : decode b_Mo_text 100 = .ok (.invokevirtual 171, 3) := by decide +kernel
theorem d_Mo_text_103 : decode b_Mo_text 103 = .ok (.istore 4, 2) := by decide +kernel
theorem d_Mo_text_105 : decode b_Mo_text 105 = .ok (.aload_n 0, 1) := by decide +kernel
theorem d_Mo_text_106 : decode b_Mo_text 106 = .ok (.iload 4, 2) := by decide +kernel
theorem d_Mo_text_108 : decode b_Mo_text 108 = .ok (.bipush 108, 2) := by decide +kernel
theorem d_Mo_text_110 : decode b_Mo_text 110 = .ok (.aload_n 0, 1) := by decide +kernel
theorem d_Mo_text_111 : decode b_Mo_text 111 = .ok (.getfield 74, 3) := by decide +kernel
theorem d_Mo_text_114 : decode b_Mo_text 114 = .ok (.iload_n 3, 1) := by decide +kernel
theorem d_Mo_text_115 : decode b_Mo_text 115 = .ok (.iconst 4, 1) := by decide +kernel
theorem d_Mo_text_116 : decode b_Mo_text 116 = .ok (.iadd, 1) := by decide +kernel
theorem d_Mo_text_117 : decode b_Mo_text 117 = .ok (.iaload, 1) := by decide +kernel
theorem d_Mo_text_118 : decode b_Mo_text 118 = .ok (.invokevirtual 171, 3) := by decide +kernel
theorem d_Mo_text_121 : decode b_Mo_text 121 = .ok (.istore 4, 2) := by decide +kernel
theorem d_Mo_text_123 : decode b_Mo_text 123 = .ok (.aload_n 0, 1) := by decide +kernel
theorem d_Mo_text_124 : decode b_Mo_text 124 = .ok (.iload 4, 2) := by decide +kernel
theorem d_Mo_text_126 : decode b_Mo_text 126 = .ok (.bipush 98, 2) := by decide +kernel
theorem d_Mo_text_128 : decode b_Mo_text 128 = .ok (.aload_n 0, 1) := by decide +kernel
theorem d_Mo_text_129 : decode b_Mo_text 129 = .ok (.getfield 74, 3) := by decide +kernel
theorem d_Mo_text_132 : decode b_Mo_text 132 = .ok (.iload_n 3, 1) := by decide +kernel
theorem d_Mo_text_133 : decode b_Mo_text 133 = .ok (.iconst 5, 1) := by decide +kernel
theorem d_Mo_text_134 : decode b_Mo_text 134 = .ok (.iadd, 1) := by decide +kernel
theorem d_Mo_text_135 : decode b_Mo_text 135 = .ok (.iaload, 1) := by decide +kernel
theorem d_Mo_text_136 : decode b_Mo_text 136 = .ok (.invokevirtual 171, 3) := by decide +kernel
theorem d_Mo_text_139 : decode b_Mo_text 139 = .ok (.istore 4, 2) := by decide +kernel
theorem d_Mo_text_141 : decode b_Mo_text 141 = .ok (.aload_n 0, 1) := by decide +kernel
theorem d_Mo_text_142 : decode b_Mo_text 142 = .ok (.iload 4, 2) := by decide +kernel
theorem d_Mo_text_144 : decode b_Mo_text 144 = .ok (.aload_n 0, 1) := by decide +kernel
theorem d_Mo_text_145 : decode b_Mo_text 145 = .ok (.getfield 74, 3) := by decide +kernel
theorem d_Mo_text_148 : decode b_Mo_text 148 = .ok (.iload_n 3, 1) := by decide +kernel
theorem d_Mo_text_149 : decode b_Mo_text 149 = .ok (.bipush 6, 2) := by decide +kernel
theorem d_Mo_text_151 : decode b_Mo_text 151 = .ok (.iadd, 1) := by decide +kernel
theorem d_Mo_text_152 : decode b_Mo_text 152 = .ok (.iaload, 1) := by decide +kernel
theorem d_Mo_text_153 : decode b_Mo_text 153 = .ok (.invokevirtual 175, 3) := by decide +kernel
theorem d_Mo_text_156 : decode b_Mo_text 156 = .ok (.istore 4, 2) := by decide +kernel
theorem d_Mo_text_158 : decode b_Mo_text 158 = .ok (.iconst 0, 1) := by decide +kernel
theorem d_Mo_text_159 : decode b_Mo_text 159 = .ok (.istore 5, 2) := by decide +kernel
theorem d_Mo_text_161 : decode b_Mo_text 161 = .ok (.iload 5, 2) := by decide +kernel
theorem d_Mo_text_163 : decode b_Mo_text 163 = .ok (.iconst 3, 1) := by decide +kernel
theorem d_Mo_text_164 : decode b_Mo_text 164 = .ok (.if_icmp .ge 76, 3) := by decide +kernel
theorem d_Mo_text_167 : decode b_Mo_text 167 = .ok (.aload_n 0, 1) := by decide +kernel
theorem d_Mo_text_168 : decode b_Mo_text 168 = .ok (.getfield 74, 3) := by decide +kernel
theorem d_Mo_text_171 : decode b_Mo_text 171 = .ok (.iload_n 3, 1) := by decide +kernel
theorem d_Mo_text_172 : decode b_Mo_text 172 = .ok (.iaload, 1) := by decide +kernel
theorem d_Mo_text_173 : decode b_Mo_text 173 = .ok (.bipush 82, 2) := by decide +kernel
theorem d_Mo_text_175 : decode b_Mo_text 175 = .ok (.if_icmp .ne 65, 3) := by decide +kernel
theorem d_Mo_text_178 : decode b_Mo_text 178 = .ok (.aload_n 0, 1) := by decide +kernel
theorem d_Mo_text_179 : decode b_Mo_text 179 = .ok (.getfield 74, 3) := by decide +kernel
theorem d_Mo_text_182 : decode b_Mo_text 182 = .ok (.iload_n 3, 1) := by decide +kernel
theorem d_Mo_text_183 : decode b_Mo_text 183 = .ok (.bipush 7, 2) := by decide +kernel
theorem d_Mo_text_185 : decode b_Mo_text 185 = .ok (.iadd, 1) := by decide +kernel
theorem d_Mo_text_186 : decode b_Mo_text 186 = .ok (.iload 5, 2) := by decide +kernel
theorem d_Mo_text_188 : decode b_Mo_text 188 = .ok (.iadd, 1) := by decide +kernel
theorem d_Mo_text_189 : decode b_Mo_text 189 = .ok (.iaload, 1) := by decide +kernel
theorem d_Mo_text_190 : decode b_Mo_text 190 = .ok (.istore 6, 2) := by decide +kernel
theorem d_Mo_text_192 : decode b_Mo_text 192 = .ok (.iload 6, 2) := by decide +kernel
theorem d_Mo_text_194 : decode b_Mo_text 194 = .ok (.ifCond .ge 14, 3) := by decide +kernel
theorem d_Mo_text_197 : decode b_Mo_text 197 = .ok (.aload_n 0, 1) := by decide +kernel
theorem d_Mo_text_198 : decode b_Mo_text 198 = .ok (.iload 4, 2) := by decide +kernel
theorem d_Mo_text_200 : decode b_Mo_text 200 = .ok (.bipush 45, 2) := by decide +kernel
theorem d_Mo_text_202 : decode b_Mo_text 202 = .ok (.invokevirtual 165, 3) := by decide +kernel
theorem d_Mo_text_205 : decode b_Mo_text 205 = .ok (.goto 27, 3) := by decide +kernel
theorem d_Mo_text_208 : decode b_Mo_text 208 = .ok (.aload_n 0, 1) := by decide +kernel
theorem d_Mo_text_209 : decode b_Mo_text 209 = .ok (.aload_n 0, 1) := by decide +kernel
theorem d_Mo_text_210 : decode b_Mo_text 210 = .ok (.iload 4, 2) := by decide +kernel
theorem d_Mo_text_212 : decode b_Mo_text 212 = .ok (.iload 6, 2) := by decide +kernel
theorem d_Mo_text_214 : decode b_Mo_text 214 = .ok (.invokevirtual 168, 3) := by decide +kernel
theorem d_Mo_text_217 : decode b_Mo_text 217 = .ok (.aload_n 0, 1) := by decide +kernel
theorem d_Mo_text_218 : decode b_Mo_text 218 = .ok (.getfield 74, 3) := by decide +kernel
theorem d_Mo_text_221 : decode b_Mo_text 221 = .ok (.iload_n 3, 1) := by decide +kernel
theorem d_Mo_text_222 : decode b_Mo_text 222 = .ok (.bipush 10, 2) := by decide +kernel
theorem d_Mo_text_224 : decode b_Mo_text 224 = .ok (.iadd, 1) := by decide +kernel
theorem d_Mo_text_225 : decode b_Mo_text 225 = .ok (.iload 5, 2) := by decide +kernel
theorem d_Mo_text_227 : decode b_Mo_text 227 = .ok (.iadd, 1) := by decide +kernel
theorem d_Mo_text_228 : decode b_Mo_text 228 = .ok (.iaload, 1) := by decide +kernel
theorem d_Mo_text_229 : decode b_Mo_text 229 = .ok (.invokevirtual 175, 3) := by decide +kernel
theorem d_Mo_text_232 : decode b_Mo_text 232 = .ok (.istore 4, 2) := by decide +kernel
theorem d_Mo_text_234 : decode b_Mo_text 234 = .ok (.iinc 5 1, 3) := by decide +kernel
theorem d_Mo_text_237 : decode b_Mo_text 237 = .ok (.goto (-76), 3) := by decide +kernel
theorem d_Mo_text_240 : decode b_Mo_text 240 = .ok (.iload 4, 2) := by decide +kernel
theorem d_Mo_text_242 : decode b_Mo_text 242 = .ok (.ifCond .ge 11, 3) := by decide +kernel
theorem d_Mo_text_245 : decode b_Mo_text 245 = .ok (.iload 4, 2) := by decide +kernel
theorem d_Mo_text_247 : decode b_Mo_text 247 = .ok (.ineg, 1) := by decide +kernel
theorem d_Mo_text_248 : decode b_Mo_text 248 = .ok (.iconst 1, 1) := by decide +kernel
theorem d_Mo_text_249 : decode b_Mo_text 249 = .ok (.isub, 1) := by decide +kernel
theorem d_Mo_text_250 : decode b_Mo_text 250 = .ok (.goto 4, 3) := by decide +kernel
theorem d_Mo_text_253 : decode b_Mo_text 253 = .ok (.iconst (-1), 1) := by decide +kernel
theorem d_Mo_text_254 : decode b_Mo_text 254 = .ok (.ireturn, 1) := by decide +kernel
theorem d_Mo_thrown_0 : decode b_Mo_thrown 0 = .ok (.aload_n 0, 1) := by decide +kernel
theorem d_Mo_thrown_1 : decode b_Mo_thrown 1 = .ok (.getfield 85, 3) := by decide +kernel
theorem d_Mo_thrown_4 : decode b_Mo_thrown 4 = .ok (.ireturn, 1) := by decide +kernel
theorem d_Mo_told_0 : decode b_Mo_told 0 = .ok (.bipush 8, 2) := by decide +kernel
theorem d_Mo_told_2 : decode b_Mo_told 2 = .ok (.iload_n 1, 1) := by decide +kernel
theorem d_Mo_told_3 : decode b_Mo_told 3 = .ok (.imul, 1) := by decide +kernel
theorem d_Mo_told_4 : decode b_Mo_told 4 = .ok (.iload_n 2, 1) := by decide +kernel
theorem d_Mo_told_5 : decode b_Mo_told 5 = .ok (.iadd, 1) := by decide +kernel
theorem d_Mo_told_6 : decode b_Mo_told 6 = .ok (.istore 7, 2) := by decide +kernel
theorem d_Mo_told_8 : decode b_Mo_told 8 = .ok (.bipush 9, 2) := by decide +kernel
theorem d_Mo_told_10 : decode b_Mo_told 10 = .ok (.iload 7, 2) := by decide +kernel
theorem d_Mo_told_12 : decode b_Mo_told 12 = .ok (.imul, 1) := by decide +kernel
theorem d_Mo_told_13 : decode b_Mo_told 13 = .ok (.iconst 3, 1) := by decide +kernel
theorem d_Mo_told_14 : decode b_Mo_told 14 = .ok (.iload 4, 2) := by decide +kernel
theorem d_Mo_told_16 : decode b_Mo_told 16 = .ok (.imul, 1) := by decide +kernel
theorem d_Mo_told_17 : decode b_Mo_told 17 = .ok (.iadd, 1) := by decide +kernel
theorem d_Mo_told_18 : decode b_Mo_told 18 = .ok (.iload_n 3, 1) := by decide +kernel
theorem d_Mo_told_19 : decode b_Mo_told 19 = .ok (.iadd, 1) := by decide +kernel
theorem d_Mo_told_20 : decode b_Mo_told 20 = .ok (.istore 8, 2) := by decide +kernel
theorem d_Mo_told_22 : decode b_Mo_told 22 = .ok (.aload_n 0, 1) := by decide +kernel
theorem d_Mo_told_23 : decode b_Mo_told 23 = .ok (.getfield 68, 3) := by decide +kernel
theorem d_Mo_told_26 : decode b_Mo_told 26 = .ok (.iload 8, 2) := by decide +kernel
theorem d_Mo_told_28 : decode b_Mo_told 28 = .ok (.iaload, 1) := by decide +kernel
theorem d_Mo_told_29 : decode b_Mo_told 29 = .ok (.iload 5, 2) := by decide +kernel
theorem d_Mo_told_31 : decode b_Mo_told 31 = .ok (.if_icmp .ge 21, 3) := by decide +kernel
theorem d_Mo_told_34 : decode b_Mo_told 34 = .ok (.aload_n 0, 1) := by decide +kernel
theorem d_Mo_told_35 : decode b_Mo_told 35 = .ok (.getfield 68, 3) := by decide +kernel
theorem d_Mo_told_38 : decode b_Mo_told 38 = .ok (.iload 8, 2) := by decide +kernel
theorem d_Mo_told_40 : decode b_Mo_told 40 = .ok (.iload 5, 2) := by decide +kernel
theorem d_Mo_told_42 : decode b_Mo_told 42 = .ok (.iastore, 1) := by decide +kernel
theorem d_Mo_told_43 : decode b_Mo_told 43 = .ok (.aload_n 0, 1) := by decide +kernel
theorem d_Mo_told_44 : decode b_Mo_told 44 = .ok (.getfield 71, 3) := by decide +kernel
theorem d_Mo_told_47 : decode b_Mo_told 47 = .ok (.iload 8, 2) := by decide +kernel
theorem d_Mo_told_49 : decode b_Mo_told 49 = .ok (.iload 6, 2) := by decide +kernel
theorem d_Mo_told_51 : decode b_Mo_told 51 = .ok (.iastore, 1) := by decide +kernel
theorem d_Mo_told_52 : decode b_Mo_told 52 = .ok (.aload_n 0, 1) := by decide +kernel
theorem d_Mo_told_53 : decode b_Mo_told 53 = .ok (.getfield 56, 3) := by decide +kernel
theorem d_Mo_told_56 : decode b_Mo_told 56 = .ok (.iload 7, 2) := by decide +kernel
theorem d_Mo_told_58 : decode b_Mo_told 58 = .ok (.iaload, 1) := by decide +kernel
theorem d_Mo_told_59 : decode b_Mo_told 59 = .ok (.ifCond .lt 4, 3) := by decide +kernel
theorem d_Mo_told_62 : decode b_Mo_told 62 = .ok (.return_, 1) := by decide +kernel
theorem d_Mo_told_63 : decode b_Mo_told 63 = .ok (.iconst 1, 1) := by decide +kernel
theorem d_Mo_told_64 : decode b_Mo_told 64 = .ok (.istore 9, 2) := by decide +kernel
theorem d_Mo_told_66 : decode b_Mo_told 66 = .ok (.iconst 0, 1) := by decide +kernel
theorem d_Mo_told_67 : decode b_Mo_told 67 = .ok (.istore 10, 2) := by decide +kernel
theorem d_Mo_told_69 : decode b_Mo_told 69 = .ok (.iconst 0, 1) := by decide +kernel
theorem d_Mo_told_70 : decode b_Mo_told 70 = .ok (.istore 11, 2) := by decide +kernel
theorem d_Mo_told_72 : decode b_Mo_told 72 = .ok (.iload 11, 2) := by decide +kernel
theorem d_Mo_told_74 : decode b_Mo_told 74 = .ok (.iconst 3, 1) := by decide +kernel
theorem d_Mo_told_75 : decode b_Mo_told 75 = .ok (.if_icmp .ge 63, 3) := by decide +kernel
theorem d_Mo_told_78 : decode b_Mo_told 78 = .ok (.aload_n 0, 1) := by decide +kernel
theorem d_Mo_told_79 : decode b_Mo_told 79 = .ok (.iload_n 2, 1) := by decide +kernel
theorem d_Mo_told_80 : decode b_Mo_told 80 = .ok (.iload 11, 2) := by decide +kernel
theorem d_Mo_told_82 : decode b_Mo_told 82 = .ok (.invokevirtual 116, 3) := by decide +kernel
theorem d_Mo_told_85 : decode b_Mo_told 85 = .ok (.ifCond .ne 6, 3) := by decide +kernel
theorem d_Mo_told_88 : decode b_Mo_told 88 = .ok (.goto 44, 3) := by decide +kernel
theorem d_Mo_told_91 : decode b_Mo_told 91 = .ok (.aload_n 0, 1) := by decide +kernel
theorem d_Mo_told_92 : decode b_Mo_told 92 = .ok (.iload 7, 2) := by decide +kernel
theorem d_Mo_told_94 : decode b_Mo_told 94 = .ok (.iload 11, 2) := by decide +kernel
theorem d_Mo_told_96 : decode b_Mo_told 96 = .ok (.invokevirtual 134, 3) := by decide +kernel
theorem d_Mo_told_99 : decode b_Mo_told 99 = .ok (.istore 12, 2) := by decide +kernel
theorem d_Mo_told_101 : decode b_Mo_told 101 = .ok (.iload 10, 2) := by decide +kernel
theorem d_Mo_told_103 : decode b_Mo_told 103 = .ok (.iload 12, 2) := by decide +kernel
theorem d_Mo_told_105 : decode b_Mo_told 105 = .ok (.ifCond .ne 7, 3) := by decide +kernel
theorem d_Mo_told_108 : decode b_Mo_told 108 = .ok (.iconst 1, 1) := by decide +kernel
theorem d_Mo_told_109 : decode b_Mo_told 109 = .ok (.goto 4, 3) := by decide +kernel
theorem d_Mo_told_112 : decode b_Mo_told 112 = .ok (.iconst 0, 1) := by decide +kernel
theorem d_Mo_told_113 : decode b_Mo_told 113 = .ok (.ior, 1) := by decide +kernel
theorem d_Mo_told_114 : decode b_Mo_told 114 = .ok (.istore 10, 2) := by decide +kernel
theorem d_Mo_told_116 : decode b_Mo_told 116 = .ok (.iload 9, 2) := by decide +kernel
theorem d_Mo_told_118 : decode b_Mo_told 118 = .ok (.iload 12, 2) := by decide +kernel
theorem d_Mo_told_120 : decode b_Mo_told 120 = .ok (.iconst 1, 1) := by decide +kernel
theorem d_Mo_told_121 : decode b_Mo_told 121 = .ok (.if_icmp .ne 7, 3) := by decide +kernel
theorem d_Mo_told_124 : decode b_Mo_told 124 = .ok (.iconst 1, 1) := by decide +kernel
theorem d_Mo_told_125 : decode b_Mo_told 125 = .ok (.goto 4, 3) := by decide +kernel
theorem d_Mo_told_128 : decode b_Mo_told 128 = .ok (.iconst 0, 1) := by decide +kernel
theorem d_Mo_told_129 : decode b_Mo_told 129 = .ok (.iand, 1) := by decide +kernel
theorem d_Mo_told_130 : decode b_Mo_told 130 = .ok (.istore 9, 2) := by decide +kernel
theorem d_Mo_told_132 : decode b_Mo_told 132 = .ok (.iinc 11 1, 3) := by decide +kernel
theorem d_Mo_told_135 : decode b_Mo_told 135 = .ok (.goto (-63), 3) := by decide +kernel
theorem d_Mo_told_138 : decode b_Mo_told 138 = .ok (.iload 10, 2) := by decide +kernel
theorem d_Mo_told_140 : decode b_Mo_told 140 = .ok (.ifCond .ne 9, 3) := by decide +kernel
theorem d_Mo_told_143 : decode b_Mo_told 143 = .ok (.iload 9, 2) := by decide +kernel
theorem d_Mo_told_145 : decode b_Mo_told 145 = .ok (.ifCond .ne 4, 3) := by decide +kernel
theorem d_Mo_told_148 : decode b_Mo_told 148 = .ok (.return_, 1) := by decide +kernel
theorem d_Mo_told_149 : decode b_Mo_told 149 = .ok (.aload_n 0, 1) := by decide +kernel
theorem d_Mo_told_150 : decode b_Mo_told 150 = .ok (.getfield 56, 3) := by decide +kernel
theorem d_Mo_told_153 : decode b_Mo_told 153 = .ok (.iload 7, 2) := by decide +kernel
theorem d_Mo_told_155 : decode b_Mo_told 155 = .ok (.iload 10, 2) := by decide +kernel
theorem d_Mo_told_157 : decode b_Mo_told 157 = .ok (.ifCond .eq 7, 3) := by decide +kernel
theorem d_Mo_told_160 : decode b_Mo_told 160 = .ok (.iconst 1, 1) := by decide +kernel
theorem d_Mo_told_161 : decode b_Mo_told 161 = .ok (.goto 4, 3) := by decide +kernel
theorem d_Mo_told_164 : decode b_Mo_told 164 = .ok (.iconst 0, 1) := by decide +kernel
theorem d_Mo_told_165 : decode b_Mo_told 165 = .ok (.iastore, 1) := by decide +kernel
theorem d_Mo_told_166 : decode b_Mo_told 166 = .ok (.iconst 0, 1) := by decide +kernel
theorem d_Mo_told_167 : decode b_Mo_told 167 = .ok (.istore 11, 2) := by decide +kernel
theorem d_Mo_told_169 : decode b_Mo_told 169 = .ok (.iload 11, 2) := by decide +kernel
theorem d_Mo_told_171 : decode b_Mo_told 171 = .ok (.iconst 3, 1) := by decide +kernel
theorem d_Mo_told_172 : decode b_Mo_told 172 = .ok (.if_icmp .ge 43, 3) := by decide +kernel
theorem d_Mo_told_175 : decode b_Mo_told 175 = .ok (.aload_n 0, 1) := by decide +kernel
theorem d_Mo_told_176 : decode b_Mo_told 176 = .ok (.iload_n 2, 1) := by decide +kernel
theorem d_Mo_told_177 : decode b_Mo_told 177 = .ok (.iload 11, 2) := by decide +kernel
theorem d_Mo_told_179 : decode b_Mo_told 179 = .ok (.invokevirtual 116, 3) := by decide +kernel
theorem d_Mo_told_182 : decode b_Mo_told 182 = .ok (.ifCond .eq 27, 3) := by decide +kernel
theorem d_Mo_told_185 : decode b_Mo_told 185 = .ok (.aload_n 0, 1) := by decide +kernel
theorem d_Mo_told_186 : decode b_Mo_told 186 = .ok (.bipush 79, 2) := by decide +kernel
theorem d_Mo_told_188 : decode b_Mo_told 188 = .ok (.iload_n 2, 1) := by decide +kernel
theorem d_Mo_told_189 : decode b_Mo_told 189 = .ok (.iload 11, 2) := by decide +kernel
theorem d_Mo_told_191 : decode b_Mo_told 191 = .ok (.iconst (-1), 1) := by decide +kernel
theorem d_Mo_told_192 : decode b_Mo_told 192 = .ok (.iconst (-1), 1) := by decide +kernel
theorem d_Mo_told_193 : decode b_Mo_told 193 = .ok (.iconst (-1), 1) := by decide +kernel
theorem d_Mo_told_194 : decode b_Mo_told 194 = .ok (.iload 10, 2) := by decide +kernel
theorem d_Mo_told_196 : decode b_Mo_told 196 = .ok (.ifCond .eq 7, 3) := by decide +kernel
theorem d_Mo_told_199 : decode b_Mo_told 199 = .ok (.iconst 0, 1) := by decide +kernel
theorem d_Mo_told_200 : decode b_Mo_told 200 = .ok (.goto 4, 3) := by decide +kernel
theorem d_Mo_told_203 : decode b_Mo_told 203 = .ok (.iconst 1, 1) := by decide +kernel
theorem d_Mo_told_204 : decode b_Mo_told 204 = .ok (.invokevirtual 94, 3) := by decide +kernel
theorem d_Mo_told_207 : decode b_Mo_told 207 = .ok (.istore 12, 2) := by decide +kernel
theorem d_Mo_told_209 : decode b_Mo_told 209 = .ok (.iinc 11 1, 3) := by decide +kernel
theorem d_Mo_told_212 : decode b_Mo_told 212 = .ok (.goto (-43), 3) := by decide +kernel
theorem d_Mo_told_215 : decode b_Mo_told 215 = .ok (.return_, 1) := by decide +kernel
theorem d_Mo_unlock_0 : decode b_Mo_unlock 0 = .ok (.iconst 0, 1) := by decide +kernel
theorem d_Mo_unlock_1 : decode b_Mo_unlock 1 = .ok (.istore_n 3, 1) := by decide +kernel
theorem d_Mo_unlock_2 : decode b_Mo_unlock 2 = .ok (.iload_n 3, 1) := by decide +kernel
theorem d_Mo_unlock_3 : decode b_Mo_unlock 3 = .ok (.iconst 4, 1) := by decide +kernel
theorem d_Mo_unlock_4 : decode b_Mo_unlock 4 = .ok (.if_icmp .ge 34, 3) := by decide +kernel
theorem d_Mo_unlock_7 : decode b_Mo_unlock 7 = .ok (.aload_n 0, 1) := by decide +kernel
theorem d_Mo_unlock_8 : decode b_Mo_unlock 8 = .ok (.getfield 23, 3) := by decide +kernel
theorem d_Mo_unlock_11 : decode b_Mo_unlock 11 = .ok (.iconst 4, 1) := by decide +kernel
theorem d_Mo_unlock_12 : decode b_Mo_unlock 12 = .ok (.iload_n 2, 1) := by decide +kernel
theorem d_Mo_unlock_13 : decode b_Mo_unlock 13 = .ok (.imul, 1) := by decide +kernel
theorem d_Mo_unlock_14 : decode b_Mo_unlock 14 = .ok (.iload_n 3, 1) := by decide +kernel
theorem d_Mo_unlock_15 : decode b_Mo_unlock 15 = .ok (.iadd, 1) := by decide +kernel
theorem d_Mo_unlock_16 : decode b_Mo_unlock 16 = .ok (.iaload, 1) := by decide +kernel
theorem d_Mo_unlock_17 : decode b_Mo_unlock 17 = .ok (.iload_n 1, 1) := by decide +kernel
theorem d_Mo_unlock_18 : decode b_Mo_unlock 18 = .ok (.if_icmp .ne 14, 3) := by decide +kernel
theorem d_Mo_unlock_21 : decode b_Mo_unlock 21 = .ok (.aload_n 0, 1) := by decide +kernel
theorem d_Mo_unlock_22 : decode b_Mo_unlock 22 = .ok (.getfield 23, 3) := by decide +kernel
theorem d_Mo_unlock_25 : decode b_Mo_unlock 25 = .ok (.iconst 4, 1) := by decide +kernel
theorem d_Mo_unlock_26 : decode b_Mo_unlock 26 = .ok (.iload_n 2, 1) := by decide +kernel
theorem d_Mo_unlock_27 : decode b_Mo_unlock 27 = .ok (.imul, 1) := by decide +kernel
theorem d_Mo_unlock_28 : decode b_Mo_unlock 28 = .ok (.iload_n 3, 1) := by decide +kernel
theorem d_Mo_unlock_29 : decode b_Mo_unlock 29 = .ok (.iadd, 1) := by decide +kernel
theorem d_Mo_unlock_30 : decode b_Mo_unlock 30 = .ok (.iconst (-1), 1) := by decide +kernel
theorem d_Mo_unlock_31 : decode b_Mo_unlock 31 = .ok (.iastore, 1) := by decide +kernel
theorem d_Mo_unlock_32 : decode b_Mo_unlock 32 = .ok (.iinc 3 1, 3) := by decide +kernel
theorem d_Mo_unlock_35 : decode b_Mo_unlock 35 = .ok (.goto (-33), 3) := by decide +kernel
theorem d_Mo_unlock_38 : decode b_Mo_unlock 38 = .ok (.return_, 1) := by decide +kernel
theorem d_Mo_up_0 : decode b_Mo_up 0 = .ok (.aload_n 0, 1) := by decide +kernel
theorem d_Mo_up_1 : decode b_Mo_up 1 = .ok (.aload_n 0, 1) := by decide +kernel
theorem d_Mo_up_2 : decode b_Mo_up 2 = .ok (.iload_n 1, 1) := by decide +kernel
theorem d_Mo_up_3 : decode b_Mo_up 3 = .ok (.iconst 3, 1) := by decide +kernel
theorem d_Mo_up_4 : decode b_Mo_up 4 = .ok (.invokevirtual 109, 3) := by decide +kernel
theorem d_Mo_up_7 : decode b_Mo_up 7 = .ok (.ifCond .ne 32, 3) := by decide +kernel
theorem d_Mo_up_10 : decode b_Mo_up 10 = .ok (.aload_n 0, 1) := by decide +kernel
theorem d_Mo_up_11 : decode b_Mo_up 11 = .ok (.iload_n 2, 1) := by decide +kernel
theorem d_Mo_up_12 : decode b_Mo_up 12 = .ok (.iload_n 1, 1) := by decide +kernel
theorem d_Mo_up_13 : decode b_Mo_up 13 = .ok (.ifCond .ne 7, 3) := by decide +kernel
theorem d_Mo_up_16 : decode b_Mo_up 16 = .ok (.iconst 3, 1) := by decide +kernel
theorem d_Mo_up_17 : decode b_Mo_up 17 = .ok (.goto 16, 3) := by decide +kernel
theorem d_Mo_up_20 : decode b_Mo_up 20 = .ok (.iload_n 1, 1) := by decide +kernel
theorem d_Mo_up_21 : decode b_Mo_up 21 = .ok (.iconst 1, 1) := by decide +kernel
theorem d_Mo_up_22 : decode b_Mo_up 22 = .ok (.if_icmp .ne 10, 3) := by decide +kernel
theorem d_Mo_up_25 : decode b_Mo_up 25 = .ok (.aload_n 0, 1) := by decide +kernel
theorem d_Mo_up_26 : decode b_Mo_up 26 = .ok (.getfield 77, 3) := by decide +kernel
theorem d_Mo_up_29 : decode b_Mo_up 29 = .ok (.goto 4, 3) := by decide +kernel
theorem d_Mo_up_32 : decode b_Mo_up 32 = .ok (.iconst 2, 1) := by decide +kernel
theorem d_Mo_up_33 : decode b_Mo_up 33 = .ok (.invokevirtual 109, 3) := by decide +kernel
theorem d_Mo_up_36 : decode b_Mo_up 36 = .ok (.ifCond .eq 7, 3) := by decide +kernel
theorem d_Mo_up_39 : decode b_Mo_up 39 = .ok (.iconst 1, 1) := by decide +kernel
theorem d_Mo_up_40 : decode b_Mo_up 40 = .ok (.goto 4, 3) := by decide +kernel
theorem d_Mo_up_43 : decode b_Mo_up 43 = .ok (.iconst 0, 1) := by decide +kernel
theorem d_Mo_up_44 : decode b_Mo_up 44 = .ok (.putfield 85, 3) := by decide +kernel
theorem d_Mo_up_47 : decode b_Mo_up 47 = .ok (.aload_n 0, 1) := by decide +kernel
theorem d_Mo_up_48 : decode b_Mo_up 48 = .ok (.getfield 85, 3) := by decide +kernel
theorem d_Mo_up_51 : decode b_Mo_up 51 = .ok (.ifCond .le 5, 3) := by decide +kernel
theorem d_Mo_up_54 : decode b_Mo_up 54 = .ok (.iconst 0, 1) := by decide +kernel
theorem d_Mo_up_55 : decode b_Mo_up 55 = .ok (.ireturn, 1) := by decide +kernel
theorem d_Mo_up_56 : decode b_Mo_up 56 = .ok (.iload_n 1, 1) := by decide +kernel
theorem d_Mo_up_57 : decode b_Mo_up 57 = .ok (.ifCond .ne 20, 3) := by decide +kernel
theorem d_Mo_up_60 : decode b_Mo_up 60 = .ok (.aload_n 0, 1) := by decide +kernel
theorem d_Mo_up_61 : decode b_Mo_up 61 = .ok (.getfield 7, 3) := by decide +kernel
theorem d_Mo_up_64 : decode b_Mo_up 64 = .ok (.iload_n 2, 1) := by decide +kernel
theorem d_Mo_up_65 : decode b_Mo_up 65 = .ok (.baload, 1) := by decide +kernel
theorem d_Mo_up_66 : decode b_Mo_up 66 = .ok (.ifCond .ne 7, 3) := by decide +kernel
theorem d_Mo_up_69 : decode b_Mo_up 69 = .ok (.iconst 1, 1) := by decide +kernel
theorem d_Mo_up_70 : decode b_Mo_up 70 = .ok (.goto 43, 3) := by decide +kernel
theorem d_Mo_up_73 : decode b_Mo_up 73 = .ok (.iconst 0, 1) := by decide +kernel
theorem d_Mo_up_74 : decode b_Mo_up 74 = .ok (.goto 39, 3) := by decide +kernel
theorem d_Mo_up_77 : decode b_Mo_up 77 = .ok (.iload_n 1, 1) := by decide +kernel
theorem d_Mo_up_78 : decode b_Mo_up 78 = .ok (.iconst 1, 1) := by decide +kernel
theorem d_Mo_up_79 : decode b_Mo_up 79 = .ok (.if_icmp .ne 20, 3) := by decide +kernel
theorem d_Mo_up_82 : decode b_Mo_up 82 = .ok (.aload_n 0, 1) := by decide +kernel
theorem d_Mo_up_83 : decode b_Mo_up 83 = .ok (.getfield 13, 3) := by decide +kernel
theorem d_Mo_up_86 : decode b_Mo_up 86 = .ok (.iload_n 2, 1) := by decide +kernel
theorem d_Mo_up_87 : decode b_Mo_up 87 = .ok (.baload, 1) := by decide +kernel
theorem d_Mo_up_88 : decode b_Mo_up 88 = .ok (.ifCond .ne 7, 3) := by decide +kernel
theorem d_Mo_up_91 : decode b_Mo_up 91 = .ok (.iconst 1, 1) := by decide +kernel
theorem d_Mo_up_92 : decode b_Mo_up 92 = .ok (.goto 21, 3) := by decide +kernel
theorem d_Mo_up_95 : decode b_Mo_up 95 = .ok (.iconst 0, 1) := by decide +kernel
theorem d_Mo_up_96 : decode b_Mo_up 96 = .ok (.goto 17, 3) := by decide +kernel
theorem d_Mo_up_99 : decode b_Mo_up 99 = .ok (.aload_n 0, 1) := by decide +kernel
theorem d_Mo_up_100 : decode b_Mo_up 100 = .ok (.getfield 16, 3) := by decide +kernel
theorem d_Mo_up_103 : decode b_Mo_up 103 = .ok (.iload_n 2, 1) := by decide +kernel
theorem d_Mo_up_104 : decode b_Mo_up 104 = .ok (.baload, 1) := by decide +kernel
theorem d_Mo_up_105 : decode b_Mo_up 105 = .ok (.ifCond .ne 7, 3) := by decide +kernel
theorem d_Mo_up_108 : decode b_Mo_up 108 = .ok (.iconst 1, 1) := by decide +kernel
theorem d_Mo_up_109 : decode b_Mo_up 109 = .ok (.goto 4, 3) := by decide +kernel
theorem d_Mo_up_112 : decode b_Mo_up 112 = .ok (.iconst 0, 1) := by decide +kernel
theorem d_Mo_up_113 : decode b_Mo_up 113 = .ok (.istore 4, 2) := by decide +kernel
theorem d_Mo_up_115 : decode b_Mo_up 115 = .ok (.iload_n 1, 1) := by decide +kernel
theorem d_Mo_up_116 : decode b_Mo_up 116 = .ok (.ifCond .ne 63, 3) := by decide +kernel
theorem d_Mo_up_119 : decode b_Mo_up 119 = .ok (.aload_n 0, 1) := by decide +kernel
theorem d_Mo_up_120 : decode b_Mo_up 120 = .ok (.getfield 7, 3) := by decide +kernel
theorem d_Mo_up_123 : decode b_Mo_up 123 = .ok (.iload_n 2, 1) := by decide +kernel
theorem d_Mo_up_124 : decode b_Mo_up 124 = .ok (.iload_n 3, 1) := by decide +kernel
theorem d_Mo_up_125 : decode b_Mo_up 125 = .ok (.ifCond .ne 7, 3) := by decide +kernel
theorem d_Mo_up_128 : decode b_Mo_up 128 = .ok (.iconst 1, 1) := by decide +kernel
theorem d_Mo_up_129 : decode b_Mo_up 129 = .ok (.goto 4, 3) := by decide +kernel
theorem d_Mo_up_132 : decode b_Mo_up 132 = .ok (.iconst 0, 1) := by decide +kernel
theorem d_Mo_up_133 : decode b_Mo_up 133 = .ok (.bastore, 1) := by decide +kernel
theorem d_Mo_up_134 : decode b_Mo_up 134 = .ok (.iconst 0, 1) := by decide +kernel
theorem d_Mo_up_135 : decode b_Mo_up 135 = .ok (.istore 5, 2) := by decide +kernel
theorem d_Mo_up_137 : decode b_Mo_up 137 = .ok (.iload 5, 2) := by decide +kernel
theorem d_Mo_up_139 : decode b_Mo_up 139 = .ok (.bipush 8, 2) := by decide +kernel
theorem d_Mo_up_141 : decode b_Mo_up 141 = .ok (.if_icmp .ge 35, 3) := by decide +kernel
theorem d_Mo_up_144 : decode b_Mo_up 144 = .ok (.iload_n 3, 1) := by decide +kernel
theorem d_Mo_up_145 : decode b_Mo_up 145 = .ok (.ifCond .ne 25, 3) := by decide +kernel
theorem d_Mo_up_148 : decode b_Mo_up 148 = .ok (.aload_n 0, 1) := by decide +kernel
theorem d_Mo_up_149 : decode b_Mo_up 149 = .ok (.getfield 32, 3) := by decide +kernel
theorem d_Mo_up_152 : decode b_Mo_up 152 = .ok (.iconst 3, 1) := by decide +kernel
theorem d_Mo_up_153 : decode b_Mo_up 153 = .ok (.iload 5, 2) := by decide +kernel
theorem d_Mo_up_155 : decode b_Mo_up 155 = .ok (.imul, 1) := by decide +kernel
theorem d_Mo_up_156 : decode b_Mo_up 156 = .ok (.iload_n 2, 1) := by decide +kernel
theorem d_Mo_up_157 : decode b_Mo_up 157 = .ok (.iadd, 1) := by decide +kernel
theorem d_Mo_up_158 : decode b_Mo_up 158 = .ok (.iaload, 1) := by decide +kernel
theorem d_Mo_up_159 : decode b_Mo_up 159 = .ok (.iconst 1, 1) := by decide +kernel
theorem d_Mo_up_160 : decode b_Mo_up 160 = .ok (.if_icmp .ne 10, 3) := by decide +kernel
theorem d_Mo_up_163 : decode b_Mo_up 163 = .ok (.aload_n 0, 1) := by decide +kernel
theorem d_Mo_up_164 : decode b_Mo_up 164 = .ok (.iload 5, 2) := by decide +kernel
theorem d_Mo_up_166 : decode b_Mo_up 166 = .ok (.iload_n 2, 1) := by decide +kernel
theorem d_Mo_up_167 : decode b_Mo_up 167 = .ok (.invokevirtual 119, 3) := by decide +kernel
theorem d_Mo_up_170 : decode b_Mo_up 170 = .ok (.iinc 5 1, 3) := by decide +kernel
theorem d_Mo_up_173 : decode b_Mo_up 173 = .ok (.goto (-36), 3) := by decide +kernel
theorem d_Mo_up_176 : decode b_Mo_up 176 = .ok (.goto 50, 3) := by decide +kernel
theorem d_Mo_up_179 : decode b_Mo_up 179 = .ok (.iload_n 1, 1) := by decide +kernel
theorem d_Mo_up_180 : decode b_Mo_up 180 = .ok (.iconst 1, 1) := by decide +kernel
theorem d_Mo_up_181 : decode b_Mo_up 181 = .ok (.if_icmp .ne 21, 3) := by decide +kernel
theorem d_Mo_up_184 : decode b_Mo_up 184 = .ok (.aload_n 0, 1) := by decide +kernel
theorem d_Mo_up_185 : decode b_Mo_up 185 = .ok (.getfield 13, 3) := by decide +kernel
theorem d_Mo_up_188 : decode b_Mo_up 188 = .ok (.iload_n 2, 1) := by decide +kernel
theorem d_Mo_up_189 : decode b_Mo_up 189 = .ok (.iload_n 3, 1) := by decide +kernel
theorem d_Mo_up_190 : decode b_Mo_up 190 = .ok (.ifCond .ne 7, 3) := by decide +kernel
theorem d_Mo_up_193 : decode b_Mo_up 193 = .ok (.iconst 1, 1) := by decide +kernel
theorem d_Mo_up_194 : decode b_Mo_up 194 = .ok (.goto 4, 3) := by decide +kernel
theorem d_Mo_up_197 : decode b_Mo_up 197 = .ok (.iconst 0, 1) := by decide +kernel
theorem d_Mo_up_198 : decode b_Mo_up 198 = .ok (.bastore, 1) := by decide +kernel
theorem d_Mo_up_199 : decode b_Mo_up 199 = .ok (.goto 27, 3) := by decide +kernel
theorem d_Mo_up_202 : decode b_Mo_up 202 = .ok (.aload_n 0, 1) := by decide +kernel
theorem d_Mo_up_203 : decode b_Mo_up 203 = .ok (.getfield 16, 3) := by decide +kernel
theorem d_Mo_up_206 : decode b_Mo_up 206 = .ok (.iload_n 2, 1) := by decide +kernel
theorem d_Mo_up_207 : decode b_Mo_up 207 = .ok (.iload_n 3, 1) := by decide +kernel
theorem d_Mo_up_208 : decode b_Mo_up 208 = .ok (.ifCond .ne 7, 3) := by decide +kernel
theorem d_Mo_up_211 : decode b_Mo_up 211 = .ok (.iconst 1, 1) := by decide +kernel
theorem d_Mo_up_212 : decode b_Mo_up 212 = .ok (.goto 4, 3) := by decide +kernel
theorem d_Mo_up_215 : decode b_Mo_up 215 = .ok (.iconst 0, 1) := by decide +kernel
theorem d_Mo_up_216 : decode b_Mo_up 216 = .ok (.bastore, 1) := by decide +kernel
theorem d_Mo_up_217 : decode b_Mo_up 217 = .ok (.iload_n 3, 1) := by decide +kernel
theorem d_Mo_up_218 : decode b_Mo_up 218 = .ok (.ifCond .ne 8, 3) := by decide +kernel
theorem d_Mo_up_221 : decode b_Mo_up 221 = .ok (.aload_n 0, 1) := by decide +kernel
theorem d_Mo_up_222 : decode b_Mo_up 222 = .ok (.iload_n 2, 1) := by decide +kernel
theorem d_Mo_up_223 : decode b_Mo_up 223 = .ok (.invokevirtual 81, 3) := by decide +kernel
theorem d_Mo_up_226 : decode b_Mo_up 226 = .ok (.iload 4, 2) := by decide +kernel
theorem d_Mo_up_228 : decode b_Mo_up 228 = .ok (.ireturn, 1) := by decide +kernel
theorem d_Mo_upSet_0 : decode b_Mo_upSet 0 = .ok (.iconst 0, 1) := by decide +kernel
theorem d_Mo_upSet_1 : decode b_Mo_upSet 1 = .ok (.istore_n 3, 1) := by decide +kernel
theorem d_Mo_upSet_2 : decode b_Mo_upSet 2 = .ok (.iconst 0, 1) := by decide +kernel
theorem d_Mo_upSet_3 : decode b_Mo_upSet 3 = .ok (.istore 4, 2) := by decide +kernel
theorem d_Mo_upSet_5 : decode b_Mo_upSet 5 = .ok (.iload 4, 2) := by decide +kernel
theorem d_Mo_upSet_7 : decode b_Mo_upSet 7 = .ok (.iload_n 2, 1) := by decide +kernel
theorem d_Mo_upSet_8 : decode b_Mo_upSet 8 = .ok (.if_icmp .ge 27, 3) := by decide +kernel
theorem d_Mo_upSet_11 : decode b_Mo_upSet 11 = .ok (.iload_n 3, 1) := by decide +kernel
theorem d_Mo_upSet_12 : decode b_Mo_upSet 12 = .ok (.aload_n 1, 1) := by decide +kernel
theorem d_Mo_upSet_13 : decode b_Mo_upSet 13 = .ok (.iload 4, 2) := by decide +kernel
theorem d_Mo_upSet_15 : decode b_Mo_upSet 15 = .ok (.baload, 1) := by decide +kernel
theorem d_Mo_upSet_16 : decode b_Mo_upSet 16 = .ok (.ifCond .eq 7, 3) := by decide +kernel
theorem d_Mo_upSet_19 : decode b_Mo_upSet 19 = .ok (.iconst 0, 1) := by decide +kernel
theorem d_Mo_upSet_20 : decode b_Mo_upSet 20 = .ok (.goto 7, 3) := by decide +kernel
theorem d_Mo_upSet_23 : decode b_Mo_upSet 23 = .ok (.iconst 1, 1) := by decide +kernel
theorem d_Mo_upSet_24 : decode b_Mo_upSet 24 = .ok (.iload 4, 2) := by decide +kernel
theorem d_Mo_upSet_26 : decode b_Mo_upSet 26 = .ok (.ishl, 1) := by decide +kernel
theorem d_Mo_upSet_27 : decode b_Mo_upSet 27 = .ok (.ior, 1) := by decide +kernel
theorem d_Mo_upSet_28 : decode b_Mo_upSet 28 = .ok (.istore_n 3, 1) := by decide +kernel
theorem d_Mo_upSet_29 : decode b_Mo_upSet 29 = .ok (.iinc 4 1, 3) := by decide +kernel
theorem d_Mo_upSet_32 : decode b_Mo_upSet 32 = .ok (.goto (-27), 3) := by decide +kernel
theorem d_Mo_upSet_35 : decode b_Mo_upSet 35 = .ok (.iload_n 3, 1) := by decide +kernel
