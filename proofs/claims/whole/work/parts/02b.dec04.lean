theorem d_Mo_upSet_36 : decode b_Mo_upSet 36 = .ok (.ireturn, 1) := by decide +kernel
theorem d_Mo_value_0 : decode b_Mo_value 0 = .ok (.aload_n 0, 1) := by decide +kernel
theorem d_Mo_value_1 : decode b_Mo_value 1 = .ok (.iconst 0, 1) := by decide +kernel
theorem d_Mo_value_2 : decode b_Mo_value 2 = .ok (.putfield 85, 3) := by decide +kernel
theorem d_Mo_value_5 : decode b_Mo_value 5 = .ok (.aload_n 0, 1) := by decide +kernel
theorem d_Mo_value_6 : decode b_Mo_value 6 = .ok (.iload_n 1, 1) := by decide +kernel
theorem d_Mo_value_7 : decode b_Mo_value 7 = .ok (.iconst 3, 1) := by decide +kernel
theorem d_Mo_value_8 : decode b_Mo_value 8 = .ok (.invokevirtual 109, 3) := by decide +kernel
theorem d_Mo_value_11 : decode b_Mo_value 11 = .ok (.ifCond .ne 12, 3) := by decide +kernel
theorem d_Mo_value_14 : decode b_Mo_value 14 = .ok (.aload_n 0, 1) := by decide +kernel
theorem d_Mo_value_15 : decode b_Mo_value 15 = .ok (.iload_n 2, 1) := by decide +kernel
theorem d_Mo_value_16 : decode b_Mo_value 16 = .ok (.iconst 4, 1) := by decide +kernel
theorem d_Mo_value_17 : decode b_Mo_value 17 = .ok (.invokevirtual 109, 3) := by decide +kernel
theorem d_Mo_value_20 : decode b_Mo_value 20 = .ok (.ifCond .eq 11, 3) := by decide +kernel
theorem d_Mo_value_23 : decode b_Mo_value 23 = .ok (.aload_n 0, 1) := by decide +kernel
theorem d_Mo_value_24 : decode b_Mo_value 24 = .ok (.iconst 1, 1) := by decide +kernel
theorem d_Mo_value_25 : decode b_Mo_value 25 = .ok (.invokevirtual 105, 3) := by decide +kernel
theorem d_Mo_value_28 : decode b_Mo_value 28 = .ok (.goto 13, 3) := by decide +kernel
theorem d_Mo_value_31 : decode b_Mo_value 31 = .ok (.aload_n 0, 1) := by decide +kernel
theorem d_Mo_value_32 : decode b_Mo_value 32 = .ok (.getfield 19, 3) := by decide +kernel
theorem d_Mo_value_35 : decode b_Mo_value 35 = .ok (.iconst 4, 1) := by decide +kernel
theorem d_Mo_value_36 : decode b_Mo_value 36 = .ok (.iload_n 1, 1) := by decide +kernel
theorem d_Mo_value_37 : decode b_Mo_value 37 = .ok (.imul, 1) := by decide +kernel
theorem d_Mo_value_38 : decode b_Mo_value 38 = .ok (.iload_n 2, 1) := by decide +kernel
theorem d_Mo_value_39 : decode b_Mo_value 39 = .ok (.iadd, 1) := by decide +kernel
theorem d_Mo_value_40 : decode b_Mo_value 40 = .ok (.iaload, 1) := by decide +kernel
theorem d_Mo_value_41 : decode b_Mo_value 41 = .ok (.ireturn, 1) := by decide +kernel
theorem d_Mo_vote_0 : decode b_Mo_vote 0 = .ok (.iconst 0, 1) := by decide +kernel
theorem d_Mo_vote_1 : decode b_Mo_vote 1 = .ok (.istore 5, 2) := by decide +kernel
theorem d_Mo_vote_3 : decode b_Mo_vote 3 = .ok (.iload 5, 2) := by decide +kernel
theorem d_Mo_vote_5 : decode b_Mo_vote 5 = .ok (.aload_n 0, 1) := by decide +kernel
theorem d_Mo_vote_6 : decode b_Mo_vote 6 = .ok (.getfield 77, 3) := by decide +kernel
theorem d_Mo_vote_9 : decode b_Mo_vote 9 = .ok (.if_icmp .ge 25, 3) := by decide +kernel
theorem d_Mo_vote_12 : decode b_Mo_vote 12 = .ok (.aload_n 0, 1) := by decide +kernel
theorem d_Mo_vote_13 : decode b_Mo_vote 13 = .ok (.bipush 86, 2) := by decide +kernel
theorem d_Mo_vote_15 : decode b_Mo_vote 15 = .ok (.iload_n 1, 1) := by decide +kernel
theorem d_Mo_vote_16 : decode b_Mo_vote 16 = .ok (.iload_n 2, 1) := by decide +kernel
theorem d_Mo_vote_17 : decode b_Mo_vote 17 = .ok (.iload 5, 2) := by decide +kernel
theorem d_Mo_vote_19 : decode b_Mo_vote 19 = .ok (.iconst (-1), 1) := by decide +kernel
theorem d_Mo_vote_20 : decode b_Mo_vote 20 = .ok (.iload_n 3, 1) := by decide +kernel
theorem d_Mo_vote_21 : decode b_Mo_vote 21 = .ok (.iload 4, 2) := by decide +kernel
theorem d_Mo_vote_23 : decode b_Mo_vote 23 = .ok (.invokevirtual 94, 3) := by decide +kernel
theorem d_Mo_vote_26 : decode b_Mo_vote 26 = .ok (.istore 6, 2) := by decide +kernel
theorem d_Mo_vote_28 : decode b_Mo_vote 28 = .ok (.iinc 5 1, 3) := by decide +kernel
theorem d_Mo_vote_31 : decode b_Mo_vote 31 = .ok (.goto (-28), 3) := by decide +kernel
theorem d_Mo_vote_34 : decode b_Mo_vote 34 = .ok (.return_, 1) := by decide +kernel
theorem d_Mo_write_0 : decode b_Mo_write 0 = .ok (.aload_n 0, 1) := by decide +kernel
theorem d_Mo_write_1 : decode b_Mo_write 1 = .ok (.iconst 0, 1) := by decide +kernel
theorem d_Mo_write_2 : decode b_Mo_write 2 = .ok (.putfield 85, 3) := by decide +kernel
theorem d_Mo_write_5 : decode b_Mo_write 5 = .ok (.aload_n 0, 1) := by decide +kernel
theorem d_Mo_write_6 : decode b_Mo_write 6 = .ok (.iload_n 1, 1) := by decide +kernel
theorem d_Mo_write_7 : decode b_Mo_write 7 = .ok (.bipush 8, 2) := by decide +kernel
theorem d_Mo_write_9 : decode b_Mo_write 9 = .ok (.invokevirtual 109, 3) := by decide +kernel
theorem d_Mo_write_12 : decode b_Mo_write 12 = .ok (.ifCond .ne 21, 3) := by decide +kernel
theorem d_Mo_write_15 : decode b_Mo_write 15 = .ok (.aload_n 0, 1) := by decide +kernel
theorem d_Mo_write_16 : decode b_Mo_write 16 = .ok (.iload_n 2, 1) := by decide +kernel
theorem d_Mo_write_17 : decode b_Mo_write 17 = .ok (.iconst 3, 1) := by decide +kernel
theorem d_Mo_write_18 : decode b_Mo_write 18 = .ok (.invokevirtual 109, 3) := by decide +kernel
theorem d_Mo_write_21 : decode b_Mo_write 21 = .ok (.ifCond .ne 12, 3) := by decide +kernel
theorem d_Mo_write_24 : decode b_Mo_write 24 = .ok (.aload_n 0, 1) := by decide +kernel
theorem d_Mo_write_25 : decode b_Mo_write 25 = .ok (.iload_n 3, 1) := by decide +kernel
theorem d_Mo_write_26 : decode b_Mo_write 26 = .ok (.iconst 4, 1) := by decide +kernel
theorem d_Mo_write_27 : decode b_Mo_write 27 = .ok (.invokevirtual 109, 3) := by decide +kernel
theorem d_Mo_write_30 : decode b_Mo_write 30 = .ok (.ifCond .eq 9, 3) := by decide +kernel
theorem d_Mo_write_33 : decode b_Mo_write 33 = .ok (.aload_n 0, 1) := by decide +kernel
theorem d_Mo_write_34 : decode b_Mo_write 34 = .ok (.iconst 1, 1) := by decide +kernel
theorem d_Mo_write_35 : decode b_Mo_write 35 = .ok (.invokevirtual 105, 3) := by decide +kernel
theorem d_Mo_write_38 : decode b_Mo_write 38 = .ok (.ireturn, 1) := by decide +kernel
theorem d_Mo_write_39 : decode b_Mo_write 39 = .ok (.iload_n 1, 1) := by decide +kernel
theorem d_Mo_write_40 : decode b_Mo_write 40 = .ok (.aload_n 0, 1) := by decide +kernel
theorem d_Mo_write_41 : decode b_Mo_write 41 = .ok (.getfield 102, 3) := by decide +kernel
theorem d_Mo_write_44 : decode b_Mo_write 44 = .ok (.if_icmp .lt 9, 3) := by decide +kernel
theorem d_Mo_write_47 : decode b_Mo_write 47 = .ok (.aload_n 0, 1) := by decide +kernel
theorem d_Mo_write_48 : decode b_Mo_write 48 = .ok (.iconst 2, 1) := by decide +kernel
theorem d_Mo_write_49 : decode b_Mo_write 49 = .ok (.invokevirtual 105, 3) := by decide +kernel
theorem d_Mo_write_52 : decode b_Mo_write 52 = .ok (.ireturn, 1) := by decide +kernel
theorem d_Mo_write_53 : decode b_Mo_write 53 = .ok (.aload_n 0, 1) := by decide +kernel
theorem d_Mo_write_54 : decode b_Mo_write 54 = .ok (.getfield 23, 3) := by decide +kernel
theorem d_Mo_write_57 : decode b_Mo_write 57 = .ok (.iconst 4, 1) := by decide +kernel
theorem d_Mo_write_58 : decode b_Mo_write 58 = .ok (.iload_n 2, 1) := by decide +kernel
theorem d_Mo_write_59 : decode b_Mo_write 59 = .ok (.imul, 1) := by decide +kernel
theorem d_Mo_write_60 : decode b_Mo_write 60 = .ok (.iload_n 3, 1) := by decide +kernel
theorem d_Mo_write_61 : decode b_Mo_write 61 = .ok (.iadd, 1) := by decide +kernel
theorem d_Mo_write_62 : decode b_Mo_write 62 = .ok (.iaload, 1) := by decide +kernel
theorem d_Mo_write_63 : decode b_Mo_write 63 = .ok (.istore 5, 2) := by decide +kernel
theorem d_Mo_write_65 : decode b_Mo_write 65 = .ok (.aload_n 0, 1) := by decide +kernel
theorem d_Mo_write_66 : decode b_Mo_write 66 = .ok (.getfield 7, 3) := by decide +kernel
theorem d_Mo_write_69 : decode b_Mo_write 69 = .ok (.iload_n 2, 1) := by decide +kernel
theorem d_Mo_write_70 : decode b_Mo_write 70 = .ok (.baload, 1) := by decide +kernel
theorem d_Mo_write_71 : decode b_Mo_write 71 = .ok (.ifCond .ne 14, 3) := by decide +kernel
theorem d_Mo_write_74 : decode b_Mo_write 74 = .ok (.iload 5, 2) := by decide +kernel
theorem d_Mo_write_76 : decode b_Mo_write 76 = .ok (.ifCond .lt 15, 3) := by decide +kernel
theorem d_Mo_write_79 : decode b_Mo_write 79 = .ok (.iload 5, 2) := by decide +kernel
theorem d_Mo_write_81 : decode b_Mo_write 81 = .ok (.iload_n 1, 1) := by decide +kernel
theorem d_Mo_write_82 : decode b_Mo_write 82 = .ok (.if_icmp .eq 9, 3) := by decide +kernel
theorem d_Mo_write_85 : decode b_Mo_write 85 = .ok (.aload_n 0, 1) := by decide +kernel
theorem d_Mo_write_86 : decode b_Mo_write 86 = .ok (.iconst 3, 1) := by decide +kernel
theorem d_Mo_write_87 : decode b_Mo_write 87 = .ok (.invokevirtual 105, 3) := by decide +kernel
theorem d_Mo_write_90 : decode b_Mo_write 90 = .ok (.ireturn, 1) := by decide +kernel
theorem d_Mo_write_91 : decode b_Mo_write 91 = .ok (.iconst 3, 1) := by decide +kernel
theorem d_Mo_write_92 : decode b_Mo_write 92 = .ok (.iload_n 1, 1) := by decide +kernel
theorem d_Mo_write_93 : decode b_Mo_write 93 = .ok (.imul, 1) := by decide +kernel
theorem d_Mo_write_94 : decode b_Mo_write 94 = .ok (.iload_n 2, 1) := by decide +kernel
theorem d_Mo_write_95 : decode b_Mo_write 95 = .ok (.iadd, 1) := by decide +kernel
theorem d_Mo_write_96 : decode b_Mo_write 96 = .ok (.istore 6, 2) := by decide +kernel
theorem d_Mo_write_98 : decode b_Mo_write 98 = .ok (.aload_n 0, 1) := by decide +kernel
theorem d_Mo_write_99 : decode b_Mo_write 99 = .ok (.getfield 29, 3) := by decide +kernel
theorem d_Mo_write_102 : decode b_Mo_write 102 = .ok (.iload_n 1, 1) := by decide +kernel
theorem d_Mo_write_103 : decode b_Mo_write 103 = .ok (.baload, 1) := by decide +kernel
theorem d_Mo_write_104 : decode b_Mo_write 104 = .ok (.ifCond .ne 14, 3) := by decide +kernel
theorem d_Mo_write_107 : decode b_Mo_write 107 = .ok (.aload_n 0, 1) := by decide +kernel
theorem d_Mo_write_108 : decode b_Mo_write 108 = .ok (.getfield 32, 3) := by decide +kernel
theorem d_Mo_write_111 : decode b_Mo_write 111 = .ok (.iload 6, 2) := by decide +kernel
theorem d_Mo_write_113 : decode b_Mo_write 113 = .ok (.iaload, 1) := by decide +kernel
theorem d_Mo_write_114 : decode b_Mo_write 114 = .ok (.iconst 1, 1) := by decide +kernel
theorem d_Mo_write_115 : decode b_Mo_write 115 = .ok (.if_icmp .le 9, 3) := by decide +kernel
theorem d_Mo_write_118 : decode b_Mo_write 118 = .ok (.aload_n 0, 1) := by decide +kernel
theorem d_Mo_write_119 : decode b_Mo_write 119 = .ok (.iconst 4, 1) := by decide +kernel
theorem d_Mo_write_120 : decode b_Mo_write 120 = .ok (.invokevirtual 105, 3) := by decide +kernel
theorem d_Mo_write_123 : decode b_Mo_write 123 = .ok (.ireturn, 1) := by decide +kernel
theorem d_Mo_write_124 : decode b_Mo_write 124 = .ok (.aload_n 0, 1) := by decide +kernel
theorem d_Mo_write_125 : decode b_Mo_write 125 = .ok (.getfield 32, 3) := by decide +kernel
theorem d_Mo_write_128 : decode b_Mo_write 128 = .ok (.iload 6, 2) := by decide +kernel
theorem d_Mo_write_130 : decode b_Mo_write 130 = .ok (.iconst 1, 1) := by decide +kernel
theorem d_Mo_write_131 : decode b_Mo_write 131 = .ok (.iastore, 1) := by decide +kernel
theorem d_Mo_write_132 : decode b_Mo_write 132 = .ok (.aload_n 0, 1) := by decide +kernel
theorem d_Mo_write_133 : decode b_Mo_write 133 = .ok (.getfield 26, 3) := by decide +kernel
theorem d_Mo_write_136 : decode b_Mo_write 136 = .ok (.iload_n 1, 1) := by decide +kernel
theorem d_Mo_write_137 : decode b_Mo_write 137 = .ok (.dup2, 1) := by decide +kernel
theorem d_Mo_write_138 : decode b_Mo_write 138 = .ok (.iaload, 1) := by decide +kernel
theorem d_Mo_write_139 : decode b_Mo_write 139 = .ok (.iconst 1, 1) := by decide +kernel
theorem d_Mo_write_140 : decode b_Mo_write 140 = .ok (.iload_n 2, 1) := by decide +kernel
theorem d_Mo_write_141 : decode b_Mo_write 141 = .ok (.ishl, 1) := by decide +kernel
theorem d_Mo_write_142 : decode b_Mo_write 142 = .ok (.ior, 1) := by decide +kernel
theorem d_Mo_write_143 : decode b_Mo_write 143 = .ok (.iastore, 1) := by decide +kernel
theorem d_Mo_write_144 : decode b_Mo_write 144 = .ok (.aload_n 0, 1) := by decide +kernel
theorem d_Mo_write_145 : decode b_Mo_write 145 = .ok (.getfield 23, 3) := by decide +kernel
theorem d_Mo_write_148 : decode b_Mo_write 148 = .ok (.iconst 4, 1) := by decide +kernel
theorem d_Mo_write_149 : decode b_Mo_write 149 = .ok (.iload_n 2, 1) := by decide +kernel
theorem d_Mo_write_150 : decode b_Mo_write 150 = .ok (.imul, 1) := by decide +kernel
theorem d_Mo_write_151 : decode b_Mo_write 151 = .ok (.iload_n 3, 1) := by decide +kernel
theorem d_Mo_write_152 : decode b_Mo_write 152 = .ok (.iadd, 1) := by decide +kernel
theorem d_Mo_write_153 : decode b_Mo_write 153 = .ok (.iload_n 1, 1) := by decide +kernel
theorem d_Mo_write_154 : decode b_Mo_write 154 = .ok (.iastore, 1) := by decide +kernel
theorem d_Mo_write_155 : decode b_Mo_write 155 = .ok (.aload_n 0, 1) := by decide +kernel
theorem d_Mo_write_156 : decode b_Mo_write 156 = .ok (.getfield 35, 3) := by decide +kernel
theorem d_Mo_write_159 : decode b_Mo_write 159 = .ok (.iload 6, 2) := by decide +kernel
theorem d_Mo_write_161 : decode b_Mo_write 161 = .ok (.dup2, 1) := by decide +kernel
theorem d_Mo_write_162 : decode b_Mo_write 162 = .ok (.iaload, 1) := by decide +kernel
theorem d_Mo_write_163 : decode b_Mo_write 163 = .ok (.iconst 1, 1) := by decide +kernel
theorem d_Mo_write_164 : decode b_Mo_write 164 = .ok (.iload_n 3, 1) := by decide +kernel
theorem d_Mo_write_165 : decode b_Mo_write 165 = .ok (.ishl, 1) := by decide +kernel
theorem d_Mo_write_166 : decode b_Mo_write 166 = .ok (.ior, 1) := by decide +kernel
theorem d_Mo_write_167 : decode b_Mo_write 167 = .ok (.iastore, 1) := by decide +kernel
theorem d_Mo_write_168 : decode b_Mo_write 168 = .ok (.aload_n 0, 1) := by decide +kernel
theorem d_Mo_write_169 : decode b_Mo_write 169 = .ok (.getfield 38, 3) := by decide +kernel
theorem d_Mo_write_172 : decode b_Mo_write 172 = .ok (.iconst 4, 1) := by decide +kernel
theorem d_Mo_write_173 : decode b_Mo_write 173 = .ok (.iload 6, 2) := by decide +kernel
theorem d_Mo_write_175 : decode b_Mo_write 175 = .ok (.imul, 1) := by decide +kernel
theorem d_Mo_write_176 : decode b_Mo_write 176 = .ok (.iload_n 3, 1) := by decide +kernel
theorem d_Mo_write_177 : decode b_Mo_write 177 = .ok (.iadd, 1) := by decide +kernel
theorem d_Mo_write_178 : decode b_Mo_write 178 = .ok (.iload 4, 2) := by decide +kernel
theorem d_Mo_write_180 : decode b_Mo_write 180 = .ok (.iastore, 1) := by decide +kernel
theorem d_Mo_write_181 : decode b_Mo_write 181 = .ok (.aload_n 0, 1) := by decide +kernel
theorem d_Mo_write_182 : decode b_Mo_write 182 = .ok (.aload_n 0, 1) := by decide +kernel
theorem d_Mo_write_183 : decode b_Mo_write 183 = .ok (.getfield 35, 3) := by decide +kernel
theorem d_Mo_write_186 : decode b_Mo_write 186 = .ok (.iload 6, 2) := by decide +kernel
theorem d_Mo_write_188 : decode b_Mo_write 188 = .ok (.iaload, 1) := by decide +kernel
theorem d_Mo_write_189 : decode b_Mo_write 189 = .ok (.invokevirtual 113, 3) := by decide +kernel
theorem d_Mo_write_192 : decode b_Mo_write 192 = .ok (.ireturn, 1) := by decide +kernel
theorem d_Msg_clear_0 : decode b_Msg_clear 0 = .ok (.aload_n 0, 1) := by decide +kernel
theorem d_Msg_clear_1 : decode b_Msg_clear 1 = .ok (.iload_n 1, 1) := by decide +kernel
theorem d_Msg_clear_2 : decode b_Msg_clear 2 = .ok (.putfield 9, 3) := by decide +kernel
theorem d_Msg_clear_5 : decode b_Msg_clear 5 = .ok (.aload_n 0, 1) := by decide +kernel
theorem d_Msg_clear_6 : decode b_Msg_clear 6 = .ok (.iload_n 2, 1) := by decide +kernel
theorem d_Msg_clear_7 : decode b_Msg_clear 7 = .ok (.putfield 15, 3) := by decide +kernel
theorem d_Msg_clear_10 : decode b_Msg_clear 10 = .ok (.aload_n 0, 1) := by decide +kernel
theorem d_Msg_clear_11 : decode b_Msg_clear 11 = .ok (.iconst (-1), 1) := by decide +kernel
theorem d_Msg_clear_12 : decode b_Msg_clear 12 = .ok (.putfield 18, 3) := by decide +kernel
theorem d_Msg_clear_15 : decode b_Msg_clear 15 = .ok (.aload_n 0, 1) := by decide +kernel
theorem d_Msg_clear_16 : decode b_Msg_clear 16 = .ok (.iconst (-1), 1) := by decide +kernel
theorem d_Msg_clear_17 : decode b_Msg_clear 17 = .ok (.putfield 21, 3) := by decide +kernel
theorem d_Msg_clear_20 : decode b_Msg_clear 20 = .ok (.aload_n 0, 1) := by decide +kernel
theorem d_Msg_clear_21 : decode b_Msg_clear 21 = .ok (.iconst (-1), 1) := by decide +kernel
theorem d_Msg_clear_22 : decode b_Msg_clear 22 = .ok (.putfield 24, 3) := by decide +kernel
theorem d_Msg_clear_25 : decode b_Msg_clear 25 = .ok (.aload_n 0, 1) := by decide +kernel
theorem d_Msg_clear_26 : decode b_Msg_clear 26 = .ok (.iconst (-1), 1) := by decide +kernel
theorem d_Msg_clear_27 : decode b_Msg_clear 27 = .ok (.putfield 27, 3) := by decide +kernel
theorem d_Msg_clear_30 : decode b_Msg_clear 30 = .ok (.aload_n 0, 1) := by decide +kernel
theorem d_Msg_clear_31 : decode b_Msg_clear 31 = .ok (.iconst (-1), 1) := by decide +kernel
theorem d_Msg_clear_32 : decode b_Msg_clear 32 = .ok (.putfield 30, 3) := by decide +kernel
theorem d_Msg_clear_35 : decode b_Msg_clear 35 = .ok (.aload_n 0, 1) := by decide +kernel
theorem d_Msg_clear_36 : decode b_Msg_clear 36 = .ok (.getfield 33, 3) := by decide +kernel
theorem d_Msg_clear_39 : decode b_Msg_clear 39 = .ok (.iconst (-1), 1) := by decide +kernel
theorem d_Msg_clear_40 : decode b_Msg_clear 40 = .ok (.invokestatic 37, 3) := by decide +kernel
theorem d_Msg_clear_43 : decode b_Msg_clear 43 = .ok (.return_, 1) := by decide +kernel
theorem d_Msg_copyFrom_0 : decode b_Msg_copyFrom 0 = .ok (.aload_n 0, 1) := by decide +kernel
theorem d_Msg_copyFrom_1 : decode b_Msg_copyFrom 1 = .ok (.aload_n 1, 1) := by decide +kernel
theorem d_Msg_copyFrom_2 : decode b_Msg_copyFrom 2 = .ok (.getfield 9, 3) := by decide +kernel
theorem d_Msg_copyFrom_5 : decode b_Msg_copyFrom 5 = .ok (.putfield 9, 3) := by decide +kernel
theorem d_Msg_copyFrom_8 : decode b_Msg_copyFrom 8 = .ok (.aload_n 0, 1) := by decide +kernel
theorem d_Msg_copyFrom_9 : decode b_Msg_copyFrom 9 = .ok (.aload_n 1, 1) := by decide +kernel
theorem d_Msg_copyFrom_10 : decode b_Msg_copyFrom 10 = .ok (.getfield 15, 3) := by decide +kernel
theorem d_Msg_copyFrom_13 : decode b_Msg_copyFrom 13 = .ok (.putfield 15, 3) := by decide +kernel
theorem d_Msg_copyFrom_16 : decode b_Msg_copyFrom 16 = .ok (.aload_n 0, 1) := by decide +kernel
theorem d_Msg_copyFrom_17 : decode b_Msg_copyFrom 17 = .ok (.aload_n 1, 1) := by decide +kernel
theorem d_Msg_copyFrom_18 : decode b_Msg_copyFrom 18 = .ok (.getfield 18, 3) := by decide +kernel
theorem d_Msg_copyFrom_21 : decode b_Msg_copyFrom 21 = .ok (.putfield 18, 3) := by decide +kernel
theorem d_Msg_copyFrom_24 : decode b_Msg_copyFrom 24 = .ok (.aload_n 0, 1) := by decide +kernel
theorem d_Msg_copyFrom_25 : decode b_Msg_copyFrom 25 = .ok (.aload_n 1, 1) := by decide +kernel
theorem d_Msg_copyFrom_26 : decode b_Msg_copyFrom 26 = .ok (.getfield 21, 3) := by decide +kernel
theorem d_Msg_copyFrom_29 : decode b_Msg_copyFrom 29 = .ok (.putfield 21, 3) := by decide +kernel
theorem d_Msg_copyFrom_32 : decode b_Msg_copyFrom 32 = .ok (.aload_n 0, 1) := by decide +kernel
theorem d_Msg_copyFrom_33 : decode b_Msg_copyFrom 33 = .ok (.aload_n 1, 1) := by decide +kernel
theorem d_Msg_copyFrom_34 : decode b_Msg_copyFrom 34 = .ok (.getfield 24, 3) := by decide +kernel
theorem d_Msg_copyFrom_37 : decode b_Msg_copyFrom 37 = .ok (.putfield 24, 3) := by decide +kernel
theorem d_Msg_copyFrom_40 : decode b_Msg_copyFrom 40 = .ok (.aload_n 0, 1) := by decide +kernel
theorem d_Msg_copyFrom_41 : decode b_Msg_copyFrom 41 = .ok (.aload_n 1, 1) := by decide +kernel
theorem d_Msg_copyFrom_42 : decode b_Msg_copyFrom 42 = .ok (.getfield 27, 3) := by decide +kernel
theorem d_Msg_copyFrom_45 : decode b_Msg_copyFrom 45 = .ok (.putfield 27, 3) := by decide +kernel
theorem d_Msg_copyFrom_48 : decode b_Msg_copyFrom 48 = .ok (.aload_n 0, 1) := by decide +kernel
theorem d_Msg_copyFrom_49 : decode b_Msg_copyFrom 49 = .ok (.aload_n 1, 1) := by decide +kernel
theorem d_Msg_copyFrom_50 : decode b_Msg_copyFrom 50 = .ok (.getfield 30, 3) := by decide +kernel
theorem d_Msg_copyFrom_53 : decode b_Msg_copyFrom 53 = .ok (.putfield 30, 3) := by decide +kernel
theorem d_Msg_copyFrom_56 : decode b_Msg_copyFrom 56 = .ok (.aload_n 1, 1) := by decide +kernel
theorem d_Msg_copyFrom_57 : decode b_Msg_copyFrom 57 = .ok (.getfield 33, 3) := by decide +kernel
theorem d_Msg_copyFrom_60 : decode b_Msg_copyFrom 60 = .ok (.iconst 0, 1) := by decide +kernel
theorem d_Msg_copyFrom_61 : decode b_Msg_copyFrom 61 = .ok (.aload_n 0, 1) := by decide +kernel
theorem d_Msg_copyFrom_62 : decode b_Msg_copyFrom 62 = .ok (.getfield 33, 3) := by decide +kernel
theorem d_Msg_copyFrom_65 : decode b_Msg_copyFrom 65 = .ok (.iconst 0, 1) := by decide +kernel
theorem d_Msg_copyFrom_66 : decode b_Msg_copyFrom 66 = .ok (.iconst 3, 1) := by decide +kernel
theorem d_Msg_copyFrom_67 : decode b_Msg_copyFrom 67 = .ok (.invokestatic 43, 3) := by decide +kernel
theorem d_Msg_copyFrom_70 : decode b_Msg_copyFrom 70 = .ok (.return_, 1) := by decide +kernel
theorem d_Msg_init_0 : decode b_Msg_init 0 = .ok (.aload_n 0, 1) := by decide +kernel
theorem d_Msg_init_1 : decode b_Msg_init 1 = .ok (.invokespecial 3, 3) := by decide +kernel
theorem d_Msg_init_4 : decode b_Msg_init 4 = .ok (.aload_n 0, 1) := by decide +kernel
theorem d_Msg_init_5 : decode b_Msg_init 5 = .ok (.iconst 0, 1) := by decide +kernel
theorem d_Msg_init_6 : decode b_Msg_init 6 = .ok (.putfield 9, 3) := by decide +kernel
theorem d_Msg_init_9 : decode b_Msg_init 9 = .ok (.aload_n 0, 1) := by decide +kernel
theorem d_Msg_init_10 : decode b_Msg_init 10 = .ok (.iconst 0, 1) := by decide +kernel
theorem d_Msg_init_11 : decode b_Msg_init 11 = .ok (.putfield 15, 3) := by decide +kernel
theorem d_Msg_init_14 : decode b_Msg_init 14 = .ok (.aload_n 0, 1) := by decide +kernel
theorem d_Msg_init_15 : decode b_Msg_init 15 = .ok (.iconst (-1), 1) := by decide +kernel
theorem d_Msg_init_16 : decode b_Msg_init 16 = .ok (.putfield 18, 3) := by decide +kernel
theorem d_Msg_init_19 : decode b_Msg_init 19 = .ok (.aload_n 0, 1) := by decide +kernel
theorem d_Msg_init_20 : decode b_Msg_init 20 = .ok (.iconst (-1), 1) := by decide +kernel
theorem d_Msg_init_21 : decode b_Msg_init 21 = .ok (.putfield 21, 3) := by decide +kernel
theorem d_Msg_init_24 : decode b_Msg_init 24 = .ok (.aload_n 0, 1) := by decide +kernel
theorem d_Msg_init_25 : decode b_Msg_init 25 = .ok (.iconst (-1), 1) := by decide +kernel
theorem d_Msg_init_26 : decode b_Msg_init 26 = .ok (.putfield 24, 3) := by decide +kernel
theorem d_Msg_init_29 : decode b_Msg_init 29 = .ok (.aload_n 0, 1) := by decide +kernel
theorem d_Msg_init_30 : decode b_Msg_init 30 = .ok (.iconst (-1), 1) := by decide +kernel
theorem d_Msg_init_31 : decode b_Msg_init 31 = .ok (.putfield 27, 3) := by decide +kernel
theorem d_Msg_init_34 : decode b_Msg_init 34 = .ok (.aload_n 0, 1) := by decide +kernel
theorem d_Msg_init_35 : decode b_Msg_init 35 = .ok (.iconst (-1), 1) := by decide +kernel
theorem d_Msg_init_36 : decode b_Msg_init 36 = .ok (.putfield 30, 3) := by decide +kernel
theorem d_Msg_init_39 : decode b_Msg_init 39 = .ok (.aload_n 0, 1) := by decide +kernel
theorem d_Msg_init_40 : decode b_Msg_init 40 = .ok (.iconst 3, 1) := by decide +kernel
theorem d_Msg_init_41 : decode b_Msg_init 41 = .ok (.newarray .int, 2) := by decide +kernel
theorem d_Msg_init_43 : decode b_Msg_init 43 = .ok (.putfield 33, 3) := by decide +kernel
theorem d_Msg_init_46 : decode b_Msg_init 46 = .ok (.return_, 1) := by decide +kernel
theorem d_Msg_receiver_0 : decode b_Msg_receiver 0 = .ok (.aload_n 0, 1) := by decide +kernel
theorem d_Msg_receiver_1 : decode b_Msg_receiver 1 = .ok (.invokevirtual 49, 3) := by decide +kernel
theorem d_Msg_receiver_4 : decode b_Msg_receiver 4 = .ok (.lookupswitch 38 #[(0, 28), (1, 33)], 28) := by decide +kernel
theorem d_Msg_receiver_32 : decode b_Msg_receiver 32 = .ok (.aload_n 0, 1) := by decide +kernel
theorem d_Msg_receiver_33 : decode b_Msg_receiver 33 = .ok (.getfield 18, 3) := by decide +kernel
theorem d_Msg_receiver_36 : decode b_Msg_receiver 36 = .ok (.ireturn, 1) := by decide +kernel
theorem d_Msg_receiver_37 : decode b_Msg_receiver 37 = .ok (.aload_n 0, 1) := by decide +kernel
theorem d_Msg_receiver_38 : decode b_Msg_receiver 38 = .ok (.getfield 21, 3) := by decide +kernel
theorem d_Msg_receiver_41 : decode b_Msg_receiver 41 = .ok (.ireturn, 1) := by decide +kernel
theorem d_Msg_receiver_42 : decode b_Msg_receiver 42 = .ok (.aload_n 0, 1) := by decide +kernel
theorem d_Msg_receiver_43 : decode b_Msg_receiver 43 = .ok (.getfield 24, 3) := by decide +kernel
theorem d_Msg_receiver_46 : decode b_Msg_receiver 46 = .ok (.ireturn, 1) := by decide +kernel
theorem d_Msg_receiverKind_0 : decode b_Msg_receiverKind 0 = .ok (.aload_n 0, 1) := by decide +kernel
theorem d_Msg_receiverKind_1 : decode b_Msg_receiverKind 1 = .ok (.getfield 9, 3) := by decide +kernel
theorem d_Msg_receiverKind_4 : decode b_Msg_receiverKind 4 = .ok (.ifCond .eq 11, 3) := by decide +kernel
theorem d_Msg_receiverKind_7 : decode b_Msg_receiverKind 7 = .ok (.aload_n 0, 1) := by decide +kernel
theorem d_Msg_receiverKind_8 : decode b_Msg_receiverKind 8 = .ok (.getfield 9, 3) := by decide +kernel
theorem d_Msg_receiverKind_11 : decode b_Msg_receiverKind 11 = .ok (.iconst 5, 1) := by decide +kernel
theorem d_Msg_receiverKind_12 : decode b_Msg_receiverKind 12 = .ok (.if_icmp .ne 5, 3) := by decide +kernel
theorem d_Msg_receiverKind_15 : decode b_Msg_receiverKind 15 = .ok (.iconst 0, 1) := by decide +kernel
theorem d_Msg_receiverKind_16 : decode b_Msg_receiverKind 16 = .ok (.ireturn, 1) := by decide +kernel
theorem d_Msg_receiverKind_17 : decode b_Msg_receiverKind 17 = .ok (.aload_n 0, 1) := by decide +kernel
theorem d_Msg_receiverKind_18 : decode b_Msg_receiverKind 18 = .ok (.getfield 9, 3) := by decide +kernel
theorem d_Msg_receiverKind_21 : decode b_Msg_receiverKind 21 = .ok (.iconst 1, 1) := by decide +kernel
theorem d_Msg_receiverKind_22 : decode b_Msg_receiverKind 22 = .ok (.if_icmp .eq 11, 3) := by decide +kernel
theorem d_Msg_receiverKind_25 : decode b_Msg_receiverKind 25 = .ok (.aload_n 0, 1) := by decide +kernel
theorem d_Msg_receiverKind_26 : decode b_Msg_receiverKind 26 = .ok (.getfield 9, 3) := by decide +kernel
theorem d_Msg_receiverKind_29 : decode b_Msg_receiverKind 29 = .ok (.iconst 3, 1) := by decide +kernel
theorem d_Msg_receiverKind_30 : decode b_Msg_receiverKind 30 = .ok (.if_icmp .ne 7, 3) := by decide +kernel
theorem d_Msg_receiverKind_33 : decode b_Msg_receiverKind 33 = .ok (.iconst 1, 1) := by decide +kernel
theorem d_Msg_receiverKind_34 : decode b_Msg_receiverKind 34 = .ok (.goto 4, 3) := by decide +kernel
theorem d_Msg_receiverKind_37 : decode b_Msg_receiverKind 37 = .ok (.iconst 2, 1) := by decide +kernel
theorem d_Msg_receiverKind_38 : decode b_Msg_receiverKind 38 = .ok (.ireturn, 1) := by decide +kernel
theorem d_Msg_spell_0 : decode b_Msg_spell 0 = .ok (.aload_n 1, 1) := by decide +kernel
theorem d_Msg_spell_1 : decode b_Msg_spell 1 = .ok (.ldc 53, 2) := by decide +kernel
theorem d_Msg_spell_3 : decode b_Msg_spell 3 = .ok (.aload_n 0, 1) := by decide +kernel
theorem d_Msg_spell_4 : decode b_Msg_spell 4 = .ok (.getfield 9, 3) := by decide +kernel
theorem d_Msg_spell_7 : decode b_Msg_spell 7 = .ok (.invokevirtual 55, 3) := by decide +kernel
theorem d_Msg_spell_10 : decode b_Msg_spell 10 = .ok (.invokevirtual 61, 3) := by decide +kernel
theorem d_Msg_spell_13 : decode b_Msg_spell 13 = .ok (.pop, 1) := by decide +kernel
theorem d_Msg_spell_14 : decode b_Msg_spell 14 = .ok (.aload_n 1, 1) := by decide +kernel
theorem d_Msg_spell_15 : decode b_Msg_spell 15 = .ok (.bipush 116, 2) := by decide +kernel
theorem d_Msg_spell_17 : decode b_Msg_spell 17 = .ok (.aload_n 0, 1) := by decide +kernel
theorem d_Msg_spell_18 : decode b_Msg_spell 18 = .ok (.getfield 15, 3) := by decide +kernel
theorem d_Msg_spell_21 : decode b_Msg_spell 21 = .ok (.invokestatic 67, 3) := by decide +kernel
theorem d_Msg_spell_24 : decode b_Msg_spell 24 = .ok (.aload_n 1, 1) := by decide +kernel
theorem d_Msg_spell_25 : decode b_Msg_spell 25 = .ok (.bipush 115, 2) := by decide +kernel
theorem d_Msg_spell_27 : decode b_Msg_spell 27 = .ok (.aload_n 0, 1) := by decide +kernel
theorem d_Msg_spell_28 : decode b_Msg_spell 28 = .ok (.getfield 18, 3) := by decide +kernel
theorem d_Msg_spell_31 : decode b_Msg_spell 31 = .ok (.invokestatic 67, 3) := by decide +kernel
theorem d_Msg_spell_34 : decode b_Msg_spell 34 = .ok (.aload_n 1, 1) := by decide +kernel
theorem d_Msg_spell_35 : decode b_Msg_spell 35 = .ok (.bipush 97, 2) := by decide +kernel
theorem d_Msg_spell_37 : decode b_Msg_spell 37 = .ok (.aload_n 0, 1) := by decide +kernel
theorem d_Msg_spell_38 : decode b_Msg_spell 38 = .ok (.getfield 21, 3) := by decide +kernel
theorem d_Msg_spell_41 : decode b_Msg_spell 41 = .ok (.invokestatic 67, 3) := by decide +kernel
theorem d_Msg_spell_44 : decode b_Msg_spell 44 = .ok (.aload_n 1, 1) := by decide +kernel
theorem d_Msg_spell_45 : decode b_Msg_spell 45 = .ok (.bipush 108, 2) := by decide +kernel
theorem d_Msg_spell_47 : decode b_Msg_spell 47 = .ok (.aload_n 0, 1) := by decide +kernel
theorem d_Msg_spell_48 : decode b_Msg_spell 48 = .ok (.getfield 24, 3) := by decide +kernel
theorem d_Msg_spell_51 : decode b_Msg_spell 51 = .ok (.invokestatic 67, 3) := by decide +kernel
theorem d_Msg_spell_54 : decode b_Msg_spell 54 = .ok (.aload_n 1, 1) := by decide +kernel
theorem d_Msg_spell_55 : decode b_Msg_spell 55 = .ok (.bipush 98, 2) := by decide +kernel
theorem d_Msg_spell_57 : decode b_Msg_spell 57 = .ok (.aload_n 0, 1) := by decide +kernel
theorem d_Msg_spell_58 : decode b_Msg_spell 58 = .ok (.getfield 27, 3) := by decide +kernel
theorem d_Msg_spell_61 : decode b_Msg_spell 61 = .ok (.invokestatic 67, 3) := by decide +kernel
theorem d_Msg_spell_64 : decode b_Msg_spell 64 = .ok (.aload_n 0, 1) := by decide +kernel
theorem d_Msg_spell_65 : decode b_Msg_spell 65 = .ok (.getfield 30, 3) := by decide +kernel
theorem d_Msg_spell_68 : decode b_Msg_spell 68 = .ok (.iconst (-1), 1) := by decide +kernel
theorem d_Msg_spell_69 : decode b_Msg_spell 69 = .ok (.if_icmp .eq 23, 3) := by decide +kernel
theorem d_Msg_spell_72 : decode b_Msg_spell 72 = .ok (.aload_n 1, 1) := by decide +kernel
theorem d_Msg_spell_73 : decode b_Msg_spell 73 = .ok (.aload_n 0, 1) := by decide +kernel
theorem d_Msg_spell_74 : decode b_Msg_spell 74 = .ok (.getfield 30, 3) := by decide +kernel
theorem d_Msg_spell_77 : decode b_Msg_spell 77 = .ok (.iconst 1, 1) := by decide +kernel
theorem d_Msg_spell_78 : decode b_Msg_spell 78 = .ok (.if_icmp .ne 8, 3) := by decide +kernel
theorem d_Msg_spell_81 : decode b_Msg_spell 81 = .ok (.bipush 89, 2) := by decide +kernel
theorem d_Msg_spell_83 : decode b_Msg_spell 83 = .ok (.goto 5, 3) := by decide +kernel
theorem d_Msg_spell_86 : decode b_Msg_spell 86 = .ok (.bipush 78, 2) := by decide +kernel
theorem d_Msg_spell_88 : decode b_Msg_spell 88 = .ok (.invokevirtual 61, 3) := by decide +kernel
theorem d_Msg_spell_91 : decode b_Msg_spell 91 = .ok (.pop, 1) := by decide +kernel
theorem d_Msg_spell_92 : decode b_Msg_spell 92 = .ok (.aload_n 0, 1) := by decide +kernel
theorem d_Msg_spell_93 : decode b_Msg_spell 93 = .ok (.getfield 9, 3) := by decide +kernel
theorem d_Msg_spell_96 : decode b_Msg_spell 96 = .ok (.iconst 2, 1) := by decide +kernel
theorem d_Msg_spell_97 : decode b_Msg_spell 97 = .ok (.if_icmp .ne 26, 3) := by decide +kernel
theorem d_Msg_spell_100 : decode b_Msg_spell 100 = .ok (.iconst 0, 1) := by decide +kernel
theorem d_Msg_spell_101 : decode b_Msg_spell 101 = .ok (.istore_n 2, 1) := by decide +kernel
theorem d_Msg_spell_102 : decode b_Msg_spell 102 = .ok (.iload_n 2, 1) := by decide +kernel
theorem d_Msg_spell_103 : decode b_Msg_spell 103 = .ok (.iconst 3, 1) := by decide +kernel
theorem d_Msg_spell_104 : decode b_Msg_spell 104 = .ok (.if_icmp .ge 19, 3) := by decide +kernel
theorem d_Msg_spell_107 : decode b_Msg_spell 107 = .ok (.aload_n 1, 1) := by decide +kernel
theorem d_Msg_spell_108 : decode b_Msg_spell 108 = .ok (.aload_n 0, 1) := by decide +kernel
theorem d_Msg_spell_109 : decode b_Msg_spell 109 = .ok (.getfield 33, 3) := by decide +kernel
theorem d_Msg_spell_112 : decode b_Msg_spell 112 = .ok (.iload_n 2, 1) := by decide +kernel
theorem d_Msg_spell_113 : decode b_Msg_spell 113 = .ok (.iaload, 1) := by decide +kernel
theorem d_Msg_spell_114 : decode b_Msg_spell 114 = .ok (.invokestatic 71, 3) := by decide +kernel
theorem d_Msg_spell_117 : decode b_Msg_spell 117 = .ok (.iinc 2 1, 3) := by decide +kernel
theorem d_Msg_spell_120 : decode b_Msg_spell 120 = .ok (.goto (-18), 3) := by decide +kernel
theorem d_Msg_spell_123 : decode b_Msg_spell 123 = .ok (.return_, 1) := by decide +kernel
theorem d_Msg_spellPart_0 : decode b_Msg_spellPart 0 = .ok (.iload_n 2, 1) := by decide +kernel
theorem d_Msg_spellPart_1 : decode b_Msg_spellPart 1 = .ok (.iconst (-1), 1) := by decide +kernel
theorem d_Msg_spellPart_2 : decode b_Msg_spellPart 2 = .ok (.if_icmp .eq 15, 3) := by decide +kernel
theorem d_Msg_spellPart_5 : decode b_Msg_spellPart 5 = .ok (.aload_n 0, 1) := by decide +kernel
theorem d_Msg_spellPart_6 : decode b_Msg_spellPart 6 = .ok (.iload_n 1, 1) := by decide +kernel
theorem d_Msg_spellPart_7 : decode b_Msg_spellPart 7 = .ok (.invokevirtual 61, 3) := by decide +kernel
theorem d_Msg_spellPart_10 : decode b_Msg_spellPart 10 = .ok (.pop, 1) := by decide +kernel
theorem d_Msg_spellPart_11 : decode b_Msg_spellPart 11 = .ok (.aload_n 0, 1) := by decide +kernel
theorem d_Msg_spellPart_12 : decode b_Msg_spellPart 12 = .ok (.iload_n 2, 1) := by decide +kernel
theorem d_Msg_spellPart_13 : decode b_Msg_spellPart 13 = .ok (.invokevirtual 75, 3) := by decide +kernel
theorem d_Msg_spellPart_16 : decode b_Msg_spellPart 16 = .ok (.pop, 1) := by decide +kernel
theorem d_Msg_spellPart_17 : decode b_Msg_spellPart 17 = .ok (.return_, 1) := by decide +kernel
theorem d_Msg_spellReplied_0 : decode b_Msg_spellReplied 0 = .ok (.iload_n 1, 1) := by decide +kernel
theorem d_Msg_spellReplied_1 : decode b_Msg_spellReplied 1 = .ok (.iconst (-1), 1) := by decide +kernel
theorem d_Msg_spellReplied_2 : decode b_Msg_spellReplied 2 = .ok (.if_icmp .ne 13, 3) := by decide +kernel
theorem d_Msg_spellReplied_5 : decode b_Msg_spellReplied 5 = .ok (.aload_n 0, 1) := by decide +kernel
theorem d_Msg_spellReplied_6 : decode b_Msg_spellReplied 6 = .ok (.bipush 45, 2) := by decide +kernel
theorem d_Msg_spellReplied_8 : decode b_Msg_spellReplied 8 = .ok (.invokevirtual 61, 3) := by decide +kernel
theorem d_Msg_spellReplied_11 : decode b_Msg_spellReplied 11 = .ok (.pop, 1) := by decide +kernel
theorem d_Msg_spellReplied_12 : decode b_Msg_spellReplied 12 = .ok (.goto 32, 3) := by decide +kernel
theorem d_Msg_spellReplied_15 : decode b_Msg_spellReplied 15 = .ok (.aload_n 0, 1) := by decide +kernel
theorem d_Msg_spellReplied_16 : decode b_Msg_spellReplied 16 = .ok (.iload_n 1, 1) := by decide +kernel
theorem d_Msg_spellReplied_17 : decode b_Msg_spellReplied 17 = .ok (.invokestatic 78, 3) := by decide +kernel
theorem d_Msg_spellReplied_20 : decode b_Msg_spellReplied 20 = .ok (.invokevirtual 75, 3) := by decide +kernel
theorem d_Msg_spellReplied_23 : decode b_Msg_spellReplied 23 = .ok (.pop, 1) := by decide +kernel
theorem d_Msg_spellReplied_24 : decode b_Msg_spellReplied 24 = .ok (.aload_n 0, 1) := by decide +kernel
theorem d_Msg_spellReplied_25 : decode b_Msg_spellReplied 25 = .ok (.iload_n 1, 1) := by decide +kernel
theorem d_Msg_spellReplied_26 : decode b_Msg_spellReplied 26 = .ok (.invokestatic 82, 3) := by decide +kernel
theorem d_Msg_spellReplied_29 : decode b_Msg_spellReplied 29 = .ok (.iconst 1, 1) := by decide +kernel
theorem d_Msg_spellReplied_30 : decode b_Msg_spellReplied 30 = .ok (.if_icmp .ne 8, 3) := by decide +kernel
theorem d_Msg_spellReplied_33 : decode b_Msg_spellReplied 33 = .ok (.bipush 89, 2) := by decide +kernel
theorem d_Msg_spellReplied_35 : decode b_Msg_spellReplied 35 = .ok (.goto 5, 3) := by decide +kernel
theorem d_Msg_spellReplied_38 : decode b_Msg_spellReplied 38 = .ok (.bipush 78, 2) := by decide +kernel
theorem d_Msg_spellReplied_40 : decode b_Msg_spellReplied 40 = .ok (.invokevirtual 61, 3) := by decide +kernel
theorem d_Msg_spellReplied_43 : decode b_Msg_spellReplied 43 = .ok (.pop, 1) := by decide +kernel
theorem d_Msg_spellReplied_44 : decode b_Msg_spellReplied 44 = .ok (.return_, 1) := by decide +kernel
theorem d_Net_compose_0 : decode b_Net_compose 0 = .ok (.aload_n 0, 1) := by decide +kernel
theorem d_Net_compose_1 : decode b_Net_compose 1 = .ok (.getfield 25, 3) := by decide +kernel
theorem d_Net_compose_4 : decode b_Net_compose 4 = .ok (.iload_n 1, 1) := by decide +kernel
theorem d_Net_compose_5 : decode b_Net_compose 5 = .ok (.iload_n 2, 1) := by decide +kernel
theorem d_Net_compose_6 : decode b_Net_compose 6 = .ok (.invokevirtual 32, 3) := by decide +kernel
theorem d_Net_compose_9 : decode b_Net_compose 9 = .ok (.aload_n 0, 1) := by decide +kernel
theorem d_Net_compose_10 : decode b_Net_compose 10 = .ok (.getfield 25, 3) := by decide +kernel
theorem d_Net_compose_13 : decode b_Net_compose 13 = .ok (.areturn, 1) := by decide +kernel
theorem d_Net_init_0 : decode b_Net_init 0 = .ok (.aload_n 0, 1) := by decide +kernel
theorem d_Net_init_1 : decode b_Net_init 1 = .ok (.invokespecial 3, 3) := by decide +kernel
theorem d_Net_init_4 : decode b_Net_init 4 = .ok (.aload_n 0, 1) := by decide +kernel
theorem d_Net_init_5 : decode b_Net_init 5 = .ok (.bipush 60, 2) := by decide +kernel
theorem d_Net_init_7 : decode b_Net_init 7 = .ok (.anewarray 9, 3) := by decide +kernel
theorem d_Net_init_10 : decode b_Net_init 10 = .ok (.putfield 11, 3) := by decide +kernel
theorem d_Net_init_13 : decode b_Net_init 13 = .ok (.aload_n 0, 1) := by decide +kernel
theorem d_Net_init_14 : decode b_Net_init 14 = .ok (.iconst 0, 1) := by decide +kernel
theorem d_Net_init_15 : decode b_Net_init 15 = .ok (.putfield 17, 3) := by decide +kernel
theorem d_Net_init_18 : decode b_Net_init 18 = .ok (.aload_n 0, 1) := by decide +kernel
theorem d_Net_init_19 : decode b_Net_init 19 = .ok (.iconst 0, 1) := by decide +kernel
theorem d_Net_init_20 : decode b_Net_init 20 = .ok (.putfield 21, 3) := by decide +kernel
theorem d_Net_init_23 : decode b_Net_init 23 = .ok (.aload_n 0, 1) := by decide +kernel
theorem d_Net_init_24 : decode b_Net_init 24 = .ok (.new 9, 3) := by decide +kernel
theorem d_Net_init_27 : decode b_Net_init 27 = .ok (.dup, 1) := by decide +kernel
theorem d_Net_init_28 : decode b_Net_init 28 = .ok (.invokespecial 24, 3) := by decide +kernel
theorem d_Net_init_31 : decode b_Net_init 31 = .ok (.putfield 25, 3) := by decide +kernel
theorem d_Net_init_34 : decode b_Net_init 34 = .ok (.aload_n 0, 1) := by decide +kernel
theorem d_Net_init_35 : decode b_Net_init 35 = .ok (.new 9, 3) := by decide +kernel
theorem d_Net_init_38 : decode b_Net_init 38 = .ok (.dup, 1) := by decide +kernel
theorem d_Net_init_39 : decode b_Net_init 39 = .ok (.invokespecial 24, 3) := by decide +kernel
theorem d_Net_init_42 : decode b_Net_init 42 = .ok (.putfield 29, 3) := by decide +kernel
theorem d_Net_init_45 : decode b_Net_init 45 = .ok (.iconst 0, 1) := by decide +kernel
theorem d_Net_init_46 : decode b_Net_init 46 = .ok (.istore_n 1, 1) := by decide +kernel
theorem d_Net_init_47 : decode b_Net_init 47 = .ok (.iload_n 1, 1) := by decide +kernel
theorem d_Net_init_48 : decode b_Net_init 48 = .ok (.bipush 60, 2) := by decide +kernel
theorem d_Net_init_50 : decode b_Net_init 50 = .ok (.if_icmp .ge 22, 3) := by decide +kernel
theorem d_Net_init_53 : decode b_Net_init 53 = .ok (.aload_n 0, 1) := by decide +kernel
theorem d_Net_init_54 : decode b_Net_init 54 = .ok (.getfield 11, 3) := by decide +kernel
theorem d_Net_init_57 : decode b_Net_init 57 = .ok (.iload_n 1, 1) := by decide +kernel
theorem d_Net_init_58 : decode b_Net_init 58 = .ok (.new 9, 3) := by decide +kernel
theorem d_Net_init_61 : decode b_Net_init 61 = .ok (.dup, 1) := by decide +kernel
theorem d_Net_init_62 : decode b_Net_init 62 = .ok (.invokespecial 24, 3) := by decide +kernel
theorem d_Net_init_65 : decode b_Net_init 65 = .ok (.aastore, 1) := by decide +kernel
theorem d_Net_init_66 : decode b_Net_init 66 = .ok (.iinc 1 1, 3) := by decide +kernel
theorem d_Net_init_69 : decode b_Net_init 69 = .ok (.goto (-22), 3) := by decide +kernel
theorem d_Net_init_72 : decode b_Net_init 72 = .ok (.return_, 1) := by decide +kernel
theorem d_Net_pick_0 : decode b_Net_pick 0 = .ok (.aload_n 0, 1) := by decide +kernel
theorem d_Net_pick_1 : decode b_Net_pick 1 = .ok (.getfield 29, 3) := by decide +kernel
theorem d_Net_pick_4 : decode b_Net_pick 4 = .ok (.aload_n 0, 1) := by decide +kernel
theorem d_Net_pick_5 : decode b_Net_pick 5 = .ok (.getfield 11, 3) := by decide +kernel
theorem d_Net_pick_8 : decode b_Net_pick 8 = .ok (.iload_n 1, 1) := by decide +kernel
theorem d_Net_pick_9 : decode b_Net_pick 9 = .ok (.aaload, 1) := by decide +kernel
theorem d_Net_pick_10 : decode b_Net_pick 10 = .ok (.invokevirtual 36, 3) := by decide +kernel
theorem d_Net_pick_13 : decode b_Net_pick 13 = .ok (.aload_n 0, 1) := by decide +kernel
theorem d_Net_pick_14 : decode b_Net_pick 14 = .ok (.getfield 29, 3) := by decide +kernel
theorem d_Net_pick_17 : decode b_Net_pick 17 = .ok (.areturn, 1) := by decide +kernel
theorem d_Net_remove_0 : decode b_Net_remove 0 = .ok (.aload_n 0, 1) := by decide +kernel
theorem d_Net_remove_1 : decode b_Net_remove 1 = .ok (.getfield 11, 3) := by decide +kernel
theorem d_Net_remove_4 : decode b_Net_remove 4 = .ok (.iload_n 1, 1) := by decide +kernel
theorem d_Net_remove_5 : decode b_Net_remove 5 = .ok (.aaload, 1) := by decide +kernel
theorem d_Net_remove_6 : decode b_Net_remove 6 = .ok (.astore_n 2, 1) := by decide +kernel
theorem d_Net_remove_7 : decode b_Net_remove 7 = .ok (.iload_n 1, 1) := by decide +kernel
theorem d_Net_remove_8 : decode b_Net_remove 8 = .ok (.istore_n 3, 1) := by decide +kernel
theorem d_Net_remove_9 : decode b_Net_remove 9 = .ok (.iload_n 3, 1) := by decide +kernel
theorem d_Net_remove_10 : decode b_Net_remove 10 = .ok (.aload_n 0, 1) := by decide +kernel
theorem d_Net_remove_11 : decode b_Net_remove 11 = .ok (.getfield 17, 3) := by decide +kernel
theorem d_Net_remove_14 : decode b_Net_remove 14 = .ok (.iconst 1, 1) := by decide +kernel
theorem d_Net_remove_15 : decode b_Net_remove 15 = .ok (.isub, 1) := by decide +kernel
theorem d_Net_remove_16 : decode b_Net_remove 16 = .ok (.if_icmp .ge 23, 3) := by decide +kernel
theorem d_Net_remove_19 : decode b_Net_remove 19 = .ok (.aload_n 0, 1) := by decide +kernel
theorem d_Net_remove_20 : decode b_Net_remove 20 = .ok (.getfield 11, 3) := by decide +kernel
theorem d_Net_remove_23 : decode b_Net_remove 23 = .ok (.iload_n 3, 1) := by decide +kernel
theorem d_Net_remove_24 : decode b_Net_remove 24 = .ok (.aload_n 0, 1) := by decide +kernel
theorem d_Net_remove_25 : decode b_Net_remove 25 = .ok (.getfield 11, 3) := by decide +kernel
theorem d_Net_remove_28 : decode b_Net_remove 28 = .ok (.iload_n 3, 1) := by decide +kernel
theorem d_Net_remove_29 : decode b_Net_remove 29 = .ok (.iconst 1, 1) := by decide +kernel
theorem d_Net_remove_30 : decode b_Net_remove 30 = .ok (.iadd, 1) := by decide +kernel
theorem d_Net_remove_31 : decode b_Net_remove 31 = .ok (.aaload, 1) := by decide +kernel
theorem d_Net_remove_32 : decode b_Net_remove 32 = .ok (.aastore, 1) := by decide +kernel
theorem d_Net_remove_33 : decode b_Net_remove 33 = .ok (.iinc 3 1, 3) := by decide +kernel
theorem d_Net_remove_36 : decode b_Net_remove 36 = .ok (.goto (-27), 3) := by decide +kernel
theorem d_Net_remove_39 : decode b_Net_remove 39 = .ok (.aload_n 0, 1) := by decide +kernel
theorem d_Net_remove_40 : decode b_Net_remove 40 = .ok (.dup, 1) := by decide +kernel
theorem d_Net_remove_41 : decode b_Net_remove 41 = .ok (.getfield 17, 3) := by decide +kernel
theorem d_Net_remove_44 : decode b_Net_remove 44 = .ok (.iconst 1, 1) := by decide +kernel
theorem d_Net_remove_45 : decode b_Net_remove 45 = .ok (.isub, 1) := by decide +kernel
theorem d_Net_remove_46 : decode b_Net_remove 46 = .ok (.putfield 17, 3) := by decide +kernel
theorem d_Net_remove_49 : decode b_Net_remove 49 = .ok (.aload_n 0, 1) := by decide +kernel
theorem d_Net_remove_50 : decode b_Net_remove 50 = .ok (.getfield 11, 3) := by decide +kernel
theorem d_Net_remove_53 : decode b_Net_remove 53 = .ok (.aload_n 0, 1) := by decide +kernel
theorem d_Net_remove_54 : decode b_Net_remove 54 = .ok (.getfield 17, 3) := by decide +kernel
theorem d_Net_remove_57 : decode b_Net_remove 57 = .ok (.aload_n 2, 1) := by decide +kernel
theorem d_Net_remove_58 : decode b_Net_remove 58 = .ok (.aastore, 1) := by decide +kernel
theorem d_Net_remove_59 : decode b_Net_remove 59 = .ok (.return_, 1) := by decide +kernel
theorem d_Net_send_0 : decode b_Net_send 0 = .ok (.aload_n 0, 1) := by decide +kernel
theorem d_Net_send_1 : decode b_Net_send 1 = .ok (.getfield 17, 3) := by decide +kernel
theorem d_Net_send_4 : decode b_Net_send 4 = .ok (.bipush 60, 2) := by decide +kernel
theorem d_Net_send_6 : decode b_Net_send 6 = .ok (.if_icmp .lt 14, 3) := by decide +kernel
theorem d_Net_send_9 : decode b_Net_send 9 = .ok (.aload_n 0, 1) := by decide +kernel
theorem d_Net_send_10 : decode b_Net_send 10 = .ok (.dup, 1) := by decide +kernel
theorem d_Net_send_11 : decode b_Net_send 11 = .ok (.getfield 21, 3) := by decide +kernel
theorem d_Net_send_14 : decode b_Net_send 14 = .ok (.iconst 1, 1) := by decide +kernel
theorem d_Net_send_15 : decode b_Net_send 15 = .ok (.iadd, 1) := by decide +kernel
theorem d_Net_send_16 : decode b_Net_send 16 = .ok (.putfield 21, 3) := by decide +kernel
theorem d_Net_send_19 : decode b_Net_send 19 = .ok (.return_, 1) := by decide +kernel
theorem d_Net_send_20 : decode b_Net_send 20 = .ok (.aload_n 0, 1) := by decide +kernel
theorem d_Net_send_21 : decode b_Net_send 21 = .ok (.getfield 11, 3) := by decide +kernel
theorem d_Net_send_24 : decode b_Net_send 24 = .ok (.aload_n 0, 1) := by decide +kernel
theorem d_Net_send_25 : decode b_Net_send 25 = .ok (.getfield 17, 3) := by decide +kernel
theorem d_Net_send_28 : decode b_Net_send 28 = .ok (.aaload, 1) := by decide +kernel
theorem d_Net_send_29 : decode b_Net_send 29 = .ok (.aload_n 1, 1) := by decide +kernel
theorem d_Net_send_30 : decode b_Net_send 30 = .ok (.invokevirtual 36, 3) := by decide +kernel
theorem d_Net_send_33 : decode b_Net_send 33 = .ok (.aload_n 0, 1) := by decide +kernel
theorem d_Net_send_34 : decode b_Net_send 34 = .ok (.dup, 1) := by decide +kernel
theorem d_Net_send_35 : decode b_Net_send 35 = .ok (.getfield 17, 3) := by decide +kernel
theorem d_Net_send_38 : decode b_Net_send 38 = .ok (.iconst 1, 1) := by decide +kernel
theorem d_Net_send_39 : decode b_Net_send 39 = .ok (.iadd, 1) := by decide +kernel
theorem d_Net_send_40 : decode b_Net_send 40 = .ok (.putfield 17, 3) := by decide +kernel
theorem d_Net_send_43 : decode b_Net_send 43 = .ok (.return_, 1) := by decide +kernel
theorem d_PC_arrive_0 : decode b_PC_arrive 0 = .ok (.aload_n 0, 1) := by decide +kernel
theorem d_PC_arrive_1 : decode b_PC_arrive 1 = .ok (.getfield 21, 3) := by decide +kernel
theorem d_PC_arrive_4 : decode b_PC_arrive 4 = .ok (.aload_n 1, 1) := by decide +kernel
theorem d_PC_arrive_5 : decode b_PC_arrive 5 = .ok (.invokevirtual 233, 3) := by decide +kernel
theorem d_PC_arrive_8 : decode b_PC_arrive 8 = .ok (.iaload, 1) := by decide +kernel
theorem d_PC_arrive_9 : decode b_PC_arrive 9 = .ok (.aload_n 1, 1) := by decide +kernel
theorem d_PC_arrive_10 : decode b_PC_arrive 10 = .ok (.invokevirtual 236, 3) := by decide +kernel
theorem d_PC_arrive_13 : decode b_PC_arrive 13 = .ok (.invokestatic 105, 3) := by decide +kernel
theorem d_PC_arrive_16 : decode b_PC_arrive 16 = .ok (.ifCond .ne 4, 3) := by decide +kernel
theorem d_PC_arrive_19 : decode b_PC_arrive 19 = .ok (.return_, 1) := by decide +kernel
theorem d_PC_arrive_20 : decode b_PC_arrive 20 = .ok (.aload_n 1, 1) := by decide +kernel
theorem d_PC_arrive_21 : decode b_PC_arrive 21 = .ok (.getfield 239, 3) := by decide +kernel
theorem d_PC_arrive_24 : decode b_PC_arrive 24 = .ok (.tableswitch 76 0 4 #[36, 44, 52, 60, 68], 36) := by decide +kernel
theorem d_PC_arrive_60 : decode b_PC_arrive 60 = .ok (.aload_n 0, 1) := by decide +kernel
theorem d_PC_arrive_61 : decode b_PC_arrive 61 = .ok (.aload_n 1, 1) := by decide +kernel
theorem d_PC_arrive_62 : decode b_PC_arrive 62 = .ok (.invokevirtual 242, 3) := by decide +kernel
theorem d_PC_arrive_65 : decode b_PC_arrive 65 = .ok (.goto 40, 3) := by decide +kernel
theorem d_PC_arrive_68 : decode b_PC_arrive 68 = .ok (.aload_n 0, 1) := by decide +kernel
theorem d_PC_arrive_69 : decode b_PC_arrive 69 = .ok (.aload_n 1, 1) := by decide +kernel
theorem d_PC_arrive_70 : decode b_PC_arrive 70 = .ok (.invokevirtual 245, 3) := by decide +kernel
theorem d_PC_arrive_73 : decode b_PC_arrive 73 = .ok (.goto 32, 3) := by decide +kernel
theorem d_PC_arrive_76 : decode b_PC_arrive 76 = .ok (.aload_n 0, 1) := by decide +kernel
theorem d_PC_arrive_77 : decode b_PC_arrive 77 = .ok (.aload_n 1, 1) := by decide +kernel
theorem d_PC_arrive_78 : decode b_PC_arrive 78 = .ok (.invokevirtual 248, 3) := by decide +kernel
theorem d_PC_arrive_81 : decode b_PC_arrive 81 = .ok (.goto 24, 3) := by decide +kernel
theorem d_PC_arrive_84 : decode b_PC_arrive 84 = .ok (.aload_n 0, 1) := by decide +kernel
theorem d_PC_arrive_85 : decode b_PC_arrive 85 = .ok (.aload_n 1, 1) := by decide +kernel
theorem d_PC_arrive_86 : decode b_PC_arrive 86 = .ok (.invokevirtual 251, 3) := by decide +kernel
theorem d_PC_arrive_89 : decode b_PC_arrive 89 = .ok (.goto 16, 3) := by decide +kernel
theorem d_PC_arrive_92 : decode b_PC_arrive 92 = .ok (.aload_n 0, 1) := by decide +kernel
theorem d_PC_arrive_93 : decode b_PC_arrive 93 = .ok (.aload_n 1, 1) := by decide +kernel
theorem d_PC_arrive_94 : decode b_PC_arrive 94 = .ok (.invokevirtual 254, 3) := by decide +kernel
theorem d_PC_arrive_97 : decode b_PC_arrive 97 = .ok (.goto 8, 3) := by decide +kernel
theorem d_PC_arrive_100 : decode b_PC_arrive 100 = .ok (.aload_n 0, 1) := by decide +kernel
theorem d_PC_arrive_101 : decode b_PC_arrive 101 = .ok (.aload_n 1, 1) := by decide +kernel
theorem d_PC_arrive_102 : decode b_PC_arrive 102 = .ok (.invokevirtual 257, 3) := by decide +kernel
theorem d_PC_arrive_105 : decode b_PC_arrive 105 = .ok (.return_, 1) := by decide +kernel
theorem d_PC_arriveAsk_0 : decode b_PC_arriveAsk 0 = .ok (.aload_n 0, 1) := by decide +kernel
theorem d_PC_arriveAsk_1 : decode b_PC_arriveAsk 1 = .ok (.getfield 48, 3) := by decide +kernel
theorem d_PC_arriveAsk_4 : decode b_PC_arriveAsk 4 = .ok (.aload_n 1, 1) := by decide +kernel
theorem d_PC_arriveAsk_5 : decode b_PC_arriveAsk 5 = .ok (.getfield 266, 3) := by decide +kernel
theorem d_PC_arriveAsk_8 : decode b_PC_arriveAsk 8 = .ok (.aaload, 1) := by decide +kernel
theorem d_PC_arriveAsk_9 : decode b_PC_arriveAsk 9 = .ok (.astore_n 2, 1) := by decide +kernel
theorem d_PC_arriveAsk_10 : decode b_PC_arriveAsk 10 = .ok (.aload_n 0, 1) := by decide +kernel
theorem d_PC_arriveAsk_11 : decode b_PC_arriveAsk 11 = .ok (.getfield 32, 3) := by decide +kernel
theorem d_PC_arriveAsk_14 : decode b_PC_arriveAsk 14 = .ok (.aload_n 1, 1) := by decide +kernel
theorem d_PC_arriveAsk_15 : decode b_PC_arriveAsk 15 = .ok (.getfield 263, 3) := by decide +kernel
theorem d_PC_arriveAsk_18 : decode b_PC_arriveAsk 18 = .ok (.iaload, 1) := by decide +kernel
theorem d_PC_arriveAsk_19 : decode b_PC_arriveAsk 19 = .ok (.istore_n 3, 1) := by decide +kernel
theorem d_PC_arriveAsk_20 : decode b_PC_arriveAsk 20 = .ok (.aload_n 2, 1) := by decide +kernel
theorem d_PC_arriveAsk_21 : decode b_PC_arriveAsk 21 = .ok (.aload_n 1, 1) := by decide +kernel
theorem d_PC_arriveAsk_22 : decode b_PC_arriveAsk 22 = .ok (.getfield 263, 3) := by decide +kernel
theorem d_PC_arriveAsk_25 : decode b_PC_arriveAsk 25 = .ok (.iload_n 3, 1) := by decide +kernel
theorem d_PC_arriveAsk_26 : decode b_PC_arriveAsk 26 = .ok (.aload_n 1, 1) := by decide +kernel
theorem d_PC_arriveAsk_27 : decode b_PC_arriveAsk 27 = .ok (.getfield 269, 3) := by decide +kernel
theorem d_PC_arriveAsk_30 : decode b_PC_arriveAsk 30 = .ok (.invokevirtual 272, 3) := by decide +kernel
theorem d_PC_arriveAsk_33 : decode b_PC_arriveAsk 33 = .ok (.ifCond .eq 4, 3) := by decide +kernel
theorem d_PC_arriveAsk_36 : decode b_PC_arriveAsk 36 = .ok (.return_, 1) := by decide +kernel
theorem d_PC_arriveAsk_37 : decode b_PC_arriveAsk 37 = .ok (.aload_n 2, 1) := by decide +kernel
theorem d_PC_arriveAsk_38 : decode b_PC_arriveAsk 38 = .ok (.aload_n 1, 1) := by decide +kernel
theorem d_PC_arriveAsk_39 : decode b_PC_arriveAsk 39 = .ok (.getfield 263, 3) := by decide +kernel
theorem d_PC_arriveAsk_42 : decode b_PC_arriveAsk 42 = .ok (.iload_n 3, 1) := by decide +kernel
theorem d_PC_arriveAsk_43 : decode b_PC_arriveAsk 43 = .ok (.aload_n 1, 1) := by decide +kernel
theorem d_PC_arriveAsk_44 : decode b_PC_arriveAsk 44 = .ok (.getfield 269, 3) := by decide +kernel
theorem d_PC_arriveAsk_47 : decode b_PC_arriveAsk 47 = .ok (.invokevirtual 276, 3) := by decide +kernel
theorem d_PC_arriveAsk_50 : decode b_PC_arriveAsk 50 = .ok (.aload_n 0, 1) := by decide +kernel
theorem d_PC_arriveAsk_51 : decode b_PC_arriveAsk 51 = .ok (.aload_n 1, 1) := by decide +kernel
theorem d_PC_arriveAsk_52 : decode b_PC_arriveAsk 52 = .ok (.getfield 266, 3) := by decide +kernel
theorem d_PC_arriveAsk_55 : decode b_PC_arriveAsk 55 = .ok (.aload_n 1, 1) := by decide +kernel
theorem d_PC_arriveAsk_56 : decode b_PC_arriveAsk 56 = .ok (.getfield 263, 3) := by decide +kernel
theorem d_PC_arriveAsk_59 : decode b_PC_arriveAsk 59 = .ok (.aload_n 1, 1) := by decide +kernel
theorem d_PC_arriveAsk_60 : decode b_PC_arriveAsk 60 = .ok (.getfield 269, 3) := by decide +kernel
theorem d_PC_arriveAsk_63 : decode b_PC_arriveAsk 63 = .ok (.invokevirtual 279, 3) := by decide +kernel
theorem d_PC_arriveAsk_66 : decode b_PC_arriveAsk 66 = .ok (.return_, 1) := by decide +kernel
theorem d_PC_arriveOutcome_0 : decode b_PC_arriveOutcome 0 = .ok (.aload_n 0, 1) := by decide +kernel
theorem d_PC_arriveOutcome_1 : decode b_PC_arriveOutcome 1 = .ok (.getfield 11, 3) := by decide +kernel
theorem d_PC_arriveOutcome_4 : decode b_PC_arriveOutcome 4 = .ok (.aload_n 1, 1) := by decide +kernel
theorem d_PC_arriveOutcome_5 : decode b_PC_arriveOutcome 5 = .ok (.getfield 260, 3) := by decide +kernel
theorem d_PC_arriveOutcome_8 : decode b_PC_arriveOutcome 8 = .ok (.aaload, 1) := by decide +kernel
theorem d_PC_arriveOutcome_9 : decode b_PC_arriveOutcome 9 = .ok (.astore_n 2, 1) := by decide +kernel
theorem d_PC_arriveOutcome_10 : decode b_PC_arriveOutcome 10 = .ok (.aload_n 1, 1) := by decide +kernel
theorem d_PC_arriveOutcome_11 : decode b_PC_arriveOutcome 11 = .ok (.getfield 263, 3) := by decide +kernel
theorem d_PC_arriveOutcome_14 : decode b_PC_arriveOutcome 14 = .ok (.istore_n 3, 1) := by decide +kernel
theorem d_PC_arriveOutcome_15 : decode b_PC_arriveOutcome 15 = .ok (.aload_n 2, 1) := by decide +kernel
theorem d_PC_arriveOutcome_16 : decode b_PC_arriveOutcome 16 = .ok (.getfield 117, 3) := by decide +kernel
theorem d_PC_arriveOutcome_19 : decode b_PC_arriveOutcome 19 = .ok (.iload_n 3, 1) := by decide +kernel
theorem d_PC_arriveOutcome_20 : decode b_PC_arriveOutcome 20 = .ok (.iaload, 1) := by decide +kernel
theorem d_PC_arriveOutcome_21 : decode b_PC_arriveOutcome 21 = .ok (.iconst 2, 1) := by decide +kernel
theorem d_PC_arriveOutcome_22 : decode b_PC_arriveOutcome 22 = .ok (.if_icmp .ne 7, 3) := by decide +kernel
theorem d_PC_arriveOutcome_25 : decode b_PC_arriveOutcome 25 = .ok (.iconst 1, 1) := by decide +kernel
theorem d_PC_arriveOutcome_26 : decode b_PC_arriveOutcome 26 = .ok (.goto 4, 3) := by decide +kernel
theorem d_PC_arriveOutcome_29 : decode b_PC_arriveOutcome 29 = .ok (.iconst 0, 1) := by decide +kernel
theorem d_PC_arriveOutcome_30 : decode b_PC_arriveOutcome 30 = .ok (.istore 4, 2) := by decide +kernel
theorem d_PC_arriveOutcome_32 : decode b_PC_arriveOutcome 32 = .ok (.iload 4, 2) := by decide +kernel
theorem d_PC_arriveOutcome_34 : decode b_PC_arriveOutcome 34 = .ok (.ifCond .eq 19, 3) := by decide +kernel
theorem d_PC_arriveOutcome_37 : decode b_PC_arriveOutcome 37 = .ok (.aload_n 1, 1) := by decide +kernel
theorem d_PC_arriveOutcome_38 : decode b_PC_arriveOutcome 38 = .ok (.getfield 303, 3) := by decide +kernel
theorem d_PC_arriveOutcome_41 : decode b_PC_arriveOutcome 41 = .ok (.iconst 1, 1) := by decide +kernel
theorem d_PC_arriveOutcome_42 : decode b_PC_arriveOutcome 42 = .ok (.if_icmp .ne 11, 3) := by decide +kernel
theorem d_PC_arriveOutcome_45 : decode b_PC_arriveOutcome 45 = .ok (.aload_n 2, 1) := by decide +kernel
theorem d_PC_arriveOutcome_46 : decode b_PC_arriveOutcome 46 = .ok (.iload_n 3, 1) := by decide +kernel
theorem d_PC_arriveOutcome_47 : decode b_PC_arriveOutcome 47 = .ok (.invokevirtual 322, 3) := by decide +kernel
theorem d_PC_arriveOutcome_50 : decode b_PC_arriveOutcome 50 = .ok (.goto 28, 3) := by decide +kernel
theorem d_PC_arriveOutcome_53 : decode b_PC_arriveOutcome 53 = .ok (.aload_n 1, 1) := by decide +kernel
theorem d_PC_arriveOutcome_54 : decode b_PC_arriveOutcome 54 = .ok (.getfield 303, 3) := by decide +kernel
theorem d_PC_arriveOutcome_57 : decode b_PC_arriveOutcome 57 = .ok (.ifCond .ne 21, 3) := by decide +kernel
theorem d_PC_arriveOutcome_60 : decode b_PC_arriveOutcome 60 = .ok (.iload 4, 2) := by decide +kernel
theorem d_PC_arriveOutcome_62 : decode b_PC_arriveOutcome 62 = .ok (.ifCond .ne 11, 3) := by decide +kernel
theorem d_PC_arriveOutcome_65 : decode b_PC_arriveOutcome 65 = .ok (.aload_n 2, 1) := by decide +kernel
theorem d_PC_arriveOutcome_66 : decode b_PC_arriveOutcome 66 = .ok (.iload_n 3, 1) := by decide +kernel
theorem d_PC_arriveOutcome_67 : decode b_PC_arriveOutcome 67 = .ok (.invokevirtual 80, 3) := by decide +kernel
theorem d_PC_arriveOutcome_70 : decode b_PC_arriveOutcome 70 = .ok (.ifCond .eq 8, 3) := by decide +kernel
theorem d_PC_arriveOutcome_73 : decode b_PC_arriveOutcome 73 = .ok (.aload_n 2, 1) := by decide +kernel
theorem d_PC_arriveOutcome_74 : decode b_PC_arriveOutcome 74 = .ok (.iload_n 3, 1) := by decide +kernel
theorem d_PC_arriveOutcome_75 : decode b_PC_arriveOutcome 75 = .ok (.invokevirtual 122, 3) := by decide +kernel
theorem d_PC_arriveOutcome_78 : decode b_PC_arriveOutcome 78 = .ok (.return_, 1) := by decide +kernel
theorem d_PC_arrivePrepare_0 : decode b_PC_arrivePrepare 0 = .ok (.aload_n 0, 1) := by decide +kernel
theorem d_PC_arrivePrepare_1 : decode b_PC_arrivePrepare 1 = .ok (.getfield 11, 3) := by decide +kernel
theorem d_PC_arrivePrepare_4 : decode b_PC_arrivePrepare 4 = .ok (.aload_n 1, 1) := by decide +kernel
theorem d_PC_arrivePrepare_5 : decode b_PC_arrivePrepare 5 = .ok (.getfield 260, 3) := by decide +kernel
theorem d_PC_arrivePrepare_8 : decode b_PC_arrivePrepare 8 = .ok (.aaload, 1) := by decide +kernel
theorem d_PC_arrivePrepare_9 : decode b_PC_arrivePrepare 9 = .ok (.astore_n 2, 1) := by decide +kernel
theorem d_PC_arrivePrepare_10 : decode b_PC_arrivePrepare 10 = .ok (.aload_n 1, 1) := by decide +kernel
theorem d_PC_arrivePrepare_11 : decode b_PC_arrivePrepare 11 = .ok (.getfield 263, 3) := by decide +kernel
theorem d_PC_arrivePrepare_14 : decode b_PC_arrivePrepare 14 = .ok (.istore_n 3, 1) := by decide +kernel
theorem d_PC_arrivePrepare_15 : decode b_PC_arrivePrepare 15 = .ok (.aload_n 2, 1) := by decide +kernel
theorem d_PC_arrivePrepare_16 : decode b_PC_arrivePrepare 16 = .ok (.getfield 117, 3) := by decide +kernel
theorem d_PC_arrivePrepare_19 : decode b_PC_arrivePrepare 19 = .ok (.iload_n 3, 1) := by decide +kernel
theorem d_PC_arrivePrepare_20 : decode b_PC_arrivePrepare 20 = .ok (.iaload, 1) := by decide +kernel
theorem d_PC_arrivePrepare_21 : decode b_PC_arrivePrepare 21 = .ok (.iconst 1, 1) := by decide +kernel
theorem d_PC_arrivePrepare_22 : decode b_PC_arrivePrepare 22 = .ok (.if_icmp .ne 24, 3) := by decide +kernel
theorem d_PC_arrivePrepare_25 : decode b_PC_arrivePrepare 25 = .ok (.aload_n 2, 1) := by decide +kernel
theorem d_PC_arrivePrepare_26 : decode b_PC_arrivePrepare 26 = .ok (.getfield 117, 3) := by decide +kernel
theorem d_PC_arrivePrepare_29 : decode b_PC_arrivePrepare 29 = .ok (.iload_n 3, 1) := by decide +kernel
theorem d_PC_arrivePrepare_30 : decode b_PC_arrivePrepare 30 = .ok (.iconst 2, 1) := by decide +kernel
theorem d_PC_arrivePrepare_31 : decode b_PC_arrivePrepare 31 = .ok (.iastore, 1) := by decide +kernel
theorem d_PC_arrivePrepare_32 : decode b_PC_arrivePrepare 32 = .ok (.aload_n 0, 1) := by decide +kernel
theorem d_PC_arrivePrepare_33 : decode b_PC_arrivePrepare 33 = .ok (.iload_n 3, 1) := by decide +kernel
theorem d_PC_arrivePrepare_34 : decode b_PC_arrivePrepare 34 = .ok (.aload_n 1, 1) := by decide +kernel
theorem d_PC_arrivePrepare_35 : decode b_PC_arrivePrepare 35 = .ok (.getfield 260, 3) := by decide +kernel
theorem d_PC_arrivePrepare_38 : decode b_PC_arrivePrepare 38 = .ok (.iconst 0, 1) := by decide +kernel
theorem d_PC_arrivePrepare_39 : decode b_PC_arrivePrepare 39 = .ok (.iconst 1, 1) := by decide +kernel
theorem d_PC_arrivePrepare_40 : decode b_PC_arrivePrepare 40 = .ok (.invokevirtual 125, 3) := by decide +kernel
theorem d_PC_arrivePrepare_43 : decode b_PC_arrivePrepare 43 = .ok (.goto 38, 3) := by decide +kernel
theorem d_PC_arrivePrepare_46 : decode b_PC_arrivePrepare 46 = .ok (.aload_n 2, 1) := by decide +kernel
theorem d_PC_arrivePrepare_47 : decode b_PC_arrivePrepare 47 = .ok (.getfield 117, 3) := by decide +kernel
theorem d_PC_arrivePrepare_50 : decode b_PC_arrivePrepare 50 = .ok (.iload_n 3, 1) := by decide +kernel
theorem d_PC_arrivePrepare_51 : decode b_PC_arrivePrepare 51 = .ok (.iaload, 1) := by decide +kernel
theorem d_PC_arrivePrepare_52 : decode b_PC_arrivePrepare 52 = .ok (.ifCond .eq 13, 3) := by decide +kernel
theorem d_PC_arrivePrepare_55 : decode b_PC_arrivePrepare 55 = .ok (.aload_n 2, 1) := by decide +kernel
theorem d_PC_arrivePrepare_56 : decode b_PC_arrivePrepare 56 = .ok (.getfield 117, 3) := by decide +kernel
theorem d_PC_arrivePrepare_59 : decode b_PC_arrivePrepare 59 = .ok (.iload_n 3, 1) := by decide +kernel
theorem d_PC_arrivePrepare_60 : decode b_PC_arrivePrepare 60 = .ok (.iaload, 1) := by decide +kernel
theorem d_PC_arrivePrepare_61 : decode b_PC_arrivePrepare 61 = .ok (.iconst 4, 1) := by decide +kernel
theorem d_PC_arrivePrepare_62 : decode b_PC_arrivePrepare 62 = .ok (.if_icmp .ne 19, 3) := by decide +kernel
theorem d_PC_arrivePrepare_65 : decode b_PC_arrivePrepare 65 = .ok (.aload_n 2, 1) := by decide +kernel
theorem d_PC_arrivePrepare_66 : decode b_PC_arrivePrepare 66 = .ok (.iload_n 3, 1) := by decide +kernel
theorem d_PC_arrivePrepare_67 : decode b_PC_arrivePrepare 67 = .ok (.invokevirtual 122, 3) := by decide +kernel
theorem d_PC_arrivePrepare_70 : decode b_PC_arrivePrepare 70 = .ok (.aload_n 0, 1) := by decide +kernel
theorem d_PC_arrivePrepare_71 : decode b_PC_arrivePrepare 71 = .ok (.iload_n 3, 1) := by decide +kernel
theorem d_PC_arrivePrepare_72 : decode b_PC_arrivePrepare 72 = .ok (.aload_n 1, 1) := by decide +kernel
theorem d_PC_arrivePrepare_73 : decode b_PC_arrivePrepare 73 = .ok (.getfield 260, 3) := by decide +kernel
theorem d_PC_arrivePrepare_76 : decode b_PC_arrivePrepare 76 = .ok (.iconst 0, 1) := by decide +kernel
theorem d_PC_arrivePrepare_77 : decode b_PC_arrivePrepare 77 = .ok (.iconst 0, 1) := by decide +kernel
theorem d_PC_arrivePrepare_78 : decode b_PC_arrivePrepare 78 = .ok (.invokevirtual 125, 3) := by decide +kernel
theorem d_PC_arrivePrepare_81 : decode b_PC_arrivePrepare 81 = .ok (.return_, 1) := by decide +kernel
theorem d_PC_arriveReply_0 : decode b_PC_arriveReply 0 = .ok (.aload_n 0, 1) := by decide +kernel
theorem d_PC_arriveReply_1 : decode b_PC_arriveReply 1 = .ok (.aload_n 1, 1) := by decide +kernel
theorem d_PC_arriveReply_2 : decode b_PC_arriveReply 2 = .ok (.getfield 282, 3) := by decide +kernel
theorem d_PC_arriveReply_5 : decode b_PC_arriveReply 5 = .ok (.aload_n 1, 1) := by decide +kernel
theorem d_PC_arriveReply_6 : decode b_PC_arriveReply 6 = .ok (.getfield 263, 3) := by decide +kernel
theorem d_PC_arriveReply_9 : decode b_PC_arriveReply 9 = .ok (.invokevirtual 130, 3) := by decide +kernel
theorem d_PC_arriveReply_12 : decode b_PC_arriveReply 12 = .ok (.astore_n 2, 1) := by decide +kernel
theorem d_PC_arriveReply_13 : decode b_PC_arriveReply 13 = .ok (.aload_n 1, 1) := by decide +kernel
theorem d_PC_arriveReply_14 : decode b_PC_arriveReply 14 = .ok (.getfield 269, 3) := by decide +kernel
theorem d_PC_arriveReply_17 : decode b_PC_arriveReply 17 = .ok (.aload_n 2, 1) := by decide +kernel
theorem d_PC_arriveReply_18 : decode b_PC_arriveReply 18 = .ok (.getfield 285, 3) := by decide +kernel
theorem d_PC_arriveReply_21 : decode b_PC_arriveReply 21 = .ok (.if_icmp .ne 10, 3) := by decide +kernel
theorem d_PC_arriveReply_24 : decode b_PC_arriveReply 24 = .ok (.aload_n 2, 1) := by decide +kernel
theorem d_PC_arriveReply_25 : decode b_PC_arriveReply 25 = .ok (.getfield 286, 3) := by decide +kernel
theorem d_PC_arriveReply_28 : decode b_PC_arriveReply 28 = .ok (.ifCond .eq 4, 3) := by decide +kernel
theorem d_PC_arriveReply_31 : decode b_PC_arriveReply 31 = .ok (.return_, 1) := by decide +kernel
theorem d_PC_arriveReply_32 : decode b_PC_arriveReply 32 = .ok (.aload_n 2, 1) := by decide +kernel
theorem d_PC_arriveReply_33 : decode b_PC_arriveReply 33 = .ok (.aload_n 1, 1) := by decide +kernel
theorem d_PC_arriveReply_34 : decode b_PC_arriveReply 34 = .ok (.getfield 266, 3) := by decide +kernel
theorem d_PC_arriveReply_37 : decode b_PC_arriveReply 37 = .ok (.aload_n 1, 1) := by decide +kernel
theorem d_PC_arriveReply_38 : decode b_PC_arriveReply 38 = .ok (.getfield 290, 3) := by decide +kernel
theorem d_PC_arriveReply_41 : decode b_PC_arriveReply 41 = .ok (.invokevirtual 293, 3) := by decide +kernel
