theorem d_Mo_text_87 : decode b_Mo_text 87 = .ok (.aload_n 0, 1) := by decide +kernel
theorem d_Mo_text_88 : decode b_Mo_text 88 = .ok (.iload 4, 2) := by decide +kernel
theorem d_Mo_text_90 : decode b_Mo_text 90 = .ok (.bipush 97, 2) := by decide +kernel
theorem d_Mo_text_92 : decode b_Mo_text 92 = .ok (.aload_n 0, 1) := by decide +kernel
theorem d_Mo_text_93 : decode b_Mo_text 93 = .ok (.getfield 74, 3) := by decide +kernel
theorem d_Mo_text_96 : decode b_Mo_text 96 = .ok (.iload_n 3, 1) := by decide +kernel
theorem d_Mo_text_97 : decode b_Mo_text 97 = .ok (.iconst 3, 1) := by decide +kernel
theorem d_Mo_text_98 : decode b_Mo_text 98 = .ok (.iadd, 1) := by decide +kernel
theorem d_Mo_text_99 : decode b_Mo_text 99 = .ok (.iaload, 1) := by decide +kernel
theorem d_Mo_text_100 : decode b_Mo_text 100 = .ok (.invokevirtual 171, 3) := by decide +kernel
theorem d_Mo_text_103 : decode b_Mo_text 103 = .ok (.istore 4, 2) := by decide +kernel
theorem d_Mo_text_105 : decode b_Mo_text 105 = .ok (.aload_n 0, 1) := by decide +kernel
theorem d_Mo_text_106 : decode b_Mo_text 106 = .ok (.iload 4, 2) := by decide +kernel
theorem d_Mo_text_108 : decode b_Mo_text 108 = .ok (.bipush 108, 2) := by decide +kernel
theorem d_Mo_text_110 : decode b_Mo_text 110 = .ok (.aload_n 0, 1) := by decide +kernel
theorem d_Mo_text_111 : decode b_Mo_text 111 = .ok (.getfield 74, 3) := by decide +kernel
theorem d_Mo_text_114 : decode b_Mo_text 114 = .ok (.iload_n 3, 1) := by decide +kernel
theorem d_Mo_text_115 : decode b_Mo_text 115 = .ok (.iconst 4, 1) := by decide +kernel
theorem d_Mo_text_116 : decode b_Mo_text 116 = .ok (.iadd, 1) := by decide +kernel
theorem d_Mo_text_117 : decode b_Mo_text 117 = .ok (.iaload, 1) := by decide +kernel
theorem d_Mo_text_118 : decode b_Mo_text 118 = .ok (.invokevirtual 171, 3) := by decide +kernel
theorem d_Mo_text_121 : decode b_Mo_text 121 = .ok (.istore 4, 2) := by decide +kernel
theorem d_Mo_text_123 : decode b_Mo_text 123 = .ok (.aload_n 0, 1) := by decide +kernel
theorem d_Mo_text_124 : decode b_Mo_text 124 = .ok (.iload 4, 2) := by decide +kernel
theorem d_Mo_text_126 : decode b_Mo_text 126 = .ok (.bipush 98, 2) := by decide +kernel
theorem d_Mo_text_128 : decode b_Mo_text 128 = .ok (.aload_n 0, 1) := by decide +kernel
theorem d_Mo_text_129 : decode b_Mo_text 129 = .ok (.getfield 74, 3) := by decide +kernel
theorem d_Mo_text_132 : decode b_Mo_text 132 = .ok (.iload_n 3, 1) := by decide +kernel
theorem d_Mo_text_133 : decode b_Mo_text 133 = .ok (.iconst 5, 1) := by decide +kernel
theorem d_Mo_text_134 : decode b_Mo_text 134 = .ok (.iadd, 1) := by decide +kernel
theorem d_Mo_text_135 : decode b_Mo_text 135 = .ok (.iaload, 1) := by decide +kernel
theorem d_Mo_text_136 : decode b_Mo_text 136 = .ok (.invokevirtual 171, 3) := by decide +kernel
theorem d_Mo_text_139 : decode b_Mo_text 139 = .ok (.istore 4, 2) := by decide +kernel
theorem d_Mo_text_141 : decode b_Mo_text 141 = .ok (.aload_n 0, 1) := by decide +kernel
theorem d_Mo_text_142 : decode b_Mo_text 142 = .ok (.iload 4, 2) := by decide +kernel
theorem d_Mo_text_144 : decode b_Mo_text 144 = .ok (.aload_n 0, 1) := by decide +kernel
theorem d_Mo_text_145 : decode b_Mo_text 145 = .ok (.getfield 74, 3) := by decide +kernel
theorem d_Mo_text_148 : decode b_Mo_text 148 = .ok (.iload_n 3, 1) := by decide +kernel
theorem d_Mo_text_149 : decode b_Mo_text 149 = .ok (.bipush 6, 2) := by decide +kernel
theorem d_Mo_text_151 : decode b_Mo_text 151 = .ok (.iadd, 1) := by decide +kernel
theorem d_Mo_text_152 : decode b_Mo_text 152 = .ok (.iaload, 1) := by decide +kernel
theorem d_Mo_text_153 : decode b_Mo_text 153 = .ok (.invokevirtual 175, 3) := by decide +kernel
theorem d_Mo_text_156 : decode b_Mo_text 156 = .ok (.istore 4, 2) := by decide +kernel
theorem d_Mo_text_158 : decode b_Mo_text 158 = .ok (.iconst 0, 1) := by decide +kernel
theorem d_Mo_text_159 : decode b_Mo_text 159 = .ok (.istore 5, 2) := by decide +kernel
theorem d_Mo_text_161 : decode b_Mo_text 161 = .ok (.iload 5, 2) := by decide +kernel
theorem d_Mo_text_163 : decode b_Mo_text 163 = .ok (.iconst 3, 1) := by decide +kernel
theorem d_Mo_text_164 : decode b_Mo_text 164 = .ok (.if_icmp .ge 76, 3) := by decide +kernel
theorem d_Mo_text_167 : decode b_Mo_text 167 = .ok (.aload_n 0, 1) := by decide +kernel
theorem d_Mo_text_168 : decode b_Mo_text 168 = .ok (.getfield 74, 3) := by decide +kernel
theorem d_Mo_text_171 : decode b_Mo_text 171 = .ok (.iload_n 3, 1) := by decide +kernel
theorem d_Mo_text_172 : decode b_Mo_text 172 = .ok (.iaload, 1) := by decide +kernel
theorem d_Mo_text_173 : decode b_Mo_text 173 = .ok (.bipush 82, 2) := by decide +kernel
theorem d_Mo_text_175 : decode b_Mo_text 175 = .ok (.if_icmp .ne 65, 3) := by decide +kernel
theorem d_Mo_text_178 : decode b_Mo_text 178 = .ok (.aload_n 0, 1) := by decide +kernel
theorem d_Mo_text_179 : decode b_Mo_text 179 = .ok (.getfield 74, 3) := by decide +kernel
theorem d_Mo_text_182 : decode b_Mo_text 182 = .ok (.iload_n 3, 1) := by decide +kernel
theorem d_Mo_text_183 : decode b_Mo_text 183 = .ok (.bipush 7, 2) := by decide +kernel
theorem d_Mo_text_185 : decode b_Mo_text 185 = .ok (.iadd, 1) := by decide +kernel
theorem d_Mo_text_186 : decode b_Mo_text 186 = .ok (.iload 5, 2) := by decide +kernel
theorem d_Mo_text_188 : decode b_Mo_text 188 = .ok (.iadd, 1) := by decide +kernel
theorem d_Mo_text_189 : decode b_Mo_text 189 = .ok (.iaload, 1) := by decide +kernel
theorem d_Mo_text_190 : decode b_Mo_text 190 = .ok (.istore 6, 2) := by decide +kernel
theorem d_Mo_text_192 : decode b_Mo_text 192 = .ok (.iload 6, 2) := by decide +kernel
theorem d_Mo_text_194 : decode b_Mo_text 194 = .ok (.ifCond .ge 14, 3) := by decide +kernel
theorem d_Mo_text_197 : decode b_Mo_text 197 = .ok (.aload_n 0, 1) := by decide +kernel
theorem d_Mo_text_198 : decode b_Mo_text 198 = .ok (.iload 4, 2) := by decide +kernel
theorem d_Mo_text_200 : decode b_Mo_text 200 = .ok (.bipush 45, 2) := by decide +kernel
theorem d_Mo_text_202 : decode b_Mo_text 202 = .ok (.invokevirtual 165, 3) := by decide +kernel
theorem d_Mo_text_205 : decode b_Mo_text 205 = .ok (.goto 27, 3) := by decide +kernel
theorem d_Mo_text_208 : decode b_Mo_text 208 = .ok (.aload_n 0, 1) := by decide +kernel
theorem d_Mo_text_209 : decode b_Mo_text 209 = .ok (.aload_n 0, 1) := by decide +kernel
theorem d_Mo_text_210 : decode b_Mo_text 210 = .ok (.iload 4, 2) := by decide +kernel
theorem d_Mo_text_212 : decode b_Mo_text 212 = .ok (.iload 6, 2) := by decide +kernel
theorem d_Mo_text_214 : decode b_Mo_text 214 = .ok (.invokevirtual 168, 3) := by decide +kernel
theorem d_Mo_text_217 : decode b_Mo_text 217 = .ok (.aload_n 0, 1) := by decide +kernel
theorem d_Mo_text_218 : decode b_Mo_text 218 = .ok (.getfield 74, 3) := by decide +kernel
theorem d_Mo_text_221 : decode b_Mo_text 221 = .ok (.iload_n 3, 1) := by decide +kernel
theorem d_Mo_text_222 : decode b_Mo_text 222 = .ok (.bipush 10, 2) := by decide +kernel
theorem d_Mo_text_224 : decode b_Mo_text 224 = .ok (.iadd, 1) := by decide +kernel
theorem d_Mo_text_225 : decode b_Mo_text 225 = .ok (.iload 5, 2) := by decide +kernel
theorem d_Mo_text_227 : decode b_Mo_text 227 = .ok (.iadd, 1) := by decide +kernel
theorem d_Mo_text_228 : decode b_Mo_text 228 = .ok (.iaload, 1) := by decide +kernel
theorem d_Mo_text_229 : decode b_Mo_text 229 = .ok (.invokevirtual 175, 3) := by decide +kernel
theorem d_Mo_text_232 : decode b_Mo_text 232 = .ok (.istore 4, 2) := by decide +kernel
theorem d_Mo_text_234 : decode b_Mo_text 234 = .ok (.iinc 5 1, 3) := by decide +kernel
theorem d_Mo_text_237 : decode b_Mo_text 237 = .ok (.goto (-76), 3) := by decide +kernel
theorem d_Mo_text_240 : decode b_Mo_text 240 = .ok (.iload 4, 2) := by decide +kernel
theorem d_Mo_text_242 : decode b_Mo_text 242 = .ok (.ifCond .ge 11, 3) := by decide +kernel
theorem d_Mo_text_245 : decode b_Mo_text 245 = .ok (.iload 4, 2) := by decide +kernel
theorem d_Mo_text_247 : decode b_Mo_text 247 = .ok (.ineg, 1) := by decide +kernel
theorem d_Mo_text_248 : decode b_Mo_text 248 = .ok (.iconst 1, 1) := by decide +kernel
theorem d_Mo_text_249 : decode b_Mo_text 249 = .ok (.isub, 1) := by decide +kernel
theorem d_Mo_text_250 : decode b_Mo_text 250 = .ok (.goto 4, 3) := by decide +kernel
theorem d_Mo_text_253 : decode b_Mo_text 253 = .ok (.iconst (-1), 1) := by decide +kernel
theorem d_Mo_text_254 : decode b_Mo_text 254 = .ok (.ireturn, 1) := by decide +kernel
theorem d_Mo_thrown_0 : decode b_Mo_thrown 0 = .ok (.aload_n 0, 1) := by decide +kernel
theorem d_Mo_thrown_1 : decode b_Mo_thrown 1 = .ok (.getfield 85, 3) := by decide +kernel
theorem d_Mo_thrown_4 : decode b_Mo_thrown 4 = .ok (.ireturn, 1) := by decide +kernel
theorem d_Mo_told_0 : decode b_Mo_told 0 = .ok (.bipush 8, 2) := by decide +kernel
theorem d_Mo_told_2 : decode b_Mo_told 2 = .ok (.iload_n 1, 1) := by decide +kernel
theorem d_Mo_told_3 : decode b_Mo_told 3 = .ok (.imul, 1) := by decide +kernel
theorem d_Mo_told_4 : decode b_Mo_told 4 = .ok (.iload_n 2, 1) := by decide +kernel
theorem d_Mo_told_5 : decode b_Mo_told 5 = .ok (.iadd, 1) := by decide +kernel
theorem d_Mo_told_6 : decode b_Mo_told 6 = .ok (.istore 7, 2) := by decide +kernel
theorem d_Mo_told_8 : decode b_Mo_told 8 = .ok (.bipush 9, 2) := by decide +kernel
theorem d_Mo_told_10 : decode b_Mo_told 10 = .ok (.iload 7, 2) := by decide +kernel
theorem d_Mo_told_12 : decode b_Mo_told 12 = .ok (.imul, 1) := by decide +kernel
theorem d_Mo_told_13 : decode b_Mo_told 13 = .ok (.iconst 3, 1) := by decide +kernel
theorem d_Mo_told_14 : decode b_Mo_told 14 = .ok (.iload 4, 2) := by decide +kernel
theorem d_Mo_told_16 : decode b_Mo_told 16 = .ok (.imul, 1) := by decide +kernel
theorem d_Mo_told_17 : decode b_Mo_told 17 = .ok (.iadd, 1) := by decide +kernel
theorem d_Mo_told_18 : decode b_Mo_told 18 = .ok (.iload_n 3, 1) := by decide +kernel
theorem d_Mo_told_19 : decode b_Mo_told 19 = .ok (.iadd, 1) := by decide +kernel
theorem d_Mo_told_20 : decode b_Mo_told 20 = .ok (.istore 8, 2) := by decide +kernel
theorem d_Mo_told_22 : decode b_Mo_told 22 = .ok (.aload_n 0, 1) := by decide +kernel
theorem d_Mo_told_23 : decode b_Mo_told 23 = .ok (.getfield 68, 3) := by decide +kernel
theorem d_Mo_told_26 : decode b_Mo_told 26 = .ok (.iload 8, 2) := by decide +kernel
theorem d_Mo_told_28 : decode b_Mo_told 28 = .ok (.iaload, 1) := by decide +kernel
theorem d_Mo_told_29 : decode b_Mo_told 29 = .ok (.iload 5, 2) := by decide +kernel
theorem d_Mo_told_31 : decode b_Mo_told 31 = .ok (.if_icmp .ge 21, 3) := by decide +kernel
theorem d_Mo_told_34 : decode b_Mo_told 34 = .ok (.aload_n 0, 1) := by decide +kernel
theorem d_Mo_told_35 : decode b_Mo_told 35 = .ok (.getfield 68, 3) := by decide +kernel
theorem d_Mo_told_38 : decode b_Mo_told 38 = .ok (.iload 8, 2) := by decide +kernel
theorem d_Mo_told_40 : decode b_Mo_told 40 = .ok (.iload 5, 2) := by decide +kernel
theorem d_Mo_told_42 : decode b_Mo_told 42 = .ok (.iastore, 1) := by decide +kernel
theorem d_Mo_told_43 : decode b_Mo_told 43 = .ok (.aload_n 0, 1) := by decide +kernel
theorem d_Mo_told_44 : decode b_Mo_told 44 = .ok (.getfield 71, 3) := by decide +kernel
theorem d_Mo_told_47 : decode b_Mo_told 47 = .ok (.iload 8, 2) := by decide +kernel
theorem d_Mo_told_49 : decode b_Mo_told 49 = .ok (.iload 6, 2) := by decide +kernel
theorem d_Mo_told_51 : decode b_Mo_told 51 = .ok (.iastore, 1) := by decide +kernel
theorem d_Mo_told_52 : decode b_Mo_told 52 = .ok (.aload_n 0, 1) := by decide +kernel
theorem d_Mo_told_53 : decode b_Mo_told 53 = .ok (.getfield 56, 3) := by decide +kernel
theorem d_Mo_told_56 : decode b_Mo_told 56 = .ok (.iload 7, 2) := by decide +kernel
theorem d_Mo_told_58 : decode b_Mo_told 58 = .ok (.iaload, 1) := by decide +kernel
theorem d_Mo_told_59 : decode b_Mo_told 59 = .ok (.ifCond .lt 4, 3) := by decide +kernel
theorem d_Mo_told_62 : decode b_Mo_told 62 = .ok (.return_, 1) := by decide +kernel
theorem d_Mo_told_63 : decode b_Mo_told 63 = .ok (.iconst 1, 1) := by decide +kernel
theorem d_Mo_told_64 : decode b_Mo_told 64 = .ok (.istore 9, 2) := by decide +kernel
theorem d_Mo_told_66 : decode b_Mo_told 66 = .ok (.iconst 0, 1) := by decide +kernel
theorem d_Mo_told_67 : decode b_Mo_told 67 = .ok (.istore 10, 2) := by decide +kernel
theorem d_Mo_told_69 : decode b_Mo_told 69 = .ok (.iconst 0, 1) := by decide +kernel
theorem d_Mo_told_70 : decode b_Mo_told 70 = .ok (.istore 11, 2) := by decide +kernel
theorem d_Mo_told_72 : decode b_Mo_told 72 = .ok (.iload 11, 2) := by decide +kernel
theorem d_Mo_told_74 : decode b_Mo_told 74 = .ok (.iconst 3, 1) := by decide +kernel
theorem d_Mo_told_75 : decode b_Mo_told 75 = .ok (.if_icmp .ge 63, 3) := by decide +kernel
theorem d_Mo_told_78 : decode b_Mo_told 78 = .ok (.aload_n 0, 1) := by decide +kernel
theorem d_Mo_told_79 : decode b_Mo_told 79 = .ok (.iload_n 2, 1) := by decide +kernel
theorem d_Mo_told_80 : decode b_Mo_told 80 = .ok (.iload 11, 2) := by decide +kernel
theorem d_Mo_told_82 : decode b_Mo_told 82 = .ok (.invokevirtual 116, 3) := by decide +kernel
theorem d_Mo_told_85 : decode b_Mo_told 85 = .ok (.ifCond .ne 6, 3) := by decide +kernel
theorem d_Mo_told_88 : decode b_Mo_told 88 = .ok (.goto 44, 3) := by decide +kernel
theorem d_Mo_told_91 : decode b_Mo_told 91 = .ok (.aload_n 0, 1) := by decide +kernel
theorem d_Mo_told_92 : decode b_Mo_told 92 = .ok (.iload 7, 2) := by decide +kernel
theorem d_Mo_told_94 : decode b_Mo_told 94 = .ok (.iload 11, 2) := by decide +kernel
theorem d_Mo_told_96 : decode b_Mo_told 96 = .ok (.invokevirtual 134, 3) := by decide +kernel
theorem d_Mo_told_99 : decode b_Mo_told 99 = .ok (.istore 12, 2) := by decide +kernel
theorem d_Mo_told_101 : decode b_Mo_told 101 = .ok (.iload 10, 2) := by decide +kernel
theorem d_Mo_told_103 : decode b_Mo_told 103 = .ok (.iload 12, 2) := by decide +kernel
theorem d_Mo_told_105 : decode b_Mo_told 105 = .ok (.ifCond .ne 7, 3) := by decide +kernel
theorem d_Mo_told_108 : decode b_Mo_told 108 = .ok (.iconst 1, 1) := by decide +kernel
theorem d_Mo_told_109 : decode b_Mo_told 109 = .ok (.goto 4, 3) := by decide +kernel
theorem d_Mo_told_112 : decode b_Mo_told 112 = .ok (.iconst 0, 1) := by decide +kernel
theorem d_Mo_told_113 : decode b_Mo_told 113 = .ok (.ior, 1) := by decide +kernel
theorem d_Mo_told_114 : decode b_Mo_told 114 = .ok (.istore 10, 2) := by decide +kernel
theorem d_Mo_told_116 : decode b_Mo_told 116 = .ok (.iload 9, 2) := by decide +kernel
theorem d_Mo_told_118 : decode b_Mo_told 118 = .ok (.iload 12, 2) := by decide +kernel
theorem d_Mo_told_120 : decode b_Mo_told 120 = .ok (.iconst 1, 1) := by decide +kernel
theorem d_Mo_told_121 : decode b_Mo_told 121 = .ok (.if_icmp .ne 7, 3) := by decide +kernel
theorem d_Mo_told_124 : decode b_Mo_told 124 = .ok (.iconst 1, 1) := by decide +kernel
theorem d_Mo_told_125 : decode b_Mo_told 125 = .ok (.goto 4, 3) := by decide +kernel
theorem d_Mo_told_128 : decode b_Mo_told 128 = .ok (.iconst 0, 1) := by decide +kernel
theorem d_Mo_told_129 : decode b_Mo_told 129 = .ok (.iand, 1) := by decide +kernel
theorem d_Mo_told_130 : decode b_Mo_told 130 = .ok (.istore 9, 2) := by decide +kernel
theorem d_Mo_told_132 : decode b_Mo_told 132 = .ok (.iinc 11 1, 3) := by decide +kernel
theorem d_Mo_told_135 : decode b_Mo_told 135 = .ok (.goto (-63), 3) := by decide +kernel
theorem d_Mo_told_138 : decode b_Mo_told 138 = .ok (.iload 10, 2) := by decide +kernel
theorem d_Mo_told_140 : decode b_Mo_told 140 = .ok (.ifCond .ne 9, 3) := by decide +kernel
theorem d_Mo_told_143 : decode b_Mo_told 143 = .ok (.iload 9, 2) := by decide +kernel
theorem d_Mo_told_145 : decode b_Mo_told 145 = .ok (.ifCond .ne 4, 3) := by decide +kernel
theorem d_Mo_told_148 : decode b_Mo_told 148 = .ok (.return_, 1) := by decide +kernel
theorem d_Mo_told_149 : decode b_Mo_told 149 = .ok (.aload_n 0, 1) := by decide +kernel
theorem d_Mo_told_150 : decode b_Mo_told 150 = .ok (.getfield 56, 3) := by decide +kernel
theorem d_Mo_told_153 : decode b_Mo_told 153 = .ok (.iload 7, 2) := by decide +kernel
theorem d_Mo_told_155 : decode b_Mo_told 155 = .ok (.iload 10, 2) := by decide +kernel
theorem d_Mo_told_157 : decode b_Mo_told 157 = .ok (.ifCond .eq 7, 3) := by decide +kernel
theorem d_Mo_told_160 : decode b_Mo_told 160 = .ok (.iconst 1, 1) := by decide +kernel
theorem d_Mo_told_161 : decode b_Mo_told 161 = .ok (.goto 4, 3) := by decide +kernel
theorem d_Mo_told_164 : decode b_Mo_told 164 = .ok (.iconst 0, 1) := by decide +kernel
theorem d_Mo_told_165 : decode b_Mo_told 165 = .ok (.iastore, 1) := by decide +kernel
theorem d_Mo_told_166 : decode b_Mo_told 166 = .ok (.iconst 0, 1) := by decide +kernel
theorem d_Mo_told_167 : decode b_Mo_told 167 = .ok (.istore 11, 2) := by decide +kernel
theorem d_Mo_told_169 : decode b_Mo_told 169 = .ok (.iload 11, 2) := by decide +kernel
theorem d_Mo_told_171 : decode b_Mo_told 171 = .ok (.iconst 3, 1) := by decide +kernel
theorem d_Mo_told_172 : decode b_Mo_told 172 = .ok (.if_icmp .ge 43, 3) := by decide +kernel
theorem d_Mo_told_175 : decode b_Mo_told 175 = .ok (.aload_n 0, 1) := by decide +kernel
theorem d_Mo_told_176 : decode b_Mo_told 176 = .ok (.iload_n 2, 1) := by decide +kernel
theorem d_Mo_told_177 : decode b_Mo_told 177 = .ok (.iload 11, 2) := by decide +kernel
theorem d_Mo_told_179 : decode b_Mo_told 179 = .ok (.invokevirtual 116, 3) := by decide +kernel
theorem d_Mo_told_182 : decode b_Mo_told 182 = .ok (.ifCond .eq 27, 3) := by decide +kernel
theorem d_Mo_told_185 : decode b_Mo_told 185 = .ok (.aload_n 0, 1) := by decide +kernel
theorem d_Mo_told_186 : decode b_Mo_told 186 = .ok (.bipush 79, 2) := by decide +kernel
theorem d_Mo_told_188 : decode b_Mo_told 188 = .ok (.iload_n 2, 1) := by decide +kernel
theorem d_Mo_told_189 : decode b_Mo_told 189 = .ok (.iload 11, 2) := by decide +kernel
theorem d_Mo_told_191 : decode b_Mo_told 191 = .ok (.iconst (-1), 1) := by decide +kernel
theorem d_Mo_told_192 : decode b_Mo_told 192 = .ok (.iconst (-1), 1) := by decide +kernel
theorem d_Mo_told_193 : decode b_Mo_told 193 = .ok (.iconst (-1), 1) := by decide +kernel
theorem d_Mo_told_194 : decode b_Mo_told 194 = .ok (.iload 10, 2) := by decide +kernel
theorem d_Mo_told_196 : decode b_Mo_told 196 = .ok (.ifCond .eq 7, 3) := by decide +kernel
theorem d_Mo_told_199 : decode b_Mo_told 199 = .ok (.iconst 0, 1) := by decide +kernel
theorem d_Mo_told_200 : decode b_Mo_told 200 = .ok (.goto 4, 3) := by decide +kernel
theorem d_Mo_told_203 : decode b_Mo_told 203 = .ok (.iconst 1, 1) := by decide +kernel
theorem d_Mo_told_204 : decode b_Mo_told 204 = .ok (.invokevirtual 94, 3) := by decide +kernel
theorem d_Mo_told_207 : decode b_Mo_told 207 = .ok (.istore 12, 2) := by decide +kernel
theorem d_Mo_told_209 : decode b_Mo_told 209 = .ok (.iinc 11 1, 3) := by decide +kernel
theorem d_Mo_told_212 : decode b_Mo_told 212 = .ok (.goto (-43), 3) := by decide +kernel
theorem d_Mo_told_215 : decode b_Mo_told 215 = .ok (.return_, 1) := by decide +kernel
theorem d_Mo_unlock_0 : decode b_Mo_unlock 0 = .ok (.iconst 0, 1) := by decide +kernel
theorem d_Mo_unlock_1 : decode b_Mo_unlock 1 = .ok (.istore_n 3, 1) := by decide +kernel
theorem d_Mo_unlock_2 : decode b_Mo_unlock 2 = .ok (.iload_n 3, 1) := by decide +kernel
theorem d_Mo_unlock_3 : decode b_Mo_unlock 3 = .ok (.iconst 4, 1) := by decide +kernel
theorem d_Mo_unlock_4 : decode b_Mo_unlock 4 = .ok (.if_icmp .ge 34, 3) := by decide +kernel
theorem d_Mo_unlock_7 : decode b_Mo_unlock 7 = .ok (.aload_n 0, 1) := by decide +kernel
theorem d_Mo_unlock_8 : decode b_Mo_unlock 8 = .ok (.getfield 23, 3) := by decide +kernel
theorem d_Mo_unlock_11 : decode b_Mo_unlock 11 = .ok (.iconst 4, 1) := by decide +kernel
theorem d_Mo_unlock_12 : decode b_Mo_unlock 12 = .ok (.iload_n 2, 1) := by decide +kernel
theorem d_Mo_unlock_13 : decode b_Mo_unlock 13 = .ok (.imul, 1) := by decide +kernel
theorem d_Mo_unlock_14 : decode b_Mo_unlock 14 = .ok (.iload_n 3, 1) := by decide +kernel
theorem d_Mo_unlock_15 : decode b_Mo_unlock 15 = .ok (.iadd, 1) := by decide +kernel
theorem d_Mo_unlock_16 : decode b_Mo_unlock 16 = .ok (.iaload, 1) := by decide +kernel
theorem d_Mo_unlock_17 : decode b_Mo_unlock 17 = .ok (.iload_n 1, 1) := by decide +kernel
theorem d_Mo_unlock_18 : decode b_Mo_unlock 18 = .ok (.if_icmp .ne 14, 3) := by decide +kernel
theorem d_Mo_unlock_21 : decode b_Mo_unlock 21 = .ok (.aload_n 0, 1) := by decide +kernel
theorem d_Mo_unlock_22 : decode b_Mo_unlock 22 = .ok (.getfield 23, 3) := by decide +kernel
theorem d_Mo_unlock_25 : decode b_Mo_unlock 25 = .ok (.iconst 4, 1) := by decide +kernel
theorem d_Mo_unlock_26 : decode b_Mo_unlock 26 = .ok (.iload_n 2, 1) := by decide +kernel
theorem d_Mo_unlock_27 : decode b_Mo_unlock 27 = .ok (.imul, 1) := by decide +kernel
theorem d_Mo_unlock_28 : decode b_Mo_unlock 28 = .ok (.iload_n 3, 1) := by decide +kernel
theorem d_Mo_unlock_29 : decode b_Mo_unlock 29 = .ok (.iadd, 1) := by decide +kernel
theorem d_Mo_unlock_30 : decode b_Mo_unlock 30 = .ok (.iconst (-1), 1) := by decide +kernel
theorem d_Mo_unlock_31 : decode b_Mo_unlock 31 = .ok (.iastore, 1) := by decide +kernel
theorem d_Mo_unlock_32 : decode b_Mo_unlock 32 = .ok (.iinc 3 1, 3) := by decide +kernel
theorem d_Mo_unlock_35 : decode b_Mo_unlock 35 = .ok (.goto (-33), 3) := by decide +kernel
theorem d_Mo_unlock_38 : decode b_Mo_unlock 38 = .ok (.return_, 1) := by decide +kernel
theorem d_Mo_up_0 : decode b_Mo_up 0 = .ok (.aload_n 0, 1) := by decide +kernel
theorem d_Mo_up_1 : decode b_Mo_up 1 = .ok (.aload_n 0, 1) := by decide +kernel
theorem d_Mo_up_2 : decode b_Mo_up 2 = .ok (.iload_n 1, 1) := by decide +kernel
theorem d_Mo_up_3 : decode b_Mo_up 3 = .ok (.iconst 3, 1) := by decide +kernel
theorem d_Mo_up_4 : decode b_Mo_up 4 = .ok (.invokevirtual 109, 3) := by decide +kernel
theorem d_Mo_up_7 : decode b_Mo_up 7 = .ok (.ifCond .ne 32, 3) := by decide +kernel
theorem d_Mo_up_10 : decode b_Mo_up 10 = .ok (.aload_n 0, 1) := by decide +kernel
theorem d_Mo_up_11 : decode b_Mo_up 11 = .ok (.iload_n 2, 1) := by decide +kernel
theorem d_Mo_up_12 : decode b_Mo_up 12 = .ok (.iload_n 1, 1) := by decide +kernel
theorem d_Mo_up_13 : decode b_Mo_up 13 = .ok (.ifCond .ne 7, 3) := by decide +kernel
theorem d_Mo_up_16 : decode b_Mo_up 16 = .ok (.iconst 3, 1) := by decide +kernel
theorem d_Mo_up_17 : decode b_Mo_up 17 = .ok (.goto 16, 3) := by decide +kernel
theorem d_Mo_up_20 : decode b_Mo_up 20 = .ok (.iload_n 1, 1) := by decide +kernel
theorem d_Mo_up_21 : decode b_Mo_up 21 = .ok (.iconst 1, 1) := by decide +kernel
theorem d_Mo_up_22 : decode b_Mo_up 22 = .ok (.if_icmp .ne 10, 3) := by decide +kernel
theorem d_Mo_up_25 : decode b_Mo_up 25 = .ok (.aload_n 0, 1) := by decide +kernel
theorem d_Mo_up_26 : decode b_Mo_up 26 = .ok (.getfield 77, 3) := by decide +kernel
theorem d_Mo_up_29 : decode b_Mo_up 29 = .ok (.goto 4, 3) := by decide +kernel
theorem d_Mo_up_32 : decode b_Mo_up 32 = .ok (.iconst 2, 1) := by decide +kernel
theorem d_Mo_up_33 : decode b_Mo_up 33 = .ok (.invokevirtual 109, 3) := by decide +kernel
theorem d_Mo_up_36 : decode b_Mo_up 36 = .ok (.ifCond .eq 7, 3) := by decide +kernel
theorem d_Mo_up_39 : decode b_Mo_up 39 = .ok (.iconst 1, 1) := by decide +kernel
theorem d_Mo_up_40 : decode b_Mo_up 40 = .ok (.goto 4, 3) := by decide +kernel
theorem d_Mo_up_43 : decode b_Mo_up 43 = .ok (.iconst 0, 1) := by decide +kernel
theorem d_Mo_up_44 : decode b_Mo_up 44 = .ok (.putfield 85, 3) := by decide +kernel
theorem d_Mo_up_47 : decode b_Mo_up 47 = .ok (.aload_n 0, 1) := by decide +kernel
theorem d_Mo_up_48 : decode b_Mo_up 48 = .ok (.getfield 85, 3) := by decide +kernel
theorem d_Mo_up_51 : decode b_Mo_up 51 = .ok (.ifCond .le 5, 3) := by decide +kernel
theorem d_Mo_up_54 : decode b_Mo_up 54 = .ok (.iconst 0, 1) := by decide +kernel
theorem d_Mo_up_55 : decode b_Mo_up 55 = .ok (.ireturn, 1) := by decide +kernel
theorem d_Mo_up_56 : decode b_Mo_up 56 = .ok (.iload_n 1, 1) := by decide +kernel
theorem d_Mo_up_57 : decode b_Mo_up 57 = .ok (.ifCond .ne 20, 3) := by decide +kernel
theorem d_Mo_up_60 : decode b_Mo_up 60 = .ok (.aload_n 0, 1) := by decide +kernel
theorem d_Mo_up_61 : decode b_Mo_up 61 = .ok (.getfield 7, 3) := by decide +kernel
theorem d_Mo_up_64 : decode b_Mo_up 64 = .ok (.iload_n 2, 1) := by decide +kernel
theorem d_Mo_up_65 : decode b_Mo_up 65 = .ok (.baload, 1) := by decide +kernel
theorem d_Mo_up_66 : decode b_Mo_up 66 = .ok (.ifCond .ne 7, 3) := by decide +kernel
theorem d_Mo_up_69 : decode b_Mo_up 69 = .ok (.iconst 1, 1) := by decide +kernel
theorem d_Mo_up_70 : decode b_Mo_up 70 = .ok (.goto 43, 3) := by decide +kernel
theorem d_Mo_up_73 : decode b_Mo_up 73 = .ok (.iconst 0, 1) := by decide +kernel
theorem d_Mo_up_74 : decode b_Mo_up 74 = .ok (.goto 39, 3) := by decide +kernel
theorem d_Mo_up_77 : decode b_Mo_up 77 = .ok (.iload_n 1, 1) := by decide +kernel
theorem d_Mo_up_78 : decode b_Mo_up 78 = .ok (.iconst 1, 1) := by decide +kernel
theorem d_Mo_up_79 : decode b_Mo_up 79 = .ok (.if_icmp .ne 20, 3) := by decide +kernel
theorem d_Mo_up_82 : decode b_Mo_up 82 = .ok (.aload_n 0, 1) := by decide +kernel
theorem d_Mo_up_83 : decode b_Mo_up 83 = .ok (.getfield 13, 3) := by decide +kernel
theorem d_Mo_up_86 : decode b_Mo_up 86 = .ok (.iload_n 2, 1) := by decide +kernel
theorem d_Mo_up_87 : decode b_Mo_up 87 = .ok (.baload, 1) := by decide +kernel
theorem d_Mo_up_88 : decode b_Mo_up 88 = .ok (.ifCond .ne 7, 3) := by decide +kernel
theorem d_Mo_up_91 : decode b_Mo_up 91 = .ok (.iconst 1, 1) := by decide +kernel
theorem d_Mo_up_92 : decode b_Mo_up 92 = .ok (.goto 21, 3) := by decide +kernel
theorem d_Mo_up_95 : decode b_Mo_up 95 = .ok (.iconst 0, 1) := by decide +kernel
theorem d_Mo_up_96 : decode b_Mo_up 96 = .ok (.goto 17, 3) := by decide +kernel
theorem d_Mo_up_99 : decode b_Mo_up 99 = .ok (.aload_n 0, 1) := by decide +kernel
theorem d_Mo_up_100 : decode b_Mo_up 100 = .ok (.getfield 16, 3) := by decide +kernel
theorem d_Mo_up_103 : decode b_Mo_up 103 = .ok (.iload_n 2, 1) := by decide +kernel
theorem d_Mo_up_104 : decode b_Mo_up 104 = .ok (.baload, 1) := by decide +kernel
theorem d_Mo_up_105 : decode b_Mo_up 105 = .ok (.ifCond .ne 7, 3) := by decide +kernel
theorem d_Mo_up_108 : decode b_Mo_up 108 = .ok (.iconst 1, 1) := by decide +kernel
theorem d_Mo_up_109 : decode b_Mo_up 109 = .ok (.goto 4, 3) := by decide +kernel
theorem d_Mo_up_112 : decode b_Mo_up 112 = .ok (.iconst 0, 1) := by decide +kernel
theorem d_Mo_up_113 : decode b_Mo_up 113 = .ok (.istore 4, 2) := by decide +kernel
theorem d_Mo_up_115 : decode b_Mo_up 115 = .ok (.iload_n 1, 1) := by decide +kernel
theorem d_Mo_up_116 : decode b_Mo_up 116 = .ok (.ifCond .ne 63, 3) := by decide +kernel
theorem d_Mo_up_119 : decode b_Mo_up 119 = .ok (.aload_n 0, 1) := by decide +kernel
theorem d_Mo_up_120 : decode b_Mo_up 120 = .ok (.getfield 7, 3) := by decide +kernel
theorem d_Mo_up_123 : decode b_Mo_up 123 = .ok (.iload_n 2, 1) := by decide +kernel
theorem d_Mo_up_124 : decode b_Mo_up 124 = .ok (.iload_n 3, 1) := by decide +kernel
theorem d_Mo_up_125 : decode b_Mo_up 125 = .ok (.ifCond .ne 7, 3) := by decide +kernel
theorem d_Mo_up_128 : decode b_Mo_up 128 = .ok (.iconst 1, 1) := by decide +kernel
theorem d_Mo_up_129 : decode b_Mo_up 129 = .ok (.goto 4, 3) := by decide +kernel
theorem d_Mo_up_132 : decode b_Mo_up 132 = .ok (.iconst 0, 1) := by decide +kernel
theorem d_Mo_up_133 : decode b_Mo_up 133 = .ok (.bastore, 1) := by decide +kernel
theorem d_Mo_up_134 : decode b_Mo_up 134 = .ok (.iconst 0, 1) := by decide +kernel
theorem d_Mo_up_135 : decode b_Mo_up 135 = .ok (.istore 5, 2) := by decide +kernel
theorem d_Mo_up_137 : decode b_Mo_up 137 = .ok (.iload 5, 2) := by decide +kernel
theorem d_Mo_up_139 : decode b_Mo_up 139 = .ok (.bipush 8, 2) := by decide +kernel
theorem d_Mo_up_141 : decode b_Mo_up 141 = .ok (.if_icmp .ge 35, 3) := by decide +kernel
theorem d_Mo_up_144 : decode b_Mo_up 144 = .ok (.iload_n 3, 1) := by decide +kernel
theorem d_Mo_up_145 : decode b_Mo_up 145 = .ok (.ifCond .ne 25, 3) := by decide +kernel
theorem d_Mo_up_148 : decode b_Mo_up 148 = .ok (.aload_n 0, 1) := by decide +kernel
theorem d_Mo_up_149 : decode b_Mo_up 149 = .ok (.getfield 32, 3) := by decide +kernel
theorem d_Mo_up_152 : decode b_Mo_up 152 = .ok (.iconst 3, 1) := by decide +kernel
theorem d_Mo_up_153 : decode b_Mo_up 153 = .ok (.iload 5, 2) := by decide +kernel
theorem d_Mo_up_155 : decode b_Mo_up 155 = .ok (.imul, 1) := by decide +kernel
theorem d_Mo_up_156 : decode b_Mo_up 156 = .ok (.iload_n 2, 1) := by decide +kernel
theorem d_Mo_up_157 : decode b_Mo_up 157 = .ok (.iadd, 1) := by decide +kernel
theorem d_Mo_up_158 : decode b_Mo_up 158 = .ok (.iaload, 1) := by decide +kernel
theorem d_Mo_up_159 : decode b_Mo_up 159 = .ok (.iconst 1, 1) := by decide +kernel
theorem d_Mo_up_160 : decode b_Mo_up 160 = .ok (.if_icmp .ne 10, 3) := by decide +kernel
theorem d_Mo_up_163 : decode b_Mo_up 163 = .ok (.aload_n 0, 1) := by decide +kernel
theorem d_Mo_up_164 : decode b_Mo_up 164 = .ok (.iload 5, 2) := by decide +kernel
theorem d_Mo_up_166 : decode b_Mo_up 166 = .ok (.iload_n 2, 1) := by decide +kernel
theorem d_Mo_up_167 : decode b_Mo_up 167 = .ok (.invokevirtual 119, 3) := by decide +kernel
theorem d_Mo_up_170 : decode b_Mo_up 170 = .ok (.iinc 5 1, 3) := by decide +kernel
theorem d_Mo_up_173 : decode b_Mo_up 173 = .ok (.goto (-36), 3) := by decide +kernel
theorem d_Mo_up_176 : decode b_Mo_up 176 = .ok (.goto 50, 3) := by decide +kernel
theorem d_Mo_up_179 : decode b_Mo_up 179 = .ok (.iload_n 1, 1) := by decide +kernel
theorem d_Mo_up_180 : decode b_Mo_up 180 = .ok (.iconst 1, 1) := by decide +kernel
theorem d_Mo_up_181 : decode b_Mo_up 181 = .ok (.if_icmp .ne 21, 3) := by decide +kernel
theorem d_Mo_up_184 : decode b_Mo_up 184 = .ok (.aload_n 0, 1) := by decide +kernel
theorem d_Mo_up_185 : decode b_Mo_up 185 = .ok (.getfield 13, 3) := by decide +kernel
theorem d_Mo_up_188 : decode b_Mo_up 188 = .ok (.iload_n 2, 1) := by decide +kernel
theorem d_Mo_up_189 : decode b_Mo_up 189 = .ok (.iload_n 3, 1) := by decide +kernel
theorem d_Mo_up_190 : decode b_Mo_up 190 = .ok (.ifCond .ne 7, 3) := by decide +kernel
theorem d_Mo_up_193 : decode b_Mo_up 193 = .ok (.iconst 1, 1) := by decide +kernel
theorem d_Mo_up_194 : decode b_Mo_up 194 = .ok (.goto 4, 3) := by decide +kernel
theorem d_Mo_up_197 : decode b_Mo_up 197 = .ok (.iconst 0, 1) := by decide +kernel
theorem d_Mo_up_198 : decode b_Mo_up 198 = .ok (.bastore, 1) := by decide +kernel
theorem d_Mo_up_199 : decode b_Mo_up 199 = .ok (.goto 27, 3) := by decide +kernel
theorem d_Mo_up_202 : decode b_Mo_up 202 = .ok (.aload_n 0, 1) := by decide +kernel
theorem d_Mo_up_203 : decode b_Mo_up 203 = .ok (.getfield 16, 3) := by decide +kernel
theorem d_Mo_up_206 : decode b_Mo_up 206 = .ok (.iload_n 2, 1) := by decide +kernel
theorem d_Mo_up_207 : decode b_Mo_up 207 = .ok (.iload_n 3, 1) := by decide +kernel
theorem d_Mo_up_208 : decode b_Mo_up 208 = .ok (.ifCond .ne 7, 3) := by decide +kernel
theorem d_Mo_up_211 : decode b_Mo_up 211 = .ok (.iconst 1, 1) := by decide +kernel
theorem d_Mo_up_212 : decode b_Mo_up 212 = .ok (.goto 4, 3) := by decide +kernel
theorem d_Mo_up_215 : decode b_Mo_up 215 = .ok (.iconst 0, 1) := by decide +kernel
theorem d_Mo_up_216 : decode b_Mo_up 216 = .ok (.bastore, 1) := by decide +kernel
theorem d_Mo_up_217 : decode b_Mo_up 217 = .ok (.iload_n 3, 1) := by decide +kernel
theorem d_Mo_up_218 : decode b_Mo_up 218 = .ok (.ifCond .ne 8, 3) := by decide +kernel
theorem d_Mo_up_221 : decode b_Mo_up 221 = .ok (.aload_n 0, 1) := by decide +kernel
theorem d_Mo_up_222 : decode b_Mo_up 222 = .ok (.iload_n 2, 1) := by decide +kernel
theorem d_Mo_up_223 : decode b_Mo_up 223 = .ok (.invokevirtual 81, 3) := by decide +kernel
theorem d_Mo_up_226 : decode b_Mo_up 226 = .ok (.iload 4, 2) := by decide +kernel
theorem d_Mo_up_228 : decode b_Mo_up 228 = .ok (.ireturn, 1) := by decide +kernel
theorem d_Mo_upSet_0 : decode b_Mo_upSet 0 = .ok (.iconst 0, 1) := by decide +kernel
theorem d_Mo_upSet_1 : decode b_Mo_upSet 1 = .ok (.istore_n 3, 1) := by decide +kernel
theorem d_Mo_upSet_2 : decode b_Mo_upSet 2 = .ok (.iconst 0, 1) := by decide +kernel
theorem d_Mo_upSet_3 : decode b_Mo_upSet 3 = .ok (.istore 4, 2) := by decide +kernel
theorem d_Mo_upSet_5 : decode b_Mo_upSet 5 = .ok (.iload 4, 2) := by decide +kernel
theorem d_Mo_upSet_7 : decode b_Mo_upSet 7 = .ok (.iload_n 2, 1) := by decide +kernel
theorem d_Mo_upSet_8 : decode b_Mo_upSet 8 = .ok (.if_icmp .ge 27, 3) := by decide +kernel
theorem d_Mo_upSet_11 : decode b_Mo_upSet 11 = .ok (.iload_n 3, 1) := by decide +kernel
theorem d_Mo_upSet_12 : decode b_Mo_upSet 12 = .ok (.aload_n 1, 1) := by decide +kernel
theorem d_Mo_upSet_13 : decode b_Mo_upSet 13 = .ok (.iload 4, 2) := by decide +kernel
theorem d_Mo_upSet_15 : decode b_Mo_upSet 15 = .ok (.baload, 1) := by decide +kernel
theorem d_Mo_upSet_16 : decode b_Mo_upSet 16 = .ok (.ifCond .eq 7, 3) := by decide +kernel
theorem d_Mo_upSet_19 : decode b_Mo_upSet 19 = .ok (.iconst 0, 1) := by decide +kernel
theorem d_Mo_upSet_20 : decode b_Mo_upSet 20 = .ok (.goto 7, 3) := by decide +kernel
theorem d_Mo_upSet_23 : decode b_Mo_upSet 23 = .ok (.iconst 1, 1) := by decide +kernel
theorem d_Mo_upSet_24 : decode b_Mo_upSet 24 = .ok (.iload 4, 2) := by decide +kernel
theorem d_Mo_upSet_26 : decode b_Mo_upSet 26 = .ok (.ishl, 1) := by decide +kernel
theorem d_Mo_upSet_27 : decode b_Mo_upSet 27 = .ok (.ior, 1) := by decide +kernel
theorem d_Mo_upSet_28 : decode b_Mo_upSet 28 = .ok (.istore_n 3, 1) := by decide +kernel
theorem d_Mo_upSet_29 : decode b_Mo_upSet 29 = .ok (.iinc 4 1, 3) := by decide +kernel
theorem d_Mo_upSet_32 : decode b_Mo_upSet 32 = .ok (.goto (-27), 3) := by decide +kernel
theorem d_Mo_upSet_35 : decode b_Mo_upSet 35 = .ok (.iload_n 3, 1) := by decide +kernel
theorem d_Mo_upSet_36 : decode b_Mo_upSet 36 = .ok (.ireturn, 1) := by decide +kernel
theorem d_Mo_value_0 : decode b_Mo_value 0 = .ok (.aload_n 0, 1) := by decide +kernel
theorem d_Mo_value_1 : decode b_Mo_value 1 = .ok (.iconst 0, 1) := by decide +kernel
theorem d_Mo_value_2 : decode b_Mo_value 2 = .ok (.putfield 85, 3) := by decide +kernel
theorem d_Mo_value_5 : decode b_Mo_value 5 = .ok (.aload_n 0, 1) := by decide +kernel
theorem d_Mo_value_6 : decode b_Mo_value 6 = .ok (.iload_n 1, 1) := by decide +kernel
theorem d_Mo_value_7 : decode b_Mo_value 7 = .ok (.iconst 3, 1) := by decide +kernel
theorem d_Mo_value_8 : decode b_Mo_value 8 = .ok (.invokevirtual 109, 3) := by decide +kernel
theorem d_Mo_value_11 : decode b_Mo_value 11 = .ok (.ifCond .ne 12, 3) := by decide +kernel
theorem d_Mo_value_14 : decode b_Mo_value 14 = .ok (.aload_n 0, 1) := by decide +kernel
theorem d_Mo_value_15 : decode b_Mo_value 15 = .ok (.iload_n 2, 1) := by decide +kernel
theorem d_Mo_value_16 : decode b_Mo_value 16 = .ok (.iconst 4, 1) := by decide +kernel
theorem d_Mo_value_17 : decode b_Mo_value 17 = .ok (.invokevirtual 109, 3) := by decide +kernel
theorem d_Mo_value_20 : decode b_Mo_value 20 = .ok (.ifCond .eq 11, 3) := by decide +kernel
theorem d_Mo_value_23 : decode b_Mo_value 23 = .ok (.aload_n 0, 1) := by decide +kernel
theorem d_Mo_value_24 : decode b_Mo_value 24 = .ok (.iconst 1, 1) := by decide +kernel
theorem d_Mo_value_25 : decode b_Mo_value 25 = .ok (.invokevirtual 105, 3) := by decide +kernel
theorem d_Mo_value_28 : decode b_Mo_value 28 = .ok (.goto 13, 3) := by decide +kernel
theorem d_Mo_value_31 : decode b_Mo_value 31 = .ok (.aload_n 0, 1) := by decide +kernel
theorem d_Mo_value_32 : decode b_Mo_value 32 = .ok (.getfield 19, 3) := by decide +kernel
theorem d_Mo_value_35 : decode b_Mo_value 35 = .ok (.iconst 4, 1) := by decide +kernel
theorem d_Mo_value_36 : decode b_Mo_value 36 = .ok (.iload_n 1, 1) := by decide +kernel
theorem d_Mo_value_37 : decode b_Mo_value 37 = .ok (.imul, 1) := by decide +kernel
theorem d_Mo_value_38 : decode b_Mo_value 38 = .ok (.iload_n 2, 1) := by decide +kernel
theorem d_Mo_value_39 : decode b_Mo_value 39 = .ok (.iadd, 1) := by decide +kernel
theorem d_Mo_value_40 : decode b_Mo_value 40 = .ok (.iaload, 1) := by decide +kernel
theorem d_Mo_value_41 : decode b_Mo_value 41 = .ok (.ireturn, 1) := by decide +kernel
theorem d_Mo_vote_0 : decode b_Mo_vote 0 = .ok (.iconst 0, 1) := by decide +kernel
theorem d_Mo_vote_1 : decode b_Mo_vote 1 = .ok (.istore 5, 2) := by decide +kernel
theorem d_Mo_vote_3 : decode b_Mo_vote 3 = .ok (.iload 5, 2) := by decide +kernel
theorem d_Mo_vote_5 : decode b_Mo_vote 5 = .ok (.aload_n 0, 1) := by decide +kernel
theorem d_Mo_vote_6 : decode b_Mo_vote 6 = .ok (.getfield 77, 3) := by decide +kernel
theorem d_Mo_vote_9 : decode b_Mo_vote 9 = .ok (.if_icmp .ge 25, 3) := by decide +kernel
theorem d_Mo_vote_12 : decode b_Mo_vote 12 = .ok (.aload_n 0, 1) := by decide +kernel
theorem d_Mo_vote_13 : decode b_Mo_vote 13 = .ok (.bipush 86, 2) := by decide +kernel
theorem d_Mo_vote_15 : decode b_Mo_vote 15 = .ok (.iload_n 1, 1) := by decide +kernel
theorem d_Mo_vote_16 : decode b_Mo_vote 16 = .ok (.iload_n 2, 1) := by decide +kernel
theorem d_Mo_vote_17 : decode b_Mo_vote 17 = .ok (.iload 5, 2) := by decide +kernel
theorem d_Mo_vote_19 : decode b_Mo_vote 19 = .ok (.iconst (-1), 1) := by decide +kernel
theorem d_Mo_vote_20 : decode b_Mo_vote 20 = .ok (.iload_n 3, 1) := by decide +kernel
theorem d_Mo_vote_21 : decode b_Mo_vote 21 = .ok (.iload 4, 2) := by decide +kernel
theorem d_Mo_vote_23 : decode b_Mo_vote 23 = .ok (.invokevirtual 94, 3) := by decide +kernel
theorem d_Mo_vote_26 : decode b_Mo_vote 26 = .ok (.istore 6, 2) := by decide +kernel
theorem d_Mo_vote_28 : decode b_Mo_vote 28 = .ok (.iinc 5 1, 3) := by decide +kernel
theorem d_Mo_vote_31 : decode b_Mo_vote 31 = .ok (.goto (-28), 3) := by decide +kernel
theorem d_Mo_vote_34 : decode b_Mo_vote 34 = .ok (.return_, 1) := by decide +kernel
theorem d_Mo_write_0 : decode b_Mo_write 0 = .ok (.aload_n 0, 1) := by decide +kernel
theorem d_Mo_write_1 : decode b_Mo_write 1 = .ok (.iconst 0, 1) := by decide +kernel
theorem d_Mo_write_2 : decode b_Mo_write 2 = .ok (.putfield 85, 3) := by decide +kernel
theorem d_Mo_write_5 : decode b_Mo_write 5 = .ok (.aload_n 0, 1) := by decide +kernel
theorem d_Mo_write_6 : decode b_Mo_write 6 = .ok (.iload_n 1, 1) := by decide +kernel
theorem d_Mo_write_7 : decode b_Mo_write 7 = .ok (.bipush 8, 2) := by decide +kernel
theorem d_Mo_write_9 : decode b_Mo_write 9 = .ok (.invokevirtual 109, 3) := by decide +kernel
theorem d_Mo_write_12 : decode b_Mo_write 12 = .ok (.ifCond .ne 21, 3) := by decide +kernel
theorem d_Mo_write_15 : decode b_Mo_write 15 = .ok (.aload_n 0, 1) := by decide +kernel
theorem d_Mo_write_16 : decode b_Mo_write 16 = .ok (.iload_n 2, 1) := by decide +kernel
theorem d_Mo_write_17 : decode b_Mo_write 17 = .ok (.iconst 3, 1) := by decide +kernel
theorem d_Mo_write_18 : decode b_Mo_write 18 = .ok (.invokevirtual 109, 3) := by decide +kernel
theorem d_Mo_write_21 : decode b_Mo_write 21 = .ok (.ifCond .ne 12, 3) := by decide +kernel
theorem d_Mo_write_24 : decode b_Mo_write 24 = .ok (.aload_n 0, 1) := by decide +kernel
theorem d_Mo_write_25 : decode b_Mo_write 25 = .ok (.iload_n 3, 1) := by decide +kernel
theorem d_Mo_write_26 : decode b_Mo_write 26 = .ok (.iconst 4, 1) := by decide +kernel
theorem d_Mo_write_27 : decode b_Mo_write 27 = .ok (.invokevirtual 109, 3) := by decide +kernel
theorem d_Mo_write_30 : decode b_Mo_write 30 = .ok (.ifCond .eq 9, 3) := by decide +kernel
theorem d_Mo_write_33 : decode b_Mo_write 33 = .ok (.aload_n 0, 1) := by decide +kernel
theorem d_Mo_write_34 : decode b_Mo_write 34 = .ok (.iconst 1, 1) := by decide +kernel
theorem d_Mo_write_35 : decode b_Mo_write 35 = .ok (.invokevirtual 105, 3) := by decide +kernel
theorem d_Mo_write_38 : decode b_Mo_write 38 = .ok (.ireturn, 1) := by decide +kernel
theorem d_Mo_write_39 : decode b_Mo_write 39 = .ok (.iload_n 1, 1) := by decide +kernel
theorem d_Mo_write_40 : decode b_Mo_write 40 = .ok (.aload_n 0, 1) := by decide +kernel
theorem d_Mo_write_41 : decode b_Mo_write 41 = .ok (.getfield 102, 3) := by decide +kernel
theorem d_Mo_write_44 : decode b_Mo_write 44 = .ok (.if_icmp .lt 9, 3) := by decide +kernel
theorem d_Mo_write_47 : decode b_Mo_write 47 = .ok (.aload_n 0, 1) := by decide +kernel
theorem d_Mo_write_48 : decode b_Mo_write 48 = .ok (.iconst 2, 1) := by decide +kernel
theorem d_Mo_write_49 : decode b_Mo_write 49 = .ok (.invokevirtual 105, 3) := by decide +kernel
theorem d_Mo_write_52 : decode b_Mo_write 52 = .ok (.ireturn, 1) := by decide +kernel
theorem d_Mo_write_53 : decode b_Mo_write 53 = .ok (.aload_n 0, 1) := by decide +kernel
theorem d_Mo_write_54 : decode b_Mo_write 54 = .ok (.getfield 23, 3) := by decide +kernel
theorem d_Mo_write_57 : decode b_Mo_write 57 = .ok (.iconst 4, 1) := by decide +kernel
theorem d_Mo_write_58 : decode b_Mo_write 58 = .ok (.iload_n 2, 1) := by decide +kernel
theorem d_Mo_write_59 : decode b_Mo_write 59 = .ok (.imul, 1) := by decide +kernel
theorem d_Mo_write_60 : decode b_Mo_write 60 = .ok (.iload_n 3, 1) := by decide +kernel
theorem d_Mo_write_61 : decode b_Mo_write 61 = .ok (.iadd, 1) := by decide +kernel
theorem d_Mo_write_62 : decode b_Mo_write 62 = .ok (.iaload, 1) := by decide +kernel
theorem d_Mo_write_63 : decode b_Mo_write 63 = .ok (.istore 5, 2) := by decide +kernel
theorem d_Mo_write_65 : decode b_Mo_write 65 = .ok (.aload_n 0, 1) := by decide +kernel
theorem d_Mo_write_66 : decode b_Mo_write 66 = .ok (.getfield 7, 3) := by decide +kernel
theorem d_Mo_write_69 : decode b_Mo_write 69 = .ok (.iload_n 2, 1) := by decide +kernel
theorem d_Mo_write_70 : decode b_Mo_write 70 = .ok (.baload, 1) := by decide +kernel
theorem d_Mo_write_71 : decode b_Mo_write 71 = .ok (.ifCond .ne 14, 3) := by decide +kernel
theorem d_Mo_write_74 : decode b_Mo_write 74 = .ok (.iload 5, 2) := by decide +kernel
theorem d_Mo_write_76 : decode b_Mo_write 76 = .ok (.ifCond .lt 15, 3) := by decide +kernel
theorem d_Mo_write_79 : decode b_Mo_write 79 = .ok (.iload 5, 2) := by decide +kernel
theorem d_Mo_write_81 : decode b_Mo_write 81 = .ok (.iload_n 1, 1) := by decide +kernel
theorem d_Mo_write_82 : decode b_Mo_write 82 = .ok (.if_icmp .eq 9, 3) := by decide +kernel
theorem d_Mo_write_85 : decode b_Mo_write 85 = .ok (.aload_n 0, 1) := by decide +kernel
theorem d_Mo_write_86 : decode b_Mo_write 86 = .ok (.iconst 3, 1) := by decide +kernel
theorem d_Mo_write_87 : decode b_Mo_write 87 = .ok (.invokevirtual 105, 3) := by decide +kernel
theorem d_Mo_write_90 : decode b_Mo_write 90 = .ok (.ireturn, 1) := by decide +kernel
theorem d_Mo_write_91 : decode b_Mo_write 91 = .ok (.iconst 3, 1) := by decide +kernel
theorem d_Mo_write_92 : decode b_Mo_write 92 = .ok (.iload_n 1, 1) := by decide +kernel
theorem d_Mo_write_93 : decode b_Mo_write 93 = .ok (.imul, 1) := by decide +kernel
theorem d_Mo_write_94 : decode b_Mo_write 94 = .ok (.iload_n 2, 1) := by decide +kernel
theorem d_Mo_write_95 : decode b_Mo_write 95 = .ok (.iadd, 1) := by decide +kernel
theorem d_Mo_write_96 : decode b_Mo_write 96 = .ok (.istore 6, 2) := by decide +kernel
theorem d_Mo_write_98 : decode b_Mo_write 98 = .ok (.aload_n 0, 1) := by decide +kernel
theorem d_Mo_write_99 : decode b_Mo_write 99 = .ok (.getfield 29, 3) := by decide +kernel
theorem d_Mo_write_102 : decode b_Mo_write 102 = .ok (.iload_n 1, 1) := by decide +kernel
theorem d_Mo_write_103 : decode b_Mo_write 103 = .ok (.baload, 1) := by decide +kernel
theorem d_Mo_write_104 : decode b_Mo_write 104 = .ok (.ifCond .ne 14, 3) := by decide +kernel
theorem d_Mo_write_107 : decode b_Mo_write 107 = .ok (.aload_n 0, 1) := by decide +kernel
theorem d_Mo_write_108 : decode b_Mo_write 108 = .ok (.getfield 32, 3) := by decide +kernel
theorem d_Mo_write_111 : decode b_Mo_write 111 = .ok (.iload 6, 2) := by decide +kernel
theorem d_Mo_write_113 : decode b_Mo_write 113 = .ok (.iaload, 1) := by decide +kernel
theorem d_Mo_write_114 : decode b_Mo_write 114 = .ok (.iconst 1, 1) := by decide +kernel
theorem d_Mo_write_115 : decode b_Mo_write 115 = .ok (.if_icmp .le 9, 3) := by decide +kernel
theorem d_Mo_write_118 : decode b_Mo_write 118 = .ok (.aload_n 0, 1) := by decide +kernel
theorem d_Mo_write_119 : decode b_Mo_write 119 = .ok (.iconst 4, 1) := by decide +kernel
theorem d_Mo_write_120 : decode b_Mo_write 120 = .ok (.invokevirtual 105, 3) := by decide +kernel
theorem d_Mo_write_123 : decode b_Mo_write 123 = .ok (.ireturn, 1) := by decide +kernel
theorem d_Mo_write_124 : decode b_Mo_write 124 = .ok (.aload_n 0, 1) := by decide +kernel
theorem d_Mo_write_125 : decode b_Mo_write 125 = .ok (.getfield 32, 3) := by decide +kernel
theorem d_Mo_write_128 : decode b_Mo_write 128 = .ok (.iload 6, 2) := by decide +kernel
theorem d_Mo_write_130 : decode b_Mo_write 130 = .ok (.iconst 1, 1) := by decide +kernel
theorem d_Mo_write_131 : decode b_Mo_write 131 = .ok (.iastore, 1) := by decide +kernel
theorem d_Mo_write_132 : decode b_Mo_write 132 = .ok (.aload_n 0, 1) := by decide +kernel
theorem d_Mo_write_133 : decode b_Mo_write 133 = .ok (.getfield 26, 3) := by decide +kernel
theorem d_Mo_write_136 : decode b_Mo_write 136 = .ok (.iload_n 1, 1) := by decide +kernel
theorem d_Mo_write_137 : decode b_Mo_write 137 = .ok (.dup2, 1) := by decide +kernel
theorem d_Mo_write_138 : decode b_Mo_write 138 = .ok (.iaload, 1) := by decide +kernel
theorem d_Mo_write_139 : decode b_Mo_write 139 = .ok (.iconst 1, 1) := by decide +kernel
theorem d_Mo_write_140 : decode b_Mo_write 140 = .ok (.iload_n 2, 1) := by decide +kernel
theorem d_Mo_write_141 : decode b_Mo_write 141 = .ok (.ishl, 1) := by decide +kernel
theorem d_Mo_write_142 : decode b_Mo_write 142 = .ok (.ior, 1) := by decide +kernel
theorem d_Mo_write_143 : decode b_Mo_write 143 = .ok (.iastore, 1) := by decide +kernel
theorem d_Mo_write_144 : decode b_Mo_write 144 = .ok (.aload_n 0, 1) := by decide +kernel
theorem d_Mo_write_145 : decode b_Mo_write 145 = .ok (.getfield 23, 3) := by decide +kernel
theorem d_Mo_write_148 : decode b_Mo_write 148 = .ok (.iconst 4, 1) := by decide +kernel
theorem d_Mo_write_149 : decode b_Mo_write 149 = .ok (.iload_n 2, 1) := by decide +kernel
theorem d_Mo_write_150 : decode b_Mo_write 150 = .ok (.imul, 1) := by decide +kernel
theorem d_Mo_write_151 : decode b_Mo_write 151 = .ok (.iload_n 3, 1) := by decide +kernel
theorem d_Mo_write_152 : decode b_Mo_write 152 = .ok (.iadd, 1) := by decide +kernel
theorem d_Mo_write_153 : decode b_Mo_write 153 = .ok (.iload_n 1, 1) := by decide +kernel
theorem d_Mo_write_154 : decode b_Mo_write 154 = .ok (.iastore, 1) := by decide +kernel
theorem d_Mo_write_155 : decode b_Mo_write 155 = .ok (.aload_n 0, 1) := by decide +kernel
theorem d_Mo_write_156 : decode b_Mo_write 156 = .ok (.getfield 35, 3) := by decide +kernel
theorem d_Mo_write_159 : decode b_Mo_write 159 = .ok (.iload 6, 2) := by decide +kernel
theorem d_Mo_write_161 : decode b_Mo_write 161 = .ok (.dup2, 1) := by decide +kernel
theorem d_Mo_write_162 : decode b_Mo_write 162 = .ok (.iaload, 1) := by decide +kernel
theorem d_Mo_write_163 : decode b_Mo_write 163 = .ok (.iconst 1, 1) := by decide +kernel
theorem d_Mo_write_164 : decode b_Mo_write 164 = .ok (.iload_n 3, 1) := by decide +kernel
theorem d_Mo_write_165 : decode b_Mo_write 165 = .ok (.ishl, 1) := by decide +kernel
theorem d_Mo_write_166 : decode b_Mo_write 166 = .ok (.ior, 1) := by decide +kernel
theorem d_Mo_write_167 : decode b_Mo_write 167 = .ok (.iastore, 1) := by decide +kernel
theorem d_Mo_write_168 : decode b_Mo_write 168 = .ok (.aload_n 0, 1) := by decide +kernel
theorem d_Mo_write_169 : decode b_Mo_write 169 = .ok (.getfield 38, 3) := by decide +kernel
theorem d_Mo_write_172 : decode b_Mo_write 172 = .ok (.iconst 4, 1) := by decide +kernel
theorem d_Mo_write_173 : decode b_Mo_write 173 = .ok (.iload 6, 2) := by decide +kernel
theorem d_Mo_write_175 : decode b_Mo_write 175 = .ok (.imul, 1) := by decide +kernel
theorem d_Mo_write_176 : decode b_Mo_write 176 = .ok (.iload_n 3, 1) := by decide +kernel
theorem d_Mo_write_177 : decode b_Mo_write 177 = .ok (.iadd, 1) := by decide +kernel
theorem d_Mo_write_178 : decode b_Mo_write 178 = .ok (.iload 4, 2) := by decide +kernel
theorem d_Mo_write_180 : decode b_Mo_write 180 = .ok (.iastore, 1) := by decide +kernel
theorem d_Mo_write_181 : decode b_Mo_write 181 = .ok (.aload_n 0, 1) := by decide +kernel
theorem d_Mo_write_182 : decode b_Mo_write 182 = .ok (.aload_n 0, 1) := by decide +kernel
theorem d_Mo_write_183 : decode b_Mo_write 183 = .ok (.getfield 35, 3) := by decide +kernel
theorem d_Mo_write_186 : decode b_Mo_write 186 = .ok (.iload 6, 2) := by decide +kernel
theorem d_Mo_write_188 : decode b_Mo_write 188 = .ok (.iaload, 1) := by decide +kernel
theorem d_Mo_write_189 : decode b_Mo_write 189 = .ok (.invokevirtual 113, 3) := by decide +kernel
theorem d_Mo_write_192 : decode b_Mo_write 192 = .ok (.ireturn, 1) := by decide +kernel
theorem d_Msg_clear_0 : decode b_Msg_clear 0 = .ok (.aload_n 0, 1) := by decide +kernel
theorem d_Msg_clear_1 : decode b_Msg_clear 1 = .ok (.iload_n 1, 1) := by decide +kernel
theorem d_Msg_clear_2 : decode b_Msg_clear 2 = .ok (.putfield 9, 3) := by decide +kernel
theorem d_Msg_clear_5 : decode b_Msg_clear 5 = .ok (.aload_n 0, 1) := by decide +kernel
theorem d_Msg_clear_6 : decode b_Msg_clear 6 = .ok (.iload_n 2, 1) := by decide +kernel
theorem d_Msg_clear_7 : decode b_Msg_clear 7 = .ok (.putfield 15, 3) := by decide +kernel
theorem d_Msg_clear_10 : decode b_Msg_clear 10 = .ok (.aload_n 0, 1) := by decide +kernel
theorem d_Msg_clear_11 : decode b_Msg_clear 11 = .ok (.iconst (-1), 1) := by decide +kernel
theorem d_Msg_clear_12 : decode b_Msg_clear 12 = .ok (.putfield 18, 3) := by decide +kernel
theorem d_Msg_clear_15 : decode b_Msg_clear 15 = .ok (.aload_n 0, 1) := by decide +kernel
theorem d_Msg_clear_16 : decode b_Msg_clear 16 = .ok (.iconst (-1), 1) := by decide +kernel
theorem d_Msg_clear_17 : decode b_Msg_clear 17 = .ok (.putfield 21, 3) := by decide +kernel
theorem d_Msg_clear_20 : decode b_Msg_clear 20 = .ok (.aload_n 0, 1) := by decide +kernel
theorem d_Msg_clear_21 : decode b_Msg_clear 21 = .ok (.iconst (-1), 1) := by decide +kernel
theorem d_Msg_clear_22 : decode b_Msg_clear 22 = .ok (.putfield 24, 3) := by decide +kernel
theorem d_Msg_clear_25 : decode b_Msg_clear 25 = .ok (.aload_n 0, 1) := by decide +kernel
theorem d_Msg_clear_26 : decode b_Msg_clear 26 = .ok (.iconst (-1), 1) := by decide +kernel
theorem d_Msg_clear_27 : decode b_Msg_clear 27 = .ok (.putfield 27, 3) := by decide +kernel
theorem d_Msg_clear_30 : decode b_Msg_clear 30 = .ok (.aload_n 0, 1) := by decide +kernel
theorem d_Msg_clear_31 : decode b_Msg_clear 31 = .ok (.iconst (-1), 1) := by decide +kernel
theorem d_Msg_clear_32 : decode b_Msg_clear 32 = .ok (.putfield 30, 3) := by decide +kernel
theorem d_Msg_clear_35 : decode b_Msg_clear 35 = .ok (.aload_n 0, 1) := by decide +kernel
theorem d_Msg_clear_36 : decode b_Msg_clear 36 = .ok (.getfield 33, 3) := by decide +kernel
theorem d_Msg_clear_39 : decode b_Msg_clear 39 = .ok (.iconst (-1), 1) := by decide +kernel
theorem d_Msg_clear_40 : decode b_Msg_clear 40 = .ok (.invokestatic 37, 3) := by decide +kernel
theorem d_Msg_clear_43 : decode b_Msg_clear 43 = .ok (.return_, 1) := by decide +kernel
theorem d_Msg_copyFrom_0 : decode b_Msg_copyFrom 0 = .ok (.aload_n 0, 1) := by decide +kernel
theorem d_Msg_copyFrom_1 : decode b_Msg_copyFrom 1 = .ok (.aload_n 1, 1) := by decide +kernel
theorem d_Msg_copyFrom_2 : decode b_Msg_copyFrom 2 = .ok (.getfield 9, 3) := by decide +kernel
theorem d_Msg_copyFrom_5 : decode b_Msg_copyFrom 5 = .ok (.putfield 9, 3) := by decide +kernel
theorem d_Msg_copyFrom_8 : decode b_Msg_copyFrom 8 = .ok (.aload_n 0, 1) := by decide +kernel
theorem d_Msg_copyFrom_9 : decode b_Msg_copyFrom 9 = .ok (.aload_n 1, 1) := by decide +kernel
theorem d_Msg_copyFrom_10 : decode b_Msg_copyFrom 10 = .ok (.getfield 15, 3) := by decide +kernel
theorem d_Msg_copyFrom_13 : decode b_Msg_copyFrom 13 = .ok (.putfield 15, 3) := by decide +kernel
theorem d_Msg_copyFrom_16 : decode b_Msg_copyFrom 16 = .ok (.aload_n 0, 1) := by decide +kernel
theorem d_Msg_copyFrom_17 : decode b_Msg_copyFrom 17 = .ok (.aload_n 1, 1) := by decide +kernel
theorem d_Msg_copyFrom_18 : decode b_Msg_copyFrom 18 = .ok (.getfield 18, 3) := by decide +kernel
theorem d_Msg_copyFrom_21 : decode b_Msg_copyFrom 21 = .ok (.putfield 18, 3) := by decide +kernel
theorem d_Msg_copyFrom_24 : decode b_Msg_copyFrom 24 = .ok (.aload_n 0, 1) := by decide +kernel
theorem d_Msg_copyFrom_25 : decode b_Msg_copyFrom 25 = .ok (.aload_n 1, 1) := by decide +kernel
theorem d_Msg_copyFrom_26 : decode b_Msg_copyFrom 26 = .ok (.getfield 21, 3) := by decide +kernel
theorem d_Msg_copyFrom_29 : decode b_Msg_copyFrom 29 = .ok (.putfield 21, 3) := by decide +kernel
theorem d_Msg_copyFrom_32 : decode b_Msg_copyFrom 32 = .ok (.aload_n 0, 1) := by decide +kernel
theorem d_Msg_copyFrom_33 : decode b_Msg_copyFrom 33 = .ok (.aload_n 1, 1) := by decide +kernel
theorem d_Msg_copyFrom_34 : decode b_Msg_copyFrom 34 = .ok (.getfield 24, 3) := by decide +kernel
theorem d_Msg_copyFrom_37 : decode b_Msg_copyFrom 37 = .ok (.putfield 24, 3) := by decide +kernel
theorem d_Msg_copyFrom_40 : decode b_Msg_copyFrom 40 = .ok (.aload_n 0, 1) := by decide +kernel
theorem d_Msg_copyFrom_41 : decode b_Msg_copyFrom 41 = .ok (.aload_n 1, 1) := by decide +kernel
theorem d_Msg_copyFrom_42 : decode b_Msg_copyFrom 42 = .ok (.getfield 27, 3) := by decide +kernel
theorem d_Msg_copyFrom_45 : decode b_Msg_copyFrom 45 = .ok (.putfield 27, 3) := by decide +kernel
theorem d_Msg_copyFrom_48 : decode b_Msg_copyFrom 48 = .ok (.aload_n 0, 1) := by decide +kernel
theorem d_Msg_copyFrom_49 : decode b_Msg_copyFrom 49 = .ok (.aload_n 1, 1) := by decide +kernel
theorem d_Msg_copyFrom_50 : decode b_Msg_copyFrom 50 = .ok (.getfield 30, 3) := by decide +kernel
theorem d_Msg_copyFrom_53 : decode b_Msg_copyFrom 53 = .ok (.putfield 30, 3) := by decide +kernel
theorem d_Msg_copyFrom_56 : decode b_Msg_copyFrom 56 = .ok (.aload_n 1, 1) := by decide +kernel
theorem d_Msg_copyFrom_57 : decode b_Msg_copyFrom 57 = .ok (.getfield 33, 3) := by decide +kernel
theorem d_Msg_copyFrom_60 : decode b_Msg_copyFrom 60 = .ok (.iconst 0, 1) := by decide +kernel
theorem d_Msg_copyFrom_61 : decode b_Msg_copyFrom 61 = .ok (.aload_n 0, 1) := by decide +kernel
theorem d_Msg_copyFrom_62 : decode b_Msg_copyFrom 62 = .ok (.getfield 33, 3) := by decide +kernel
theorem d_Msg_copyFrom_65 : decode b_Msg_copyFrom 65 = .ok (.iconst 0, 1) := by decide +kernel
theorem d_Msg_copyFrom_66 : decode b_Msg_copyFrom 66 = .ok (.iconst 3, 1) := by decide +kernel
theorem d_Msg_copyFrom_67 : decode b_Msg_copyFrom 67 = .ok (.invokestatic 43, 3) := by decide +kernel
theorem d_Msg_copyFrom_70 : decode b_Msg_copyFrom 70 = .ok (.return_, 1) := by decide +kernel
theorem d_Msg_init_0 : decode b_Msg_init 0 = .ok (.aload_n 0, 1) := by decide +kernel
theorem d_Msg_init_1 : decode b_Msg_init 1 = .ok (.invokespecial 3, 3) := by decide +kernel
theorem d_Msg_init_4 : decode b_Msg_init 4 = .ok (.aload_n 0, 1) := by decide +kernel
theorem d_Msg_init_5 : decode b_Msg_init 5 = .ok (.iconst 0, 1) := by decide +kernel
theorem d_Msg_init_6 : decode b_Msg_init 6 = .ok (.putfield 9, 3) := by decide +kernel
theorem d_Msg_init_9 : decode b_Msg_init 9 = .ok (.aload_n 0, 1) := by decide +kernel
theorem d_Msg_init_10 : decode b_Msg_init 10 = .ok (.iconst 0, 1) := by decide +kernel
theorem d_Msg_init_11 : decode b_Msg_init 11 = .ok (.putfield 15, 3) := by decide +kernel
theorem d_Msg_init_14 : decode b_Msg_init 14 = .ok (.aload_n 0, 1) := by decide +kernel
theorem d_Msg_init_15 : decode b_Msg_init 15 = .ok (.iconst (-1), 1) := by decide +kernel
theorem d_Msg_init_16 : decode b_Msg_init 16 = .ok (.putfield 18, 3) := by decide +kernel
theorem d_Msg_init_19 : decode b_Msg_init 19 = .ok (.aload_n 0, 1) := by decide +kernel
theorem d_Msg_init_20 : decode b_Msg_init 20 = .ok (.iconst (-1), 1) := by decide +kernel
theorem d_Msg_init_21 : decode b_Msg_init 21 = .ok (.putfield 21, 3) := by decide +kernel
theorem d_Msg_init_24 : decode b_Msg_init 24 = .ok (.aload_n 0, 1) := by decide +kernel
theorem d_Msg_init_25 : decode b_Msg_init 25 = .ok (.iconst (-1), 1) := by decide +kernel
theorem d_Msg_init_26 : decode b_Msg_init 26 = .ok (.putfield 24, 3) := by decide +kernel
theorem d_Msg_init_29 : decode b_Msg_init 29 = .ok (.aload_n 0, 1) := by decide +kernel
theorem d_Msg_init_30 : decode b_Msg_init 30 = .ok (.iconst (-1), 1) := by decide +kernel
theorem d_Msg_init_31 : decode b_Msg_init 31 = .ok (.putfield 27, 3) := by decide +kernel
theorem d_Msg_init_34 : decode b_Msg_init 34 = .ok (.aload_n 0, 1) := by decide +kernel
theorem d_Msg_init_35 : decode b_Msg_init 35 = .ok (.iconst (-1), 1) := by decide +kernel
theorem d_Msg_init_36 : decode b_Msg_init 36 = .ok (.putfield 30, 3) := by decide +kernel
theorem d_Msg_init_39 : decode b_Msg_init 39 = .ok (.aload_n 0, 1) := by decide +kernel
theorem d_Msg_init_40 : decode b_Msg_init 40 = .ok (.iconst 3, 1) := by decide +kernel
theorem d_Msg_init_41 : decode b_Msg_init 41 = .ok (.newarray .int, 2) := by decide +kernel
theorem d_Msg_init_43 : decode b_Msg_init 43 = .ok (.putfield 33, 3) := by decide +kernel
theorem d_Msg_init_46 : decode b_Msg_init 46 = .ok (.return_, 1) := by decide +kernel
theorem d_Msg_receiver_0 : decode b_Msg_receiver 0 = .ok (.aload_n 0, 1) := by decide +kernel
theorem d_Msg_receiver_1 : decode b_Msg_receiver 1 = .ok (.invokevirtual 49, 3) := by decide +kernel
theorem d_Msg_receiver_4 : decode b_Msg_receiver 4 = .ok (.lookupswitch 38 #[(0, 28), (1, 33)], 28) := by decide +kernel
theorem d_Msg_receiver_32 : decode b_Msg_receiver 32 = .ok (.aload_n 0, 1) := by decide +kernel
theorem d_Msg_receiver_33 : decode b_Msg_receiver 33 = .ok (.getfield 18, 3) := by decide +kernel
theorem d_Msg_receiver_36 : decode b_Msg_receiver 36 = .ok (.ireturn, 1) := by decide +kernel
theorem d_Msg_receiver_37 : decode b_Msg_receiver 37 = .ok (.aload_n 0, 1) := by decide +kernel
theorem d_Msg_receiver_38 : decode b_Msg_receiver 38 = .ok (.getfield 21, 3) := by decide +kernel
theorem d_Msg_receiver_41 : decode b_Msg_receiver 41 = .ok (.ireturn, 1) := by decide +kernel
theorem d_Msg_receiver_42 : decode b_Msg_receiver 42 = .ok (.aload_n 0, 1) := by decide +kernel
theorem d_Msg_receiver_43 : decode b_Msg_receiver 43 = .ok (.getfield 24, 3) := by decide +kernel
theorem d_Msg_receiver_46 : decode b_Msg_receiver 46 = .ok (.ireturn, 1) := by decide +kernel
theorem d_Msg_receiverKind_0 : decode b_Msg_receiverKind 0 = .ok (.aload_n 0, 1) := by decide +kernel
theorem d_Msg_receiverKind_1 : decode b_Msg_receiverKind 1 = .ok (.getfield 9, 3) := by decide +kernel
theorem d_Msg_receiverKind_4 : decode b_Msg_receiverKind 4 = .ok (.ifCond .eq 11, 3) := by decide +kernel
theorem d_Msg_receiverKind_7 : decode b_Msg_receiverKind 7 = .ok (.aload_n 0, 1) := by decide +kernel
theorem d_Msg_receiverKind_8 : decode b_Msg_receiverKind 8 = .ok (.getfield 9, 3) := by decide +kernel
theorem d_Msg_receiverKind_11 : decode b_Msg_receiverKind 11 = .ok (.iconst 5, 1) := by decide +kernel
theorem d_Msg_receiverKind_12 : decode b_Msg_receiverKind 12 = .ok (.if_icmp .ne 5, 3) := by decide +kernel
theorem d_Msg_receiverKind_15 : decode b_Msg_receiverKind 15 = .ok (.iconst 0, 1) := by decide +kernel
theorem d_Msg_receiverKind_16 : decode b_Msg_receiverKind 16 = .ok (.ireturn, 1) := by decide +kernel
theorem d_Msg_receiverKind_17 : decode b_Msg_receiverKind 17 = .ok (.aload_n 0, 1) := by decide +kernel
theorem d_Msg_receiverKind_18 : decode b_Msg_receiverKind 18 = .ok (.getfield 9, 3) := by decide +kernel
theorem d_Msg_receiverKind_21 : decode b_Msg_receiverKind 21 = .ok (.iconst 1, 1) := by decide +kernel
theorem d_Msg_receiverKind_22 : decode b_Msg_receiverKind 22 = .ok (.if_icmp .eq 11, 3) := by decide +kernel
theorem d_Msg_receiverKind_25 : decode b_Msg_receiverKind 25 = .ok (.aload_n 0, 1) := by decide +kernel
theorem d_Msg_receiverKind_26 : decode b_Msg_receiverKind 26 = .ok (.getfield 9, 3) := by decide +kernel
theorem d_Msg_receiverKind_29 : decode b_Msg_receiverKind 29 = .ok (.iconst 3, 1) := by decide +kernel
theorem d_Msg_receiverKind_30 : decode b_Msg_receiverKind 30 = .ok (.if_icmp .ne 7, 3) := by decide +kernel
theorem d_Msg_receiverKind_33 : decode b_Msg_receiverKind 33 = .ok (.iconst 1, 1) := by decide +kernel
theorem d_Msg_receiverKind_34 : decode b_Msg_receiverKind 34 = .ok (.goto 4, 3) := by decide +kernel
theorem d_Msg_receiverKind_37 : decode b_Msg_receiverKind 37 = .ok (.iconst 2, 1) := by decide +kernel
theorem d_Msg_receiverKind_38 : decode b_Msg_receiverKind 38 = .ok (.ireturn, 1) := by decide +kernel
theorem d_Msg_spell_0 : decode b_Msg_spell 0 = .ok (.aload_n 1, 1) := by decide +kernel
theorem d_Msg_spell_1 : decode b_Msg_spell 1 = .ok (.ldc 53, 2) := by decide +kernel
theorem d_Msg_spell_3 : decode b_Msg_spell 3 = .ok (.aload_n 0, 1) := by decide +kernel
theorem d_Msg_spell_4 : decode b_Msg_spell 4 = .ok (.getfield 9, 3) := by decide +kernel
theorem d_Msg_spell_7 : decode b_Msg_spell 7 = .ok (.invokevirtual 55, 3) := by decide +kernel
theorem d_Msg_spell_10 : decode b_Msg_spell 10 = .ok (.invokevirtual 61, 3) := by decide +kernel
theorem d_Msg_spell_13 : decode b_Msg_spell 13 = .ok (.pop, 1) := by decide +kernel
theorem d_Msg_spell_14 : decode b_Msg_spell 14 = .ok (.aload_n 1, 1) := by decide +kernel
theorem d_Msg_spell_15 : decode b_Msg_spell 15 = .ok (.bipush 116, 2) := by decide +kernel
theorem d_Msg_spell_17 : decode b_Msg_spell 17 = .ok (.aload_n 0, 1) := by decide +kernel
theorem d_Msg_spell_18 : decode b_Msg_spell 18 = .ok (.getfield 15, 3) := by decide +kernel
theorem d_Msg_spell_21 : decode b_Msg_spell 21 = .ok (.invokestatic 67, 3) := by decide +kernel
theorem d_Msg_spell_24 : decode b_Msg_spell 24 = .ok (.aload_n 1, 1) := by decide +kernel
theorem d_Msg_spell_25 : decode b_Msg_spell 25 = .ok (.bipush 115, 2) := by decide +kernel
