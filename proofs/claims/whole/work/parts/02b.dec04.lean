theorem d_Mo_proposal_0 : decode b_Mo_proposal 0 = .ok (.iconst (-1), 1) := by decide +kernel
theorem d_Mo_proposal_1 : decode b_Mo_proposal 1 = .ok (.istore_n 3, 1) := by decide +kernel
theorem d_Mo_proposal_2 : decode b_Mo_proposal 2 = .ok (.iconst 0, 1) := by decide +kernel
theorem d_Mo_proposal_3 : decode b_Mo_proposal 3 = .ok (.istore 4, 2) := by decide +kernel
theorem d_Mo_proposal_5 : decode b_Mo_proposal 5 = .ok (.iconst 0, 1) := by decide +kernel
theorem d_Mo_proposal_6 : decode b_Mo_proposal 6 = .ok (.istore 5, 2) := by decide +kernel
theorem d_Mo_proposal_8 : decode b_Mo_proposal 8 = .ok (.iload 5, 2) := by decide +kernel
theorem d_Mo_proposal_10 : decode b_Mo_proposal 10 = .ok (.iconst 3, 1) := by decide +kernel
theorem d_Mo_proposal_11 : decode b_Mo_proposal 11 = .ok (.if_icmp .ge 67, 3) := by decide +kernel
theorem d_Mo_proposal_14 : decode b_Mo_proposal 14 = .ok (.bipush 9, 2) := by decide +kernel
theorem d_Mo_proposal_16 : decode b_Mo_proposal 16 = .ok (.iload_n 1, 1) := by decide +kernel
theorem d_Mo_proposal_17 : decode b_Mo_proposal 17 = .ok (.imul, 1) := by decide +kernel
theorem d_Mo_proposal_18 : decode b_Mo_proposal 18 = .ok (.iconst 3, 1) := by decide +kernel
theorem d_Mo_proposal_19 : decode b_Mo_proposal 19 = .ok (.iload 5, 2) := by decide +kernel
theorem d_Mo_proposal_21 : decode b_Mo_proposal 21 = .ok (.imul, 1) := by decide +kernel
theorem d_Mo_proposal_22 : decode b_Mo_proposal 22 = .ok (.iadd, 1) := by decide +kernel
theorem d_Mo_proposal_23 : decode b_Mo_proposal 23 = .ok (.iload_n 2, 1) := by decide +kernel
theorem d_Mo_proposal_24 : decode b_Mo_proposal 24 = .ok (.iadd, 1) := by decide +kernel
theorem d_Mo_proposal_25 : decode b_Mo_proposal 25 = .ok (.istore 6, 2) := by decide +kernel
theorem d_Mo_proposal_27 : decode b_Mo_proposal 27 = .ok (.aload_n 0, 1) := by decide +kernel
theorem d_Mo_proposal_28 : decode b_Mo_proposal 28 = .ok (.getfield 59, 3) := by decide +kernel
theorem d_Mo_proposal_31 : decode b_Mo_proposal 31 = .ok (.iconst 3, 1) := by decide +kernel
theorem d_Mo_proposal_32 : decode b_Mo_proposal 32 = .ok (.iload_n 1, 1) := by decide +kernel
theorem d_Mo_proposal_33 : decode b_Mo_proposal 33 = .ok (.imul, 1) := by decide +kernel
theorem d_Mo_proposal_34 : decode b_Mo_proposal 34 = .ok (.iload 5, 2) := by decide +kernel
theorem d_Mo_proposal_36 : decode b_Mo_proposal 36 = .ok (.iadd, 1) := by decide +kernel
theorem d_Mo_proposal_37 : decode b_Mo_proposal 37 = .ok (.baload, 1) := by decide +kernel
theorem d_Mo_proposal_38 : decode b_Mo_proposal 38 = .ok (.ifCond .eq 34, 3) := by decide +kernel
theorem d_Mo_proposal_41 : decode b_Mo_proposal 41 = .ok (.aload_n 0, 1) := by decide +kernel
theorem d_Mo_proposal_42 : decode b_Mo_proposal 42 = .ok (.getfield 62, 3) := by decide +kernel
theorem d_Mo_proposal_45 : decode b_Mo_proposal 45 = .ok (.iload 6, 2) := by decide +kernel
theorem d_Mo_proposal_47 : decode b_Mo_proposal 47 = .ok (.iaload, 1) := by decide +kernel
theorem d_Mo_proposal_48 : decode b_Mo_proposal 48 = .ok (.iload_n 3, 1) := by decide +kernel
theorem d_Mo_proposal_49 : decode b_Mo_proposal 49 = .ok (.if_icmp .gt 6, 3) := by decide +kernel
theorem d_Mo_proposal_52 : decode b_Mo_proposal 52 = .ok (.goto 20, 3) := by decide +kernel
theorem d_Mo_proposal_55 : decode b_Mo_proposal 55 = .ok (.aload_n 0, 1) := by decide +kernel
theorem d_Mo_proposal_56 : decode b_Mo_proposal 56 = .ok (.getfield 62, 3) := by decide +kernel
theorem d_Mo_proposal_59 : decode b_Mo_proposal 59 = .ok (.iload 6, 2) := by decide +kernel
theorem d_Mo_proposal_61 : decode b_Mo_proposal 61 = .ok (.iaload, 1) := by decide +kernel
theorem d_Mo_proposal_62 : decode b_Mo_proposal 62 = .ok (.istore_n 3, 1) := by decide +kernel
theorem d_Mo_proposal_63 : decode b_Mo_proposal 63 = .ok (.aload_n 0, 1) := by decide +kernel
theorem d_Mo_proposal_64 : decode b_Mo_proposal 64 = .ok (.getfield 65, 3) := by decide +kernel
theorem d_Mo_proposal_67 : decode b_Mo_proposal 67 = .ok (.iload 6, 2) := by decide +kernel
theorem d_Mo_proposal_69 : decode b_Mo_proposal 69 = .ok (.iaload, 1) := by decide +kernel
theorem d_Mo_proposal_70 : decode b_Mo_proposal 70 = .ok (.istore 4, 2) := by decide +kernel
theorem d_Mo_proposal_72 : decode b_Mo_proposal 72 = .ok (.iinc 5 1, 3) := by decide +kernel
theorem d_Mo_proposal_75 : decode b_Mo_proposal 75 = .ok (.goto (-67), 3) := by decide +kernel
theorem d_Mo_proposal_78 : decode b_Mo_proposal 78 = .ok (.iload 4, 2) := by decide +kernel
theorem d_Mo_proposal_80 : decode b_Mo_proposal 80 = .ok (.ireturn, 1) := by decide +kernel
theorem d_Mo_refuse_0 : decode b_Mo_refuse 0 = .ok (.aload_n 0, 1) := by decide +kernel
theorem d_Mo_refuse_1 : decode b_Mo_refuse 1 = .ok (.iconst 0, 1) := by decide +kernel
theorem d_Mo_refuse_2 : decode b_Mo_refuse 2 = .ok (.putfield 85, 3) := by decide +kernel
theorem d_Mo_refuse_5 : decode b_Mo_refuse 5 = .ok (.aload_n 0, 1) := by decide +kernel
theorem d_Mo_refuse_6 : decode b_Mo_refuse 6 = .ok (.iload_n 1, 1) := by decide +kernel
theorem d_Mo_refuse_7 : decode b_Mo_refuse 7 = .ok (.bipush 8, 2) := by decide +kernel
theorem d_Mo_refuse_9 : decode b_Mo_refuse 9 = .ok (.invokevirtual 109, 3) := by decide +kernel
theorem d_Mo_refuse_12 : decode b_Mo_refuse 12 = .ok (.ifCond .ne 12, 3) := by decide +kernel
theorem d_Mo_refuse_15 : decode b_Mo_refuse 15 = .ok (.aload_n 0, 1) := by decide +kernel
theorem d_Mo_refuse_16 : decode b_Mo_refuse 16 = .ok (.iload_n 2, 1) := by decide +kernel
theorem d_Mo_refuse_17 : decode b_Mo_refuse 17 = .ok (.iconst 3, 1) := by decide +kernel
theorem d_Mo_refuse_18 : decode b_Mo_refuse 18 = .ok (.invokevirtual 109, 3) := by decide +kernel
theorem d_Mo_refuse_21 : decode b_Mo_refuse 21 = .ok (.ifCond .eq 9, 3) := by decide +kernel
theorem d_Mo_refuse_24 : decode b_Mo_refuse 24 = .ok (.aload_n 0, 1) := by decide +kernel
theorem d_Mo_refuse_25 : decode b_Mo_refuse 25 = .ok (.iconst 1, 1) := by decide +kernel
theorem d_Mo_refuse_26 : decode b_Mo_refuse 26 = .ok (.invokevirtual 105, 3) := by decide +kernel
theorem d_Mo_refuse_29 : decode b_Mo_refuse 29 = .ok (.ireturn, 1) := by decide +kernel
theorem d_Mo_refuse_30 : decode b_Mo_refuse 30 = .ok (.iload_n 1, 1) := by decide +kernel
theorem d_Mo_refuse_31 : decode b_Mo_refuse 31 = .ok (.aload_n 0, 1) := by decide +kernel
theorem d_Mo_refuse_32 : decode b_Mo_refuse 32 = .ok (.getfield 102, 3) := by decide +kernel
theorem d_Mo_refuse_35 : decode b_Mo_refuse 35 = .ok (.if_icmp .lt 9, 3) := by decide +kernel
theorem d_Mo_refuse_38 : decode b_Mo_refuse 38 = .ok (.aload_n 0, 1) := by decide +kernel
theorem d_Mo_refuse_39 : decode b_Mo_refuse 39 = .ok (.iconst 2, 1) := by decide +kernel
theorem d_Mo_refuse_40 : decode b_Mo_refuse 40 = .ok (.invokevirtual 105, 3) := by decide +kernel
theorem d_Mo_refuse_43 : decode b_Mo_refuse 43 = .ok (.ireturn, 1) := by decide +kernel
theorem d_Mo_refuse_44 : decode b_Mo_refuse 44 = .ok (.aload_n 0, 1) := by decide +kernel
theorem d_Mo_refuse_45 : decode b_Mo_refuse 45 = .ok (.getfield 7, 3) := by decide +kernel
theorem d_Mo_refuse_48 : decode b_Mo_refuse 48 = .ok (.iload_n 2, 1) := by decide +kernel
theorem d_Mo_refuse_49 : decode b_Mo_refuse 49 = .ok (.baload, 1) := by decide +kernel
theorem d_Mo_refuse_50 : decode b_Mo_refuse 50 = .ok (.ifCond .eq 9, 3) := by decide +kernel
theorem d_Mo_refuse_53 : decode b_Mo_refuse 53 = .ok (.aload_n 0, 1) := by decide +kernel
theorem d_Mo_refuse_54 : decode b_Mo_refuse 54 = .ok (.iconst 3, 1) := by decide +kernel
theorem d_Mo_refuse_55 : decode b_Mo_refuse 55 = .ok (.invokevirtual 105, 3) := by decide +kernel
theorem d_Mo_refuse_58 : decode b_Mo_refuse 58 = .ok (.ireturn, 1) := by decide +kernel
theorem d_Mo_refuse_59 : decode b_Mo_refuse 59 = .ok (.aload_n 0, 1) := by decide +kernel
theorem d_Mo_refuse_60 : decode b_Mo_refuse 60 = .ok (.getfield 32, 3) := by decide +kernel
theorem d_Mo_refuse_63 : decode b_Mo_refuse 63 = .ok (.iconst 3, 1) := by decide +kernel
theorem d_Mo_refuse_64 : decode b_Mo_refuse 64 = .ok (.iload_n 1, 1) := by decide +kernel
theorem d_Mo_refuse_65 : decode b_Mo_refuse 65 = .ok (.imul, 1) := by decide +kernel
theorem d_Mo_refuse_66 : decode b_Mo_refuse 66 = .ok (.iload_n 2, 1) := by decide +kernel
theorem d_Mo_refuse_67 : decode b_Mo_refuse 67 = .ok (.iadd, 1) := by decide +kernel
theorem d_Mo_refuse_68 : decode b_Mo_refuse 68 = .ok (.iaload, 1) := by decide +kernel
theorem d_Mo_refuse_69 : decode b_Mo_refuse 69 = .ok (.iconst 1, 1) := by decide +kernel
theorem d_Mo_refuse_70 : decode b_Mo_refuse 70 = .ok (.if_icmp .eq 9, 3) := by decide +kernel
theorem d_Mo_refuse_73 : decode b_Mo_refuse 73 = .ok (.aload_n 0, 1) := by decide +kernel
theorem d_Mo_refuse_74 : decode b_Mo_refuse 74 = .ok (.iconst 4, 1) := by decide +kernel
theorem d_Mo_refuse_75 : decode b_Mo_refuse 75 = .ok (.invokevirtual 105, 3) := by decide +kernel
theorem d_Mo_refuse_78 : decode b_Mo_refuse 78 = .ok (.ireturn, 1) := by decide +kernel
theorem d_Mo_refuse_79 : decode b_Mo_refuse 79 = .ok (.aload_n 0, 1) := by decide +kernel
theorem d_Mo_refuse_80 : decode b_Mo_refuse 80 = .ok (.iload_n 1, 1) := by decide +kernel
theorem d_Mo_refuse_81 : decode b_Mo_refuse 81 = .ok (.iload_n 2, 1) := by decide +kernel
theorem d_Mo_refuse_82 : decode b_Mo_refuse 82 = .ok (.invokevirtual 119, 3) := by decide +kernel
theorem d_Mo_refuse_85 : decode b_Mo_refuse 85 = .ok (.aload_n 0, 1) := by decide +kernel
theorem d_Mo_refuse_86 : decode b_Mo_refuse 86 = .ok (.iload_n 1, 1) := by decide +kernel
theorem d_Mo_refuse_87 : decode b_Mo_refuse 87 = .ok (.iload_n 2, 1) := by decide +kernel
theorem d_Mo_refuse_88 : decode b_Mo_refuse 88 = .ok (.iconst 0, 1) := by decide +kernel
theorem d_Mo_refuse_89 : decode b_Mo_refuse 89 = .ok (.iconst 0, 1) := by decide +kernel
theorem d_Mo_refuse_90 : decode b_Mo_refuse 90 = .ok (.invokevirtual 122, 3) := by decide +kernel
theorem d_Mo_refuse_93 : decode b_Mo_refuse 93 = .ok (.aload_n 0, 1) := by decide +kernel
theorem d_Mo_refuse_94 : decode b_Mo_refuse 94 = .ok (.aload_n 0, 1) := by decide +kernel
theorem d_Mo_refuse_95 : decode b_Mo_refuse 95 = .ok (.getfield 35, 3) := by decide +kernel
theorem d_Mo_refuse_98 : decode b_Mo_refuse 98 = .ok (.iconst 3, 1) := by decide +kernel
theorem d_Mo_refuse_99 : decode b_Mo_refuse 99 = .ok (.iload_n 1, 1) := by decide +kernel
theorem d_Mo_refuse_100 : decode b_Mo_refuse 100 = .ok (.imul, 1) := by decide +kernel
theorem d_Mo_refuse_101 : decode b_Mo_refuse 101 = .ok (.iload_n 2, 1) := by decide +kernel
theorem d_Mo_refuse_102 : decode b_Mo_refuse 102 = .ok (.iadd, 1) := by decide +kernel
theorem d_Mo_refuse_103 : decode b_Mo_refuse 103 = .ok (.iaload, 1) := by decide +kernel
theorem d_Mo_refuse_104 : decode b_Mo_refuse 104 = .ok (.invokevirtual 113, 3) := by decide +kernel
theorem d_Mo_refuse_107 : decode b_Mo_refuse 107 = .ok (.ireturn, 1) := by decide +kernel
theorem d_Mo_reply_0 : decode b_Mo_reply 0 = .ok (.bipush 8, 2) := by decide +kernel
theorem d_Mo_reply_2 : decode b_Mo_reply 2 = .ok (.iload_n 1, 1) := by decide +kernel
theorem d_Mo_reply_3 : decode b_Mo_reply 3 = .ok (.imul, 1) := by decide +kernel
theorem d_Mo_reply_4 : decode b_Mo_reply 4 = .ok (.iload_n 2, 1) := by decide +kernel
theorem d_Mo_reply_5 : decode b_Mo_reply 5 = .ok (.iadd, 1) := by decide +kernel
theorem d_Mo_reply_6 : decode b_Mo_reply 6 = .ok (.istore 6, 2) := by decide +kernel
theorem d_Mo_reply_8 : decode b_Mo_reply 8 = .ok (.aload_n 0, 1) := by decide +kernel
theorem d_Mo_reply_9 : decode b_Mo_reply 9 = .ok (.getfield 50, 3) := by decide +kernel
theorem d_Mo_reply_12 : decode b_Mo_reply 12 = .ok (.iload 6, 2) := by decide +kernel
theorem d_Mo_reply_14 : decode b_Mo_reply 14 = .ok (.iaload, 1) := by decide +kernel
theorem d_Mo_reply_15 : decode b_Mo_reply 15 = .ok (.iload 4, 2) := by decide +kernel
theorem d_Mo_reply_17 : decode b_Mo_reply 17 = .ok (.if_icmp .ne 13, 3) := by decide +kernel
theorem d_Mo_reply_20 : decode b_Mo_reply 20 = .ok (.aload_n 0, 1) := by decide +kernel
theorem d_Mo_reply_21 : decode b_Mo_reply 21 = .ok (.getfield 53, 3) := by decide +kernel
theorem d_Mo_reply_24 : decode b_Mo_reply 24 = .ok (.iload 6, 2) := by decide +kernel
theorem d_Mo_reply_26 : decode b_Mo_reply 26 = .ok (.baload, 1) := by decide +kernel
theorem d_Mo_reply_27 : decode b_Mo_reply 27 = .ok (.ifCond .eq 4, 3) := by decide +kernel
theorem d_Mo_reply_30 : decode b_Mo_reply 30 = .ok (.return_, 1) := by decide +kernel
theorem d_Mo_reply_31 : decode b_Mo_reply 31 = .ok (.aload_n 0, 1) := by decide +kernel
theorem d_Mo_reply_32 : decode b_Mo_reply 32 = .ok (.getfield 59, 3) := by decide +kernel
theorem d_Mo_reply_35 : decode b_Mo_reply 35 = .ok (.iconst 3, 1) := by decide +kernel
theorem d_Mo_reply_36 : decode b_Mo_reply 36 = .ok (.iload 6, 2) := by decide +kernel
theorem d_Mo_reply_38 : decode b_Mo_reply 38 = .ok (.imul, 1) := by decide +kernel
theorem d_Mo_reply_39 : decode b_Mo_reply 39 = .ok (.iload_n 3, 1) := by decide +kernel
theorem d_Mo_reply_40 : decode b_Mo_reply 40 = .ok (.iadd, 1) := by decide +kernel
theorem d_Mo_reply_41 : decode b_Mo_reply 41 = .ok (.iconst 1, 1) := by decide +kernel
theorem d_Mo_reply_42 : decode b_Mo_reply 42 = .ok (.bastore, 1) := by decide +kernel
theorem d_Mo_reply_43 : decode b_Mo_reply 43 = .ok (.iconst 0, 1) := by decide +kernel
theorem d_Mo_reply_44 : decode b_Mo_reply 44 = .ok (.istore 7, 2) := by decide +kernel
theorem d_Mo_reply_46 : decode b_Mo_reply 46 = .ok (.iconst 0, 1) := by decide +kernel
theorem d_Mo_reply_47 : decode b_Mo_reply 47 = .ok (.istore 8, 2) := by decide +kernel
theorem d_Mo_reply_49 : decode b_Mo_reply 49 = .ok (.iload 8, 2) := by decide +kernel
theorem d_Mo_reply_51 : decode b_Mo_reply 51 = .ok (.iconst 3, 1) := by decide +kernel
theorem d_Mo_reply_52 : decode b_Mo_reply 52 = .ok (.if_icmp .ge 94, 3) := by decide +kernel
theorem d_Mo_reply_55 : decode b_Mo_reply 55 = .ok (.aload_n 0, 1) := by decide +kernel
theorem d_Mo_reply_56 : decode b_Mo_reply 56 = .ok (.getfield 62, 3) := by decide +kernel
theorem d_Mo_reply_59 : decode b_Mo_reply 59 = .ok (.bipush 9, 2) := by decide +kernel
theorem d_Mo_reply_61 : decode b_Mo_reply 61 = .ok (.iload 6, 2) := by decide +kernel
theorem d_Mo_reply_63 : decode b_Mo_reply 63 = .ok (.imul, 1) := by decide +kernel
theorem d_Mo_reply_64 : decode b_Mo_reply 64 = .ok (.iconst 3, 1) := by decide +kernel
theorem d_Mo_reply_65 : decode b_Mo_reply 65 = .ok (.iload_n 3, 1) := by decide +kernel
theorem d_Mo_reply_66 : decode b_Mo_reply 66 = .ok (.imul, 1) := by decide +kernel
theorem d_Mo_reply_67 : decode b_Mo_reply 67 = .ok (.iadd, 1) := by decide +kernel
theorem d_Mo_reply_68 : decode b_Mo_reply 68 = .ok (.iload 8, 2) := by decide +kernel
theorem d_Mo_reply_70 : decode b_Mo_reply 70 = .ok (.iadd, 1) := by decide +kernel
theorem d_Mo_reply_71 : decode b_Mo_reply 71 = .ok (.aload_n 0, 1) := by decide +kernel
theorem d_Mo_reply_72 : decode b_Mo_reply 72 = .ok (.getfield 74, 3) := by decide +kernel
theorem d_Mo_reply_75 : decode b_Mo_reply 75 = .ok (.iload 5, 2) := by decide +kernel
theorem d_Mo_reply_77 : decode b_Mo_reply 77 = .ok (.bipush 7, 2) := by decide +kernel
theorem d_Mo_reply_79 : decode b_Mo_reply 79 = .ok (.iadd, 1) := by decide +kernel
theorem d_Mo_reply_80 : decode b_Mo_reply 80 = .ok (.iload 8, 2) := by decide +kernel
theorem d_Mo_reply_82 : decode b_Mo_reply 82 = .ok (.iadd, 1) := by decide +kernel
theorem d_Mo_reply_83 : decode b_Mo_reply 83 = .ok (.iaload, 1) := by decide +kernel
theorem d_Mo_reply_84 : decode b_Mo_reply 84 = .ok (.iastore, 1) := by decide +kernel
theorem d_Mo_reply_85 : decode b_Mo_reply 85 = .ok (.aload_n 0, 1) := by decide +kernel
theorem d_Mo_reply_86 : decode b_Mo_reply 86 = .ok (.getfield 65, 3) := by decide +kernel
theorem d_Mo_reply_89 : decode b_Mo_reply 89 = .ok (.bipush 9, 2) := by decide +kernel
theorem d_Mo_reply_91 : decode b_Mo_reply 91 = .ok (.iload 6, 2) := by decide +kernel
theorem d_Mo_reply_93 : decode b_Mo_reply 93 = .ok (.imul, 1) := by decide +kernel
theorem d_Mo_reply_94 : decode b_Mo_reply 94 = .ok (.iconst 3, 1) := by decide +kernel
theorem d_Mo_reply_95 : decode b_Mo_reply 95 = .ok (.iload_n 3, 1) := by decide +kernel
theorem d_Mo_reply_96 : decode b_Mo_reply 96 = .ok (.imul, 1) := by decide +kernel
theorem d_Mo_reply_97 : decode b_Mo_reply 97 = .ok (.iadd, 1) := by decide +kernel
theorem d_Mo_reply_98 : decode b_Mo_reply 98 = .ok (.iload 8, 2) := by decide +kernel
theorem d_Mo_reply_100 : decode b_Mo_reply 100 = .ok (.iadd, 1) := by decide +kernel
theorem d_Mo_reply_101 : decode b_Mo_reply 101 = .ok (.aload_n 0, 1) := by decide +kernel
theorem d_Mo_reply_102 : decode b_Mo_reply 102 = .ok (.getfield 74, 3) := by decide +kernel
theorem d_Mo_reply_105 : decode b_Mo_reply 105 = .ok (.iload 5, 2) := by decide +kernel
theorem d_Mo_reply_107 : decode b_Mo_reply 107 = .ok (.bipush 10, 2) := by decide +kernel
theorem d_Mo_reply_109 : decode b_Mo_reply 109 = .ok (.iadd, 1) := by decide +kernel
theorem d_Mo_reply_110 : decode b_Mo_reply 110 = .ok (.iload 8, 2) := by decide +kernel
theorem d_Mo_reply_112 : decode b_Mo_reply 112 = .ok (.iadd, 1) := by decide +kernel
theorem d_Mo_reply_113 : decode b_Mo_reply 113 = .ok (.iaload, 1) := by decide +kernel
theorem d_Mo_reply_114 : decode b_Mo_reply 114 = .ok (.iastore, 1) := by decide +kernel
theorem d_Mo_reply_115 : decode b_Mo_reply 115 = .ok (.iload 7, 2) := by decide +kernel
theorem d_Mo_reply_117 : decode b_Mo_reply 117 = .ok (.aload_n 0, 1) := by decide +kernel
theorem d_Mo_reply_118 : decode b_Mo_reply 118 = .ok (.getfield 59, 3) := by decide +kernel
theorem d_Mo_reply_121 : decode b_Mo_reply 121 = .ok (.iconst 3, 1) := by decide +kernel
theorem d_Mo_reply_122 : decode b_Mo_reply 122 = .ok (.iload 6, 2) := by decide +kernel
theorem d_Mo_reply_124 : decode b_Mo_reply 124 = .ok (.imul, 1) := by decide +kernel
theorem d_Mo_reply_125 : decode b_Mo_reply 125 = .ok (.iload 8, 2) := by decide +kernel
theorem d_Mo_reply_127 : decode b_Mo_reply 127 = .ok (.iadd, 1) := by decide +kernel
theorem d_Mo_reply_128 : decode b_Mo_reply 128 = .ok (.baload, 1) := by decide +kernel
theorem d_Mo_reply_129 : decode b_Mo_reply 129 = .ok (.ifCond .eq 7, 3) := by decide +kernel
theorem d_Mo_reply_132 : decode b_Mo_reply 132 = .ok (.iconst 1, 1) := by decide +kernel
theorem d_Mo_reply_133 : decode b_Mo_reply 133 = .ok (.goto 4, 3) := by decide +kernel
theorem d_Mo_reply_136 : decode b_Mo_reply 136 = .ok (.iconst 0, 1) := by decide +kernel
theorem d_Mo_reply_137 : decode b_Mo_reply 137 = .ok (.iadd, 1) := by decide +kernel
theorem d_Mo_reply_138 : decode b_Mo_reply 138 = .ok (.istore 7, 2) := by decide +kernel
theorem d_Mo_reply_140 : decode b_Mo_reply 140 = .ok (.iinc 8 1, 3) := by decide +kernel
theorem d_Mo_reply_143 : decode b_Mo_reply 143 = .ok (.goto (-94), 3) := by decide +kernel
theorem d_Mo_reply_146 : decode b_Mo_reply 146 = .ok (.iload 7, 2) := by decide +kernel
theorem d_Mo_reply_148 : decode b_Mo_reply 148 = .ok (.aload_n 0, 1) := by decide +kernel
theorem d_Mo_reply_149 : decode b_Mo_reply 149 = .ok (.invokevirtual 126, 3) := by decide +kernel
theorem d_Mo_reply_152 : decode b_Mo_reply 152 = .ok (.if_icmp .ge 4, 3) := by decide +kernel
theorem d_Mo_reply_155 : decode b_Mo_reply 155 = .ok (.return_, 1) := by decide +kernel
theorem d_Mo_reply_156 : decode b_Mo_reply 156 = .ok (.aload_n 0, 1) := by decide +kernel
theorem d_Mo_reply_157 : decode b_Mo_reply 157 = .ok (.getfield 53, 3) := by decide +kernel
theorem d_Mo_reply_160 : decode b_Mo_reply 160 = .ok (.iload 6, 2) := by decide +kernel
theorem d_Mo_reply_162 : decode b_Mo_reply 162 = .ok (.iconst 1, 1) := by decide +kernel
theorem d_Mo_reply_163 : decode b_Mo_reply 163 = .ok (.bastore, 1) := by decide +kernel
theorem d_Mo_reply_164 : decode b_Mo_reply 164 = .ok (.iconst 0, 1) := by decide +kernel
theorem d_Mo_reply_165 : decode b_Mo_reply 165 = .ok (.istore 8, 2) := by decide +kernel
theorem d_Mo_reply_167 : decode b_Mo_reply 167 = .ok (.iload 8, 2) := by decide +kernel
theorem d_Mo_reply_169 : decode b_Mo_reply 169 = .ok (.iconst 3, 1) := by decide +kernel
theorem d_Mo_reply_170 : decode b_Mo_reply 170 = .ok (.if_icmp .ge 36, 3) := by decide +kernel
theorem d_Mo_reply_173 : decode b_Mo_reply 173 = .ok (.aload_n 0, 1) := by decide +kernel
theorem d_Mo_reply_174 : decode b_Mo_reply 174 = .ok (.iload_n 2, 1) := by decide +kernel
theorem d_Mo_reply_175 : decode b_Mo_reply 175 = .ok (.iload 8, 2) := by decide +kernel
theorem d_Mo_reply_177 : decode b_Mo_reply 177 = .ok (.invokevirtual 116, 3) := by decide +kernel
theorem d_Mo_reply_180 : decode b_Mo_reply 180 = .ok (.ifCond .eq 20, 3) := by decide +kernel
theorem d_Mo_reply_183 : decode b_Mo_reply 183 = .ok (.aload_n 0, 1) := by decide +kernel
theorem d_Mo_reply_184 : decode b_Mo_reply 184 = .ok (.iload_n 2, 1) := by decide +kernel
theorem d_Mo_reply_185 : decode b_Mo_reply 185 = .ok (.iload 8, 2) := by decide +kernel
theorem d_Mo_reply_187 : decode b_Mo_reply 187 = .ok (.iload 4, 2) := by decide +kernel
theorem d_Mo_reply_189 : decode b_Mo_reply 189 = .ok (.aload_n 0, 1) := by decide +kernel
theorem d_Mo_reply_190 : decode b_Mo_reply 190 = .ok (.iload 6, 2) := by decide +kernel
theorem d_Mo_reply_192 : decode b_Mo_reply 192 = .ok (.iload 8, 2) := by decide +kernel
theorem d_Mo_reply_194 : decode b_Mo_reply 194 = .ok (.invokevirtual 130, 3) := by decide +kernel
theorem d_Mo_reply_197 : decode b_Mo_reply 197 = .ok (.invokevirtual 122, 3) := by decide +kernel
theorem d_Mo_reply_200 : decode b_Mo_reply 200 = .ok (.iinc 8 1, 3) := by decide +kernel
theorem d_Mo_reply_203 : decode b_Mo_reply 203 = .ok (.goto (-36), 3) := by decide +kernel
theorem d_Mo_reply_206 : decode b_Mo_reply 206 = .ok (.return_, 1) := by decide +kernel
theorem d_Mo_request_0 : decode b_Mo_request 0 = .ok (.aload_n 0, 1) := by decide +kernel
theorem d_Mo_request_1 : decode b_Mo_request 1 = .ok (.iconst 0, 1) := by decide +kernel
theorem d_Mo_request_2 : decode b_Mo_request 2 = .ok (.putfield 85, 3) := by decide +kernel
theorem d_Mo_request_5 : decode b_Mo_request 5 = .ok (.aload_n 0, 1) := by decide +kernel
theorem d_Mo_request_6 : decode b_Mo_request 6 = .ok (.iload_n 1, 1) := by decide +kernel
theorem d_Mo_request_7 : decode b_Mo_request 7 = .ok (.bipush 8, 2) := by decide +kernel
theorem d_Mo_request_9 : decode b_Mo_request 9 = .ok (.invokevirtual 109, 3) := by decide +kernel
theorem d_Mo_request_12 : decode b_Mo_request 12 = .ok (.ifCond .eq 9, 3) := by decide +kernel
theorem d_Mo_request_15 : decode b_Mo_request 15 = .ok (.aload_n 0, 1) := by decide +kernel
theorem d_Mo_request_16 : decode b_Mo_request 16 = .ok (.iconst 1, 1) := by decide +kernel
theorem d_Mo_request_17 : decode b_Mo_request 17 = .ok (.invokevirtual 105, 3) := by decide +kernel
theorem d_Mo_request_20 : decode b_Mo_request 20 = .ok (.ireturn, 1) := by decide +kernel
theorem d_Mo_request_21 : decode b_Mo_request 21 = .ok (.iload_n 1, 1) := by decide +kernel
theorem d_Mo_request_22 : decode b_Mo_request 22 = .ok (.aload_n 0, 1) := by decide +kernel
theorem d_Mo_request_23 : decode b_Mo_request 23 = .ok (.getfield 102, 3) := by decide +kernel
theorem d_Mo_request_26 : decode b_Mo_request 26 = .ok (.if_icmp .lt 9, 3) := by decide +kernel
theorem d_Mo_request_29 : decode b_Mo_request 29 = .ok (.aload_n 0, 1) := by decide +kernel
theorem d_Mo_request_30 : decode b_Mo_request 30 = .ok (.iconst 2, 1) := by decide +kernel
theorem d_Mo_request_31 : decode b_Mo_request 31 = .ok (.invokevirtual 105, 3) := by decide +kernel
theorem d_Mo_request_34 : decode b_Mo_request 34 = .ok (.ireturn, 1) := by decide +kernel
theorem d_Mo_request_35 : decode b_Mo_request 35 = .ok (.aload_n 0, 1) := by decide +kernel
theorem d_Mo_request_36 : decode b_Mo_request 36 = .ok (.getfield 26, 3) := by decide +kernel
theorem d_Mo_request_39 : decode b_Mo_request 39 = .ok (.iload_n 1, 1) := by decide +kernel
theorem d_Mo_request_40 : decode b_Mo_request 40 = .ok (.iaload, 1) := by decide +kernel
theorem d_Mo_request_41 : decode b_Mo_request 41 = .ok (.ifCond .ne 9, 3) := by decide +kernel
theorem d_Mo_request_44 : decode b_Mo_request 44 = .ok (.aload_n 0, 1) := by decide +kernel
theorem d_Mo_request_45 : decode b_Mo_request 45 = .ok (.iconst 3, 1) := by decide +kernel
theorem d_Mo_request_46 : decode b_Mo_request 46 = .ok (.invokevirtual 105, 3) := by decide +kernel
theorem d_Mo_request_49 : decode b_Mo_request 49 = .ok (.ireturn, 1) := by decide +kernel
theorem d_Mo_request_50 : decode b_Mo_request 50 = .ok (.aload_n 0, 1) := by decide +kernel
theorem d_Mo_request_51 : decode b_Mo_request 51 = .ok (.getfield 29, 3) := by decide +kernel
theorem d_Mo_request_54 : decode b_Mo_request 54 = .ok (.iload_n 1, 1) := by decide +kernel
theorem d_Mo_request_55 : decode b_Mo_request 55 = .ok (.baload, 1) := by decide +kernel
theorem d_Mo_request_56 : decode b_Mo_request 56 = .ok (.ifCond .eq 9, 3) := by decide +kernel
theorem d_Mo_request_59 : decode b_Mo_request 59 = .ok (.aload_n 0, 1) := by decide +kernel
theorem d_Mo_request_60 : decode b_Mo_request 60 = .ok (.iconst 4, 1) := by decide +kernel
theorem d_Mo_request_61 : decode b_Mo_request 61 = .ok (.invokevirtual 105, 3) := by decide +kernel
theorem d_Mo_request_64 : decode b_Mo_request 64 = .ok (.ireturn, 1) := by decide +kernel
theorem d_Mo_request_65 : decode b_Mo_request 65 = .ok (.aload_n 0, 1) := by decide +kernel
theorem d_Mo_request_66 : decode b_Mo_request 66 = .ok (.getfield 29, 3) := by decide +kernel
theorem d_Mo_request_69 : decode b_Mo_request 69 = .ok (.iload_n 1, 1) := by decide +kernel
theorem d_Mo_request_70 : decode b_Mo_request 70 = .ok (.iconst 1, 1) := by decide +kernel
theorem d_Mo_request_71 : decode b_Mo_request 71 = .ok (.bastore, 1) := by decide +kernel
theorem d_Mo_request_72 : decode b_Mo_request 72 = .ok (.iconst 0, 1) := by decide +kernel
theorem d_Mo_request_73 : decode b_Mo_request 73 = .ok (.istore_n 2, 1) := by decide +kernel
theorem d_Mo_request_74 : decode b_Mo_request 74 = .ok (.iload_n 2, 1) := by decide +kernel
theorem d_Mo_request_75 : decode b_Mo_request 75 = .ok (.iconst 3, 1) := by decide +kernel
theorem d_Mo_request_76 : decode b_Mo_request 76 = .ok (.if_icmp .ge 31, 3) := by decide +kernel
theorem d_Mo_request_79 : decode b_Mo_request 79 = .ok (.aload_n 0, 1) := by decide +kernel
theorem d_Mo_request_80 : decode b_Mo_request 80 = .ok (.iload_n 1, 1) := by decide +kernel
theorem d_Mo_request_81 : decode b_Mo_request 81 = .ok (.iload_n 2, 1) := by decide +kernel
theorem d_Mo_request_82 : decode b_Mo_request 82 = .ok (.invokevirtual 116, 3) := by decide +kernel
theorem d_Mo_request_85 : decode b_Mo_request 85 = .ok (.ifCond .eq 16, 3) := by decide +kernel
theorem d_Mo_request_88 : decode b_Mo_request 88 = .ok (.aload_n 0, 1) := by decide +kernel
theorem d_Mo_request_89 : decode b_Mo_request 89 = .ok (.bipush 80, 2) := by decide +kernel
theorem d_Mo_request_91 : decode b_Mo_request 91 = .ok (.iload_n 1, 1) := by decide +kernel
theorem d_Mo_request_92 : decode b_Mo_request 92 = .ok (.iload_n 2, 1) := by decide +kernel
theorem d_Mo_request_93 : decode b_Mo_request 93 = .ok (.iconst (-1), 1) := by decide +kernel
theorem d_Mo_request_94 : decode b_Mo_request 94 = .ok (.iconst (-1), 1) := by decide +kernel
theorem d_Mo_request_95 : decode b_Mo_request 95 = .ok (.iconst (-1), 1) := by decide +kernel
theorem d_Mo_request_96 : decode b_Mo_request 96 = .ok (.iconst (-1), 1) := by decide +kernel
theorem d_Mo_request_97 : decode b_Mo_request 97 = .ok (.invokevirtual 94, 3) := by decide +kernel
theorem d_Mo_request_100 : decode b_Mo_request 100 = .ok (.istore_n 3, 1) := by decide +kernel
theorem d_Mo_request_101 : decode b_Mo_request 101 = .ok (.iinc 2 1, 3) := by decide +kernel
theorem d_Mo_request_104 : decode b_Mo_request 104 = .ok (.goto (-30), 3) := by decide +kernel
theorem d_Mo_request_107 : decode b_Mo_request 107 = .ok (.aload_n 0, 1) := by decide +kernel
theorem d_Mo_request_108 : decode b_Mo_request 108 = .ok (.aload_n 0, 1) := by decide +kernel
theorem d_Mo_request_109 : decode b_Mo_request 109 = .ok (.getfield 26, 3) := by decide +kernel
theorem d_Mo_request_112 : decode b_Mo_request 112 = .ok (.iload_n 1, 1) := by decide +kernel
theorem d_Mo_request_113 : decode b_Mo_request 113 = .ok (.iaload, 1) := by decide +kernel
theorem d_Mo_request_114 : decode b_Mo_request 114 = .ok (.invokevirtual 113, 3) := by decide +kernel
theorem d_Mo_request_117 : decode b_Mo_request 117 = .ok (.ireturn, 1) := by decide +kernel
theorem d_Mo_send_0 : decode b_Mo_send 0 = .ok (.aload_n 0, 1) := by decide +kernel
theorem d_Mo_send_1 : decode b_Mo_send 1 = .ok (.getfield 88, 3) := by decide +kernel
theorem d_Mo_send_4 : decode b_Mo_send 4 = .ok (.bipush 60, 2) := by decide +kernel
theorem d_Mo_send_6 : decode b_Mo_send 6 = .ok (.if_icmp .ne 15, 3) := by decide +kernel
theorem d_Mo_send_9 : decode b_Mo_send 9 = .ok (.aload_n 0, 1) := by decide +kernel
theorem d_Mo_send_10 : decode b_Mo_send 10 = .ok (.dup, 1) := by decide +kernel
theorem d_Mo_send_11 : decode b_Mo_send 11 = .ok (.getfield 91, 3) := by decide +kernel
theorem d_Mo_send_14 : decode b_Mo_send 14 = .ok (.iconst 1, 1) := by decide +kernel
theorem d_Mo_send_15 : decode b_Mo_send 15 = .ok (.iadd, 1) := by decide +kernel
theorem d_Mo_send_16 : decode b_Mo_send 16 = .ok (.putfield 91, 3) := by decide +kernel
theorem d_Mo_send_19 : decode b_Mo_send 19 = .ok (.iconst 0, 1) := by decide +kernel
theorem d_Mo_send_20 : decode b_Mo_send 20 = .ok (.ireturn, 1) := by decide +kernel
theorem d_Mo_send_21 : decode b_Mo_send 21 = .ok (.bipush 13, 2) := by decide +kernel
theorem d_Mo_send_23 : decode b_Mo_send 23 = .ok (.aload_n 0, 1) := by decide +kernel
theorem d_Mo_send_24 : decode b_Mo_send 24 = .ok (.getfield 88, 3) := by decide +kernel
theorem d_Mo_send_27 : decode b_Mo_send 27 = .ok (.imul, 1) := by decide +kernel
theorem d_Mo_send_28 : decode b_Mo_send 28 = .ok (.istore 8, 2) := by decide +kernel
theorem d_Mo_send_30 : decode b_Mo_send 30 = .ok (.aload_n 0, 1) := by decide +kernel
theorem d_Mo_send_31 : decode b_Mo_send 31 = .ok (.getfield 74, 3) := by decide +kernel
theorem d_Mo_send_34 : decode b_Mo_send 34 = .ok (.iload 8, 2) := by decide +kernel
theorem d_Mo_send_36 : decode b_Mo_send 36 = .ok (.iload_n 1, 1) := by decide +kernel
theorem d_Mo_send_37 : decode b_Mo_send 37 = .ok (.iastore, 1) := by decide +kernel
theorem d_Mo_send_38 : decode b_Mo_send 38 = .ok (.aload_n 0, 1) := by decide +kernel
theorem d_Mo_send_39 : decode b_Mo_send 39 = .ok (.getfield 74, 3) := by decide +kernel
theorem d_Mo_send_42 : decode b_Mo_send 42 = .ok (.iload 8, 2) := by decide +kernel
theorem d_Mo_send_44 : decode b_Mo_send 44 = .ok (.iconst 1, 1) := by decide +kernel
theorem d_Mo_send_45 : decode b_Mo_send 45 = .ok (.iadd, 1) := by decide +kernel
theorem d_Mo_send_46 : decode b_Mo_send 46 = .ok (.iload_n 2, 1) := by decide +kernel
theorem d_Mo_send_47 : decode b_Mo_send 47 = .ok (.iastore, 1) := by decide +kernel
theorem d_Mo_send_48 : decode b_Mo_send 48 = .ok (.aload_n 0, 1) := by decide +kernel
theorem d_Mo_send_49 : decode b_Mo_send 49 = .ok (.getfield 74, 3) := by decide +kernel
theorem d_Mo_send_52 : decode b_Mo_send 52 = .ok (.iload 8, 2) := by decide +kernel
theorem d_Mo_send_54 : decode b_Mo_send 54 = .ok (.iconst 2, 1) := by decide +kernel
theorem d_Mo_send_55 : decode b_Mo_send 55 = .ok (.iadd, 1) := by decide +kernel
theorem d_Mo_send_56 : decode b_Mo_send 56 = .ok (.iload_n 3, 1) := by decide +kernel
theorem d_Mo_send_57 : decode b_Mo_send 57 = .ok (.iastore, 1) := by decide +kernel
theorem d_Mo_send_58 : decode b_Mo_send 58 = .ok (.aload_n 0, 1) := by decide +kernel
theorem d_Mo_send_59 : decode b_Mo_send 59 = .ok (.getfield 74, 3) := by decide +kernel
theorem d_Mo_send_62 : decode b_Mo_send 62 = .ok (.iload 8, 2) := by decide +kernel
theorem d_Mo_send_64 : decode b_Mo_send 64 = .ok (.iconst 3, 1) := by decide +kernel
theorem d_Mo_send_65 : decode b_Mo_send 65 = .ok (.iadd, 1) := by decide +kernel
theorem d_Mo_send_66 : decode b_Mo_send 66 = .ok (.iload 4, 2) := by decide +kernel
theorem d_Mo_send_68 : decode b_Mo_send 68 = .ok (.iastore, 1) := by decide +kernel
theorem d_Mo_send_69 : decode b_Mo_send 69 = .ok (.aload_n 0, 1) := by decide +kernel
theorem d_Mo_send_70 : decode b_Mo_send 70 = .ok (.getfield 74, 3) := by decide +kernel
theorem d_Mo_send_73 : decode b_Mo_send 73 = .ok (.iload 8, 2) := by decide +kernel
theorem d_Mo_send_75 : decode b_Mo_send 75 = .ok (.iconst 4, 1) := by decide +kernel
theorem d_Mo_send_76 : decode b_Mo_send 76 = .ok (.iadd, 1) := by decide +kernel
theorem d_Mo_send_77 : decode b_Mo_send 77 = .ok (.iload 5, 2) := by decide +kernel
theorem d_Mo_send_79 : decode b_Mo_send 79 = .ok (.iastore, 1) := by decide +kernel
theorem d_Mo_send_80 : decode b_Mo_send 80 = .ok (.aload_n 0, 1) := by decide +kernel
theorem d_Mo_send_81 : decode b_Mo_send 81 = .ok (.getfield 74, 3) := by decide +kernel
theorem d_Mo_send_84 : decode b_Mo_send 84 = .ok (.iload 8, 2) := by decide +kernel
theorem d_Mo_send_86 : decode b_Mo_send 86 = .ok (.iconst 5, 1) := by decide +kernel
theorem d_Mo_send_87 : decode b_Mo_send 87 = .ok (.iadd, 1) := by decide +kernel
theorem d_Mo_send_88 : decode b_Mo_send 88 = .ok (.iload 6, 2) := by decide +kernel
theorem d_Mo_send_90 : decode b_Mo_send 90 = .ok (.iastore, 1) := by decide +kernel
theorem d_Mo_send_91 : decode b_Mo_send 91 = .ok (.aload_n 0, 1) := by decide +kernel
theorem d_Mo_send_92 : decode b_Mo_send 92 = .ok (.getfield 74, 3) := by decide +kernel
theorem d_Mo_send_95 : decode b_Mo_send 95 = .ok (.iload 8, 2) := by decide +kernel
theorem d_Mo_send_97 : decode b_Mo_send 97 = .ok (.bipush 6, 2) := by decide +kernel
theorem d_Mo_send_99 : decode b_Mo_send 99 = .ok (.iadd, 1) := by decide +kernel
theorem d_Mo_send_100 : decode b_Mo_send 100 = .ok (.iload 7, 2) := by decide +kernel
theorem d_Mo_send_102 : decode b_Mo_send 102 = .ok (.iastore, 1) := by decide +kernel
theorem d_Mo_send_103 : decode b_Mo_send 103 = .ok (.aload_n 0, 1) := by decide +kernel
theorem d_Mo_send_104 : decode b_Mo_send 104 = .ok (.dup, 1) := by decide +kernel
theorem d_Mo_send_105 : decode b_Mo_send 105 = .ok (.getfield 88, 3) := by decide +kernel
theorem d_Mo_send_108 : decode b_Mo_send 108 = .ok (.iconst 1, 1) := by decide +kernel
theorem d_Mo_send_109 : decode b_Mo_send 109 = .ok (.iadd, 1) := by decide +kernel
theorem d_Mo_send_110 : decode b_Mo_send 110 = .ok (.putfield 88, 3) := by decide +kernel
theorem d_Mo_send_113 : decode b_Mo_send 113 = .ok (.iconst 1, 1) := by decide +kernel
theorem d_Mo_send_114 : decode b_Mo_send 114 = .ok (.ireturn, 1) := by decide +kernel
theorem d_Mo_state_0 : decode b_Mo_state 0 = .ok (.aload_n 0, 1) := by decide +kernel
theorem d_Mo_state_1 : decode b_Mo_state 1 = .ok (.iconst 0, 1) := by decide +kernel
theorem d_Mo_state_2 : decode b_Mo_state 2 = .ok (.putfield 85, 3) := by decide +kernel
theorem d_Mo_state_5 : decode b_Mo_state 5 = .ok (.aload_n 0, 1) := by decide +kernel
theorem d_Mo_state_6 : decode b_Mo_state 6 = .ok (.iload_n 1, 1) := by decide +kernel
theorem d_Mo_state_7 : decode b_Mo_state 7 = .ok (.bipush 8, 2) := by decide +kernel
theorem d_Mo_state_9 : decode b_Mo_state 9 = .ok (.invokevirtual 109, 3) := by decide +kernel
theorem d_Mo_state_12 : decode b_Mo_state 12 = .ok (.ifCond .ne 12, 3) := by decide +kernel
theorem d_Mo_state_15 : decode b_Mo_state 15 = .ok (.aload_n 0, 1) := by decide +kernel
theorem d_Mo_state_16 : decode b_Mo_state 16 = .ok (.iload_n 2, 1) := by decide +kernel
theorem d_Mo_state_17 : decode b_Mo_state 17 = .ok (.iconst 3, 1) := by decide +kernel
theorem d_Mo_state_18 : decode b_Mo_state 18 = .ok (.invokevirtual 109, 3) := by decide +kernel
theorem d_Mo_state_21 : decode b_Mo_state 21 = .ok (.ifCond .eq 9, 3) := by decide +kernel
theorem d_Mo_state_24 : decode b_Mo_state 24 = .ok (.aload_n 0, 1) := by decide +kernel
theorem d_Mo_state_25 : decode b_Mo_state 25 = .ok (.iconst 1, 1) := by decide +kernel
theorem d_Mo_state_26 : decode b_Mo_state 26 = .ok (.invokevirtual 105, 3) := by decide +kernel
theorem d_Mo_state_29 : decode b_Mo_state 29 = .ok (.ireturn, 1) := by decide +kernel
theorem d_Mo_state_30 : decode b_Mo_state 30 = .ok (.iload_n 1, 1) := by decide +kernel
theorem d_Mo_state_31 : decode b_Mo_state 31 = .ok (.aload_n 0, 1) := by decide +kernel
theorem d_Mo_state_32 : decode b_Mo_state 32 = .ok (.getfield 102, 3) := by decide +kernel
theorem d_Mo_state_35 : decode b_Mo_state 35 = .ok (.if_icmp .lt 11, 3) := by decide +kernel
theorem d_Mo_state_38 : decode b_Mo_state 38 = .ok (.aload_n 0, 1) := by decide +kernel
theorem d_Mo_state_39 : decode b_Mo_state 39 = .ok (.iconst 2, 1) := by decide +kernel
theorem d_Mo_state_40 : decode b_Mo_state 40 = .ok (.invokevirtual 105, 3) := by decide +kernel
theorem d_Mo_state_43 : decode b_Mo_state 43 = .ok (.goto 13, 3) := by decide +kernel
theorem d_Mo_state_46 : decode b_Mo_state 46 = .ok (.aload_n 0, 1) := by decide +kernel
theorem d_Mo_state_47 : decode b_Mo_state 47 = .ok (.getfield 32, 3) := by decide +kernel
theorem d_Mo_state_50 : decode b_Mo_state 50 = .ok (.iconst 3, 1) := by decide +kernel
theorem d_Mo_state_51 : decode b_Mo_state 51 = .ok (.iload_n 1, 1) := by decide +kernel
theorem d_Mo_state_52 : decode b_Mo_state 52 = .ok (.imul, 1) := by decide +kernel
theorem d_Mo_state_53 : decode b_Mo_state 53 = .ok (.iload_n 2, 1) := by decide +kernel
theorem d_Mo_state_54 : decode b_Mo_state 54 = .ok (.iadd, 1) := by decide +kernel
theorem d_Mo_state_55 : decode b_Mo_state 55 = .ok (.iaload, 1) := by decide +kernel
theorem d_Mo_state_56 : decode b_Mo_state 56 = .ok (.ireturn, 1) := by decide +kernel
theorem d_Mo_take_0 : decode b_Mo_take 0 = .ok (.aload_n 0, 1) := by decide +kernel
theorem d_Mo_take_1 : decode b_Mo_take 1 = .ok (.iconst 0, 1) := by decide +kernel
theorem d_Mo_take_2 : decode b_Mo_take 2 = .ok (.putfield 85, 3) := by decide +kernel
theorem d_Mo_take_5 : decode b_Mo_take 5 = .ok (.aload_n 0, 1) := by decide +kernel
theorem d_Mo_take_6 : decode b_Mo_take 6 = .ok (.iload_n 1, 1) := by decide +kernel
theorem d_Mo_take_7 : decode b_Mo_take 7 = .ok (.iconst 2, 1) := by decide +kernel
theorem d_Mo_take_8 : decode b_Mo_take 8 = .ok (.invokevirtual 109, 3) := by decide +kernel
theorem d_Mo_take_11 : decode b_Mo_take 11 = .ok (.ifCond .ne 13, 3) := by decide +kernel
theorem d_Mo_take_14 : decode b_Mo_take 14 = .ok (.aload_n 0, 1) := by decide +kernel
theorem d_Mo_take_15 : decode b_Mo_take 15 = .ok (.iload_n 2, 1) := by decide +kernel
theorem d_Mo_take_16 : decode b_Mo_take 16 = .ok (.bipush 8, 2) := by decide +kernel
theorem d_Mo_take_18 : decode b_Mo_take 18 = .ok (.invokevirtual 109, 3) := by decide +kernel
theorem d_Mo_take_21 : decode b_Mo_take 21 = .ok (.ifCond .eq 9, 3) := by decide +kernel
theorem d_Mo_take_24 : decode b_Mo_take 24 = .ok (.aload_n 0, 1) := by decide +kernel
theorem d_Mo_take_25 : decode b_Mo_take 25 = .ok (.iconst 1, 1) := by decide +kernel
theorem d_Mo_take_26 : decode b_Mo_take 26 = .ok (.invokevirtual 105, 3) := by decide +kernel
theorem d_Mo_take_29 : decode b_Mo_take 29 = .ok (.ireturn, 1) := by decide +kernel
theorem d_Mo_take_30 : decode b_Mo_take 30 = .ok (.iload_n 2, 1) := by decide +kernel
theorem d_Mo_take_31 : decode b_Mo_take 31 = .ok (.aload_n 0, 1) := by decide +kernel
theorem d_Mo_take_32 : decode b_Mo_take 32 = .ok (.getfield 102, 3) := by decide +kernel
theorem d_Mo_take_35 : decode b_Mo_take 35 = .ok (.if_icmp .lt 9, 3) := by decide +kernel
theorem d_Mo_take_38 : decode b_Mo_take 38 = .ok (.aload_n 0, 1) := by decide +kernel
theorem d_Mo_take_39 : decode b_Mo_take 39 = .ok (.iconst 2, 1) := by decide +kernel
theorem d_Mo_take_40 : decode b_Mo_take 40 = .ok (.invokevirtual 105, 3) := by decide +kernel
theorem d_Mo_take_43 : decode b_Mo_take 43 = .ok (.ireturn, 1) := by decide +kernel
theorem d_Mo_take_44 : decode b_Mo_take 44 = .ok (.aload_n 0, 1) := by decide +kernel
theorem d_Mo_take_45 : decode b_Mo_take 45 = .ok (.getfield 16, 3) := by decide +kernel
theorem d_Mo_take_48 : decode b_Mo_take 48 = .ok (.iload_n 1, 1) := by decide +kernel
theorem d_Mo_take_49 : decode b_Mo_take 49 = .ok (.baload, 1) := by decide +kernel
theorem d_Mo_take_50 : decode b_Mo_take 50 = .ok (.ifCond .eq 9, 3) := by decide +kernel
theorem d_Mo_take_53 : decode b_Mo_take 53 = .ok (.aload_n 0, 1) := by decide +kernel
theorem d_Mo_take_54 : decode b_Mo_take 54 = .ok (.iconst 3, 1) := by decide +kernel
theorem d_Mo_take_55 : decode b_Mo_take 55 = .ok (.invokevirtual 105, 3) := by decide +kernel
theorem d_Mo_take_58 : decode b_Mo_take 58 = .ok (.ireturn, 1) := by decide +kernel
theorem d_Mo_take_59 : decode b_Mo_take 59 = .ok (.aload_n 0, 1) := by decide +kernel
theorem d_Mo_take_60 : decode b_Mo_take 60 = .ok (.getfield 29, 3) := by decide +kernel
theorem d_Mo_take_63 : decode b_Mo_take 63 = .ok (.iload_n 2, 1) := by decide +kernel
theorem d_Mo_take_64 : decode b_Mo_take 64 = .ok (.baload, 1) := by decide +kernel
theorem d_Mo_take_65 : decode b_Mo_take 65 = .ok (.ifCond .ne 9, 3) := by decide +kernel
theorem d_Mo_take_68 : decode b_Mo_take 68 = .ok (.aload_n 0, 1) := by decide +kernel
theorem d_Mo_take_69 : decode b_Mo_take 69 = .ok (.iconst 4, 1) := by decide +kernel
theorem d_Mo_take_70 : decode b_Mo_take 70 = .ok (.invokevirtual 105, 3) := by decide +kernel
theorem d_Mo_take_73 : decode b_Mo_take 73 = .ok (.ireturn, 1) := by decide +kernel
theorem d_Mo_take_74 : decode b_Mo_take 74 = .ok (.bipush 8, 2) := by decide +kernel
theorem d_Mo_take_76 : decode b_Mo_take 76 = .ok (.iload_n 1, 1) := by decide +kernel
theorem d_Mo_take_77 : decode b_Mo_take 77 = .ok (.imul, 1) := by decide +kernel
theorem d_Mo_take_78 : decode b_Mo_take 78 = .ok (.iload_n 2, 1) := by decide +kernel
theorem d_Mo_take_79 : decode b_Mo_take 79 = .ok (.iadd, 1) := by decide +kernel
theorem d_Mo_take_80 : decode b_Mo_take 80 = .ok (.istore_n 3, 1) := by decide +kernel
theorem d_Mo_take_81 : decode b_Mo_take 81 = .ok (.aload_n 0, 1) := by decide +kernel
theorem d_Mo_take_82 : decode b_Mo_take 82 = .ok (.getfield 50, 3) := by decide +kernel
theorem d_Mo_take_85 : decode b_Mo_take 85 = .ok (.iload_n 3, 1) := by decide +kernel
theorem d_Mo_take_86 : decode b_Mo_take 86 = .ok (.iaload, 1) := by decide +kernel
theorem d_Mo_take_87 : decode b_Mo_take 87 = .ok (.iconst 1, 1) := by decide +kernel
theorem d_Mo_take_88 : decode b_Mo_take 88 = .ok (.iadd, 1) := by decide +kernel
theorem d_Mo_take_89 : decode b_Mo_take 89 = .ok (.istore 4, 2) := by decide +kernel
theorem d_Mo_take_91 : decode b_Mo_take 91 = .ok (.iload 4, 2) := by decide +kernel
theorem d_Mo_take_93 : decode b_Mo_take 93 = .ok (.iconst 2, 1) := by decide +kernel
theorem d_Mo_take_94 : decode b_Mo_take 94 = .ok (.irem, 1) := by decide +kernel
theorem d_Mo_take_95 : decode b_Mo_take 95 = .ok (.iload_n 1, 1) := by decide +kernel
theorem d_Mo_take_96 : decode b_Mo_take 96 = .ok (.if_icmp .eq 6, 3) := by decide +kernel
theorem d_Mo_take_99 : decode b_Mo_take 99 = .ok (.iinc 4 1, 3) := by decide +kernel
theorem d_Mo_take_102 : decode b_Mo_take 102 = .ok (.aload_n 0, 1) := by decide +kernel
theorem d_Mo_take_103 : decode b_Mo_take 103 = .ok (.getfield 50, 3) := by decide +kernel
theorem d_Mo_take_106 : decode b_Mo_take 106 = .ok (.iload_n 3, 1) := by decide +kernel
theorem d_Mo_take_107 : decode b_Mo_take 107 = .ok (.iload 4, 2) := by decide +kernel
theorem d_Mo_take_109 : decode b_Mo_take 109 = .ok (.iastore, 1) := by decide +kernel
theorem d_Mo_take_110 : decode b_Mo_take 110 = .ok (.aload_n 0, 1) := by decide +kernel
theorem d_Mo_take_111 : decode b_Mo_take 111 = .ok (.getfield 53, 3) := by decide +kernel
theorem d_Mo_take_114 : decode b_Mo_take 114 = .ok (.iload_n 3, 1) := by decide +kernel
theorem d_Mo_take_115 : decode b_Mo_take 115 = .ok (.iconst 0, 1) := by decide +kernel
theorem d_Mo_take_116 : decode b_Mo_take 116 = .ok (.bastore, 1) := by decide +kernel
theorem d_Mo_take_117 : decode b_Mo_take 117 = .ok (.iconst 0, 1) := by decide +kernel
theorem d_Mo_take_118 : decode b_Mo_take 118 = .ok (.istore 5, 2) := by decide +kernel
theorem d_Mo_take_120 : decode b_Mo_take 120 = .ok (.iload 5, 2) := by decide +kernel
theorem d_Mo_take_122 : decode b_Mo_take 122 = .ok (.iconst 3, 1) := by decide +kernel
theorem d_Mo_take_123 : decode b_Mo_take 123 = .ok (.if_icmp .ge 21, 3) := by decide +kernel
theorem d_Mo_take_126 : decode b_Mo_take 126 = .ok (.aload_n 0, 1) := by decide +kernel
theorem d_Mo_take_127 : decode b_Mo_take 127 = .ok (.getfield 59, 3) := by decide +kernel
theorem d_Mo_take_130 : decode b_Mo_take 130 = .ok (.iconst 3, 1) := by decide +kernel
theorem d_Mo_take_131 : decode b_Mo_take 131 = .ok (.iload_n 3, 1) := by decide +kernel
theorem d_Mo_take_132 : decode b_Mo_take 132 = .ok (.imul, 1) := by decide +kernel
theorem d_Mo_take_133 : decode b_Mo_take 133 = .ok (.iload 5, 2) := by decide +kernel
theorem d_Mo_take_135 : decode b_Mo_take 135 = .ok (.iadd, 1) := by decide +kernel
theorem d_Mo_take_136 : decode b_Mo_take 136 = .ok (.iconst 0, 1) := by decide +kernel
theorem d_Mo_take_137 : decode b_Mo_take 137 = .ok (.bastore, 1) := by decide +kernel
theorem d_Mo_take_138 : decode b_Mo_take 138 = .ok (.iinc 5 1, 3) := by decide +kernel
theorem d_Mo_take_141 : decode b_Mo_take 141 = .ok (.goto (-21), 3) := by decide +kernel
theorem d_Mo_take_144 : decode b_Mo_take 144 = .ok (.iconst 0, 1) := by decide +kernel
theorem d_Mo_take_145 : decode b_Mo_take 145 = .ok (.istore 5, 2) := by decide +kernel
theorem d_Mo_take_147 : decode b_Mo_take 147 = .ok (.iload 5, 2) := by decide +kernel
theorem d_Mo_take_149 : decode b_Mo_take 149 = .ok (.aload_n 0, 1) := by decide +kernel
theorem d_Mo_take_150 : decode b_Mo_take 150 = .ok (.getfield 77, 3) := by decide +kernel
theorem d_Mo_take_153 : decode b_Mo_take 153 = .ok (.if_icmp .ge 25, 3) := by decide +kernel
theorem d_Mo_take_156 : decode b_Mo_take 156 = .ok (.aload_n 0, 1) := by decide +kernel
theorem d_Mo_take_157 : decode b_Mo_take 157 = .ok (.bipush 65, 2) := by decide +kernel
theorem d_Mo_take_159 : decode b_Mo_take 159 = .ok (.iload_n 2, 1) := by decide +kernel
theorem d_Mo_take_160 : decode b_Mo_take 160 = .ok (.iconst (-1), 1) := by decide +kernel
theorem d_Mo_take_161 : decode b_Mo_take 161 = .ok (.iload 5, 2) := by decide +kernel
theorem d_Mo_take_163 : decode b_Mo_take 163 = .ok (.iconst (-1), 1) := by decide +kernel
theorem d_Mo_take_164 : decode b_Mo_take 164 = .ok (.iload 4, 2) := by decide +kernel
theorem d_Mo_take_166 : decode b_Mo_take 166 = .ok (.iconst (-1), 1) := by decide +kernel
theorem d_Mo_take_167 : decode b_Mo_take 167 = .ok (.invokevirtual 94, 3) := by decide +kernel
theorem d_Mo_take_170 : decode b_Mo_take 170 = .ok (.istore 6, 2) := by decide +kernel
theorem d_Mo_take_172 : decode b_Mo_take 172 = .ok (.iinc 5 1, 3) := by decide +kernel
theorem d_Mo_take_175 : decode b_Mo_take 175 = .ok (.goto (-28), 3) := by decide +kernel
theorem d_Mo_take_178 : decode b_Mo_take 178 = .ok (.iload 4, 2) := by decide +kernel
theorem d_Mo_take_180 : decode b_Mo_take 180 = .ok (.ireturn, 1) := by decide +kernel
theorem d_Mo_takeOut_0 : decode b_Mo_takeOut 0 = .ok (.iconst 0, 1) := by decide +kernel
theorem d_Mo_takeOut_1 : decode b_Mo_takeOut 1 = .ok (.istore_n 3, 1) := by decide +kernel
theorem d_Mo_takeOut_2 : decode b_Mo_takeOut 2 = .ok (.iload_n 3, 1) := by decide +kernel
theorem d_Mo_takeOut_3 : decode b_Mo_takeOut 3 = .ok (.bipush 13, 2) := by decide +kernel
theorem d_Mo_takeOut_5 : decode b_Mo_takeOut 5 = .ok (.if_icmp .ge 30, 3) := by decide +kernel
theorem d_Mo_takeOut_8 : decode b_Mo_takeOut 8 = .ok (.aload_n 0, 1) := by decide +kernel
theorem d_Mo_takeOut_9 : decode b_Mo_takeOut 9 = .ok (.getfield 74, 3) := by decide +kernel
theorem d_Mo_takeOut_12 : decode b_Mo_takeOut 12 = .ok (.sipush 780, 3) := by decide +kernel
theorem d_Mo_takeOut_15 : decode b_Mo_takeOut 15 = .ok (.iload_n 3, 1) := by decide +kernel
theorem d_Mo_takeOut_16 : decode b_Mo_takeOut 16 = .ok (.iadd, 1) := by decide +kernel
theorem d_Mo_takeOut_17 : decode b_Mo_takeOut 17 = .ok (.aload_n 0, 1) := by decide +kernel
theorem d_Mo_takeOut_18 : decode b_Mo_takeOut 18 = .ok (.getfield 74, 3) := by decide +kernel
theorem d_Mo_takeOut_21 : decode b_Mo_takeOut 21 = .ok (.bipush 13, 2) := by decide +kernel
theorem d_Mo_takeOut_23 : decode b_Mo_takeOut 23 = .ok (.iload_n 1, 1) := by decide +kernel
theorem d_Mo_takeOut_24 : decode b_Mo_takeOut 24 = .ok (.imul, 1) := by decide +kernel
theorem d_Mo_takeOut_25 : decode b_Mo_takeOut 25 = .ok (.iload_n 3, 1) := by decide +kernel
theorem d_Mo_takeOut_26 : decode b_Mo_takeOut 26 = .ok (.iadd, 1) := by decide +kernel
theorem d_Mo_takeOut_27 : decode b_Mo_takeOut 27 = .ok (.iaload, 1) := by decide +kernel
theorem d_Mo_takeOut_28 : decode b_Mo_takeOut 28 = .ok (.iastore, 1) := by decide +kernel
theorem d_Mo_takeOut_29 : decode b_Mo_takeOut 29 = .ok (.iinc 3 1, 3) := by decide +kernel
theorem d_Mo_takeOut_32 : decode b_Mo_takeOut 32 = .ok (.goto (-30), 3) := by decide +kernel
theorem d_Mo_takeOut_35 : decode b_Mo_takeOut 35 = .ok (.iload_n 2, 1) := by decide +kernel
theorem d_Mo_takeOut_36 : decode b_Mo_takeOut 36 = .ok (.ifCond .eq 4, 3) := by decide +kernel
theorem d_Mo_takeOut_39 : decode b_Mo_takeOut 39 = .ok (.return_, 1) := by decide +kernel
theorem d_Mo_takeOut_40 : decode b_Mo_takeOut 40 = .ok (.aload_n 0, 1) := by decide +kernel
theorem d_Mo_takeOut_41 : decode b_Mo_takeOut 41 = .ok (.dup, 1) := by decide +kernel
theorem d_Mo_takeOut_42 : decode b_Mo_takeOut 42 = .ok (.getfield 88, 3) := by decide +kernel
theorem d_Mo_takeOut_45 : decode b_Mo_takeOut 45 = .ok (.iconst 1, 1) := by decide +kernel
theorem d_Mo_takeOut_46 : decode b_Mo_takeOut 46 = .ok (.isub, 1) := by decide +kernel
theorem d_Mo_takeOut_47 : decode b_Mo_takeOut 47 = .ok (.putfield 88, 3) := by decide +kernel
theorem d_Mo_takeOut_50 : decode b_Mo_takeOut 50 = .ok (.bipush 13, 2) := by decide +kernel
theorem d_Mo_takeOut_52 : decode b_Mo_takeOut 52 = .ok (.iload_n 1, 1) := by decide +kernel
theorem d_Mo_takeOut_53 : decode b_Mo_takeOut 53 = .ok (.imul, 1) := by decide +kernel
theorem d_Mo_takeOut_54 : decode b_Mo_takeOut 54 = .ok (.istore_n 3, 1) := by decide +kernel
theorem d_Mo_takeOut_55 : decode b_Mo_takeOut 55 = .ok (.iload_n 3, 1) := by decide +kernel
theorem d_Mo_takeOut_56 : decode b_Mo_takeOut 56 = .ok (.bipush 13, 2) := by decide +kernel
theorem d_Mo_takeOut_58 : decode b_Mo_takeOut 58 = .ok (.aload_n 0, 1) := by decide +kernel
theorem d_Mo_takeOut_59 : decode b_Mo_takeOut 59 = .ok (.getfield 88, 3) := by decide +kernel
theorem d_Mo_takeOut_62 : decode b_Mo_takeOut 62 = .ok (.imul, 1) := by decide +kernel
theorem d_Mo_takeOut_63 : decode b_Mo_takeOut 63 = .ok (.if_icmp .ge 24, 3) := by decide +kernel
theorem d_Mo_takeOut_66 : decode b_Mo_takeOut 66 = .ok (.aload_n 0, 1) := by decide +kernel
theorem d_Mo_takeOut_67 : decode b_Mo_takeOut 67 = .ok (.getfield 74, 3) := by decide +kernel
theorem d_Mo_takeOut_70 : decode b_Mo_takeOut 70 = .ok (.iload_n 3, 1) := by decide +kernel
theorem d_Mo_takeOut_71 : decode b_Mo_takeOut 71 = .ok (.aload_n 0, 1) := by decide +kernel
theorem d_Mo_takeOut_72 : decode b_Mo_takeOut 72 = .ok (.getfield 74, 3) := by decide +kernel
theorem d_Mo_takeOut_75 : decode b_Mo_takeOut 75 = .ok (.iload_n 3, 1) := by decide +kernel
theorem d_Mo_takeOut_76 : decode b_Mo_takeOut 76 = .ok (.bipush 13, 2) := by decide +kernel
theorem d_Mo_takeOut_78 : decode b_Mo_takeOut 78 = .ok (.iadd, 1) := by decide +kernel
theorem d_Mo_takeOut_79 : decode b_Mo_takeOut 79 = .ok (.iaload, 1) := by decide +kernel
theorem d_Mo_takeOut_80 : decode b_Mo_takeOut 80 = .ok (.iastore, 1) := by decide +kernel
theorem d_Mo_takeOut_81 : decode b_Mo_takeOut 81 = .ok (.iinc 3 1, 3) := by decide +kernel
theorem d_Mo_takeOut_84 : decode b_Mo_takeOut 84 = .ok (.goto (-29), 3) := by decide +kernel
theorem d_Mo_takeOut_87 : decode b_Mo_takeOut 87 = .ok (.return_, 1) := by decide +kernel
theorem d_Mo_taken_0 : decode b_Mo_taken 0 = .ok (.aload_n 0, 1) := by decide +kernel
theorem d_Mo_taken_1 : decode b_Mo_taken 1 = .ok (.iconst 0, 1) := by decide +kernel
theorem d_Mo_taken_2 : decode b_Mo_taken 2 = .ok (.putfield 85, 3) := by decide +kernel
theorem d_Mo_taken_5 : decode b_Mo_taken 5 = .ok (.aload_n 0, 1) := by decide +kernel
theorem d_Mo_taken_6 : decode b_Mo_taken 6 = .ok (.iload_n 1, 1) := by decide +kernel
theorem d_Mo_taken_7 : decode b_Mo_taken 7 = .ok (.aload_n 0, 1) := by decide +kernel
theorem d_Mo_taken_8 : decode b_Mo_taken 8 = .ok (.getfield 77, 3) := by decide +kernel
theorem d_Mo_taken_11 : decode b_Mo_taken 11 = .ok (.invokevirtual 109, 3) := by decide +kernel
theorem d_Mo_taken_14 : decode b_Mo_taken 14 = .ok (.ifCond .ne 22, 3) := by decide +kernel
theorem d_Mo_taken_17 : decode b_Mo_taken 17 = .ok (.aload_n 0, 1) := by decide +kernel
theorem d_Mo_taken_18 : decode b_Mo_taken 18 = .ok (.iload_n 2, 1) := by decide +kernel
theorem d_Mo_taken_19 : decode b_Mo_taken 19 = .ok (.bipush 8, 2) := by decide +kernel
theorem d_Mo_taken_21 : decode b_Mo_taken 21 = .ok (.invokevirtual 109, 3) := by decide +kernel
theorem d_Mo_taken_24 : decode b_Mo_taken 24 = .ok (.ifCond .ne 12, 3) := by decide +kernel
theorem d_Mo_taken_27 : decode b_Mo_taken 27 = .ok (.aload_n 0, 1) := by decide +kernel
theorem d_Mo_taken_28 : decode b_Mo_taken 28 = .ok (.iload_n 3, 1) := by decide +kernel
theorem d_Mo_taken_29 : decode b_Mo_taken 29 = .ok (.iconst 3, 1) := by decide +kernel
theorem d_Mo_taken_30 : decode b_Mo_taken 30 = .ok (.invokevirtual 109, 3) := by decide +kernel
theorem d_Mo_taken_33 : decode b_Mo_taken 33 = .ok (.ifCond .eq 9, 3) := by decide +kernel
theorem d_Mo_taken_36 : decode b_Mo_taken 36 = .ok (.aload_n 0, 1) := by decide +kernel
theorem d_Mo_taken_37 : decode b_Mo_taken 37 = .ok (.iconst 1, 1) := by decide +kernel
theorem d_Mo_taken_38 : decode b_Mo_taken 38 = .ok (.invokevirtual 105, 3) := by decide +kernel
theorem d_Mo_taken_41 : decode b_Mo_taken 41 = .ok (.ireturn, 1) := by decide +kernel
theorem d_Mo_taken_42 : decode b_Mo_taken 42 = .ok (.iload_n 2, 1) := by decide +kernel
theorem d_Mo_taken_43 : decode b_Mo_taken 43 = .ok (.aload_n 0, 1) := by decide +kernel
theorem d_Mo_taken_44 : decode b_Mo_taken 44 = .ok (.getfield 102, 3) := by decide +kernel
theorem d_Mo_taken_47 : decode b_Mo_taken 47 = .ok (.if_icmp .lt 9, 3) := by decide +kernel
theorem d_Mo_taken_50 : decode b_Mo_taken 50 = .ok (.aload_n 0, 1) := by decide +kernel
theorem d_Mo_taken_51 : decode b_Mo_taken 51 = .ok (.iconst 2, 1) := by decide +kernel
theorem d_Mo_taken_52 : decode b_Mo_taken 52 = .ok (.invokevirtual 105, 3) := by decide +kernel
theorem d_Mo_taken_55 : decode b_Mo_taken 55 = .ok (.ireturn, 1) := by decide +kernel
theorem d_Mo_taken_56 : decode b_Mo_taken 56 = .ok (.bipush 24, 2) := by decide +kernel
theorem d_Mo_taken_58 : decode b_Mo_taken 58 = .ok (.iload_n 1, 1) := by decide +kernel
theorem d_Mo_taken_59 : decode b_Mo_taken 59 = .ok (.imul, 1) := by decide +kernel
theorem d_Mo_taken_60 : decode b_Mo_taken 60 = .ok (.iconst 3, 1) := by decide +kernel
theorem d_Mo_taken_61 : decode b_Mo_taken 61 = .ok (.iload_n 2, 1) := by decide +kernel
theorem d_Mo_taken_62 : decode b_Mo_taken 62 = .ok (.imul, 1) := by decide +kernel
theorem d_Mo_taken_63 : decode b_Mo_taken 63 = .ok (.iadd, 1) := by decide +kernel
theorem d_Mo_taken_64 : decode b_Mo_taken 64 = .ok (.iload_n 3, 1) := by decide +kernel
theorem d_Mo_taken_65 : decode b_Mo_taken 65 = .ok (.iadd, 1) := by decide +kernel
theorem d_Mo_taken_66 : decode b_Mo_taken 66 = .ok (.istore 5, 2) := by decide +kernel
theorem d_Mo_taken_68 : decode b_Mo_taken 68 = .ok (.iload 4, 2) := by decide +kernel
theorem d_Mo_taken_70 : decode b_Mo_taken 70 = .ok (.ifCond .eq 11, 3) := by decide +kernel
theorem d_Mo_taken_73 : decode b_Mo_taken 73 = .ok (.aload_n 0, 1) := by decide +kernel
theorem d_Mo_taken_74 : decode b_Mo_taken 74 = .ok (.getfield 41, 3) := by decide +kernel
theorem d_Mo_taken_77 : decode b_Mo_taken 77 = .ok (.iload 5, 2) := by decide +kernel
theorem d_Mo_taken_79 : decode b_Mo_taken 79 = .ok (.iaload, 1) := by decide +kernel
theorem d_Mo_taken_80 : decode b_Mo_taken 80 = .ok (.ireturn, 1) := by decide +kernel
theorem d_Mo_taken_81 : decode b_Mo_taken 81 = .ok (.aload_n 0, 1) := by decide +kernel
theorem d_Mo_taken_82 : decode b_Mo_taken 82 = .ok (.getfield 44, 3) := by decide +kernel
theorem d_Mo_taken_85 : decode b_Mo_taken 85 = .ok (.iload 5, 2) := by decide +kernel
theorem d_Mo_taken_87 : decode b_Mo_taken 87 = .ok (.iaload, 1) := by decide +kernel
theorem d_Mo_taken_88 : decode b_Mo_taken 88 = .ok (.ifCond .ge 7, 3) := by decide +kernel
theorem d_Mo_taken_91 : decode b_Mo_taken 91 = .ok (.iconst (-1), 1) := by decide +kernel
theorem d_Mo_taken_92 : decode b_Mo_taken 92 = .ok (.goto 20, 3) := by decide +kernel
theorem d_Mo_taken_95 : decode b_Mo_taken 95 = .ok (.iconst 2, 1) := by decide +kernel
theorem d_Mo_taken_96 : decode b_Mo_taken 96 = .ok (.aload_n 0, 1) := by decide +kernel
theorem d_Mo_taken_97 : decode b_Mo_taken 97 = .ok (.getfield 44, 3) := by decide +kernel
theorem d_Mo_taken_100 : decode b_Mo_taken 100 = .ok (.iload 5, 2) := by decide +kernel
theorem d_Mo_taken_102 : decode b_Mo_taken 102 = .ok (.iaload, 1) := by decide +kernel
theorem d_Mo_taken_103 : decode b_Mo_taken 103 = .ok (.imul, 1) := by decide +kernel
theorem d_Mo_taken_104 : decode b_Mo_taken 104 = .ok (.aload_n 0, 1) := by decide +kernel
theorem d_Mo_taken_105 : decode b_Mo_taken 105 = .ok (.getfield 47, 3) := by decide +kernel
theorem d_Mo_taken_108 : decode b_Mo_taken 108 = .ok (.iload 5, 2) := by decide +kernel
theorem d_Mo_taken_110 : decode b_Mo_taken 110 = .ok (.iaload, 1) := by decide +kernel
theorem d_Mo_taken_111 : decode b_Mo_taken 111 = .ok (.iadd, 1) := by decide +kernel
theorem d_Mo_taken_112 : decode b_Mo_taken 112 = .ok (.ireturn, 1) := by decide +kernel
theorem d_Mo_text_0 : decode b_Mo_text 0 = .ok (.aload_n 0, 1) := by decide +kernel
theorem d_Mo_text_1 : decode b_Mo_text 1 = .ok (.iconst 0, 1) := by decide +kernel
theorem d_Mo_text_2 : decode b_Mo_text 2 = .ok (.putfield 85, 3) := by decide +kernel
theorem d_Mo_text_5 : decode b_Mo_text 5 = .ok (.iload_n 2, 1) := by decide +kernel
theorem d_Mo_text_6 : decode b_Mo_text 6 = .ok (.ifCond .ge 9, 3) := by decide +kernel
theorem d_Mo_text_9 : decode b_Mo_text 9 = .ok (.aload_n 0, 1) := by decide +kernel
theorem d_Mo_text_10 : decode b_Mo_text 10 = .ok (.iconst 1, 1) := by decide +kernel
theorem d_Mo_text_11 : decode b_Mo_text 11 = .ok (.invokevirtual 105, 3) := by decide +kernel
theorem d_Mo_text_14 : decode b_Mo_text 14 = .ok (.ireturn, 1) := by decide +kernel
theorem d_Mo_text_15 : decode b_Mo_text 15 = .ok (.aload_n 0, 1) := by decide +kernel
theorem d_Mo_text_16 : decode b_Mo_text 16 = .ok (.iload_n 1, 1) := by decide +kernel
theorem d_Mo_text_17 : decode b_Mo_text 17 = .ok (.aload_n 0, 1) := by decide +kernel
theorem d_Mo_text_18 : decode b_Mo_text 18 = .ok (.getfield 88, 3) := by decide +kernel
theorem d_Mo_text_21 : decode b_Mo_text 21 = .ok (.invokevirtual 109, 3) := by decide +kernel
theorem d_Mo_text_24 : decode b_Mo_text 24 = .ok (.ifCond .eq 9, 3) := by decide +kernel
theorem d_Mo_text_27 : decode b_Mo_text 27 = .ok (.aload_n 0, 1) := by decide +kernel
theorem d_Mo_text_28 : decode b_Mo_text 28 = .ok (.iconst 2, 1) := by decide +kernel
theorem d_Mo_text_29 : decode b_Mo_text 29 = .ok (.invokevirtual 105, 3) := by decide +kernel
theorem d_Mo_text_32 : decode b_Mo_text 32 = .ok (.ireturn, 1) := by decide +kernel
theorem d_Mo_text_33 : decode b_Mo_text 33 = .ok (.bipush 13, 2) := by decide +kernel
theorem d_Mo_text_35 : decode b_Mo_text 35 = .ok (.iload_n 1, 1) := by decide +kernel
theorem d_Mo_text_36 : decode b_Mo_text 36 = .ok (.imul, 1) := by decide +kernel
theorem d_Mo_text_37 : decode b_Mo_text 37 = .ok (.istore_n 3, 1) := by decide +kernel
theorem d_Mo_text_38 : decode b_Mo_text 38 = .ok (.aload_n 0, 1) := by decide +kernel
theorem d_Mo_text_39 : decode b_Mo_text 39 = .ok (.iload_n 2, 1) := by decide +kernel
theorem d_Mo_text_40 : decode b_Mo_text 40 = .ok (.aload_n 0, 1) := by decide +kernel
theorem d_Mo_text_41 : decode b_Mo_text 41 = .ok (.getfield 74, 3) := by decide +kernel
theorem d_Mo_text_44 : decode b_Mo_text 44 = .ok (.iload_n 3, 1) := by decide +kernel
theorem d_Mo_text_45 : decode b_Mo_text 45 = .ok (.iaload, 1) := by decide +kernel
theorem d_Mo_text_46 : decode b_Mo_text 46 = .ok (.invokevirtual 165, 3) := by decide +kernel
theorem d_Mo_text_49 : decode b_Mo_text 49 = .ok (.istore 4, 2) := by decide +kernel
theorem d_Mo_text_51 : decode b_Mo_text 51 = .ok (.aload_n 0, 1) := by decide +kernel
theorem d_Mo_text_52 : decode b_Mo_text 52 = .ok (.iload 4, 2) := by decide +kernel
theorem d_Mo_text_54 : decode b_Mo_text 54 = .ok (.bipush 116, 2) := by decide +kernel
theorem d_Mo_text_56 : decode b_Mo_text 56 = .ok (.aload_n 0, 1) := by decide +kernel
theorem d_Mo_text_57 : decode b_Mo_text 57 = .ok (.getfield 74, 3) := by decide +kernel
theorem d_Mo_text_60 : decode b_Mo_text 60 = .ok (.iload_n 3, 1) := by decide +kernel
theorem d_Mo_text_61 : decode b_Mo_text 61 = .ok (.iconst 1, 1) := by decide +kernel
theorem d_Mo_text_62 : decode b_Mo_text 62 = .ok (.iadd, 1) := by decide +kernel
theorem d_Mo_text_63 : decode b_Mo_text 63 = .ok (.iaload, 1) := by decide +kernel
theorem d_Mo_text_64 : decode b_Mo_text 64 = .ok (.invokevirtual 171, 3) := by decide +kernel
theorem d_Mo_text_67 : decode b_Mo_text 67 = .ok (.istore 4, 2) := by decide +kernel
theorem d_Mo_text_69 : decode b_Mo_text 69 = .ok (.aload_n 0, 1) := by decide +kernel
theorem d_Mo_text_70 : decode b_Mo_text 70 = .ok (.iload 4, 2) := by decide +kernel
theorem d_Mo_text_72 : decode b_Mo_text 72 = .ok (.bipush 115, 2) := by decide +kernel
theorem d_Mo_text_74 : decode b_Mo_text 74 = .ok (.aload_n 0, 1) := by decide +kernel
theorem d_Mo_text_75 : decode b_Mo_text 75 = .ok (.getfield 74, 3) := by decide +kernel
theorem d_Mo_text_78 : decode b_Mo_text 78 = .ok (.iload_n 3, 1) := by decide +kernel
theorem d_Mo_text_79 : decode b_Mo_text 79 = .ok (.iconst 2, 1) := by decide +kernel
theorem d_Mo_text_80 : decode b_Mo_text 80 = .ok (.iadd, 1) := by decide +kernel
theorem d_Mo_text_81 : decode b_Mo_text 81 = .ok (.iaload, 1) := by decide +kernel
theorem d_Mo_text_82 : decode b_Mo_text 82 = .ok (.invokevirtual 171, 3) := by decide +kernel
theorem d_Mo_text_85 : decode b_Mo_text 85 = .ok (.istore 4, 2) := by decide +kernel
