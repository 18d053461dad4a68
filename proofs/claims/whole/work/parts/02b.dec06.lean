theorem d_Msg_spell_27 : decode b_Msg_spell 27 = .ok (.aload_n 0, 1) := by decide +kernel
theorem d_Msg_spell_28 : decode b_Msg_spell 28 = .ok (.getfield 18, 3) := by decide +kernel
theorem d_Msg_spell_31 : decode b_Msg_spell 31 = .ok (.invokestatic 67, 3) := by decide +kernel
theorem d_Msg_spell_34 : decode b_Msg_spell 34 = .ok (.aload_n 1, 1) := by decide +kernel
theorem d_Msg_spell_35 : decode b_Msg_spell 35 = .ok (.bipush 97, 2) := by decide +kernel
theorem d_Msg_spell_37 : decode b_Msg_spell 37 = .ok (.aload_n 0, 1) := by decide +kernel
theorem d_Msg_spell_38 : decode b_Msg_spell 38 = .ok (.getfield 21, 3) := by decide +kernel
theorem d_Msg_spell_41 : decode b_Msg_spell 41 = .ok (.invokestatic 67, 3) := by decide +kernel
theorem d_Msg_spell_44 : decode b_Msg_spell 44 = .ok (.aload_n 1, 1) := by decide +kernel
theorem d_Msg_spell_45 : decode b_Msg_spell 45 = .ok (.bipush 108, 2) := by decide +kernel
theorem d_Msg_spell_47 : decode b_Msg_spell 47 = .ok (.aload_n 0, 1) := by decide +kernel
theorem d_Msg_spell_48 : decode b_Msg_spell 48 = .ok (.getfield 24, 3) := by decide +kernel
theorem d_Msg_spell_51 : decode b_Msg_spell 51 = .ok (.invokestatic 67, 3) := by decide +kernel
theorem d_Msg_spell_54 : decode b_Msg_spell 54 = .ok (.aload_n 1, 1) := by decide +kernel
theorem d_Msg_spell_55 : decode b_Msg_spell 55 = .ok (.bipush 98, 2) := by decide +kernel
theorem d_Msg_spell_57 : decode b_Msg_spell 57 = .ok (.aload_n 0, 1) := by decide +kernel
theorem d_Msg_spell_58 : decode b_Msg_spell 58 = .ok (.getfield 27, 3) := by decide +kernel
theorem d_Msg_spell_61 : decode b_Msg_spell 61 = .ok (.invokestatic 67, 3) := by decide +kernel
theorem d_Msg_spell_64 : decode b_Msg_spell 64 = .ok (.aload_n 0, 1) := by decide +kernel
theorem d_Msg_spell_65 : decode b_Msg_spell 65 = .ok (.getfield 30, 3) := by decide +kernel
theorem d_Msg_spell_68 : decode b_Msg_spell 68 = .ok (.iconst (-1), 1) := by decide +kernel
theorem d_Msg_spell_69 : decode b_Msg_spell 69 = .ok (.if_icmp .eq 23, 3) := by decide +kernel
theorem d_Msg_spell_72 : decode b_Msg_spell 72 = .ok (.aload_n 1, 1) := by decide +kernel
theorem d_Msg_spell_73 : decode b_Msg_spell 73 = .ok (.aload_n 0, 1) := by decide +kernel
theorem d_Msg_spell_74 : decode b_Msg_spell 74 = .ok (.getfield 30, 3) := by decide +kernel
theorem d_Msg_spell_77 : decode b_Msg_spell 77 = .ok (.iconst 1, 1) := by decide +kernel
theorem d_Msg_spell_78 : decode b_Msg_spell 78 = .ok (.if_icmp .ne 8, 3) := by decide +kernel
theorem d_Msg_spell_81 : decode b_Msg_spell 81 = .ok (.bipush 89, 2) := by decide +kernel
theorem d_Msg_spell_83 : decode b_Msg_spell 83 = .ok (.goto 5, 3) := by decide +kernel
theorem d_Msg_spell_86 : decode b_Msg_spell 86 = .ok (.bipush 78, 2) := by decide +kernel
theorem d_Msg_spell_88 : decode b_Msg_spell 88 = .ok (.invokevirtual 61, 3) := by decide +kernel
theorem d_Msg_spell_91 : decode b_Msg_spell 91 = .ok (.pop, 1) := by decide +kernel
theorem d_Msg_spell_92 : decode b_Msg_spell 92 = .ok (.aload_n 0, 1) := by decide +kernel
theorem d_Msg_spell_93 : decode b_Msg_spell 93 = .ok (.getfield 9, 3) := by decide +kernel
theorem d_Msg_spell_96 : decode b_Msg_spell 96 = .ok (.iconst 2, 1) := by decide +kernel
theorem d_Msg_spell_97 : decode b_Msg_spell 97 = .ok (.if_icmp .ne 26, 3) := by decide +kernel
theorem d_Msg_spell_100 : decode b_Msg_spell 100 = .ok (.iconst 0, 1) := by decide +kernel
theorem d_Msg_spell_101 : decode b_Msg_spell 101 = .ok (.istore_n 2, 1) := by decide +kernel
theorem d_Msg_spell_102 : decode b_Msg_spell 102 = .ok (.iload_n 2, 1) := by decide +kernel
theorem d_Msg_spell_103 : decode b_Msg_spell 103 = .ok (.iconst 3, 1) := by decide +kernel
theorem d_Msg_spell_104 : decode b_Msg_spell 104 = .ok (.if_icmp .ge 19, 3) := by decide +kernel
theorem d_Msg_spell_107 : decode b_Msg_spell 107 = .ok (.aload_n 1, 1) := by decide +kernel
theorem d_Msg_spell_108 : decode b_Msg_spell 108 = .ok (.aload_n 0, 1) := by decide +kernel
theorem d_Msg_spell_109 : decode b_Msg_spell 109 = .ok (.getfield 33, 3) := by decide +kernel
theorem d_Msg_spell_112 : decode b_Msg_spell 112 = .ok (.iload_n 2, 1) := by decide +kernel
theorem d_Msg_spell_113 : decode b_Msg_spell 113 = .ok (.iaload, 1) := by decide +kernel
theorem d_Msg_spell_114 : decode b_Msg_spell 114 = .ok (.invokestatic 71, 3) := by decide +kernel
theorem d_Msg_spell_117 : decode b_Msg_spell 117 = .ok (.iinc 2 1, 3) := by decide +kernel
theorem d_Msg_spell_120 : decode b_Msg_spell 120 = .ok (.goto (-18), 3) := by decide +kernel
theorem d_Msg_spell_123 : decode b_Msg_spell 123 = .ok (.return_, 1) := by decide +kernel
theorem d_Msg_spellPart_0 : decode b_Msg_spellPart 0 = .ok (.iload_n 2, 1) := by decide +kernel
theorem d_Msg_spellPart_1 : decode b_Msg_spellPart 1 = .ok (.iconst (-1), 1) := by decide +kernel
theorem d_Msg_spellPart_2 : decode b_Msg_spellPart 2 = .ok (.if_icmp .eq 15, 3) := by decide +kernel
theorem d_Msg_spellPart_5 : decode b_Msg_spellPart 5 = .ok (.aload_n 0, 1) := by decide +kernel
theorem d_Msg_spellPart_6 : decode b_Msg_spellPart 6 = .ok (.iload_n 1, 1) := by decide +kernel
theorem d_Msg_spellPart_7 : decode b_Msg_spellPart 7 = .ok (.invokevirtual 61, 3) := by decide +kernel
theorem d_Msg_spellPart_10 : decode b_Msg_spellPart 10 = .ok (.pop, 1) := by decide +kernel
theorem d_Msg_spellPart_11 : decode b_Msg_spellPart 11 = .ok (.aload_n 0, 1) := by decide +kernel
theorem d_Msg_spellPart_12 : decode b_Msg_spellPart 12 = .ok (.iload_n 2, 1) := by decide +kernel
theorem d_Msg_spellPart_13 : decode b_Msg_spellPart 13 = .ok (.invokevirtual 75, 3) := by decide +kernel
theorem d_Msg_spellPart_16 : decode b_Msg_spellPart 16 = .ok (.pop, 1) := by decide +kernel
theorem d_Msg_spellPart_17 : decode b_Msg_spellPart 17 = .ok (.return_, 1) := by decide +kernel
theorem d_Msg_spellReplied_0 : decode b_Msg_spellReplied 0 = .ok (.iload_n 1, 1) := by decide +kernel
theorem d_Msg_spellReplied_1 : decode b_Msg_spellReplied 1 = .ok (.iconst (-1), 1) := by decide +kernel
theorem d_Msg_spellReplied_2 : decode b_Msg_spellReplied 2 = .ok (.if_icmp .ne 13, 3) := by decide +kernel
theorem d_Msg_spellReplied_5 : decode b_Msg_spellReplied 5 = .ok (.aload_n 0, 1) := by decide +kernel
theorem d_Msg_spellReplied_6 : decode b_Msg_spellReplied 6 = .ok (.bipush 45, 2) := by decide +kernel
theorem d_Msg_spellReplied_8 : decode b_Msg_spellReplied 8 = .ok (.invokevirtual 61, 3) := by decide +kernel
theorem d_Msg_spellReplied_11 : decode b_Msg_spellReplied 11 = .ok (.pop, 1) := by decide +kernel
theorem d_Msg_spellReplied_12 : decode b_Msg_spellReplied 12 = .ok (.goto 32, 3) := by decide +kernel
theorem d_Msg_spellReplied_15 : decode b_Msg_spellReplied 15 = .ok (.aload_n 0, 1) := by decide +kernel
theorem d_Msg_spellReplied_16 : decode b_Msg_spellReplied 16 = .ok (.iload_n 1, 1) := by decide +kernel
theorem d_Msg_spellReplied_17 : decode b_Msg_spellReplied 17 = .ok (.invokestatic 78, 3) := by decide +kernel
theorem d_Msg_spellReplied_20 : decode b_Msg_spellReplied 20 = .ok (.invokevirtual 75, 3) := by decide +kernel
theorem d_Msg_spellReplied_23 : decode b_Msg_spellReplied 23 = .ok (.pop, 1) := by decide +kernel
theorem d_Msg_spellReplied_24 : decode b_Msg_spellReplied 24 = .ok (.aload_n 0, 1) := by decide +kernel
theorem d_Msg_spellReplied_25 : decode b_Msg_spellReplied 25 = .ok (.iload_n 1, 1) := by decide +kernel
theorem d_Msg_spellReplied_26 : decode b_Msg_spellReplied 26 = .ok (.invokestatic 82, 3) := by decide +kernel
theorem d_Msg_spellReplied_29 : decode b_Msg_spellReplied 29 = .ok (.iconst 1, 1) := by decide +kernel
theorem d_Msg_spellReplied_30 : decode b_Msg_spellReplied 30 = .ok (.if_icmp .ne 8, 3) := by decide +kernel
theorem d_Msg_spellReplied_33 : decode b_Msg_spellReplied 33 = .ok (.bipush 89, 2) := by decide +kernel
theorem d_Msg_spellReplied_35 : decode b_Msg_spellReplied 35 = .ok (.goto 5, 3) := by decide +kernel
theorem d_Msg_spellReplied_38 : decode b_Msg_spellReplied 38 = .ok (.bipush 78, 2) := by decide +kernel
theorem d_Msg_spellReplied_40 : decode b_Msg_spellReplied 40 = .ok (.invokevirtual 61, 3) := by decide +kernel
theorem d_Msg_spellReplied_43 : decode b_Msg_spellReplied 43 = .ok (.pop, 1) := by decide +kernel
theorem d_Msg_spellReplied_44 : decode b_Msg_spellReplied 44 = .ok (.return_, 1) := by decide +kernel
theorem d_Net_compose_0 : decode b_Net_compose 0 = .ok (.aload_n 0, 1) := by decide +kernel
theorem d_Net_compose_1 : decode b_Net_compose 1 = .ok (.getfield 25, 3) := by decide +kernel
theorem d_Net_compose_4 : decode b_Net_compose 4 = .ok (.iload_n 1, 1) := by decide +kernel
theorem d_Net_compose_5 : decode b_Net_compose 5 = .ok (.iload_n 2, 1) := by decide +kernel
theorem d_Net_compose_6 : decode b_Net_compose 6 = .ok (.invokevirtual 32, 3) := by decide +kernel
theorem d_Net_compose_9 : decode b_Net_compose 9 = .ok (.aload_n 0, 1) := by decide +kernel
theorem d_Net_compose_10 : decode b_Net_compose 10 = .ok (.getfield 25, 3) := by decide +kernel
theorem d_Net_compose_13 : decode b_Net_compose 13 = .ok (.areturn, 1) := by decide +kernel
theorem d_Net_init_0 : decode b_Net_init 0 = .ok (.aload_n 0, 1) := by decide +kernel
theorem d_Net_init_1 : decode b_Net_init 1 = .ok (.invokespecial 3, 3) := by decide +kernel
theorem d_Net_init_4 : decode b_Net_init 4 = .ok (.aload_n 0, 1) := by decide +kernel
theorem d_Net_init_5 : decode b_Net_init 5 = .ok (.bipush 60, 2) := by decide +kernel
theorem d_Net_init_7 : decode b_Net_init 7 = .ok (.anewarray 9, 3) := by decide +kernel
theorem d_Net_init_10 : decode b_Net_init 10 = .ok (.putfield 11, 3) := by decide +kernel
theorem d_Net_init_13 : decode b_Net_init 13 = .ok (.aload_n 0, 1) := by decide +kernel
theorem d_Net_init_14 : decode b_Net_init 14 = .ok (.iconst 0, 1) := by decide +kernel
theorem d_Net_init_15 : decode b_Net_init 15 = .ok (.putfield 17, 3) := by decide +kernel
theorem d_Net_init_18 : decode b_Net_init 18 = .ok (.aload_n 0, 1) := by decide +kernel
theorem d_Net_init_19 : decode b_Net_init 19 = .ok (.iconst 0, 1) := by decide +kernel
theorem d_Net_init_20 : decode b_Net_init 20 = .ok (.putfield 21, 3) := by decide +kernel
theorem d_Net_init_23 : decode b_Net_init 23 = .ok (.aload_n 0, 1) := by decide +kernel
theorem d_Net_init_24 : decode b_Net_init 24 = .ok (.new 9, 3) := by decide +kernel
theorem d_Net_init_27 : decode b_Net_init 27 = .ok (.dup, 1) := by decide +kernel
theorem d_Net_init_28 : decode b_Net_init 28 = .ok (.invokespecial 24, 3) := by decide +kernel
theorem d_Net_init_31 : decode b_Net_init 31 = .ok (.putfield 25, 3) := by decide +kernel
theorem d_Net_init_34 : decode b_Net_init 34 = .ok (.aload_n 0, 1) := by decide +kernel
theorem d_Net_init_35 : decode b_Net_init 35 = .ok (.new 9, 3) := by decide +kernel
theorem d_Net_init_38 : decode b_Net_init 38 = .ok (.dup, 1) := by decide +kernel
theorem d_Net_init_39 : decode b_Net_init 39 = .ok (.invokespecial 24, 3) := by decide +kernel
theorem d_Net_init_42 : decode b_Net_init 42 = .ok (.putfield 29, 3) := by decide +kernel
theorem d_Net_init_45 : decode b_Net_init 45 = .ok (.iconst 0, 1) := by decide +kernel
theorem d_Net_init_46 : decode b_Net_init 46 = .ok (.istore_n 1, 1) := by decide +kernel
theorem d_Net_init_47 : decode b_Net_init 47 = .ok (.iload_n 1, 1) := by decide +kernel
theorem d_Net_init_48 : decode b_Net_init 48 = .ok (.bipush 60, 2) := by decide +kernel
theorem d_Net_init_50 : decode b_Net_init 50 = .ok (.if_icmp .ge 22, 3) := by decide +kernel
theorem d_Net_init_53 : decode b_Net_init 53 = .ok (.aload_n 0, 1) := by decide +kernel
theorem d_Net_init_54 : decode b_Net_init 54 = .ok (.getfield 11, 3) := by decide +kernel
theorem d_Net_init_57 : decode b_Net_init 57 = .ok (.iload_n 1, 1) := by decide +kernel
theorem d_Net_init_58 : decode b_Net_init 58 = .ok (.new 9, 3) := by decide +kernel
theorem d_Net_init_61 : decode b_Net_init 61 = .ok (.dup, 1) := by decide +kernel
theorem d_Net_init_62 : decode b_Net_init 62 = .ok (.invokespecial 24, 3) := by decide +kernel
theorem d_Net_init_65 : decode b_Net_init 65 = .ok (.aastore, 1) := by decide +kernel
theorem d_Net_init_66 : decode b_Net_init 66 = .ok (.iinc 1 1, 3) := by decide +kernel
theorem d_Net_init_69 : decode b_Net_init 69 = .ok (.goto (-22), 3) := by decide +kernel
theorem d_Net_init_72 : decode b_Net_init 72 = .ok (.return_, 1) := by decide +kernel
theorem d_Net_pick_0 : decode b_Net_pick 0 = .ok (.aload_n 0, 1) := by decide +kernel
theorem d_Net_pick_1 : decode b_Net_pick 1 = .ok (.getfield 29, 3) := by decide +kernel
theorem d_Net_pick_4 : decode b_Net_pick 4 = .ok (.aload_n 0, 1) := by decide +kernel
theorem d_Net_pick_5 : decode b_Net_pick 5 = .ok (.getfield 11, 3) := by decide +kernel
theorem d_Net_pick_8 : decode b_Net_pick 8 = .ok (.iload_n 1, 1) := by decide +kernel
theorem d_Net_pick_9 : decode b_Net_pick 9 = .ok (.aaload, 1) := by decide +kernel
theorem d_Net_pick_10 : decode b_Net_pick 10 = .ok (.invokevirtual 36, 3) := by decide +kernel
theorem d_Net_pick_13 : decode b_Net_pick 13 = .ok (.aload_n 0, 1) := by decide +kernel
theorem d_Net_pick_14 : decode b_Net_pick 14 = .ok (.getfield 29, 3) := by decide +kernel
theorem d_Net_pick_17 : decode b_Net_pick 17 = .ok (.areturn, 1) := by decide +kernel
theorem d_Net_remove_0 : decode b_Net_remove 0 = .ok (.aload_n 0, 1) := by decide +kernel
theorem d_Net_remove_1 : decode b_Net_remove 1 = .ok (.getfield 11, 3) := by decide +kernel
theorem d_Net_remove_4 : decode b_Net_remove 4 = .ok (.iload_n 1, 1) := by decide +kernel
theorem d_Net_remove_5 : decode b_Net_remove 5 = .ok (.aaload, 1) := by decide +kernel
theorem d_Net_remove_6 : decode b_Net_remove 6 = .ok (.astore_n 2, 1) := by decide +kernel
theorem d_Net_remove_7 : decode b_Net_remove 7 = .ok (.iload_n 1, 1) := by decide +kernel
theorem d_Net_remove_8 : decode b_Net_remove 8 = .ok (.istore_n 3, 1) := by decide +kernel
theorem d_Net_remove_9 : decode b_Net_remove 9 = .ok (.iload_n 3, 1) := by decide +kernel
theorem d_Net_remove_10 : decode b_Net_remove 10 = .ok (.aload_n 0, 1) := by decide +kernel
theorem d_Net_remove_11 : decode b_Net_remove 11 = .ok (.getfield 17, 3) := by decide +kernel
theorem d_Net_remove_14 : decode b_Net_remove 14 = .ok (.iconst 1, 1) := by decide +kernel
theorem d_Net_remove_15 : decode b_Net_remove 15 = .ok (.isub, 1) := by decide +kernel
theorem d_Net_remove_16 : decode b_Net_remove 16 = .ok (.if_icmp .ge 23, 3) := by decide +kernel
theorem d_Net_remove_19 : decode b_Net_remove 19 = .ok (.aload_n 0, 1) := by decide +kernel
theorem d_Net_remove_20 : decode b_Net_remove 20 = .ok (.getfield 11, 3) := by decide +kernel
theorem d_Net_remove_23 : decode b_Net_remove 23 = .ok (.iload_n 3, 1) := by decide +kernel
theorem d_Net_remove_24 : decode b_Net_remove 24 = .ok (.aload_n 0, 1) := by decide +kernel
theorem d_Net_remove_25 : decode b_Net_remove 25 = .ok (.getfield 11, 3) := by decide +kernel
theorem d_Net_remove_28 : decode b_Net_remove 28 = .ok (.iload_n 3, 1) := by decide +kernel
theorem d_Net_remove_29 : decode b_Net_remove 29 = .ok (.iconst 1, 1) := by decide +kernel
theorem d_Net_remove_30 : decode b_Net_remove 30 = .ok (.iadd, 1) := by decide +kernel
theorem d_Net_remove_31 : decode b_Net_remove 31 = .ok (.aaload, 1) := by decide +kernel
theorem d_Net_remove_32 : decode b_Net_remove 32 = .ok (.aastore, 1) := by decide +kernel
theorem d_Net_remove_33 : decode b_Net_remove 33 = .ok (.iinc 3 1, 3) := by decide +kernel
theorem d_Net_remove_36 : decode b_Net_remove 36 = .ok (.goto (-27), 3) := by decide +kernel
theorem d_Net_remove_39 : decode b_Net_remove 39 = .ok (.aload_n 0, 1) := by decide +kernel
theorem d_Net_remove_40 : decode b_Net_remove 40 = .ok (.dup, 1) := by decide +kernel
theorem d_Net_remove_41 : decode b_Net_remove 41 = .ok (.getfield 17, 3) := by decide +kernel
theorem d_Net_remove_44 : decode b_Net_remove 44 = .ok (.iconst 1, 1) := by decide +kernel
theorem d_Net_remove_45 : decode b_Net_remove 45 = .ok (.isub, 1) := by decide +kernel
theorem d_Net_remove_46 : decode b_Net_remove 46 = .ok (.putfield 17, 3) := by decide +kernel
theorem d_Net_remove_49 : decode b_Net_remove 49 = .ok (.aload_n 0, 1) := by decide +kernel
theorem d_Net_remove_50 : decode b_Net_remove 50 = .ok (.getfield 11, 3) := by decide +kernel
theorem d_Net_remove_53 : decode b_Net_remove 53 = .ok (.aload_n 0, 1) := by decide +kernel
theorem d_Net_remove_54 : decode b_Net_remove 54 = .ok (.getfield 17, 3) := by decide +kernel
theorem d_Net_remove_57 : decode b_Net_remove 57 = .ok (.aload_n 2, 1) := by decide +kernel
theorem d_Net_remove_58 : decode b_Net_remove 58 = .ok (.aastore, 1) := by decide +kernel
theorem d_Net_remove_59 : decode b_Net_remove 59 = .ok (.return_, 1) := by decide +kernel
theorem d_Net_send_0 : decode b_Net_send 0 = .ok (.aload_n 0, 1) := by decide +kernel
theorem d_Net_send_1 : decode b_Net_send 1 = .ok (.getfield 17, 3) := by decide +kernel
theorem d_Net_send_4 : decode b_Net_send 4 = .ok (.bipush 60, 2) := by decide +kernel
theorem d_Net_send_6 : decode b_Net_send 6 = .ok (.if_icmp .lt 14, 3) := by decide +kernel
theorem d_Net_send_9 : decode b_Net_send 9 = .ok (.aload_n 0, 1) := by decide +kernel
theorem d_Net_send_10 : decode b_Net_send 10 = .ok (.dup, 1) := by decide +kernel
theorem d_Net_send_11 : decode b_Net_send 11 = .ok (.getfield 21, 3) := by decide +kernel
theorem d_Net_send_14 : decode b_Net_send 14 = .ok (.iconst 1, 1) := by decide +kernel
theorem d_Net_send_15 : decode b_Net_send 15 = .ok (.iadd, 1) := by decide +kernel
theorem d_Net_send_16 : decode b_Net_send 16 = .ok (.putfield 21, 3) := by decide +kernel
theorem d_Net_send_19 : decode b_Net_send 19 = .ok (.return_, 1) := by decide +kernel
theorem d_Net_send_20 : decode b_Net_send 20 = .ok (.aload_n 0, 1) := by decide +kernel
theorem d_Net_send_21 : decode b_Net_send 21 = .ok (.getfield 11, 3) := by decide +kernel
theorem d_Net_send_24 : decode b_Net_send 24 = .ok (.aload_n 0, 1) := by decide +kernel
theorem d_Net_send_25 : decode b_Net_send 25 = .ok (.getfield 17, 3) := by decide +kernel
theorem d_Net_send_28 : decode b_Net_send 28 = .ok (.aaload, 1) := by decide +kernel
theorem d_Net_send_29 : decode b_Net_send 29 = .ok (.aload_n 1, 1) := by decide +kernel
theorem d_Net_send_30 : decode b_Net_send 30 = .ok (.invokevirtual 36, 3) := by decide +kernel
theorem d_Net_send_33 : decode b_Net_send 33 = .ok (.aload_n 0, 1) := by decide +kernel
theorem d_Net_send_34 : decode b_Net_send 34 = .ok (.dup, 1) := by decide +kernel
theorem d_Net_send_35 : decode b_Net_send 35 = .ok (.getfield 17, 3) := by decide +kernel
theorem d_Net_send_38 : decode b_Net_send 38 = .ok (.iconst 1, 1) := by decide +kernel
theorem d_Net_send_39 : decode b_Net_send 39 = .ok (.iadd, 1) := by decide +kernel
theorem d_Net_send_40 : decode b_Net_send 40 = .ok (.putfield 17, 3) := by decide +kernel
theorem d_Net_send_43 : decode b_Net_send 43 = .ok (.return_, 1) := by decide +kernel
theorem d_Object_init_0 : decode b_Object_init 0 = .ok (.return_, 1) := by decide +kernel
theorem d_PC_arrive_0 : decode b_PC_arrive 0 = .ok (.aload_n 0, 1) := by decide +kernel
theorem d_PC_arrive_1 : decode b_PC_arrive 1 = .ok (.getfield 21, 3) := by decide +kernel
theorem d_PC_arrive_4 : decode b_PC_arrive 4 = .ok (.aload_n 1, 1) := by decide +kernel
theorem d_PC_arrive_5 : decode b_PC_arrive 5 = .ok (.invokevirtual 233, 3) := by decide +kernel
theorem d_PC_arrive_8 : decode b_PC_arrive 8 = .ok (.iaload, 1) := by decide +kernel
theorem d_PC_arrive_9 : decode b_PC_arrive 9 = .ok (.aload_n 1, 1) := by decide +kernel
theorem d_PC_arrive_10 : decode b_PC_arrive 10 = .ok (.invokevirtual 236, 3) := by decide +kernel
theorem d_PC_arrive_13 : decode b_PC_arrive 13 = .ok (.invokestatic 105, 3) := by decide +kernel
theorem d_PC_arrive_16 : decode b_PC_arrive 16 = .ok (.ifCond .ne 4, 3) := by decide +kernel
theorem d_PC_arrive_19 : decode b_PC_arrive 19 = .ok (.return_, 1) := by decide +kernel
theorem d_PC_arrive_20 : decode b_PC_arrive 20 = .ok (.aload_n 1, 1) := by decide +kernel
theorem d_PC_arrive_21 : decode b_PC_arrive 21 = .ok (.getfield 239, 3) := by decide +kernel
theorem d_PC_arrive_24 : decode b_PC_arrive 24 = .ok (.tableswitch 76 0 4 #[36, 44, 52, 60, 68], 36) := by decide +kernel
theorem d_PC_arrive_60 : decode b_PC_arrive 60 = .ok (.aload_n 0, 1) := by decide +kernel
theorem d_PC_arrive_61 : decode b_PC_arrive 61 = .ok (.aload_n 1, 1) := by decide +kernel
theorem d_PC_arrive_62 : decode b_PC_arrive 62 = .ok (.invokevirtual 242, 3) := by decide +kernel
theorem d_PC_arrive_65 : decode b_PC_arrive 65 = .ok (.goto 40, 3) := by decide +kernel
theorem d_PC_arrive_68 : decode b_PC_arrive 68 = .ok (.aload_n 0, 1) := by decide +kernel
theorem d_PC_arrive_69 : decode b_PC_arrive 69 = .ok (.aload_n 1, 1) := by decide +kernel
theorem d_PC_arrive_70 : decode b_PC_arrive 70 = .ok (.invokevirtual 245, 3) := by decide +kernel
theorem d_PC_arrive_73 : decode b_PC_arrive 73 = .ok (.goto 32, 3) := by decide +kernel
theorem d_PC_arrive_76 : decode b_PC_arrive 76 = .ok (.aload_n 0, 1) := by decide +kernel
theorem d_PC_arrive_77 : decode b_PC_arrive 77 = .ok (.aload_n 1, 1) := by decide +kernel
theorem d_PC_arrive_78 : decode b_PC_arrive 78 = .ok (.invokevirtual 248, 3) := by decide +kernel
theorem d_PC_arrive_81 : decode b_PC_arrive 81 = .ok (.goto 24, 3) := by decide +kernel
theorem d_PC_arrive_84 : decode b_PC_arrive 84 = .ok (.aload_n 0, 1) := by decide +kernel
theorem d_PC_arrive_85 : decode b_PC_arrive 85 = .ok (.aload_n 1, 1) := by decide +kernel
theorem d_PC_arrive_86 : decode b_PC_arrive 86 = .ok (.invokevirtual 251, 3) := by decide +kernel
theorem d_PC_arrive_89 : decode b_PC_arrive 89 = .ok (.goto 16, 3) := by decide +kernel
theorem d_PC_arrive_92 : decode b_PC_arrive 92 = .ok (.aload_n 0, 1) := by decide +kernel
theorem d_PC_arrive_93 : decode b_PC_arrive 93 = .ok (.aload_n 1, 1) := by decide +kernel
theorem d_PC_arrive_94 : decode b_PC_arrive 94 = .ok (.invokevirtual 254, 3) := by decide +kernel
theorem d_PC_arrive_97 : decode b_PC_arrive 97 = .ok (.goto 8, 3) := by decide +kernel
theorem d_PC_arrive_100 : decode b_PC_arrive 100 = .ok (.aload_n 0, 1) := by decide +kernel
theorem d_PC_arrive_101 : decode b_PC_arrive 101 = .ok (.aload_n 1, 1) := by decide +kernel
theorem d_PC_arrive_102 : decode b_PC_arrive 102 = .ok (.invokevirtual 257, 3) := by decide +kernel
theorem d_PC_arrive_105 : decode b_PC_arrive 105 = .ok (.return_, 1) := by decide +kernel
theorem d_PC_arriveAsk_0 : decode b_PC_arriveAsk 0 = .ok (.aload_n 0, 1) := by decide +kernel
theorem d_PC_arriveAsk_1 : decode b_PC_arriveAsk 1 = .ok (.getfield 48, 3) := by decide +kernel
theorem d_PC_arriveAsk_4 : decode b_PC_arriveAsk 4 = .ok (.aload_n 1, 1) := by decide +kernel
theorem d_PC_arriveAsk_5 : decode b_PC_arriveAsk 5 = .ok (.getfield 266, 3) := by decide +kernel
theorem d_PC_arriveAsk_8 : decode b_PC_arriveAsk 8 = .ok (.aaload, 1) := by decide +kernel
theorem d_PC_arriveAsk_9 : decode b_PC_arriveAsk 9 = .ok (.astore_n 2, 1) := by decide +kernel
theorem d_PC_arriveAsk_10 : decode b_PC_arriveAsk 10 = .ok (.aload_n 0, 1) := by decide +kernel
theorem d_PC_arriveAsk_11 : decode b_PC_arriveAsk 11 = .ok (.getfield 32, 3) := by decide +kernel
theorem d_PC_arriveAsk_14 : decode b_PC_arriveAsk 14 = .ok (.aload_n 1, 1) := by decide +kernel
theorem d_PC_arriveAsk_15 : decode b_PC_arriveAsk 15 = .ok (.getfield 263, 3) := by decide +kernel
theorem d_PC_arriveAsk_18 : decode b_PC_arriveAsk 18 = .ok (.iaload, 1) := by decide +kernel
theorem d_PC_arriveAsk_19 : decode b_PC_arriveAsk 19 = .ok (.istore_n 3, 1) := by decide +kernel
theorem d_PC_arriveAsk_20 : decode b_PC_arriveAsk 20 = .ok (.aload_n 2, 1) := by decide +kernel
theorem d_PC_arriveAsk_21 : decode b_PC_arriveAsk 21 = .ok (.aload_n 1, 1) := by decide +kernel
theorem d_PC_arriveAsk_22 : decode b_PC_arriveAsk 22 = .ok (.getfield 263, 3) := by decide +kernel
theorem d_PC_arriveAsk_25 : decode b_PC_arriveAsk 25 = .ok (.iload_n 3, 1) := by decide +kernel
theorem d_PC_arriveAsk_26 : decode b_PC_arriveAsk 26 = .ok (.aload_n 1, 1) := by decide +kernel
theorem d_PC_arriveAsk_27 : decode b_PC_arriveAsk 27 = .ok (.getfield 269, 3) := by decide +kernel
theorem d_PC_arriveAsk_30 : decode b_PC_arriveAsk 30 = .ok (.invokevirtual 272, 3) := by decide +kernel
theorem d_PC_arriveAsk_33 : decode b_PC_arriveAsk 33 = .ok (.ifCond .eq 4, 3) := by decide +kernel
theorem d_PC_arriveAsk_36 : decode b_PC_arriveAsk 36 = .ok (.return_, 1) := by decide +kernel
theorem d_PC_arriveAsk_37 : decode b_PC_arriveAsk 37 = .ok (.aload_n 2, 1) := by decide +kernel
theorem d_PC_arriveAsk_38 : decode b_PC_arriveAsk 38 = .ok (.aload_n 1, 1) := by decide +kernel
theorem d_PC_arriveAsk_39 : decode b_PC_arriveAsk 39 = .ok (.getfield 263, 3) := by decide +kernel
theorem d_PC_arriveAsk_42 : decode b_PC_arriveAsk 42 = .ok (.iload_n 3, 1) := by decide +kernel
theorem d_PC_arriveAsk_43 : decode b_PC_arriveAsk 43 = .ok (.aload_n 1, 1) := by decide +kernel
theorem d_PC_arriveAsk_44 : decode b_PC_arriveAsk 44 = .ok (.getfield 269, 3) := by decide +kernel
theorem d_PC_arriveAsk_47 : decode b_PC_arriveAsk 47 = .ok (.invokevirtual 276, 3) := by decide +kernel
theorem d_PC_arriveAsk_50 : decode b_PC_arriveAsk 50 = .ok (.aload_n 0, 1) := by decide +kernel
theorem d_PC_arriveAsk_51 : decode b_PC_arriveAsk 51 = .ok (.aload_n 1, 1) := by decide +kernel
theorem d_PC_arriveAsk_52 : decode b_PC_arriveAsk 52 = .ok (.getfield 266, 3) := by decide +kernel
theorem d_PC_arriveAsk_55 : decode b_PC_arriveAsk 55 = .ok (.aload_n 1, 1) := by decide +kernel
theorem d_PC_arriveAsk_56 : decode b_PC_arriveAsk 56 = .ok (.getfield 263, 3) := by decide +kernel
theorem d_PC_arriveAsk_59 : decode b_PC_arriveAsk 59 = .ok (.aload_n 1, 1) := by decide +kernel
theorem d_PC_arriveAsk_60 : decode b_PC_arriveAsk 60 = .ok (.getfield 269, 3) := by decide +kernel
theorem d_PC_arriveAsk_63 : decode b_PC_arriveAsk 63 = .ok (.invokevirtual 279, 3) := by decide +kernel
theorem d_PC_arriveAsk_66 : decode b_PC_arriveAsk 66 = .ok (.return_, 1) := by decide +kernel
theorem d_PC_arriveOutcome_0 : decode b_PC_arriveOutcome 0 = .ok (.aload_n 0, 1) := by decide +kernel
theorem d_PC_arriveOutcome_1 : decode b_PC_arriveOutcome 1 = .ok (.getfield 11, 3) := by decide +kernel
theorem d_PC_arriveOutcome_4 : decode b_PC_arriveOutcome 4 = .ok (.aload_n 1, 1) := by decide +kernel
theorem d_PC_arriveOutcome_5 : decode b_PC_arriveOutcome 5 = .ok (.getfield 260, 3) := by decide +kernel
theorem d_PC_arriveOutcome_8 : decode b_PC_arriveOutcome 8 = .ok (.aaload, 1) := by decide +kernel
theorem d_PC_arriveOutcome_9 : decode b_PC_arriveOutcome 9 = .ok (.astore_n 2, 1) := by decide +kernel
theorem d_PC_arriveOutcome_10 : decode b_PC_arriveOutcome 10 = .ok (.aload_n 1, 1) := by decide +kernel
theorem d_PC_arriveOutcome_11 : decode b_PC_arriveOutcome 11 = .ok (.getfield 263, 3) := by decide +kernel
theorem d_PC_arriveOutcome_14 : decode b_PC_arriveOutcome 14 = .ok (.istore_n 3, 1) := by decide +kernel
theorem d_PC_arriveOutcome_15 : decode b_PC_arriveOutcome 15 = .ok (.aload_n 2, 1) := by decide +kernel
theorem d_PC_arriveOutcome_16 : decode b_PC_arriveOutcome 16 = .ok (.getfield 117, 3) := by decide +kernel
theorem d_PC_arriveOutcome_19 : decode b_PC_arriveOutcome 19 = .ok (.iload_n 3, 1) := by decide +kernel
theorem d_PC_arriveOutcome_20 : decode b_PC_arriveOutcome 20 = .ok (.iaload, 1) := by decide +kernel
theorem d_PC_arriveOutcome_21 : decode b_PC_arriveOutcome 21 = .ok (.iconst 2, 1) := by decide +kernel
theorem d_PC_arriveOutcome_22 : decode b_PC_arriveOutcome 22 = .ok (.if_icmp .ne 7, 3) := by decide +kernel
theorem d_PC_arriveOutcome_25 : decode b_PC_arriveOutcome 25 = .ok (.iconst 1, 1) := by decide +kernel
theorem d_PC_arriveOutcome_26 : decode b_PC_arriveOutcome 26 = .ok (.goto 4, 3) := by decide +kernel
theorem d_PC_arriveOutcome_29 : decode b_PC_arriveOutcome 29 = .ok (.iconst 0, 1) := by decide +kernel
theorem d_PC_arriveOutcome_30 : decode b_PC_arriveOutcome 30 = .ok (.istore 4, 2) := by decide +kernel
theorem d_PC_arriveOutcome_32 : decode b_PC_arriveOutcome 32 = .ok (.iload 4, 2) := by decide +kernel
theorem d_PC_arriveOutcome_34 : decode b_PC_arriveOutcome 34 = .ok (.ifCond .eq 19, 3) := by decide +kernel
theorem d_PC_arriveOutcome_37 : decode b_PC_arriveOutcome 37 = .ok (.aload_n 1, 1) := by decide +kernel
theorem d_PC_arriveOutcome_38 : decode b_PC_arriveOutcome 38 = .ok (.getfield 303, 3) := by decide +kernel
theorem d_PC_arriveOutcome_41 : decode b_PC_arriveOutcome 41 = .ok (.iconst 1, 1) := by decide +kernel
theorem d_PC_arriveOutcome_42 : decode b_PC_arriveOutcome 42 = .ok (.if_icmp .ne 11, 3) := by decide +kernel
theorem d_PC_arriveOutcome_45 : decode b_PC_arriveOutcome 45 = .ok (.aload_n 2, 1) := by decide +kernel
theorem d_PC_arriveOutcome_46 : decode b_PC_arriveOutcome 46 = .ok (.iload_n 3, 1) := by decide +kernel
theorem d_PC_arriveOutcome_47 : decode b_PC_arriveOutcome 47 = .ok (.invokevirtual 322, 3) := by decide +kernel
theorem d_PC_arriveOutcome_50 : decode b_PC_arriveOutcome 50 = .ok (.goto 28, 3) := by decide +kernel
theorem d_PC_arriveOutcome_53 : decode b_PC_arriveOutcome 53 = .ok (.aload_n 1, 1) := by decide +kernel
theorem d_PC_arriveOutcome_54 : decode b_PC_arriveOutcome 54 = .ok (.getfield 303, 3) := by decide +kernel
theorem d_PC_arriveOutcome_57 : decode b_PC_arriveOutcome 57 = .ok (.ifCond .ne 21, 3) := by decide +kernel
theorem d_PC_arriveOutcome_60 : decode b_PC_arriveOutcome 60 = .ok (.iload 4, 2) := by decide +kernel
theorem d_PC_arriveOutcome_62 : decode b_PC_arriveOutcome 62 = .ok (.ifCond .ne 11, 3) := by decide +kernel
theorem d_PC_arriveOutcome_65 : decode b_PC_arriveOutcome 65 = .ok (.aload_n 2, 1) := by decide +kernel
theorem d_PC_arriveOutcome_66 : decode b_PC_arriveOutcome 66 = .ok (.iload_n 3, 1) := by decide +kernel
theorem d_PC_arriveOutcome_67 : decode b_PC_arriveOutcome 67 = .ok (.invokevirtual 80, 3) := by decide +kernel
theorem d_PC_arriveOutcome_70 : decode b_PC_arriveOutcome 70 = .ok (.ifCond .eq 8, 3) := by decide +kernel
theorem d_PC_arriveOutcome_73 : decode b_PC_arriveOutcome 73 = .ok (.aload_n 2, 1) := by decide +kernel
theorem d_PC_arriveOutcome_74 : decode b_PC_arriveOutcome 74 = .ok (.iload_n 3, 1) := by decide +kernel
theorem d_PC_arriveOutcome_75 : decode b_PC_arriveOutcome 75 = .ok (.invokevirtual 122, 3) := by decide +kernel
theorem d_PC_arriveOutcome_78 : decode b_PC_arriveOutcome 78 = .ok (.return_, 1) := by decide +kernel
theorem d_PC_arrivePrepare_0 : decode b_PC_arrivePrepare 0 = .ok (.aload_n 0, 1) := by decide +kernel
theorem d_PC_arrivePrepare_1 : decode b_PC_arrivePrepare 1 = .ok (.getfield 11, 3) := by decide +kernel
theorem d_PC_arrivePrepare_4 : decode b_PC_arrivePrepare 4 = .ok (.aload_n 1, 1) := by decide +kernel
theorem d_PC_arrivePrepare_5 : decode b_PC_arrivePrepare 5 = .ok (.getfield 260, 3) := by decide +kernel
theorem d_PC_arrivePrepare_8 : decode b_PC_arrivePrepare 8 = .ok (.aaload, 1) := by decide +kernel
theorem d_PC_arrivePrepare_9 : decode b_PC_arrivePrepare 9 = .ok (.astore_n 2, 1) := by decide +kernel
theorem d_PC_arrivePrepare_10 : decode b_PC_arrivePrepare 10 = .ok (.aload_n 1, 1) := by decide +kernel
theorem d_PC_arrivePrepare_11 : decode b_PC_arrivePrepare 11 = .ok (.getfield 263, 3) := by decide +kernel
theorem d_PC_arrivePrepare_14 : decode b_PC_arrivePrepare 14 = .ok (.istore_n 3, 1) := by decide +kernel
theorem d_PC_arrivePrepare_15 : decode b_PC_arrivePrepare 15 = .ok (.aload_n 2, 1) := by decide +kernel
theorem d_PC_arrivePrepare_16 : decode b_PC_arrivePrepare 16 = .ok (.getfield 117, 3) := by decide +kernel
theorem d_PC_arrivePrepare_19 : decode b_PC_arrivePrepare 19 = .ok (.iload_n 3, 1) := by decide +kernel
theorem d_PC_arrivePrepare_20 : decode b_PC_arrivePrepare 20 = .ok (.iaload, 1) := by decide +kernel
theorem d_PC_arrivePrepare_21 : decode b_PC_arrivePrepare 21 = .ok (.iconst 1, 1) := by decide +kernel
theorem d_PC_arrivePrepare_22 : decode b_PC_arrivePrepare 22 = .ok (.if_icmp .ne 24, 3) := by decide +kernel
theorem d_PC_arrivePrepare_25 : decode b_PC_arrivePrepare 25 = .ok (.aload_n 2, 1) := by decide +kernel
theorem d_PC_arrivePrepare_26 : decode b_PC_arrivePrepare 26 = .ok (.getfield 117, 3) := by decide +kernel
theorem d_PC_arrivePrepare_29 : decode b_PC_arrivePrepare 29 = .ok (.iload_n 3, 1) := by decide +kernel
theorem d_PC_arrivePrepare_30 : decode b_PC_arrivePrepare 30 = .ok (.iconst 2, 1) := by decide +kernel
theorem d_PC_arrivePrepare_31 : decode b_PC_arrivePrepare 31 = .ok (.iastore, 1) := by decide +kernel
theorem d_PC_arrivePrepare_32 : decode b_PC_arrivePrepare 32 = .ok (.aload_n 0, 1) := by decide +kernel
theorem d_PC_arrivePrepare_33 : decode b_PC_arrivePrepare 33 = .ok (.iload_n 3, 1) := by decide +kernel
theorem d_PC_arrivePrepare_34 : decode b_PC_arrivePrepare 34 = .ok (.aload_n 1, 1) := by decide +kernel
theorem d_PC_arrivePrepare_35 : decode b_PC_arrivePrepare 35 = .ok (.getfield 260, 3) := by decide +kernel
theorem d_PC_arrivePrepare_38 : decode b_PC_arrivePrepare 38 = .ok (.iconst 0, 1) := by decide +kernel
theorem d_PC_arrivePrepare_39 : decode b_PC_arrivePrepare 39 = .ok (.iconst 1, 1) := by decide +kernel
theorem d_PC_arrivePrepare_40 : decode b_PC_arrivePrepare 40 = .ok (.invokevirtual 125, 3) := by decide +kernel
theorem d_PC_arrivePrepare_43 : decode b_PC_arrivePrepare 43 = .ok (.goto 38, 3) := by decide +kernel
theorem d_PC_arrivePrepare_46 : decode b_PC_arrivePrepare 46 = .ok (.aload_n 2, 1) := by decide +kernel
theorem d_PC_arrivePrepare_47 : decode b_PC_arrivePrepare 47 = .ok (.getfield 117, 3) := by decide +kernel
theorem d_PC_arrivePrepare_50 : decode b_PC_arrivePrepare 50 = .ok (.iload_n 3, 1) := by decide +kernel
theorem d_PC_arrivePrepare_51 : decode b_PC_arrivePrepare 51 = .ok (.iaload, 1) := by decide +kernel
theorem d_PC_arrivePrepare_52 : decode b_PC_arrivePrepare 52 = .ok (.ifCond .eq 13, 3) := by decide +kernel
theorem d_PC_arrivePrepare_55 : decode b_PC_arrivePrepare 55 = .ok (.aload_n 2, 1) := by decide +kernel
theorem d_PC_arrivePrepare_56 : decode b_PC_arrivePrepare 56 = .ok (.getfield 117, 3) := by decide +kernel
theorem d_PC_arrivePrepare_59 : decode b_PC_arrivePrepare 59 = .ok (.iload_n 3, 1) := by decide +kernel
theorem d_PC_arrivePrepare_60 : decode b_PC_arrivePrepare 60 = .ok (.iaload, 1) := by decide +kernel
theorem d_PC_arrivePrepare_61 : decode b_PC_arrivePrepare 61 = .ok (.iconst 4, 1) := by decide +kernel
theorem d_PC_arrivePrepare_62 : decode b_PC_arrivePrepare 62 = .ok (.if_icmp .ne 19, 3) := by decide +kernel
theorem d_PC_arrivePrepare_65 : decode b_PC_arrivePrepare 65 = .ok (.aload_n 2, 1) := by decide +kernel
theorem d_PC_arrivePrepare_66 : decode b_PC_arrivePrepare 66 = .ok (.iload_n 3, 1) := by decide +kernel
theorem d_PC_arrivePrepare_67 : decode b_PC_arrivePrepare 67 = .ok (.invokevirtual 122, 3) := by decide +kernel
theorem d_PC_arrivePrepare_70 : decode b_PC_arrivePrepare 70 = .ok (.aload_n 0, 1) := by decide +kernel
theorem d_PC_arrivePrepare_71 : decode b_PC_arrivePrepare 71 = .ok (.iload_n 3, 1) := by decide +kernel
theorem d_PC_arrivePrepare_72 : decode b_PC_arrivePrepare 72 = .ok (.aload_n 1, 1) := by decide +kernel
theorem d_PC_arrivePrepare_73 : decode b_PC_arrivePrepare 73 = .ok (.getfield 260, 3) := by decide +kernel
theorem d_PC_arrivePrepare_76 : decode b_PC_arrivePrepare 76 = .ok (.iconst 0, 1) := by decide +kernel
theorem d_PC_arrivePrepare_77 : decode b_PC_arrivePrepare 77 = .ok (.iconst 0, 1) := by decide +kernel
theorem d_PC_arrivePrepare_78 : decode b_PC_arrivePrepare 78 = .ok (.invokevirtual 125, 3) := by decide +kernel
theorem d_PC_arrivePrepare_81 : decode b_PC_arrivePrepare 81 = .ok (.return_, 1) := by decide +kernel
theorem d_PC_arriveReply_0 : decode b_PC_arriveReply 0 = .ok (.aload_n 0, 1) := by decide +kernel
theorem d_PC_arriveReply_1 : decode b_PC_arriveReply 1 = .ok (.aload_n 1, 1) := by decide +kernel
theorem d_PC_arriveReply_2 : decode b_PC_arriveReply 2 = .ok (.getfield 282, 3) := by decide +kernel
theorem d_PC_arriveReply_5 : decode b_PC_arriveReply 5 = .ok (.aload_n 1, 1) := by decide +kernel
theorem d_PC_arriveReply_6 : decode b_PC_arriveReply 6 = .ok (.getfield 263, 3) := by decide +kernel
theorem d_PC_arriveReply_9 : decode b_PC_arriveReply 9 = .ok (.invokevirtual 130, 3) := by decide +kernel
theorem d_PC_arriveReply_12 : decode b_PC_arriveReply 12 = .ok (.astore_n 2, 1) := by decide +kernel
theorem d_PC_arriveReply_13 : decode b_PC_arriveReply 13 = .ok (.aload_n 1, 1) := by decide +kernel
theorem d_PC_arriveReply_14 : decode b_PC_arriveReply 14 = .ok (.getfield 269, 3) := by decide +kernel
theorem d_PC_arriveReply_17 : decode b_PC_arriveReply 17 = .ok (.aload_n 2, 1) := by decide +kernel
theorem d_PC_arriveReply_18 : decode b_PC_arriveReply 18 = .ok (.getfield 285, 3) := by decide +kernel
theorem d_PC_arriveReply_21 : decode b_PC_arriveReply 21 = .ok (.if_icmp .ne 10, 3) := by decide +kernel
theorem d_PC_arriveReply_24 : decode b_PC_arriveReply 24 = .ok (.aload_n 2, 1) := by decide +kernel
theorem d_PC_arriveReply_25 : decode b_PC_arriveReply 25 = .ok (.getfield 286, 3) := by decide +kernel
theorem d_PC_arriveReply_28 : decode b_PC_arriveReply 28 = .ok (.ifCond .eq 4, 3) := by decide +kernel
theorem d_PC_arriveReply_31 : decode b_PC_arriveReply 31 = .ok (.return_, 1) := by decide +kernel
theorem d_PC_arriveReply_32 : decode b_PC_arriveReply 32 = .ok (.aload_n 2, 1) := by decide +kernel
theorem d_PC_arriveReply_33 : decode b_PC_arriveReply 33 = .ok (.aload_n 1, 1) := by decide +kernel
theorem d_PC_arriveReply_34 : decode b_PC_arriveReply 34 = .ok (.getfield 266, 3) := by decide +kernel
theorem d_PC_arriveReply_37 : decode b_PC_arriveReply 37 = .ok (.aload_n 1, 1) := by decide +kernel
theorem d_PC_arriveReply_38 : decode b_PC_arriveReply 38 = .ok (.getfield 290, 3) := by decide +kernel
theorem d_PC_arriveReply_41 : decode b_PC_arriveReply 41 = .ok (.invokevirtual 293, 3) := by decide +kernel
theorem d_PC_arriveReply_44 : decode b_PC_arriveReply 44 = .ok (.aload_n 2, 1) := by decide +kernel
theorem d_PC_arriveReply_45 : decode b_PC_arriveReply 45 = .ok (.invokevirtual 297, 3) := by decide +kernel
theorem d_PC_arriveReply_48 : decode b_PC_arriveReply 48 = .ok (.aload_n 0, 1) := by decide +kernel
theorem d_PC_arriveReply_49 : decode b_PC_arriveReply 49 = .ok (.getfield 43, 3) := by decide +kernel
theorem d_PC_arriveReply_52 : decode b_PC_arriveReply 52 = .ok (.if_icmp .ge 4, 3) := by decide +kernel
theorem d_PC_arriveReply_55 : decode b_PC_arriveReply 55 = .ok (.return_, 1) := by decide +kernel
theorem d_PC_arriveReply_56 : decode b_PC_arriveReply 56 = .ok (.aload_n 2, 1) := by decide +kernel
theorem d_PC_arriveReply_57 : decode b_PC_arriveReply 57 = .ok (.iconst 1, 1) := by decide +kernel
theorem d_PC_arriveReply_58 : decode b_PC_arriveReply 58 = .ok (.putfield 286, 3) := by decide +kernel
theorem d_PC_arriveReply_61 : decode b_PC_arriveReply 61 = .ok (.iconst 0, 1) := by decide +kernel
theorem d_PC_arriveReply_62 : decode b_PC_arriveReply 62 = .ok (.istore_n 3, 1) := by decide +kernel
theorem d_PC_arriveReply_63 : decode b_PC_arriveReply 63 = .ok (.iload_n 3, 1) := by decide +kernel
theorem d_PC_arriveReply_64 : decode b_PC_arriveReply 64 = .ok (.iconst 3, 1) := by decide +kernel
theorem d_PC_arriveReply_65 : decode b_PC_arriveReply 65 = .ok (.if_icmp .ge 43, 3) := by decide +kernel
theorem d_PC_arriveReply_68 : decode b_PC_arriveReply 68 = .ok (.aload_n 0, 1) := by decide +kernel
theorem d_PC_arriveReply_69 : decode b_PC_arriveReply 69 = .ok (.getfield 32, 3) := by decide +kernel
theorem d_PC_arriveReply_72 : decode b_PC_arriveReply 72 = .ok (.aload_n 1, 1) := by decide +kernel
theorem d_PC_arriveReply_73 : decode b_PC_arriveReply 73 = .ok (.getfield 263, 3) := by decide +kernel
theorem d_PC_arriveReply_76 : decode b_PC_arriveReply 76 = .ok (.iaload, 1) := by decide +kernel
theorem d_PC_arriveReply_77 : decode b_PC_arriveReply 77 = .ok (.iload_n 3, 1) := by decide +kernel
theorem d_PC_arriveReply_78 : decode b_PC_arriveReply 78 = .ok (.invokestatic 105, 3) := by decide +kernel
theorem d_PC_arriveReply_81 : decode b_PC_arriveReply 81 = .ok (.ifCond .eq 21, 3) := by decide +kernel
theorem d_PC_arriveReply_84 : decode b_PC_arriveReply 84 = .ok (.aload_n 0, 1) := by decide +kernel
theorem d_PC_arriveReply_85 : decode b_PC_arriveReply 85 = .ok (.aload_n 1, 1) := by decide +kernel
theorem d_PC_arriveReply_86 : decode b_PC_arriveReply 86 = .ok (.getfield 263, 3) := by decide +kernel
theorem d_PC_arriveReply_89 : decode b_PC_arriveReply 89 = .ok (.iload_n 3, 1) := by decide +kernel
theorem d_PC_arriveReply_90 : decode b_PC_arriveReply 90 = .ok (.aload_n 1, 1) := by decide +kernel
theorem d_PC_arriveReply_91 : decode b_PC_arriveReply 91 = .ok (.getfield 269, 3) := by decide +kernel
theorem d_PC_arriveReply_94 : decode b_PC_arriveReply 94 = .ok (.aload_n 2, 1) := by decide +kernel
theorem d_PC_arriveReply_95 : decode b_PC_arriveReply 95 = .ok (.iload_n 3, 1) := by decide +kernel
theorem d_PC_arriveReply_96 : decode b_PC_arriveReply 96 = .ok (.invokevirtual 300, 3) := by decide +kernel
theorem d_PC_arriveReply_99 : decode b_PC_arriveReply 99 = .ok (.invokevirtual 125, 3) := by decide +kernel
theorem d_PC_arriveReply_102 : decode b_PC_arriveReply 102 = .ok (.iinc 3 1, 3) := by decide +kernel
theorem d_PC_arriveReply_105 : decode b_PC_arriveReply 105 = .ok (.goto (-42), 3) := by decide +kernel
theorem d_PC_arriveReply_108 : decode b_PC_arriveReply 108 = .ok (.return_, 1) := by decide +kernel
theorem d_PC_arriveTold_0 : decode b_PC_arriveTold 0 = .ok (.aload_n 0, 1) := by decide +kernel
theorem d_PC_arriveTold_1 : decode b_PC_arriveTold 1 = .ok (.aload_n 1, 1) := by decide +kernel
theorem d_PC_arriveTold_2 : decode b_PC_arriveTold 2 = .ok (.getfield 282, 3) := by decide +kernel
theorem d_PC_arriveTold_5 : decode b_PC_arriveTold 5 = .ok (.aload_n 1, 1) := by decide +kernel
theorem d_PC_arriveTold_6 : decode b_PC_arriveTold 6 = .ok (.getfield 263, 3) := by decide +kernel
theorem d_PC_arriveTold_9 : decode b_PC_arriveTold 9 = .ok (.invokevirtual 130, 3) := by decide +kernel
theorem d_PC_arriveTold_12 : decode b_PC_arriveTold 12 = .ok (.astore_n 2, 1) := by decide +kernel
theorem d_PC_arriveTold_13 : decode b_PC_arriveTold 13 = .ok (.aload_n 2, 1) := by decide +kernel
theorem d_PC_arriveTold_14 : decode b_PC_arriveTold 14 = .ok (.aload_n 1, 1) := by decide +kernel
theorem d_PC_arriveTold_15 : decode b_PC_arriveTold 15 = .ok (.getfield 266, 3) := by decide +kernel
theorem d_PC_arriveTold_18 : decode b_PC_arriveTold 18 = .ok (.aload_n 1, 1) := by decide +kernel
theorem d_PC_arriveTold_19 : decode b_PC_arriveTold 19 = .ok (.getfield 260, 3) := by decide +kernel
theorem d_PC_arriveTold_22 : decode b_PC_arriveTold 22 = .ok (.aload_n 1, 1) := by decide +kernel
theorem d_PC_arriveTold_23 : decode b_PC_arriveTold 23 = .ok (.getfield 269, 3) := by decide +kernel
theorem d_PC_arriveTold_26 : decode b_PC_arriveTold 26 = .ok (.aload_n 1, 1) := by decide +kernel
theorem d_PC_arriveTold_27 : decode b_PC_arriveTold 27 = .ok (.getfield 303, 3) := by decide +kernel
theorem d_PC_arriveTold_30 : decode b_PC_arriveTold 30 = .ok (.invokevirtual 313, 3) := by decide +kernel
theorem d_PC_arriveTold_33 : decode b_PC_arriveTold 33 = .ok (.aload_n 2, 1) := by decide +kernel
theorem d_PC_arriveTold_34 : decode b_PC_arriveTold 34 = .ok (.getfield 198, 3) := by decide +kernel
theorem d_PC_arriveTold_37 : decode b_PC_arriveTold 37 = .ok (.iconst (-1), 1) := by decide +kernel
theorem d_PC_arriveTold_38 : decode b_PC_arriveTold 38 = .ok (.if_icmp .eq 4, 3) := by decide +kernel
theorem d_PC_arriveTold_41 : decode b_PC_arriveTold 41 = .ok (.return_, 1) := by decide +kernel
theorem d_PC_arriveTold_42 : decode b_PC_arriveTold 42 = .ok (.aload_n 2, 1) := by decide +kernel
theorem d_PC_arriveTold_43 : decode b_PC_arriveTold 43 = .ok (.aload_n 2, 1) := by decide +kernel
theorem d_PC_arriveTold_44 : decode b_PC_arriveTold 44 = .ok (.aload_n 0, 1) := by decide +kernel
theorem d_PC_arriveTold_45 : decode b_PC_arriveTold 45 = .ok (.getfield 32, 3) := by decide +kernel
theorem d_PC_arriveTold_48 : decode b_PC_arriveTold 48 = .ok (.aload_n 1, 1) := by decide +kernel
theorem d_PC_arriveTold_49 : decode b_PC_arriveTold 49 = .ok (.getfield 263, 3) := by decide +kernel
theorem d_PC_arriveTold_52 : decode b_PC_arriveTold 52 = .ok (.iaload, 1) := by decide +kernel
theorem d_PC_arriveTold_53 : decode b_PC_arriveTold 53 = .ok (.aload_n 0, 1) := by decide +kernel
theorem d_PC_arriveTold_54 : decode b_PC_arriveTold 54 = .ok (.getfield 43, 3) := by decide +kernel
theorem d_PC_arriveTold_57 : decode b_PC_arriveTold 57 = .ok (.invokevirtual 316, 3) := by decide +kernel
theorem d_PC_arriveTold_60 : decode b_PC_arriveTold 60 = .ok (.putfield 198, 3) := by decide +kernel
theorem d_PC_arriveTold_63 : decode b_PC_arriveTold 63 = .ok (.aload_n 2, 1) := by decide +kernel
theorem d_PC_arriveTold_64 : decode b_PC_arriveTold 64 = .ok (.getfield 198, 3) := by decide +kernel
theorem d_PC_arriveTold_67 : decode b_PC_arriveTold 67 = .ok (.iconst (-1), 1) := by decide +kernel
theorem d_PC_arriveTold_68 : decode b_PC_arriveTold 68 = .ok (.if_icmp .eq 15, 3) := by decide +kernel
theorem d_PC_arriveTold_71 : decode b_PC_arriveTold 71 = .ok (.aload_n 0, 1) := by decide +kernel
theorem d_PC_arriveTold_72 : decode b_PC_arriveTold 72 = .ok (.aload_n 1, 1) := by decide +kernel
theorem d_PC_arriveTold_73 : decode b_PC_arriveTold 73 = .ok (.getfield 263, 3) := by decide +kernel
theorem d_PC_arriveTold_76 : decode b_PC_arriveTold 76 = .ok (.aload_n 2, 1) := by decide +kernel
theorem d_PC_arriveTold_77 : decode b_PC_arriveTold 77 = .ok (.getfield 198, 3) := by decide +kernel
theorem d_PC_arriveTold_80 : decode b_PC_arriveTold 80 = .ok (.invokevirtual 319, 3) := by decide +kernel
theorem d_PC_arriveTold_83 : decode b_PC_arriveTold 83 = .ok (.return_, 1) := by decide +kernel
theorem d_PC_arriveVote_0 : decode b_PC_arriveVote 0 = .ok (.aload_n 0, 1) := by decide +kernel
theorem d_PC_arriveVote_1 : decode b_PC_arriveVote 1 = .ok (.getfield 48, 3) := by decide +kernel
theorem d_PC_arriveVote_4 : decode b_PC_arriveVote 4 = .ok (.aload_n 1, 1) := by decide +kernel
theorem d_PC_arriveVote_5 : decode b_PC_arriveVote 5 = .ok (.getfield 266, 3) := by decide +kernel
theorem d_PC_arriveVote_8 : decode b_PC_arriveVote 8 = .ok (.aaload, 1) := by decide +kernel
theorem d_PC_arriveVote_9 : decode b_PC_arriveVote 9 = .ok (.astore_n 2, 1) := by decide +kernel
theorem d_PC_arriveVote_10 : decode b_PC_arriveVote 10 = .ok (.aload_n 2, 1) := by decide +kernel
theorem d_PC_arriveVote_11 : decode b_PC_arriveVote 11 = .ok (.getfield 203, 3) := by decide +kernel
theorem d_PC_arriveVote_14 : decode b_PC_arriveVote 14 = .ok (.aload_n 1, 1) := by decide +kernel
theorem d_PC_arriveVote_15 : decode b_PC_arriveVote 15 = .ok (.getfield 263, 3) := by decide +kernel
theorem d_PC_arriveVote_18 : decode b_PC_arriveVote 18 = .ok (.aaload, 1) := by decide +kernel
theorem d_PC_arriveVote_19 : decode b_PC_arriveVote 19 = .ok (.aload_n 1, 1) := by decide +kernel
theorem d_PC_arriveVote_20 : decode b_PC_arriveVote 20 = .ok (.getfield 260, 3) := by decide +kernel
theorem d_PC_arriveVote_23 : decode b_PC_arriveVote 23 = .ok (.iaload, 1) := by decide +kernel
theorem d_PC_arriveVote_24 : decode b_PC_arriveVote 24 = .ok (.aload_n 1, 1) := by decide +kernel
theorem d_PC_arriveVote_25 : decode b_PC_arriveVote 25 = .ok (.getfield 269, 3) := by decide +kernel
theorem d_PC_arriveVote_28 : decode b_PC_arriveVote 28 = .ok (.if_icmp .le 4, 3) := by decide +kernel
theorem d_PC_arriveVote_31 : decode b_PC_arriveVote 31 = .ok (.return_, 1) := by decide +kernel
theorem d_PC_arriveVote_32 : decode b_PC_arriveVote 32 = .ok (.aload_n 2, 1) := by decide +kernel
theorem d_PC_arriveVote_33 : decode b_PC_arriveVote 33 = .ok (.aload_n 1, 1) := by decide +kernel
theorem d_PC_arriveVote_34 : decode b_PC_arriveVote 34 = .ok (.getfield 263, 3) := by decide +kernel
theorem d_PC_arriveVote_37 : decode b_PC_arriveVote 37 = .ok (.aload_n 1, 1) := by decide +kernel
theorem d_PC_arriveVote_38 : decode b_PC_arriveVote 38 = .ok (.getfield 260, 3) := by decide +kernel
theorem d_PC_arriveVote_41 : decode b_PC_arriveVote 41 = .ok (.aload_n 1, 1) := by decide +kernel
theorem d_PC_arriveVote_42 : decode b_PC_arriveVote 42 = .ok (.getfield 269, 3) := by decide +kernel
theorem d_PC_arriveVote_45 : decode b_PC_arriveVote 45 = .ok (.aload_n 1, 1) := by decide +kernel
theorem d_PC_arriveVote_46 : decode b_PC_arriveVote 46 = .ok (.getfield 303, 3) := by decide +kernel
theorem d_PC_arriveVote_49 : decode b_PC_arriveVote 49 = .ok (.invokevirtual 306, 3) := by decide +kernel
theorem d_PC_arriveVote_52 : decode b_PC_arriveVote 52 = .ok (.iconst 0, 1) := by decide +kernel
theorem d_PC_arriveVote_53 : decode b_PC_arriveVote 53 = .ok (.istore_n 3, 1) := by decide +kernel
theorem d_PC_arriveVote_54 : decode b_PC_arriveVote 54 = .ok (.iload_n 3, 1) := by decide +kernel
theorem d_PC_arriveVote_55 : decode b_PC_arriveVote 55 = .ok (.iconst 2, 1) := by decide +kernel
theorem d_PC_arriveVote_56 : decode b_PC_arriveVote 56 = .ok (.if_icmp .ge 15, 3) := by decide +kernel
theorem d_PC_arriveVote_59 : decode b_PC_arriveVote 59 = .ok (.aload_n 0, 1) := by decide +kernel
theorem d_PC_arriveVote_60 : decode b_PC_arriveVote 60 = .ok (.aload_n 1, 1) := by decide +kernel
theorem d_PC_arriveVote_61 : decode b_PC_arriveVote 61 = .ok (.iload_n 3, 1) := by decide +kernel
theorem d_PC_arriveVote_62 : decode b_PC_arriveVote 62 = .ok (.invokevirtual 309, 3) := by decide +kernel
theorem d_PC_arriveVote_65 : decode b_PC_arriveVote 65 = .ok (.iinc 3 1, 3) := by decide +kernel
theorem d_PC_arriveVote_68 : decode b_PC_arriveVote 68 = .ok (.goto (-14), 3) := by decide +kernel
theorem d_PC_arriveVote_71 : decode b_PC_arriveVote 71 = .ok (.return_, 1) := by decide +kernel
theorem d_PC_ballotOf_0 : decode b_PC_ballotOf 0 = .ok (.iload_n 0, 1) := by decide +kernel
theorem d_PC_ballotOf_1 : decode b_PC_ballotOf 1 = .ok (.iconst (-1), 1) := by decide +kernel
theorem d_PC_ballotOf_2 : decode b_PC_ballotOf 2 = .ok (.if_icmp .ne 7, 3) := by decide +kernel
theorem d_PC_ballotOf_5 : decode b_PC_ballotOf 5 = .ok (.iconst (-1), 1) := by decide +kernel
theorem d_PC_ballotOf_6 : decode b_PC_ballotOf 6 = .ok (.goto 6, 3) := by decide +kernel
theorem d_PC_ballotOf_9 : decode b_PC_ballotOf 9 = .ok (.iload_n 0, 1) := by decide +kernel
theorem d_PC_ballotOf_10 : decode b_PC_ballotOf 10 = .ok (.iconst 2, 1) := by decide +kernel
theorem d_PC_ballotOf_11 : decode b_PC_ballotOf 11 = .ok (.idiv, 1) := by decide +kernel
theorem d_PC_ballotOf_12 : decode b_PC_ballotOf 12 = .ok (.ireturn, 1) := by decide +kernel
theorem d_PC_begin_0 : decode b_PC_begin 0 = .ok (.aload_n 0, 1) := by decide +kernel
theorem d_PC_begin_1 : decode b_PC_begin 1 = .ok (.getfield 39, 3) := by decide +kernel
theorem d_PC_begin_4 : decode b_PC_begin 4 = .ok (.bipush 8, 2) := by decide +kernel
theorem d_PC_begin_6 : decode b_PC_begin 6 = .ok (.if_icmp .lt 13, 3) := by decide +kernel
theorem d_PC_begin_9 : decode b_PC_begin 9 = .ok (.new 57, 3) := by decide +kernel
theorem d_PC_begin_12 : decode b_PC_begin 12 = .ok (.dup, 1) := by decide +kernel
theorem d_PC_begin_13 : decode b_PC_begin 13 = .ok (.ldc 59, 2) := by decide +kernel
theorem d_PC_begin_15 : decode b_PC_begin 15 = .ok (.invokespecial 61, 3) := by decide +kernel
theorem d_PC_begin_18 : decode b_PC_begin 18 = .ok (.athrow, 1) := by decide +kernel
theorem d_PC_begin_19 : decode b_PC_begin 19 = .ok (.aload_n 0, 1) := by decide +kernel
theorem d_PC_begin_20 : decode b_PC_begin 20 = .ok (.dup, 1) := by decide +kernel
theorem d_PC_begin_21 : decode b_PC_begin 21 = .ok (.getfield 39, 3) := by decide +kernel
theorem d_PC_begin_24 : decode b_PC_begin 24 = .ok (.iconst 1, 1) := by decide +kernel
theorem d_PC_begin_25 : decode b_PC_begin 25 = .ok (.iadd, 1) := by decide +kernel
theorem d_PC_begin_26 : decode b_PC_begin 26 = .ok (.putfield 39, 3) := by decide +kernel
theorem d_PC_begin_29 : decode b_PC_begin 29 = .ok (.aload_n 0, 1) := by decide +kernel
theorem d_PC_begin_30 : decode b_PC_begin 30 = .ok (.getfield 39, 3) := by decide +kernel
theorem d_PC_begin_33 : decode b_PC_begin 33 = .ok (.iconst 1, 1) := by decide +kernel
theorem d_PC_begin_34 : decode b_PC_begin 34 = .ok (.isub, 1) := by decide +kernel
theorem d_PC_begin_35 : decode b_PC_begin 35 = .ok (.ireturn, 1) := by decide +kernel
theorem d_PC_checkBegun_0 : decode b_PC_checkBegun 0 = .ok (.iload_n 1, 1) := by decide +kernel
theorem d_PC_checkBegun_1 : decode b_PC_checkBegun 1 = .ok (.aload_n 0, 1) := by decide +kernel
theorem d_PC_checkBegun_2 : decode b_PC_checkBegun 2 = .ok (.getfield 39, 3) := by decide +kernel
theorem d_PC_checkBegun_5 : decode b_PC_checkBegun 5 = .ok (.if_icmp .lt 13, 3) := by decide +kernel
theorem d_PC_checkBegun_8 : decode b_PC_checkBegun 8 = .ok (.new 215, 3) := by decide +kernel
theorem d_PC_checkBegun_11 : decode b_PC_checkBegun 11 = .ok (.dup, 1) := by decide +kernel
theorem d_PC_checkBegun_12 : decode b_PC_checkBegun 12 = .ok (.ldc 217, 2) := by decide +kernel
theorem d_PC_checkBegun_14 : decode b_PC_checkBegun 14 = .ok (.invokespecial 219, 3) := by decide +kernel
theorem d_PC_checkBegun_17 : decode b_PC_checkBegun 17 = .ok (.athrow, 1) := by decide +kernel
theorem d_PC_checkBegun_18 : decode b_PC_checkBegun 18 = .ok (.return_, 1) := by decide +kernel
theorem d_PC_checkMessage_0 : decode b_PC_checkMessage 0 = .ok (.iload_n 1, 1) := by decide +kernel
theorem d_PC_checkMessage_1 : decode b_PC_checkMessage 1 = .ok (.ifCond .lt 14, 3) := by decide +kernel
theorem d_PC_checkMessage_4 : decode b_PC_checkMessage 4 = .ok (.iload_n 1, 1) := by decide +kernel
theorem d_PC_checkMessage_5 : decode b_PC_checkMessage 5 = .ok (.aload_n 0, 1) := by decide +kernel
theorem d_PC_checkMessage_6 : decode b_PC_checkMessage 6 = .ok (.getfield 28, 3) := by decide +kernel
theorem d_PC_checkMessage_9 : decode b_PC_checkMessage 9 = .ok (.getfield 154, 3) := by decide +kernel
theorem d_PC_checkMessage_12 : decode b_PC_checkMessage 12 = .ok (.if_icmp .lt 13, 3) := by decide +kernel
theorem d_PC_checkMessage_15 : decode b_PC_checkMessage 15 = .ok (.new 222, 3) := by decide +kernel
theorem d_PC_checkMessage_18 : decode b_PC_checkMessage 18 = .ok (.dup, 1) := by decide +kernel
theorem d_PC_checkMessage_19 : decode b_PC_checkMessage 19 = .ok (.ldc 224, 2) := by decide +kernel
theorem d_PC_checkMessage_21 : decode b_PC_checkMessage 21 = .ok (.invokespecial 226, 3) := by decide +kernel
theorem d_PC_checkMessage_24 : decode b_PC_checkMessage 24 = .ok (.athrow, 1) := by decide +kernel
theorem d_PC_checkMessage_25 : decode b_PC_checkMessage 25 = .ok (.return_, 1) := by decide +kernel
theorem d_PC_checkRange_0 : decode b_PC_checkRange 0 = .ok (.iload_n 0, 1) := by decide +kernel
theorem d_PC_checkRange_1 : decode b_PC_checkRange 1 = .ok (.ifCond .lt 8, 3) := by decide +kernel
theorem d_PC_checkRange_4 : decode b_PC_checkRange 4 = .ok (.iload_n 0, 1) := by decide +kernel
theorem d_PC_checkRange_5 : decode b_PC_checkRange 5 = .ok (.iload_n 1, 1) := by decide +kernel
theorem d_PC_checkRange_6 : decode b_PC_checkRange 6 = .ok (.if_icmp .lt 13, 3) := by decide +kernel
theorem d_PC_checkRange_9 : decode b_PC_checkRange 9 = .ok (.new 166, 3) := by decide +kernel
theorem d_PC_checkRange_12 : decode b_PC_checkRange 12 = .ok (.dup, 1) := by decide +kernel
theorem d_PC_checkRange_13 : decode b_PC_checkRange 13 = .ok (.ldc 213, 2) := by decide +kernel
theorem d_PC_checkRange_15 : decode b_PC_checkRange 15 = .ok (.invokespecial 170, 3) := by decide +kernel
theorem d_PC_checkRange_18 : decode b_PC_checkRange 18 = .ok (.athrow, 1) := by decide +kernel
theorem d_PC_checkRange_19 : decode b_PC_checkRange 19 = .ok (.return_, 1) := by decide +kernel
theorem d_PC_checkUp_0 : decode b_PC_checkUp 0 = .ok (.aload_n 0, 1) := by decide +kernel
theorem d_PC_checkUp_1 : decode b_PC_checkUp 1 = .ok (.getfield 21, 3) := by decide +kernel
theorem d_PC_checkUp_4 : decode b_PC_checkUp 4 = .ok (.iload_n 1, 1) := by decide +kernel
theorem d_PC_checkUp_5 : decode b_PC_checkUp 5 = .ok (.iaload, 1) := by decide +kernel
theorem d_PC_checkUp_6 : decode b_PC_checkUp 6 = .ok (.iload_n 2, 1) := by decide +kernel
theorem d_PC_checkUp_7 : decode b_PC_checkUp 7 = .ok (.invokestatic 105, 3) := by decide +kernel
theorem d_PC_checkUp_10 : decode b_PC_checkUp 10 = .ok (.ifCond .ne 13, 3) := by decide +kernel
theorem d_PC_checkUp_13 : decode b_PC_checkUp 13 = .ok (.new 57, 3) := by decide +kernel
theorem d_PC_checkUp_16 : decode b_PC_checkUp 16 = .ok (.dup, 1) := by decide +kernel
theorem d_PC_checkUp_17 : decode b_PC_checkUp 17 = .ok (.ldc 220, 2) := by decide +kernel
theorem d_PC_checkUp_19 : decode b_PC_checkUp 19 = .ok (.invokespecial 61, 3) := by decide +kernel
theorem d_PC_checkUp_22 : decode b_PC_checkUp 22 = .ok (.athrow, 1) := by decide +kernel
theorem d_PC_checkUp_23 : decode b_PC_checkUp 23 = .ok (.return_, 1) := by decide +kernel
theorem d_PC_count_0 : decode b_PC_count 0 = .ok (.iload_n 1, 1) := by decide +kernel
theorem d_PC_count_1 : decode b_PC_count 1 = .ok (.bipush 7, 2) := by decide +kernel
theorem d_PC_count_3 : decode b_PC_count 3 = .ok (.invokestatic 64, 3) := by decide +kernel
theorem d_PC_count_6 : decode b_PC_count 6 = .ok (.iload_n 1, 1) := by decide +kernel
theorem d_PC_count_7 : decode b_PC_count 7 = .ok (.tableswitch 78 0 5 #[37, 45, 53, 58, 64, 71], 37) := by decide +kernel
theorem d_PC_count_44 : decode b_PC_count 44 = .ok (.aload_n 0, 1) := by decide +kernel
theorem d_PC_count_45 : decode b_PC_count 45 = .ok (.getfield 28, 3) := by decide +kernel
theorem d_PC_count_48 : decode b_PC_count 48 = .ok (.getfield 154, 3) := by decide +kernel
theorem d_PC_count_51 : decode b_PC_count 51 = .ok (.ireturn, 1) := by decide +kernel
theorem d_PC_count_52 : decode b_PC_count 52 = .ok (.aload_n 0, 1) := by decide +kernel
theorem d_PC_count_53 : decode b_PC_count 53 = .ok (.getfield 28, 3) := by decide +kernel
theorem d_PC_count_56 : decode b_PC_count 56 = .ok (.getfield 210, 3) := by decide +kernel
theorem d_PC_count_59 : decode b_PC_count 59 = .ok (.ireturn, 1) := by decide +kernel
theorem d_PC_count_60 : decode b_PC_count 60 = .ok (.aload_n 0, 1) := by decide +kernel
theorem d_PC_count_61 : decode b_PC_count 61 = .ok (.getfield 39, 3) := by decide +kernel
theorem d_PC_count_64 : decode b_PC_count 64 = .ok (.ireturn, 1) := by decide +kernel
theorem d_PC_count_65 : decode b_PC_count 65 = .ok (.aload_n 0, 1) := by decide +kernel
theorem d_PC_count_66 : decode b_PC_count 66 = .ok (.getfield 48, 3) := by decide +kernel
theorem d_PC_count_69 : decode b_PC_count 69 = .ok (.arraylength, 1) := by decide +kernel
theorem d_PC_count_70 : decode b_PC_count 70 = .ok (.ireturn, 1) := by decide +kernel
theorem d_PC_count_71 : decode b_PC_count 71 = .ok (.aload_n 0, 1) := by decide +kernel
theorem d_PC_count_72 : decode b_PC_count 72 = .ok (.getfield 21, 3) := by decide +kernel
theorem d_PC_count_75 : decode b_PC_count 75 = .ok (.iconst 0, 1) := by decide +kernel
theorem d_PC_count_76 : decode b_PC_count 76 = .ok (.iaload, 1) := by decide +kernel
theorem d_PC_count_77 : decode b_PC_count 77 = .ok (.ireturn, 1) := by decide +kernel
theorem d_PC_count_78 : decode b_PC_count 78 = .ok (.aload_n 0, 1) := by decide +kernel
theorem d_PC_count_79 : decode b_PC_count 79 = .ok (.getfield 21, 3) := by decide +kernel
theorem d_PC_count_82 : decode b_PC_count 82 = .ok (.iconst 1, 1) := by decide +kernel
theorem d_PC_count_83 : decode b_PC_count 83 = .ok (.iaload, 1) := by decide +kernel
theorem d_PC_count_84 : decode b_PC_count 84 = .ok (.ireturn, 1) := by decide +kernel
theorem d_PC_count_85 : decode b_PC_count 85 = .ok (.aload_n 0, 1) := by decide +kernel
theorem d_PC_count_86 : decode b_PC_count 86 = .ok (.getfield 21, 3) := by decide +kernel
theorem d_PC_count_89 : decode b_PC_count 89 = .ok (.iconst 2, 1) := by decide +kernel
theorem d_PC_count_90 : decode b_PC_count 90 = .ok (.iaload, 1) := by decide +kernel
theorem d_PC_count_91 : decode b_PC_count 91 = .ok (.ireturn, 1) := by decide +kernel
theorem d_PC_deliver_0 : decode b_PC_deliver 0 = .ok (.aload_n 0, 1) := by decide +kernel
theorem d_PC_deliver_1 : decode b_PC_deliver 1 = .ok (.iload_n 1, 1) := by decide +kernel
theorem d_PC_deliver_2 : decode b_PC_deliver 2 = .ok (.invokevirtual 140, 3) := by decide +kernel
theorem d_PC_deliver_5 : decode b_PC_deliver 5 = .ok (.aload_n 0, 1) := by decide +kernel
theorem d_PC_deliver_6 : decode b_PC_deliver 6 = .ok (.getfield 28, 3) := by decide +kernel
theorem d_PC_deliver_9 : decode b_PC_deliver 9 = .ok (.iload_n 1, 1) := by decide +kernel
theorem d_PC_deliver_10 : decode b_PC_deliver 10 = .ok (.invokevirtual 143, 3) := by decide +kernel
theorem d_PC_deliver_13 : decode b_PC_deliver 13 = .ok (.astore_n 3, 1) := by decide +kernel
theorem d_PC_deliver_14 : decode b_PC_deliver 14 = .ok (.iload_n 2, 1) := by decide +kernel
theorem d_PC_deliver_15 : decode b_PC_deliver 15 = .ok (.ifCond .ne 11, 3) := by decide +kernel
theorem d_PC_deliver_18 : decode b_PC_deliver 18 = .ok (.aload_n 0, 1) := by decide +kernel
theorem d_PC_deliver_19 : decode b_PC_deliver 19 = .ok (.getfield 28, 3) := by decide +kernel
theorem d_PC_deliver_22 : decode b_PC_deliver 22 = .ok (.iload_n 1, 1) := by decide +kernel
theorem d_PC_deliver_23 : decode b_PC_deliver 23 = .ok (.invokevirtual 147, 3) := by decide +kernel
theorem d_PC_deliver_26 : decode b_PC_deliver 26 = .ok (.aload_n 0, 1) := by decide +kernel
theorem d_PC_deliver_27 : decode b_PC_deliver 27 = .ok (.aload_n 3, 1) := by decide +kernel
theorem d_PC_deliver_28 : decode b_PC_deliver 28 = .ok (.invokevirtual 150, 3) := by decide +kernel
theorem d_PC_deliver_31 : decode b_PC_deliver 31 = .ok (.aload_n 0, 1) := by decide +kernel
theorem d_PC_deliver_32 : decode b_PC_deliver 32 = .ok (.getfield 28, 3) := by decide +kernel
theorem d_PC_deliver_35 : decode b_PC_deliver 35 = .ok (.getfield 154, 3) := by decide +kernel
theorem d_PC_deliver_38 : decode b_PC_deliver 38 = .ok (.ireturn, 1) := by decide +kernel
theorem d_PC_has_0 : decode b_PC_has 0 = .ok (.iload_n 0, 1) := by decide +kernel
theorem d_PC_has_1 : decode b_PC_has 1 = .ok (.iload_n 1, 1) := by decide +kernel
theorem d_PC_has_2 : decode b_PC_has 2 = .ok (.ishr, 1) := by decide +kernel
theorem d_PC_has_3 : decode b_PC_has 3 = .ok (.iconst 1, 1) := by decide +kernel
theorem d_PC_has_4 : decode b_PC_has 4 = .ok (.iand, 1) := by decide +kernel
theorem d_PC_has_5 : decode b_PC_has 5 = .ok (.iconst 1, 1) := by decide +kernel
theorem d_PC_has_6 : decode b_PC_has 6 = .ok (.if_icmp .ne 7, 3) := by decide +kernel
theorem d_PC_has_9 : decode b_PC_has 9 = .ok (.iconst 1, 1) := by decide +kernel
theorem d_PC_has_10 : decode b_PC_has 10 = .ok (.goto 4, 3) := by decide +kernel
theorem d_PC_has_13 : decode b_PC_has 13 = .ok (.iconst 0, 1) := by decide +kernel
theorem d_PC_has_14 : decode b_PC_has 14 = .ok (.ireturn, 1) := by decide +kernel
theorem d_PC_howMany_0 : decode b_PC_howMany 0 = .ok (.iload_n 1, 1) := by decide +kernel
theorem d_PC_howMany_1 : decode b_PC_howMany 1 = .ok (.ifCond .ne 5, 3) := by decide +kernel
theorem d_PC_howMany_4 : decode b_PC_howMany 4 = .ok (.iconst 3, 1) := by decide +kernel
theorem d_PC_howMany_5 : decode b_PC_howMany 5 = .ok (.ireturn, 1) := by decide +kernel
theorem d_PC_howMany_6 : decode b_PC_howMany 6 = .ok (.iload_n 1, 1) := by decide +kernel
theorem d_PC_howMany_7 : decode b_PC_howMany 7 = .ok (.iconst 1, 1) := by decide +kernel
theorem d_PC_howMany_8 : decode b_PC_howMany 8 = .ok (.if_icmp .ne 11, 3) := by decide +kernel
theorem d_PC_howMany_11 : decode b_PC_howMany 11 = .ok (.aload_n 0, 1) := by decide +kernel
theorem d_PC_howMany_12 : decode b_PC_howMany 12 = .ok (.getfield 48, 3) := by decide +kernel
theorem d_PC_howMany_15 : decode b_PC_howMany 15 = .ok (.arraylength, 1) := by decide +kernel
theorem d_PC_howMany_16 : decode b_PC_howMany 16 = .ok (.goto 4, 3) := by decide +kernel
theorem d_PC_howMany_19 : decode b_PC_howMany 19 = .ok (.iconst 2, 1) := by decide +kernel
theorem d_PC_howMany_20 : decode b_PC_howMany 20 = .ok (.ireturn, 1) := by decide +kernel
theorem d_PC_init_0 : decode b_PC_init 0 = .ok (.aload_n 0, 1) := by decide +kernel
theorem d_PC_init_1 : decode b_PC_init 1 = .ok (.invokespecial 1, 3) := by decide +kernel
theorem d_PC_init_4 : decode b_PC_init 4 = .ok (.aload_n 0, 1) := by decide +kernel
theorem d_PC_init_5 : decode b_PC_init 5 = .ok (.iconst 3, 1) := by decide +kernel
theorem d_PC_init_6 : decode b_PC_init 6 = .ok (.anewarray 9, 3) := by decide +kernel
theorem d_PC_init_9 : decode b_PC_init 9 = .ok (.putfield 11, 3) := by decide +kernel
theorem d_PC_init_12 : decode b_PC_init 12 = .ok (.aload_n 0, 1) := by decide +kernel
theorem d_PC_init_13 : decode b_PC_init 13 = .ok (.bipush 16, 2) := by decide +kernel
theorem d_PC_init_15 : decode b_PC_init 15 = .ok (.anewarray 15, 3) := by decide +kernel
theorem d_PC_init_18 : decode b_PC_init 18 = .ok (.putfield 17, 3) := by decide +kernel
theorem d_PC_init_21 : decode b_PC_init 21 = .ok (.aload_n 0, 1) := by decide +kernel
theorem d_PC_init_22 : decode b_PC_init 22 = .ok (.iconst 3, 1) := by decide +kernel
theorem d_PC_init_23 : decode b_PC_init 23 = .ok (.newarray .int, 2) := by decide +kernel
theorem d_PC_init_25 : decode b_PC_init 25 = .ok (.putfield 21, 3) := by decide +kernel
theorem d_PC_init_28 : decode b_PC_init 28 = .ok (.aload_n 0, 1) := by decide +kernel
theorem d_PC_init_29 : decode b_PC_init 29 = .ok (.new 25, 3) := by decide +kernel
theorem d_PC_init_32 : decode b_PC_init 32 = .ok (.dup, 1) := by decide +kernel
theorem d_PC_init_33 : decode b_PC_init 33 = .ok (.invokespecial 27, 3) := by decide +kernel
theorem d_PC_init_36 : decode b_PC_init 36 = .ok (.putfield 28, 3) := by decide +kernel
theorem d_PC_init_39 : decode b_PC_init 39 = .ok (.aload_n 0, 1) := by decide +kernel
theorem d_PC_init_40 : decode b_PC_init 40 = .ok (.bipush 8, 2) := by decide +kernel
theorem d_PC_init_42 : decode b_PC_init 42 = .ok (.newarray .int, 2) := by decide +kernel
theorem d_PC_init_44 : decode b_PC_init 44 = .ok (.putfield 32, 3) := by decide +kernel
theorem d_PC_init_47 : decode b_PC_init 47 = .ok (.aload_n 0, 1) := by decide +kernel
theorem d_PC_init_48 : decode b_PC_init 48 = .ok (.bipush 8, 2) := by decide +kernel
theorem d_PC_init_50 : decode b_PC_init 50 = .ok (.newarray .boolean, 2) := by decide +kernel
theorem d_PC_init_52 : decode b_PC_init 52 = .ok (.putfield 35, 3) := by decide +kernel
theorem d_PC_init_55 : decode b_PC_init 55 = .ok (.aload_n 0, 1) := by decide +kernel
theorem d_PC_init_56 : decode b_PC_init 56 = .ok (.iconst 0, 1) := by decide +kernel
theorem d_PC_init_57 : decode b_PC_init 57 = .ok (.putfield 39, 3) := by decide +kernel
theorem d_PC_init_60 : decode b_PC_init 60 = .ok (.iload_n 1, 1) := by decide +kernel
theorem d_PC_init_61 : decode b_PC_init 61 = .ok (.ifCond .ne 7, 3) := by decide +kernel
