theorem d_Law_take_28 : decode b_Law_take 28 = .ok (.ireturn, 1) := by decide +kernel
theorem d_Law_take_29 : decode b_Law_take 29 = .ok (.iconst 0, 1) := by decide +kernel
theorem d_Law_take_30 : decode b_Law_take 30 = .ok (.ireturn, 1) := by decide +kernel
theorem d_Law_taken_0 : decode b_Law_taken 0 = .ok (.aload 5, 2) := by decide +kernel
theorem d_Law_taken_2 : decode b_Law_taken 2 = .ok (.iconst 0, 1) := by decide +kernel
theorem d_Law_taken_3 : decode b_Law_taken 3 = .ok (.aload_n 0, 1) := by decide +kernel
theorem d_Law_taken_4 : decode b_Law_taken 4 = .ok (.iload_n 1, 1) := by decide +kernel
theorem d_Law_taken_5 : decode b_Law_taken 5 = .ok (.iload_n 2, 1) := by decide +kernel
theorem d_Law_taken_6 : decode b_Law_taken 6 = .ok (.iload_n 3, 1) := by decide +kernel
theorem d_Law_taken_7 : decode b_Law_taken 7 = .ok (.iload 4, 2) := by decide +kernel
theorem d_Law_taken_9 : decode b_Law_taken 9 = .ok (.invokevirtual 64, 3) := by decide +kernel
theorem d_Law_taken_12 : decode b_Law_taken 12 = .ok (.i2l, 1) := by decide +kernel
theorem d_Law_taken_13 : decode b_Law_taken 13 = .ok (.lastore, 1) := by decide +kernel
theorem d_Law_taken_14 : decode b_Law_taken 14 = .ok (.goto 11, 3) := by decide +kernel
theorem d_Law_taken_17 : decode b_Law_taken 17 = .ok (.astore 6, 2) := by decide +kernel
theorem d_Law_taken_19 : decode b_Law_taken 19 = .ok (.iconst 1, 1) := by decide +kernel
theorem d_Law_taken_20 : decode b_Law_taken 20 = .ok (.ireturn, 1) := by decide +kernel
theorem d_Law_taken_21 : decode b_Law_taken 21 = .ok (.astore 6, 2) := by decide +kernel
theorem d_Law_taken_23 : decode b_Law_taken 23 = .ok (.iconst 2, 1) := by decide +kernel
theorem d_Law_taken_24 : decode b_Law_taken 24 = .ok (.ireturn, 1) := by decide +kernel
theorem d_Law_taken_25 : decode b_Law_taken 25 = .ok (.iconst 0, 1) := by decide +kernel
theorem d_Law_taken_26 : decode b_Law_taken 26 = .ok (.ireturn, 1) := by decide +kernel
theorem d_Law_text_0 : decode b_Law_text 0 = .ok (.aload_n 3, 1) := by decide +kernel
theorem d_Law_text_1 : decode b_Law_text 1 = .ok (.iconst 0, 1) := by decide +kernel
theorem d_Law_text_2 : decode b_Law_text 2 = .ok (.aload_n 0, 1) := by decide +kernel
theorem d_Law_text_3 : decode b_Law_text 3 = .ok (.iload_n 1, 1) := by decide +kernel
theorem d_Law_text_4 : decode b_Law_text 4 = .ok (.iload_n 2, 1) := by decide +kernel
theorem d_Law_text_5 : decode b_Law_text 5 = .ok (.invokevirtual 49, 3) := by decide +kernel
theorem d_Law_text_8 : decode b_Law_text 8 = .ok (.i2l, 1) := by decide +kernel
theorem d_Law_text_9 : decode b_Law_text 9 = .ok (.lastore, 1) := by decide +kernel
theorem d_Law_text_10 : decode b_Law_text 10 = .ok (.goto 11, 3) := by decide +kernel
theorem d_Law_text_13 : decode b_Law_text 13 = .ok (.astore 4, 2) := by decide +kernel
theorem d_Law_text_15 : decode b_Law_text 15 = .ok (.iconst 1, 1) := by decide +kernel
theorem d_Law_text_16 : decode b_Law_text 16 = .ok (.ireturn, 1) := by decide +kernel
theorem d_Law_text_17 : decode b_Law_text 17 = .ok (.astore 4, 2) := by decide +kernel
theorem d_Law_text_19 : decode b_Law_text 19 = .ok (.iconst 2, 1) := by decide +kernel
theorem d_Law_text_20 : decode b_Law_text 20 = .ok (.ireturn, 1) := by decide +kernel
theorem d_Law_text_21 : decode b_Law_text 21 = .ok (.iconst 0, 1) := by decide +kernel
theorem d_Law_text_22 : decode b_Law_text 22 = .ok (.ireturn, 1) := by decide +kernel
theorem d_Law_up_0 : decode b_Law_up 0 = .ok (.aload 4, 2) := by decide +kernel
theorem d_Law_up_2 : decode b_Law_up 2 = .ok (.iconst 0, 1) := by decide +kernel
theorem d_Law_up_3 : decode b_Law_up 3 = .ok (.aload_n 0, 1) := by decide +kernel
theorem d_Law_up_4 : decode b_Law_up 4 = .ok (.iload_n 1, 1) := by decide +kernel
theorem d_Law_up_5 : decode b_Law_up 5 = .ok (.iload_n 2, 1) := by decide +kernel
theorem d_Law_up_6 : decode b_Law_up 6 = .ok (.iload_n 3, 1) := by decide +kernel
theorem d_Law_up_7 : decode b_Law_up 7 = .ok (.invokevirtual 45, 3) := by decide +kernel
theorem d_Law_up_10 : decode b_Law_up 10 = .ok (.ifCond .eq 7, 3) := by decide +kernel
theorem d_Law_up_13 : decode b_Law_up 13 = .ok (.lconst 1, 1) := by decide +kernel
theorem d_Law_up_14 : decode b_Law_up 14 = .ok (.goto 4, 3) := by decide +kernel
theorem d_Law_up_17 : decode b_Law_up 17 = .ok (.lconst 0, 1) := by decide +kernel
theorem d_Law_up_18 : decode b_Law_up 18 = .ok (.lastore, 1) := by decide +kernel
theorem d_Law_up_19 : decode b_Law_up 19 = .ok (.goto 7, 3) := by decide +kernel
theorem d_Law_up_22 : decode b_Law_up 22 = .ok (.astore 5, 2) := by decide +kernel
theorem d_Law_up_24 : decode b_Law_up 24 = .ok (.iconst 1, 1) := by decide +kernel
theorem d_Law_up_25 : decode b_Law_up 25 = .ok (.ireturn, 1) := by decide +kernel
theorem d_Law_up_26 : decode b_Law_up 26 = .ok (.iconst 0, 1) := by decide +kernel
theorem d_Law_up_27 : decode b_Law_up 27 = .ok (.ireturn, 1) := by decide +kernel
theorem d_Law_value_0 : decode b_Law_value 0 = .ok (.aload_n 3, 1) := by decide +kernel
theorem d_Law_value_1 : decode b_Law_value 1 = .ok (.iconst 0, 1) := by decide +kernel
theorem d_Law_value_2 : decode b_Law_value 2 = .ok (.aload_n 0, 1) := by decide +kernel
theorem d_Law_value_3 : decode b_Law_value 3 = .ok (.iload_n 1, 1) := by decide +kernel
theorem d_Law_value_4 : decode b_Law_value 4 = .ok (.iload_n 2, 1) := by decide +kernel
theorem d_Law_value_5 : decode b_Law_value 5 = .ok (.invokevirtual 52, 3) := by decide +kernel
theorem d_Law_value_8 : decode b_Law_value 8 = .ok (.i2l, 1) := by decide +kernel
theorem d_Law_value_9 : decode b_Law_value 9 = .ok (.lastore, 1) := by decide +kernel
theorem d_Law_value_10 : decode b_Law_value 10 = .ok (.goto 7, 3) := by decide +kernel
theorem d_Law_value_13 : decode b_Law_value 13 = .ok (.astore 4, 2) := by decide +kernel
theorem d_Law_value_15 : decode b_Law_value 15 = .ok (.iconst 1, 1) := by decide +kernel
theorem d_Law_value_16 : decode b_Law_value 16 = .ok (.ireturn, 1) := by decide +kernel
theorem d_Law_value_17 : decode b_Law_value 17 = .ok (.iconst 0, 1) := by decide +kernel
theorem d_Law_value_18 : decode b_Law_value 18 = .ok (.ireturn, 1) := by decide +kernel
theorem d_Law_write_0 : decode b_Law_write 0 = .ok (.aload 5, 2) := by decide +kernel
theorem d_Law_write_2 : decode b_Law_write 2 = .ok (.iconst 0, 1) := by decide +kernel
theorem d_Law_write_3 : decode b_Law_write 3 = .ok (.aload_n 0, 1) := by decide +kernel
theorem d_Law_write_4 : decode b_Law_write 4 = .ok (.iload_n 1, 1) := by decide +kernel
theorem d_Law_write_5 : decode b_Law_write 5 = .ok (.iload_n 2, 1) := by decide +kernel
theorem d_Law_write_6 : decode b_Law_write 6 = .ok (.iload_n 3, 1) := by decide +kernel
theorem d_Law_write_7 : decode b_Law_write 7 = .ok (.iload 4, 2) := by decide +kernel
theorem d_Law_write_9 : decode b_Law_write 9 = .ok (.invokevirtual 15, 3) := by decide +kernel
theorem d_Law_write_12 : decode b_Law_write 12 = .ok (.i2l, 1) := by decide +kernel
theorem d_Law_write_13 : decode b_Law_write 13 = .ok (.lastore, 1) := by decide +kernel
theorem d_Law_write_14 : decode b_Law_write 14 = .ok (.goto 19, 3) := by decide +kernel
theorem d_Law_write_17 : decode b_Law_write 17 = .ok (.astore 6, 2) := by decide +kernel
theorem d_Law_write_19 : decode b_Law_write 19 = .ok (.iconst 1, 1) := by decide +kernel
theorem d_Law_write_20 : decode b_Law_write 20 = .ok (.ireturn, 1) := by decide +kernel
theorem d_Law_write_21 : decode b_Law_write 21 = .ok (.astore 6, 2) := by decide +kernel
theorem d_Law_write_23 : decode b_Law_write 23 = .ok (.iconst 2, 1) := by decide +kernel
theorem d_Law_write_24 : decode b_Law_write 24 = .ok (.ireturn, 1) := by decide +kernel
theorem d_Law_write_25 : decode b_Law_write 25 = .ok (.astore 6, 2) := by decide +kernel
theorem d_Law_write_27 : decode b_Law_write 27 = .ok (.iconst 3, 1) := by decide +kernel
theorem d_Law_write_28 : decode b_Law_write 28 = .ok (.ireturn, 1) := by decide +kernel
theorem d_Law_write_29 : decode b_Law_write 29 = .ok (.astore 6, 2) := by decide +kernel
theorem d_Law_write_31 : decode b_Law_write 31 = .ok (.iconst 4, 1) := by decide +kernel
theorem d_Law_write_32 : decode b_Law_write 32 = .ok (.ireturn, 1) := by decide +kernel
theorem d_Law_write_33 : decode b_Law_write 33 = .ok (.iconst 0, 1) := by decide +kernel
theorem d_Law_write_34 : decode b_Law_write 34 = .ok (.ireturn, 1) := by decide +kernel
theorem d_Led_countReplies_0 : decode b_Led_countReplies 0 = .ok (.iconst 0, 1) := by decide +kernel
theorem d_Led_countReplies_1 : decode b_Led_countReplies 1 = .ok (.istore_n 1, 1) := by decide +kernel
theorem d_Led_countReplies_2 : decode b_Led_countReplies 2 = .ok (.iconst 0, 1) := by decide +kernel
theorem d_Led_countReplies_3 : decode b_Led_countReplies 3 = .ok (.istore_n 2, 1) := by decide +kernel
theorem d_Led_countReplies_4 : decode b_Led_countReplies 4 = .ok (.iload_n 2, 1) := by decide +kernel
theorem d_Led_countReplies_5 : decode b_Led_countReplies 5 = .ok (.aload_n 0, 1) := by decide +kernel
theorem d_Led_countReplies_6 : decode b_Led_countReplies 6 = .ok (.getfield 22, 3) := by decide +kernel
theorem d_Led_countReplies_9 : decode b_Led_countReplies 9 = .ok (.arraylength, 1) := by decide +kernel
theorem d_Led_countReplies_10 : decode b_Led_countReplies 10 = .ok (.if_icmp .ge 26, 3) := by decide +kernel
theorem d_Led_countReplies_13 : decode b_Led_countReplies 13 = .ok (.iload_n 1, 1) := by decide +kernel
theorem d_Led_countReplies_14 : decode b_Led_countReplies 14 = .ok (.aload_n 0, 1) := by decide +kernel
theorem d_Led_countReplies_15 : decode b_Led_countReplies 15 = .ok (.getfield 22, 3) := by decide +kernel
theorem d_Led_countReplies_18 : decode b_Led_countReplies 18 = .ok (.iload_n 2, 1) := by decide +kernel
theorem d_Led_countReplies_19 : decode b_Led_countReplies 19 = .ok (.baload, 1) := by decide +kernel
theorem d_Led_countReplies_20 : decode b_Led_countReplies 20 = .ok (.ifCond .eq 7, 3) := by decide +kernel
theorem d_Led_countReplies_23 : decode b_Led_countReplies 23 = .ok (.iconst 1, 1) := by decide +kernel
theorem d_Led_countReplies_24 : decode b_Led_countReplies 24 = .ok (.goto 4, 3) := by decide +kernel
theorem d_Led_countReplies_27 : decode b_Led_countReplies 27 = .ok (.iconst 0, 1) := by decide +kernel
theorem d_Led_countReplies_28 : decode b_Led_countReplies 28 = .ok (.iadd, 1) := by decide +kernel
theorem d_Led_countReplies_29 : decode b_Led_countReplies 29 = .ok (.istore_n 1, 1) := by decide +kernel
theorem d_Led_countReplies_30 : decode b_Led_countReplies 30 = .ok (.iinc 2 1, 3) := by decide +kernel
theorem d_Led_countReplies_33 : decode b_Led_countReplies 33 = .ok (.goto (-29), 3) := by decide +kernel
theorem d_Led_countReplies_36 : decode b_Led_countReplies 36 = .ok (.iload_n 1, 1) := by decide +kernel
theorem d_Led_countReplies_37 : decode b_Led_countReplies 37 = .ok (.ireturn, 1) := by decide +kernel
theorem d_Led_decidedVote_0 : decode b_Led_decidedVote 0 = .ok (.iconst 0, 1) := by decide +kernel
theorem d_Led_decidedVote_1 : decode b_Led_decidedVote 1 = .ok (.istore_n 3, 1) := by decide +kernel
theorem d_Led_decidedVote_2 : decode b_Led_decidedVote 2 = .ok (.iload_n 3, 1) := by decide +kernel
theorem d_Led_decidedVote_3 : decode b_Led_decidedVote 3 = .ok (.aload_n 0, 1) := by decide +kernel
theorem d_Led_decidedVote_4 : decode b_Led_decidedVote 4 = .ok (.getfield 31, 3) := by decide +kernel
theorem d_Led_decidedVote_7 : decode b_Led_decidedVote 7 = .ok (.arraylength, 1) := by decide +kernel
theorem d_Led_decidedVote_8 : decode b_Led_decidedVote 8 = .ok (.if_icmp .ge 83, 3) := by decide +kernel
theorem d_Led_decidedVote_11 : decode b_Led_decidedVote 11 = .ok (.aload_n 0, 1) := by decide +kernel
theorem d_Led_decidedVote_12 : decode b_Led_decidedVote 12 = .ok (.getfield 31, 3) := by decide +kernel
theorem d_Led_decidedVote_15 : decode b_Led_decidedVote 15 = .ok (.iload_n 3, 1) := by decide +kernel
theorem d_Led_decidedVote_16 : decode b_Led_decidedVote 16 = .ok (.aaload, 1) := by decide +kernel
theorem d_Led_decidedVote_17 : decode b_Led_decidedVote 17 = .ok (.iload_n 1, 1) := by decide +kernel
theorem d_Led_decidedVote_18 : decode b_Led_decidedVote 18 = .ok (.iaload, 1) := by decide +kernel
theorem d_Led_decidedVote_19 : decode b_Led_decidedVote 19 = .ok (.istore 4, 2) := by decide +kernel
theorem d_Led_decidedVote_21 : decode b_Led_decidedVote 21 = .ok (.iconst 0, 1) := by decide +kernel
theorem d_Led_decidedVote_22 : decode b_Led_decidedVote 22 = .ok (.istore 5, 2) := by decide +kernel
theorem d_Led_decidedVote_24 : decode b_Led_decidedVote 24 = .ok (.iconst 0, 1) := by decide +kernel
theorem d_Led_decidedVote_25 : decode b_Led_decidedVote 25 = .ok (.istore 6, 2) := by decide +kernel
theorem d_Led_decidedVote_27 : decode b_Led_decidedVote 27 = .ok (.iload 6, 2) := by decide +kernel
theorem d_Led_decidedVote_29 : decode b_Led_decidedVote 29 = .ok (.aload_n 0, 1) := by decide +kernel
theorem d_Led_decidedVote_30 : decode b_Led_decidedVote 30 = .ok (.getfield 31, 3) := by decide +kernel
theorem d_Led_decidedVote_33 : decode b_Led_decidedVote 33 = .ok (.arraylength, 1) := by decide +kernel
theorem d_Led_decidedVote_34 : decode b_Led_decidedVote 34 = .ok (.if_icmp .ge 33, 3) := by decide +kernel
theorem d_Led_decidedVote_37 : decode b_Led_decidedVote 37 = .ok (.iload 5, 2) := by decide +kernel
theorem d_Led_decidedVote_39 : decode b_Led_decidedVote 39 = .ok (.aload_n 0, 1) := by decide +kernel
theorem d_Led_decidedVote_40 : decode b_Led_decidedVote 40 = .ok (.getfield 31, 3) := by decide +kernel
theorem d_Led_decidedVote_43 : decode b_Led_decidedVote 43 = .ok (.iload 6, 2) := by decide +kernel
theorem d_Led_decidedVote_45 : decode b_Led_decidedVote 45 = .ok (.aaload, 1) := by decide +kernel
theorem d_Led_decidedVote_46 : decode b_Led_decidedVote 46 = .ok (.iload_n 1, 1) := by decide +kernel
theorem d_Led_decidedVote_47 : decode b_Led_decidedVote 47 = .ok (.iaload, 1) := by decide +kernel
theorem d_Led_decidedVote_48 : decode b_Led_decidedVote 48 = .ok (.iload 4, 2) := by decide +kernel
theorem d_Led_decidedVote_50 : decode b_Led_decidedVote 50 = .ok (.if_icmp .ne 7, 3) := by decide +kernel
theorem d_Led_decidedVote_53 : decode b_Led_decidedVote 53 = .ok (.iconst 1, 1) := by decide +kernel
theorem d_Led_decidedVote_54 : decode b_Led_decidedVote 54 = .ok (.goto 4, 3) := by decide +kernel
theorem d_Led_decidedVote_57 : decode b_Led_decidedVote 57 = .ok (.iconst 0, 1) := by decide +kernel
theorem d_Led_decidedVote_58 : decode b_Led_decidedVote 58 = .ok (.iadd, 1) := by decide +kernel
theorem d_Led_decidedVote_59 : decode b_Led_decidedVote 59 = .ok (.istore 5, 2) := by decide +kernel
theorem d_Led_decidedVote_61 : decode b_Led_decidedVote 61 = .ok (.iinc 6 1, 3) := by decide +kernel
theorem d_Led_decidedVote_64 : decode b_Led_decidedVote 64 = .ok (.goto (-37), 3) := by decide +kernel
theorem d_Led_decidedVote_67 : decode b_Led_decidedVote 67 = .ok (.iload 4, 2) := by decide +kernel
theorem d_Led_decidedVote_69 : decode b_Led_decidedVote 69 = .ok (.iconst (-1), 1) := by decide +kernel
theorem d_Led_decidedVote_70 : decode b_Led_decidedVote 70 = .ok (.if_icmp .eq 15, 3) := by decide +kernel
theorem d_Led_decidedVote_73 : decode b_Led_decidedVote 73 = .ok (.iload 5, 2) := by decide +kernel
theorem d_Led_decidedVote_75 : decode b_Led_decidedVote 75 = .ok (.iload_n 2, 1) := by decide +kernel
theorem d_Led_decidedVote_76 : decode b_Led_decidedVote 76 = .ok (.if_icmp .lt 9, 3) := by decide +kernel
theorem d_Led_decidedVote_79 : decode b_Led_decidedVote 79 = .ok (.iload 4, 2) := by decide +kernel
theorem d_Led_decidedVote_81 : decode b_Led_decidedVote 81 = .ok (.invokestatic 53, 3) := by decide +kernel
theorem d_Led_decidedVote_84 : decode b_Led_decidedVote 84 = .ok (.ireturn, 1) := by decide +kernel
theorem d_Led_decidedVote_85 : decode b_Led_decidedVote 85 = .ok (.iinc 3 1, 3) := by decide +kernel
theorem d_Led_decidedVote_88 : decode b_Led_decidedVote 88 = .ok (.goto (-86), 3) := by decide +kernel
theorem d_Led_decidedVote_91 : decode b_Led_decidedVote 91 = .ok (.iconst (-1), 1) := by decide +kernel
theorem d_Led_decidedVote_92 : decode b_Led_decidedVote 92 = .ok (.ireturn, 1) := by decide +kernel
theorem d_Led_dropReplies_0 : decode b_Led_dropReplies 0 = .ok (.iconst 0, 1) := by decide +kernel
theorem d_Led_dropReplies_1 : decode b_Led_dropReplies 1 = .ok (.istore_n 1, 1) := by decide +kernel
theorem d_Led_dropReplies_2 : decode b_Led_dropReplies 2 = .ok (.iload_n 1, 1) := by decide +kernel
theorem d_Led_dropReplies_3 : decode b_Led_dropReplies 3 = .ok (.aload_n 0, 1) := by decide +kernel
theorem d_Led_dropReplies_4 : decode b_Led_dropReplies 4 = .ok (.getfield 22, 3) := by decide +kernel
theorem d_Led_dropReplies_7 : decode b_Led_dropReplies 7 = .ok (.arraylength, 1) := by decide +kernel
theorem d_Led_dropReplies_8 : decode b_Led_dropReplies 8 = .ok (.if_icmp .ge 16, 3) := by decide +kernel
theorem d_Led_dropReplies_11 : decode b_Led_dropReplies 11 = .ok (.aload_n 0, 1) := by decide +kernel
theorem d_Led_dropReplies_12 : decode b_Led_dropReplies 12 = .ok (.getfield 22, 3) := by decide +kernel
theorem d_Led_dropReplies_15 : decode b_Led_dropReplies 15 = .ok (.iload_n 1, 1) := by decide +kernel
theorem d_Led_dropReplies_16 : decode b_Led_dropReplies 16 = .ok (.iconst 0, 1) := by decide +kernel
theorem d_Led_dropReplies_17 : decode b_Led_dropReplies 17 = .ok (.bastore, 1) := by decide +kernel
theorem d_Led_dropReplies_18 : decode b_Led_dropReplies 18 = .ok (.iinc 1 1, 3) := by decide +kernel
theorem d_Led_dropReplies_21 : decode b_Led_dropReplies 21 = .ok (.goto (-19), 3) := by decide +kernel
theorem d_Led_dropReplies_24 : decode b_Led_dropReplies 24 = .ok (.return_, 1) := by decide +kernel
theorem d_Led_forget_0 : decode b_Led_forget 0 = .ok (.aload_n 0, 1) := by decide +kernel
theorem d_Led_forget_1 : decode b_Led_forget 1 = .ok (.iconst 1, 1) := by decide +kernel
theorem d_Led_forget_2 : decode b_Led_forget 2 = .ok (.putfield 15, 3) := by decide +kernel
theorem d_Led_forget_5 : decode b_Led_forget 5 = .ok (.aload_n 0, 1) := by decide +kernel
theorem d_Led_forget_6 : decode b_Led_forget 6 = .ok (.iconst (-1), 1) := by decide +kernel
theorem d_Led_forget_7 : decode b_Led_forget 7 = .ok (.putfield 19, 3) := by decide +kernel
theorem d_Led_forget_10 : decode b_Led_forget 10 = .ok (.aload_n 0, 1) := by decide +kernel
theorem d_Led_forget_11 : decode b_Led_forget 11 = .ok (.invokevirtual 46, 3) := by decide +kernel
theorem d_Led_forget_14 : decode b_Led_forget 14 = .ok (.iconst 0, 1) := by decide +kernel
theorem d_Led_forget_15 : decode b_Led_forget 15 = .ok (.istore_n 1, 1) := by decide +kernel
theorem d_Led_forget_16 : decode b_Led_forget 16 = .ok (.iload_n 1, 1) := by decide +kernel
theorem d_Led_forget_17 : decode b_Led_forget 17 = .ok (.aload_n 0, 1) := by decide +kernel
theorem d_Led_forget_18 : decode b_Led_forget 18 = .ok (.getfield 31, 3) := by decide +kernel
theorem d_Led_forget_21 : decode b_Led_forget 21 = .ok (.arraylength, 1) := by decide +kernel
theorem d_Led_forget_22 : decode b_Led_forget 22 = .ok (.if_icmp .ge 19, 3) := by decide +kernel
theorem d_Led_forget_25 : decode b_Led_forget 25 = .ok (.aload_n 0, 1) := by decide +kernel
theorem d_Led_forget_26 : decode b_Led_forget 26 = .ok (.getfield 31, 3) := by decide +kernel
theorem d_Led_forget_29 : decode b_Led_forget 29 = .ok (.iload_n 1, 1) := by decide +kernel
theorem d_Led_forget_30 : decode b_Led_forget 30 = .ok (.aaload, 1) := by decide +kernel
theorem d_Led_forget_31 : decode b_Led_forget 31 = .ok (.iconst (-1), 1) := by decide +kernel
theorem d_Led_forget_32 : decode b_Led_forget 32 = .ok (.invokestatic 34, 3) := by decide +kernel
theorem d_Led_forget_35 : decode b_Led_forget 35 = .ok (.iinc 1 1, 3) := by decide +kernel
theorem d_Led_forget_38 : decode b_Led_forget 38 = .ok (.goto (-22), 3) := by decide +kernel
theorem d_Led_forget_41 : decode b_Led_forget 41 = .ok (.return_, 1) := by decide +kernel
theorem d_Led_hear_0 : decode b_Led_hear 0 = .ok (.aload_n 0, 1) := by decide +kernel
theorem d_Led_hear_1 : decode b_Led_hear 1 = .ok (.getfield 31, 3) := by decide +kernel
theorem d_Led_hear_4 : decode b_Led_hear 4 = .ok (.iload_n 1, 1) := by decide +kernel
theorem d_Led_hear_5 : decode b_Led_hear 5 = .ok (.aaload, 1) := by decide +kernel
theorem d_Led_hear_6 : decode b_Led_hear 6 = .ok (.iload_n 2, 1) := by decide +kernel
theorem d_Led_hear_7 : decode b_Led_hear 7 = .ok (.iaload, 1) := by decide +kernel
theorem d_Led_hear_8 : decode b_Led_hear 8 = .ok (.invokestatic 49, 3) := by decide +kernel
theorem d_Led_hear_11 : decode b_Led_hear 11 = .ok (.iload_n 3, 1) := by decide +kernel
theorem d_Led_hear_12 : decode b_Led_hear 12 = .ok (.if_icmp .ge 17, 3) := by decide +kernel
theorem d_Led_hear_15 : decode b_Led_hear 15 = .ok (.aload_n 0, 1) := by decide +kernel
theorem d_Led_hear_16 : decode b_Led_hear 16 = .ok (.getfield 31, 3) := by decide +kernel
theorem d_Led_hear_19 : decode b_Led_hear 19 = .ok (.iload_n 1, 1) := by decide +kernel
theorem d_Led_hear_20 : decode b_Led_hear 20 = .ok (.aaload, 1) := by decide +kernel
theorem d_Led_hear_21 : decode b_Led_hear 21 = .ok (.iload_n 2, 1) := by decide +kernel
theorem d_Led_hear_22 : decode b_Led_hear 22 = .ok (.iload_n 3, 1) := by decide +kernel
theorem d_Led_hear_23 : decode b_Led_hear 23 = .ok (.iload 4, 2) := by decide +kernel
theorem d_Led_hear_25 : decode b_Led_hear 25 = .ok (.invokestatic 56, 3) := by decide +kernel
theorem d_Led_hear_28 : decode b_Led_hear 28 = .ok (.iastore, 1) := by decide +kernel
theorem d_Led_hear_29 : decode b_Led_hear 29 = .ok (.return_, 1) := by decide +kernel
theorem d_Led_init_0 : decode b_Led_init 0 = .ok (.aload_n 0, 1) := by decide +kernel
theorem d_Led_init_1 : decode b_Led_init 1 = .ok (.invokespecial 3, 3) := by decide +kernel
theorem d_Led_init_4 : decode b_Led_init 4 = .ok (.aload_n 0, 1) := by decide +kernel
theorem d_Led_init_5 : decode b_Led_init 5 = .ok (.iconst 0, 1) := by decide +kernel
theorem d_Led_init_6 : decode b_Led_init 6 = .ok (.putfield 9, 3) := by decide +kernel
theorem d_Led_init_9 : decode b_Led_init 9 = .ok (.aload_n 0, 1) := by decide +kernel
theorem d_Led_init_10 : decode b_Led_init 10 = .ok (.iconst 0, 1) := by decide +kernel
theorem d_Led_init_11 : decode b_Led_init 11 = .ok (.putfield 15, 3) := by decide +kernel
theorem d_Led_init_14 : decode b_Led_init 14 = .ok (.aload_n 0, 1) := by decide +kernel
theorem d_Led_init_15 : decode b_Led_init 15 = .ok (.iconst (-1), 1) := by decide +kernel
theorem d_Led_init_16 : decode b_Led_init 16 = .ok (.putfield 19, 3) := by decide +kernel
theorem d_Led_init_19 : decode b_Led_init 19 = .ok (.aload_n 0, 1) := by decide +kernel
theorem d_Led_init_20 : decode b_Led_init 20 = .ok (.iload_n 1, 1) := by decide +kernel
theorem d_Led_init_21 : decode b_Led_init 21 = .ok (.newarray .boolean, 2) := by decide +kernel
theorem d_Led_init_23 : decode b_Led_init 23 = .ok (.putfield 22, 3) := by decide +kernel
theorem d_Led_init_26 : decode b_Led_init 26 = .ok (.aload_n 0, 1) := by decide +kernel
theorem d_Led_init_27 : decode b_Led_init 27 = .ok (.iload_n 1, 1) := by decide +kernel
theorem d_Led_init_28 : decode b_Led_init 28 = .ok (.iconst 3, 1) := by decide +kernel
theorem d_Led_init_29 : decode b_Led_init 29 = .ok (.multianewarray 26 2, 4) := by decide +kernel
theorem d_Led_init_33 : decode b_Led_init 33 = .ok (.putfield 28, 3) := by decide +kernel
theorem d_Led_init_36 : decode b_Led_init 36 = .ok (.aload_n 0, 1) := by decide +kernel
theorem d_Led_init_37 : decode b_Led_init 37 = .ok (.iload_n 1, 1) := by decide +kernel
theorem d_Led_init_38 : decode b_Led_init 38 = .ok (.iconst 3, 1) := by decide +kernel
theorem d_Led_init_39 : decode b_Led_init 39 = .ok (.multianewarray 26 2, 4) := by decide +kernel
theorem d_Led_init_43 : decode b_Led_init 43 = .ok (.putfield 31, 3) := by decide +kernel
theorem d_Led_init_46 : decode b_Led_init 46 = .ok (.iconst 0, 1) := by decide +kernel
theorem d_Led_init_47 : decode b_Led_init 47 = .ok (.istore_n 2, 1) := by decide +kernel
theorem d_Led_init_48 : decode b_Led_init 48 = .ok (.iload_n 2, 1) := by decide +kernel
theorem d_Led_init_49 : decode b_Led_init 49 = .ok (.iload_n 1, 1) := by decide +kernel
theorem d_Led_init_50 : decode b_Led_init 50 = .ok (.if_icmp .ge 19, 3) := by decide +kernel
theorem d_Led_init_53 : decode b_Led_init 53 = .ok (.aload_n 0, 1) := by decide +kernel
theorem d_Led_init_54 : decode b_Led_init 54 = .ok (.getfield 31, 3) := by decide +kernel
theorem d_Led_init_57 : decode b_Led_init 57 = .ok (.iload_n 2, 1) := by decide +kernel
theorem d_Led_init_58 : decode b_Led_init 58 = .ok (.aaload, 1) := by decide +kernel
theorem d_Led_init_59 : decode b_Led_init 59 = .ok (.iconst (-1), 1) := by decide +kernel
theorem d_Led_init_60 : decode b_Led_init 60 = .ok (.invokestatic 34, 3) := by decide +kernel
theorem d_Led_init_63 : decode b_Led_init 63 = .ok (.iinc 2 1, 3) := by decide +kernel
theorem d_Led_init_66 : decode b_Led_init 66 = .ok (.goto (-18), 3) := by decide +kernel
theorem d_Led_init_69 : decode b_Led_init 69 = .ok (.return_, 1) := by decide +kernel
theorem d_Led_judge_0 : decode b_Led_judge 0 = .ok (.iconst 1, 1) := by decide +kernel
theorem d_Led_judge_1 : decode b_Led_judge 1 = .ok (.istore_n 3, 1) := by decide +kernel
theorem d_Led_judge_2 : decode b_Led_judge 2 = .ok (.iconst 0, 1) := by decide +kernel
theorem d_Led_judge_3 : decode b_Led_judge 3 = .ok (.istore 4, 2) := by decide +kernel
theorem d_Led_judge_5 : decode b_Led_judge 5 = .ok (.iload 4, 2) := by decide +kernel
theorem d_Led_judge_7 : decode b_Led_judge 7 = .ok (.iconst 3, 1) := by decide +kernel
theorem d_Led_judge_8 : decode b_Led_judge 8 = .ok (.if_icmp .ge 42, 3) := by decide +kernel
theorem d_Led_judge_11 : decode b_Led_judge 11 = .ok (.iload_n 1, 1) := by decide +kernel
theorem d_Led_judge_12 : decode b_Led_judge 12 = .ok (.iload 4, 2) := by decide +kernel
theorem d_Led_judge_14 : decode b_Led_judge 14 = .ok (.invokestatic 59, 3) := by decide +kernel
theorem d_Led_judge_17 : decode b_Led_judge 17 = .ok (.ifCond .eq 27, 3) := by decide +kernel
theorem d_Led_judge_20 : decode b_Led_judge 20 = .ok (.aload_n 0, 1) := by decide +kernel
theorem d_Led_judge_21 : decode b_Led_judge 21 = .ok (.iload 4, 2) := by decide +kernel
theorem d_Led_judge_23 : decode b_Led_judge 23 = .ok (.iload_n 2, 1) := by decide +kernel
theorem d_Led_judge_24 : decode b_Led_judge 24 = .ok (.invokevirtual 63, 3) := by decide +kernel
theorem d_Led_judge_27 : decode b_Led_judge 27 = .ok (.istore 5, 2) := by decide +kernel
theorem d_Led_judge_29 : decode b_Led_judge 29 = .ok (.iload 5, 2) := by decide +kernel
theorem d_Led_judge_31 : decode b_Led_judge 31 = .ok (.ifCond .ne 5, 3) := by decide +kernel
theorem d_Led_judge_34 : decode b_Led_judge 34 = .ok (.iconst 0, 1) := by decide +kernel
theorem d_Led_judge_35 : decode b_Led_judge 35 = .ok (.ireturn, 1) := by decide +kernel
theorem d_Led_judge_36 : decode b_Led_judge 36 = .ok (.iload 5, 2) := by decide +kernel
theorem d_Led_judge_38 : decode b_Led_judge 38 = .ok (.iconst (-1), 1) := by decide +kernel
theorem d_Led_judge_39 : decode b_Led_judge 39 = .ok (.if_icmp .ne 5, 3) := by decide +kernel
theorem d_Led_judge_42 : decode b_Led_judge 42 = .ok (.iconst (-1), 1) := by decide +kernel
theorem d_Led_judge_43 : decode b_Led_judge 43 = .ok (.istore_n 3, 1) := by decide +kernel
theorem d_Led_judge_44 : decode b_Led_judge 44 = .ok (.iinc 4 1, 3) := by decide +kernel
theorem d_Led_judge_47 : decode b_Led_judge 47 = .ok (.goto (-42), 3) := by decide +kernel
theorem d_Led_judge_50 : decode b_Led_judge 50 = .ok (.iload_n 3, 1) := by decide +kernel
theorem d_Led_judge_51 : decode b_Led_judge 51 = .ok (.ireturn, 1) := by decide +kernel
theorem d_Led_keepReply_0 : decode b_Led_keepReply 0 = .ok (.aload_n 0, 1) := by decide +kernel
theorem d_Led_keepReply_1 : decode b_Led_keepReply 1 = .ok (.getfield 22, 3) := by decide +kernel
theorem d_Led_keepReply_4 : decode b_Led_keepReply 4 = .ok (.iload_n 1, 1) := by decide +kernel
theorem d_Led_keepReply_5 : decode b_Led_keepReply 5 = .ok (.iconst 1, 1) := by decide +kernel
theorem d_Led_keepReply_6 : decode b_Led_keepReply 6 = .ok (.bastore, 1) := by decide +kernel
theorem d_Led_keepReply_7 : decode b_Led_keepReply 7 = .ok (.iconst 0, 1) := by decide +kernel
theorem d_Led_keepReply_8 : decode b_Led_keepReply 8 = .ok (.istore_n 3, 1) := by decide +kernel
theorem d_Led_keepReply_9 : decode b_Led_keepReply 9 = .ok (.iload_n 3, 1) := by decide +kernel
theorem d_Led_keepReply_10 : decode b_Led_keepReply 10 = .ok (.iconst 3, 1) := by decide +kernel
theorem d_Led_keepReply_11 : decode b_Led_keepReply 11 = .ok (.if_icmp .ge 20, 3) := by decide +kernel
theorem d_Led_keepReply_14 : decode b_Led_keepReply 14 = .ok (.aload_n 0, 1) := by decide +kernel
theorem d_Led_keepReply_15 : decode b_Led_keepReply 15 = .ok (.getfield 28, 3) := by decide +kernel
theorem d_Led_keepReply_18 : decode b_Led_keepReply 18 = .ok (.iload_n 1, 1) := by decide +kernel
theorem d_Led_keepReply_19 : decode b_Led_keepReply 19 = .ok (.aaload, 1) := by decide +kernel
theorem d_Led_keepReply_20 : decode b_Led_keepReply 20 = .ok (.iload_n 3, 1) := by decide +kernel
theorem d_Led_keepReply_21 : decode b_Led_keepReply 21 = .ok (.aload_n 2, 1) := by decide +kernel
theorem d_Led_keepReply_22 : decode b_Led_keepReply 22 = .ok (.iload_n 3, 1) := by decide +kernel
theorem d_Led_keepReply_23 : decode b_Led_keepReply 23 = .ok (.iaload, 1) := by decide +kernel
theorem d_Led_keepReply_24 : decode b_Led_keepReply 24 = .ok (.iastore, 1) := by decide +kernel
theorem d_Led_keepReply_25 : decode b_Led_keepReply 25 = .ok (.iinc 3 1, 3) := by decide +kernel
theorem d_Led_keepReply_28 : decode b_Led_keepReply 28 = .ok (.goto (-19), 3) := by decide +kernel
theorem d_Led_keepReply_31 : decode b_Led_keepReply 31 = .ok (.return_, 1) := by decide +kernel
theorem d_Led_raiseBallot_0 : decode b_Led_raiseBallot 0 = .ok (.aload_n 0, 1) := by decide +kernel
theorem d_Led_raiseBallot_1 : decode b_Led_raiseBallot 1 = .ok (.dup, 1) := by decide +kernel
theorem d_Led_raiseBallot_2 : decode b_Led_raiseBallot 2 = .ok (.getfield 9, 3) := by decide +kernel
theorem d_Led_raiseBallot_5 : decode b_Led_raiseBallot 5 = .ok (.iconst 1, 1) := by decide +kernel
theorem d_Led_raiseBallot_6 : decode b_Led_raiseBallot 6 = .ok (.iadd, 1) := by decide +kernel
theorem d_Led_raiseBallot_7 : decode b_Led_raiseBallot 7 = .ok (.putfield 9, 3) := by decide +kernel
theorem d_Led_raiseBallot_10 : decode b_Led_raiseBallot 10 = .ok (.aload_n 0, 1) := by decide +kernel
theorem d_Led_raiseBallot_11 : decode b_Led_raiseBallot 11 = .ok (.getfield 9, 3) := by decide +kernel
theorem d_Led_raiseBallot_14 : decode b_Led_raiseBallot 14 = .ok (.iconst 2, 1) := by decide +kernel
theorem d_Led_raiseBallot_15 : decode b_Led_raiseBallot 15 = .ok (.invokestatic 40, 3) := by decide +kernel
theorem d_Led_raiseBallot_18 : decode b_Led_raiseBallot 18 = .ok (.iload_n 1, 1) := by decide +kernel
theorem d_Led_raiseBallot_19 : decode b_Led_raiseBallot 19 = .ok (.if_icmp .eq 13, 3) := by decide +kernel
theorem d_Led_raiseBallot_22 : decode b_Led_raiseBallot 22 = .ok (.aload_n 0, 1) := by decide +kernel
theorem d_Led_raiseBallot_23 : decode b_Led_raiseBallot 23 = .ok (.dup, 1) := by decide +kernel
theorem d_Led_raiseBallot_24 : decode b_Led_raiseBallot 24 = .ok (.getfield 9, 3) := by decide +kernel
theorem d_Led_raiseBallot_27 : decode b_Led_raiseBallot 27 = .ok (.iconst 1, 1) := by decide +kernel
theorem d_Led_raiseBallot_28 : decode b_Led_raiseBallot 28 = .ok (.iadd, 1) := by decide +kernel
theorem d_Led_raiseBallot_29 : decode b_Led_raiseBallot 29 = .ok (.putfield 9, 3) := by decide +kernel
theorem d_Led_raiseBallot_32 : decode b_Led_raiseBallot 32 = .ok (.aload_n 0, 1) := by decide +kernel
theorem d_Led_raiseBallot_33 : decode b_Led_raiseBallot 33 = .ok (.iconst 0, 1) := by decide +kernel
theorem d_Led_raiseBallot_34 : decode b_Led_raiseBallot 34 = .ok (.putfield 15, 3) := by decide +kernel
theorem d_Led_raiseBallot_37 : decode b_Led_raiseBallot 37 = .ok (.aload_n 0, 1) := by decide +kernel
theorem d_Led_raiseBallot_38 : decode b_Led_raiseBallot 38 = .ok (.invokevirtual 46, 3) := by decide +kernel
theorem d_Led_raiseBallot_41 : decode b_Led_raiseBallot 41 = .ok (.aload_n 0, 1) := by decide +kernel
theorem d_Led_raiseBallot_42 : decode b_Led_raiseBallot 42 = .ok (.getfield 9, 3) := by decide +kernel
theorem d_Led_raiseBallot_45 : decode b_Led_raiseBallot 45 = .ok (.ireturn, 1) := by decide +kernel
theorem d_Led_voteToPropose_0 : decode b_Led_voteToPropose 0 = .ok (.iconst (-1), 1) := by decide +kernel
theorem d_Led_voteToPropose_1 : decode b_Led_voteToPropose 1 = .ok (.istore_n 2, 1) := by decide +kernel
theorem d_Led_voteToPropose_2 : decode b_Led_voteToPropose 2 = .ok (.iconst 0, 1) := by decide +kernel
theorem d_Led_voteToPropose_3 : decode b_Led_voteToPropose 3 = .ok (.istore_n 3, 1) := by decide +kernel
theorem d_Led_voteToPropose_4 : decode b_Led_voteToPropose 4 = .ok (.iload_n 3, 1) := by decide +kernel
theorem d_Led_voteToPropose_5 : decode b_Led_voteToPropose 5 = .ok (.aload_n 0, 1) := by decide +kernel
theorem d_Led_voteToPropose_6 : decode b_Led_voteToPropose 6 = .ok (.getfield 22, 3) := by decide +kernel
theorem d_Led_voteToPropose_9 : decode b_Led_voteToPropose 9 = .ok (.arraylength, 1) := by decide +kernel
theorem d_Led_voteToPropose_10 : decode b_Led_voteToPropose 10 = .ok (.if_icmp .ge 45, 3) := by decide +kernel
theorem d_Led_voteToPropose_13 : decode b_Led_voteToPropose 13 = .ok (.aload_n 0, 1) := by decide +kernel
theorem d_Led_voteToPropose_14 : decode b_Led_voteToPropose 14 = .ok (.getfield 22, 3) := by decide +kernel
theorem d_Led_voteToPropose_17 : decode b_Led_voteToPropose 17 = .ok (.iload_n 3, 1) := by decide +kernel
theorem d_Led_voteToPropose_18 : decode b_Led_voteToPropose 18 = .ok (.baload, 1) := by decide +kernel
theorem d_Led_voteToPropose_19 : decode b_Led_voteToPropose 19 = .ok (.ifCond .eq 30, 3) := by decide +kernel
theorem d_Led_voteToPropose_22 : decode b_Led_voteToPropose 22 = .ok (.aload_n 0, 1) := by decide +kernel
theorem d_Led_voteToPropose_23 : decode b_Led_voteToPropose 23 = .ok (.getfield 28, 3) := by decide +kernel
theorem d_Led_voteToPropose_26 : decode b_Led_voteToPropose 26 = .ok (.iload_n 3, 1) := by decide +kernel
theorem d_Led_voteToPropose_27 : decode b_Led_voteToPropose 27 = .ok (.aaload, 1) := by decide +kernel
theorem d_Led_voteToPropose_28 : decode b_Led_voteToPropose 28 = .ok (.iload_n 1, 1) := by decide +kernel
theorem d_Led_voteToPropose_29 : decode b_Led_voteToPropose 29 = .ok (.iaload, 1) := by decide +kernel
theorem d_Led_voteToPropose_30 : decode b_Led_voteToPropose 30 = .ok (.invokestatic 49, 3) := by decide +kernel
theorem d_Led_voteToPropose_33 : decode b_Led_voteToPropose 33 = .ok (.iload_n 2, 1) := by decide +kernel
theorem d_Led_voteToPropose_34 : decode b_Led_voteToPropose 34 = .ok (.invokestatic 49, 3) := by decide +kernel
theorem d_Led_voteToPropose_37 : decode b_Led_voteToPropose 37 = .ok (.if_icmp .le 12, 3) := by decide +kernel
theorem d_Led_voteToPropose_40 : decode b_Led_voteToPropose 40 = .ok (.aload_n 0, 1) := by decide +kernel
theorem d_Led_voteToPropose_41 : decode b_Led_voteToPropose 41 = .ok (.getfield 28, 3) := by decide +kernel
theorem d_Led_voteToPropose_44 : decode b_Led_voteToPropose 44 = .ok (.iload_n 3, 1) := by decide +kernel
theorem d_Led_voteToPropose_45 : decode b_Led_voteToPropose 45 = .ok (.aaload, 1) := by decide +kernel
theorem d_Led_voteToPropose_46 : decode b_Led_voteToPropose 46 = .ok (.iload_n 1, 1) := by decide +kernel
theorem d_Led_voteToPropose_47 : decode b_Led_voteToPropose 47 = .ok (.iaload, 1) := by decide +kernel
theorem d_Led_voteToPropose_48 : decode b_Led_voteToPropose 48 = .ok (.istore_n 2, 1) := by decide +kernel
theorem d_Led_voteToPropose_49 : decode b_Led_voteToPropose 49 = .ok (.iinc 3 1, 3) := by decide +kernel
theorem d_Led_voteToPropose_52 : decode b_Led_voteToPropose 52 = .ok (.goto (-48), 3) := by decide +kernel
theorem d_Led_voteToPropose_55 : decode b_Led_voteToPropose 55 = .ok (.iload_n 2, 1) := by decide +kernel
theorem d_Led_voteToPropose_56 : decode b_Led_voteToPropose 56 = .ok (.iconst (-1), 1) := by decide +kernel
theorem d_Led_voteToPropose_57 : decode b_Led_voteToPropose 57 = .ok (.if_icmp .ne 7, 3) := by decide +kernel
theorem d_Led_voteToPropose_60 : decode b_Led_voteToPropose 60 = .ok (.iconst 0, 1) := by decide +kernel
theorem d_Led_voteToPropose_61 : decode b_Led_voteToPropose 61 = .ok (.goto 7, 3) := by decide +kernel
theorem d_Led_voteToPropose_64 : decode b_Led_voteToPropose 64 = .ok (.iload_n 2, 1) := by decide +kernel
theorem d_Led_voteToPropose_65 : decode b_Led_voteToPropose 65 = .ok (.invokestatic 53, 3) := by decide +kernel
theorem d_Led_voteToPropose_68 : decode b_Led_voteToPropose 68 = .ok (.ireturn, 1) := by decide +kernel
theorem d_Math_floorMod_0 : decode b_Math_floorMod 0 = .ok (.iload_n 0, 1) := by decide +kernel
theorem d_Math_floorMod_1 : decode b_Math_floorMod 1 = .ok (.iload_n 1, 1) := by decide +kernel
theorem d_Math_floorMod_2 : decode b_Math_floorMod 2 = .ok (.irem, 1) := by decide +kernel
theorem d_Math_floorMod_3 : decode b_Math_floorMod 3 = .ok (.istore_n 2, 1) := by decide +kernel
theorem d_Math_floorMod_4 : decode b_Math_floorMod 4 = .ok (.iload_n 0, 1) := by decide +kernel
theorem d_Math_floorMod_5 : decode b_Math_floorMod 5 = .ok (.iload_n 1, 1) := by decide +kernel
theorem d_Math_floorMod_6 : decode b_Math_floorMod 6 = .ok (.ixor, 1) := by decide +kernel
theorem d_Math_floorMod_7 : decode b_Math_floorMod 7 = .ok (.ifCond .ge 11, 3) := by decide +kernel
theorem d_Math_floorMod_10 : decode b_Math_floorMod 10 = .ok (.iload_n 2, 1) := by decide +kernel
theorem d_Math_floorMod_11 : decode b_Math_floorMod 11 = .ok (.ifCond .eq 7, 3) := by decide +kernel
theorem d_Math_floorMod_14 : decode b_Math_floorMod 14 = .ok (.iload_n 2, 1) := by decide +kernel
theorem d_Math_floorMod_15 : decode b_Math_floorMod 15 = .ok (.iload_n 1, 1) := by decide +kernel
theorem d_Math_floorMod_16 : decode b_Math_floorMod 16 = .ok (.iadd, 1) := by decide +kernel
theorem d_Math_floorMod_17 : decode b_Math_floorMod 17 = .ok (.ireturn, 1) := by decide +kernel
theorem d_Math_floorMod_18 : decode b_Math_floorMod 18 = .ok (.iload_n 2, 1) := by decide +kernel
theorem d_Math_floorMod_19 : decode b_Math_floorMod 19 = .ok (.ireturn, 1) := by decide +kernel
theorem d_Math_max_0 : decode b_Math_max 0 = .ok (.iload_n 0, 1) := by decide +kernel
theorem d_Math_max_1 : decode b_Math_max 1 = .ok (.iload_n 1, 1) := by decide +kernel
theorem d_Math_max_2 : decode b_Math_max 2 = .ok (.if_icmp .lt 7, 3) := by decide +kernel
theorem d_Math_max_5 : decode b_Math_max 5 = .ok (.iload_n 0, 1) := by decide +kernel
theorem d_Math_max_6 : decode b_Math_max 6 = .ok (.goto 4, 3) := by decide +kernel
theorem d_Math_max_9 : decode b_Math_max 9 = .ok (.iload_n 1, 1) := by decide +kernel
theorem d_Math_max_10 : decode b_Math_max 10 = .ok (.ireturn, 1) := by decide +kernel
theorem d_Math_min_0 : decode b_Math_min 0 = .ok (.iload_n 0, 1) := by decide +kernel
theorem d_Math_min_1 : decode b_Math_min 1 = .ok (.iload_n 1, 1) := by decide +kernel
theorem d_Math_min_2 : decode b_Math_min 2 = .ok (.if_icmp .gt 7, 3) := by decide +kernel
theorem d_Math_min_5 : decode b_Math_min 5 = .ok (.iload_n 0, 1) := by decide +kernel
theorem d_Math_min_6 : decode b_Math_min 6 = .ok (.goto 4, 3) := by decide +kernel
theorem d_Math_min_9 : decode b_Math_min 9 = .ok (.iload_n 1, 1) := by decide +kernel
theorem d_Math_min_10 : decode b_Math_min 10 = .ok (.ireturn, 1) := by decide +kernel
theorem d_Mo_abort_0 : decode b_Mo_abort 0 = .ok (.aload_n 0, 1) := by decide +kernel
theorem d_Mo_abort_1 : decode b_Mo_abort 1 = .ok (.getfield 32, 3) := by decide +kernel
theorem d_Mo_abort_4 : decode b_Mo_abort 4 = .ok (.iconst 3, 1) := by decide +kernel
theorem d_Mo_abort_5 : decode b_Mo_abort 5 = .ok (.iload_n 1, 1) := by decide +kernel
theorem d_Mo_abort_6 : decode b_Mo_abort 6 = .ok (.imul, 1) := by decide +kernel
theorem d_Mo_abort_7 : decode b_Mo_abort 7 = .ok (.iload_n 2, 1) := by decide +kernel
theorem d_Mo_abort_8 : decode b_Mo_abort 8 = .ok (.iadd, 1) := by decide +kernel
theorem d_Mo_abort_9 : decode b_Mo_abort 9 = .ok (.iconst 4, 1) := by decide +kernel
theorem d_Mo_abort_10 : decode b_Mo_abort 10 = .ok (.iastore, 1) := by decide +kernel
theorem d_Mo_abort_11 : decode b_Mo_abort 11 = .ok (.aload_n 0, 1) := by decide +kernel
theorem d_Mo_abort_12 : decode b_Mo_abort 12 = .ok (.iload_n 1, 1) := by decide +kernel
theorem d_Mo_abort_13 : decode b_Mo_abort 13 = .ok (.iload_n 2, 1) := by decide +kernel
theorem d_Mo_abort_14 : decode b_Mo_abort 14 = .ok (.invokevirtual 98, 3) := by decide +kernel
theorem d_Mo_abort_17 : decode b_Mo_abort 17 = .ok (.return_, 1) := by decide +kernel
theorem d_Mo_accept_0 : decode b_Mo_accept 0 = .ok (.bipush 24, 2) := by decide +kernel
theorem d_Mo_accept_2 : decode b_Mo_accept 2 = .ok (.iload_n 3, 1) := by decide +kernel
theorem d_Mo_accept_3 : decode b_Mo_accept 3 = .ok (.imul, 1) := by decide +kernel
theorem d_Mo_accept_4 : decode b_Mo_accept 4 = .ok (.iconst 3, 1) := by decide +kernel
theorem d_Mo_accept_5 : decode b_Mo_accept 5 = .ok (.iload_n 1, 1) := by decide +kernel
theorem d_Mo_accept_6 : decode b_Mo_accept 6 = .ok (.imul, 1) := by decide +kernel
theorem d_Mo_accept_7 : decode b_Mo_accept 7 = .ok (.iadd, 1) := by decide +kernel
theorem d_Mo_accept_8 : decode b_Mo_accept 8 = .ok (.iload_n 2, 1) := by decide +kernel
theorem d_Mo_accept_9 : decode b_Mo_accept 9 = .ok (.iadd, 1) := by decide +kernel
theorem d_Mo_accept_10 : decode b_Mo_accept 10 = .ok (.istore 6, 2) := by decide +kernel
theorem d_Mo_accept_12 : decode b_Mo_accept 12 = .ok (.aload_n 0, 1) := by decide +kernel
theorem d_Mo_accept_13 : decode b_Mo_accept 13 = .ok (.getfield 41, 3) := by decide +kernel
theorem d_Mo_accept_16 : decode b_Mo_accept 16 = .ok (.iload 6, 2) := by decide +kernel
theorem d_Mo_accept_18 : decode b_Mo_accept 18 = .ok (.iaload, 1) := by decide +kernel
theorem d_Mo_accept_19 : decode b_Mo_accept 19 = .ok (.iload 4, 2) := by decide +kernel
theorem d_Mo_accept_21 : decode b_Mo_accept 21 = .ok (.if_icmp .le 4, 3) := by decide +kernel
theorem d_Mo_accept_24 : decode b_Mo_accept 24 = .ok (.return_, 1) := by decide +kernel
theorem d_Mo_accept_25 : decode b_Mo_accept 25 = .ok (.aload_n 0, 1) := by decide +kernel
theorem d_Mo_accept_26 : decode b_Mo_accept 26 = .ok (.getfield 41, 3) := by decide +kernel
theorem d_Mo_accept_29 : decode b_Mo_accept 29 = .ok (.iload 6, 2) := by decide +kernel
theorem d_Mo_accept_31 : decode b_Mo_accept 31 = .ok (.iload 4, 2) := by decide +kernel
theorem d_Mo_accept_33 : decode b_Mo_accept 33 = .ok (.iastore, 1) := by decide +kernel
theorem d_Mo_accept_34 : decode b_Mo_accept 34 = .ok (.aload_n 0, 1) := by decide +kernel
theorem d_Mo_accept_35 : decode b_Mo_accept 35 = .ok (.getfield 44, 3) := by decide +kernel
theorem d_Mo_accept_38 : decode b_Mo_accept 38 = .ok (.iload 6, 2) := by decide +kernel
theorem d_Mo_accept_40 : decode b_Mo_accept 40 = .ok (.iload 4, 2) := by decide +kernel
theorem d_Mo_accept_42 : decode b_Mo_accept 42 = .ok (.iastore, 1) := by decide +kernel
theorem d_Mo_accept_43 : decode b_Mo_accept 43 = .ok (.aload_n 0, 1) := by decide +kernel
theorem d_Mo_accept_44 : decode b_Mo_accept 44 = .ok (.getfield 47, 3) := by decide +kernel
theorem d_Mo_accept_47 : decode b_Mo_accept 47 = .ok (.iload 6, 2) := by decide +kernel
theorem d_Mo_accept_49 : decode b_Mo_accept 49 = .ok (.iload 5, 2) := by decide +kernel
theorem d_Mo_accept_51 : decode b_Mo_accept 51 = .ok (.iastore, 1) := by decide +kernel
theorem d_Mo_accept_52 : decode b_Mo_accept 52 = .ok (.iconst 0, 1) := by decide +kernel
theorem d_Mo_accept_53 : decode b_Mo_accept 53 = .ok (.istore 7, 2) := by decide +kernel
theorem d_Mo_accept_55 : decode b_Mo_accept 55 = .ok (.iload 7, 2) := by decide +kernel
theorem d_Mo_accept_57 : decode b_Mo_accept 57 = .ok (.iconst 2, 1) := by decide +kernel
theorem d_Mo_accept_58 : decode b_Mo_accept 58 = .ok (.if_icmp .ge 26, 3) := by decide +kernel
theorem d_Mo_accept_61 : decode b_Mo_accept 61 = .ok (.aload_n 0, 1) := by decide +kernel
theorem d_Mo_accept_62 : decode b_Mo_accept 62 = .ok (.bipush 84, 2) := by decide +kernel
theorem d_Mo_accept_64 : decode b_Mo_accept 64 = .ok (.iload_n 1, 1) := by decide +kernel
theorem d_Mo_accept_65 : decode b_Mo_accept 65 = .ok (.iload_n 2, 1) := by decide +kernel
theorem d_Mo_accept_66 : decode b_Mo_accept 66 = .ok (.iload_n 3, 1) := by decide +kernel
theorem d_Mo_accept_67 : decode b_Mo_accept 67 = .ok (.iload 7, 2) := by decide +kernel
theorem d_Mo_accept_69 : decode b_Mo_accept 69 = .ok (.iload 4, 2) := by decide +kernel
theorem d_Mo_accept_71 : decode b_Mo_accept 71 = .ok (.iload 5, 2) := by decide +kernel
theorem d_Mo_accept_73 : decode b_Mo_accept 73 = .ok (.invokevirtual 94, 3) := by decide +kernel
theorem d_Mo_accept_76 : decode b_Mo_accept 76 = .ok (.istore 8, 2) := by decide +kernel
theorem d_Mo_accept_78 : decode b_Mo_accept 78 = .ok (.iinc 7 1, 3) := by decide +kernel
theorem d_Mo_accept_81 : decode b_Mo_accept 81 = .ok (.goto (-26), 3) := by decide +kernel
theorem d_Mo_accept_84 : decode b_Mo_accept 84 = .ok (.return_, 1) := by decide +kernel
theorem d_Mo_arrive_0 : decode b_Mo_arrive 0 = .ok (.aload_n 0, 1) := by decide +kernel
theorem d_Mo_arrive_1 : decode b_Mo_arrive 1 = .ok (.getfield 74, 3) := by decide +kernel
theorem d_Mo_arrive_4 : decode b_Mo_arrive 4 = .ok (.iload_n 1, 1) := by decide +kernel
theorem d_Mo_arrive_5 : decode b_Mo_arrive 5 = .ok (.iconst 1, 1) := by decide +kernel
theorem d_Mo_arrive_6 : decode b_Mo_arrive 6 = .ok (.iadd, 1) := by decide +kernel
theorem d_Mo_arrive_7 : decode b_Mo_arrive 7 = .ok (.iaload, 1) := by decide +kernel
theorem d_Mo_arrive_8 : decode b_Mo_arrive 8 = .ok (.istore_n 2, 1) := by decide +kernel
theorem d_Mo_arrive_9 : decode b_Mo_arrive 9 = .ok (.aload_n 0, 1) := by decide +kernel
theorem d_Mo_arrive_10 : decode b_Mo_arrive 10 = .ok (.getfield 74, 3) := by decide +kernel
theorem d_Mo_arrive_13 : decode b_Mo_arrive 13 = .ok (.iload_n 1, 1) := by decide +kernel
theorem d_Mo_arrive_14 : decode b_Mo_arrive 14 = .ok (.iconst 2, 1) := by decide +kernel
theorem d_Mo_arrive_15 : decode b_Mo_arrive 15 = .ok (.iadd, 1) := by decide +kernel
theorem d_Mo_arrive_16 : decode b_Mo_arrive 16 = .ok (.iaload, 1) := by decide +kernel
theorem d_Mo_arrive_17 : decode b_Mo_arrive 17 = .ok (.istore_n 3, 1) := by decide +kernel
theorem d_Mo_arrive_18 : decode b_Mo_arrive 18 = .ok (.aload_n 0, 1) := by decide +kernel
theorem d_Mo_arrive_19 : decode b_Mo_arrive 19 = .ok (.getfield 74, 3) := by decide +kernel
theorem d_Mo_arrive_22 : decode b_Mo_arrive 22 = .ok (.iload_n 1, 1) := by decide +kernel
theorem d_Mo_arrive_23 : decode b_Mo_arrive 23 = .ok (.iconst 3, 1) := by decide +kernel
theorem d_Mo_arrive_24 : decode b_Mo_arrive 24 = .ok (.iadd, 1) := by decide +kernel
theorem d_Mo_arrive_25 : decode b_Mo_arrive 25 = .ok (.iaload, 1) := by decide +kernel
theorem d_Mo_arrive_26 : decode b_Mo_arrive 26 = .ok (.istore 4, 2) := by decide +kernel
theorem d_Mo_arrive_28 : decode b_Mo_arrive 28 = .ok (.aload_n 0, 1) := by decide +kernel
theorem d_Mo_arrive_29 : decode b_Mo_arrive 29 = .ok (.getfield 74, 3) := by decide +kernel
theorem d_Mo_arrive_32 : decode b_Mo_arrive 32 = .ok (.iload_n 1, 1) := by decide +kernel
theorem d_Mo_arrive_33 : decode b_Mo_arrive 33 = .ok (.iconst 4, 1) := by decide +kernel
theorem d_Mo_arrive_34 : decode b_Mo_arrive 34 = .ok (.iadd, 1) := by decide +kernel
theorem d_Mo_arrive_35 : decode b_Mo_arrive 35 = .ok (.iaload, 1) := by decide +kernel
theorem d_Mo_arrive_36 : decode b_Mo_arrive 36 = .ok (.istore 5, 2) := by decide +kernel
theorem d_Mo_arrive_38 : decode b_Mo_arrive 38 = .ok (.aload_n 0, 1) := by decide +kernel
theorem d_Mo_arrive_39 : decode b_Mo_arrive 39 = .ok (.getfield 74, 3) := by decide +kernel
theorem d_Mo_arrive_42 : decode b_Mo_arrive 42 = .ok (.iload_n 1, 1) := by decide +kernel
theorem d_Mo_arrive_43 : decode b_Mo_arrive 43 = .ok (.iconst 5, 1) := by decide +kernel
theorem d_Mo_arrive_44 : decode b_Mo_arrive 44 = .ok (.iadd, 1) := by decide +kernel
theorem d_Mo_arrive_45 : decode b_Mo_arrive 45 = .ok (.iaload, 1) := by decide +kernel
theorem d_Mo_arrive_46 : decode b_Mo_arrive 46 = .ok (.istore 6, 2) := by decide +kernel
theorem d_Mo_arrive_48 : decode b_Mo_arrive 48 = .ok (.aload_n 0, 1) := by decide +kernel
theorem d_Mo_arrive_49 : decode b_Mo_arrive 49 = .ok (.getfield 74, 3) := by decide +kernel
theorem d_Mo_arrive_52 : decode b_Mo_arrive 52 = .ok (.iload_n 1, 1) := by decide +kernel
theorem d_Mo_arrive_53 : decode b_Mo_arrive 53 = .ok (.bipush 6, 2) := by decide +kernel
theorem d_Mo_arrive_55 : decode b_Mo_arrive 55 = .ok (.iadd, 1) := by decide +kernel
theorem d_Mo_arrive_56 : decode b_Mo_arrive 56 = .ok (.iaload, 1) := by decide +kernel
theorem d_Mo_arrive_57 : decode b_Mo_arrive 57 = .ok (.istore 7, 2) := by decide +kernel
theorem d_Mo_arrive_59 : decode b_Mo_arrive 59 = .ok (.aload_n 0, 1) := by decide +kernel
theorem d_Mo_arrive_60 : decode b_Mo_arrive 60 = .ok (.getfield 74, 3) := by decide +kernel
theorem d_Mo_arrive_63 : decode b_Mo_arrive 63 = .ok (.iload_n 1, 1) := by decide +kernel
theorem d_Mo_arrive_64 : decode b_Mo_arrive 64 = .ok (.iaload, 1) := by decide +kernel
theorem d_Mo_arrive_65 : decode b_Mo_arrive 65 = .ok (.lookupswitch 168 #[(65, 69), (80, 51), (82, 91), (84, 141), (86, 116)], 51) := by decide +kernel
theorem d_Mo_arrive_116 : decode b_Mo_arrive 116 = .ok (.aload_n 0, 1) := by decide +kernel
theorem d_Mo_arrive_117 : decode b_Mo_arrive 117 = .ok (.getfield 7, 3) := by decide +kernel
theorem d_Mo_arrive_120 : decode b_Mo_arrive 120 = .ok (.iload_n 3, 1) := by decide +kernel
theorem d_Mo_arrive_121 : decode b_Mo_arrive 121 = .ok (.baload, 1) := by decide +kernel
theorem d_Mo_arrive_122 : decode b_Mo_arrive 122 = .ok (.ifCond .ne 128, 3) := by decide +kernel
theorem d_Mo_arrive_125 : decode b_Mo_arrive 125 = .ok (.aload_n 0, 1) := by decide +kernel
theorem d_Mo_arrive_126 : decode b_Mo_arrive 126 = .ok (.iload_n 2, 1) := by decide +kernel
theorem d_Mo_arrive_127 : decode b_Mo_arrive 127 = .ok (.iload_n 3, 1) := by decide +kernel
theorem d_Mo_arrive_128 : decode b_Mo_arrive 128 = .ok (.invokevirtual 137, 3) := by decide +kernel
theorem d_Mo_arrive_131 : decode b_Mo_arrive 131 = .ok (.goto 119, 3) := by decide +kernel
theorem d_Mo_arrive_134 : decode b_Mo_arrive 134 = .ok (.aload_n 0, 1) := by decide +kernel
theorem d_Mo_arrive_135 : decode b_Mo_arrive 135 = .ok (.getfield 13, 3) := by decide +kernel
theorem d_Mo_arrive_138 : decode b_Mo_arrive 138 = .ok (.iload 4, 2) := by decide +kernel
theorem d_Mo_arrive_140 : decode b_Mo_arrive 140 = .ok (.baload, 1) := by decide +kernel
theorem d_Mo_arrive_141 : decode b_Mo_arrive 141 = .ok (.ifCond .ne 109, 3) := by decide +kernel
theorem d_Mo_arrive_144 : decode b_Mo_arrive 144 = .ok (.aload_n 0, 1) := by decide +kernel
theorem d_Mo_arrive_145 : decode b_Mo_arrive 145 = .ok (.iload_n 2, 1) := by decide +kernel
theorem d_Mo_arrive_146 : decode b_Mo_arrive 146 = .ok (.iload 4, 2) := by decide +kernel
theorem d_Mo_arrive_148 : decode b_Mo_arrive 148 = .ok (.iload 6, 2) := by decide +kernel
theorem d_Mo_arrive_150 : decode b_Mo_arrive 150 = .ok (.invokevirtual 140, 3) := by decide +kernel
theorem d_Mo_arrive_153 : decode b_Mo_arrive 153 = .ok (.goto 97, 3) := by decide +kernel
theorem d_Mo_arrive_156 : decode b_Mo_arrive 156 = .ok (.aload_n 0, 1) := by decide +kernel
theorem d_Mo_arrive_157 : decode b_Mo_arrive 157 = .ok (.getfield 16, 3) := by decide +kernel
theorem d_Mo_arrive_160 : decode b_Mo_arrive 160 = .ok (.iload 5, 2) := by decide +kernel
theorem d_Mo_arrive_162 : decode b_Mo_arrive 162 = .ok (.baload, 1) := by decide +kernel
theorem d_Mo_arrive_163 : decode b_Mo_arrive 163 = .ok (.ifCond .ne 87, 3) := by decide +kernel
theorem d_Mo_arrive_166 : decode b_Mo_arrive 166 = .ok (.aload_n 0, 1) := by decide +kernel
theorem d_Mo_arrive_167 : decode b_Mo_arrive 167 = .ok (.iload 5, 2) := by decide +kernel
theorem d_Mo_arrive_169 : decode b_Mo_arrive 169 = .ok (.iload_n 2, 1) := by decide +kernel
theorem d_Mo_arrive_170 : decode b_Mo_arrive 170 = .ok (.iload 4, 2) := by decide +kernel
theorem d_Mo_arrive_172 : decode b_Mo_arrive 172 = .ok (.iload 6, 2) := by decide +kernel
theorem d_Mo_arrive_174 : decode b_Mo_arrive 174 = .ok (.iload_n 1, 1) := by decide +kernel
theorem d_Mo_arrive_175 : decode b_Mo_arrive 175 = .ok (.invokevirtual 144, 3) := by decide +kernel
theorem d_Mo_arrive_178 : decode b_Mo_arrive 178 = .ok (.goto 72, 3) := by decide +kernel
theorem d_Mo_arrive_181 : decode b_Mo_arrive 181 = .ok (.aload_n 0, 1) := by decide +kernel
theorem d_Mo_arrive_182 : decode b_Mo_arrive 182 = .ok (.getfield 13, 3) := by decide +kernel
theorem d_Mo_arrive_185 : decode b_Mo_arrive 185 = .ok (.iload 4, 2) := by decide +kernel
theorem d_Mo_arrive_187 : decode b_Mo_arrive 187 = .ok (.baload, 1) := by decide +kernel
theorem d_Mo_arrive_188 : decode b_Mo_arrive 188 = .ok (.ifCond .ne 62, 3) := by decide +kernel
theorem d_Mo_arrive_191 : decode b_Mo_arrive 191 = .ok (.aload_n 0, 1) := by decide +kernel
theorem d_Mo_arrive_192 : decode b_Mo_arrive 192 = .ok (.iload_n 2, 1) := by decide +kernel
theorem d_Mo_arrive_193 : decode b_Mo_arrive 193 = .ok (.iload_n 3, 1) := by decide +kernel
theorem d_Mo_arrive_194 : decode b_Mo_arrive 194 = .ok (.iload 4, 2) := by decide +kernel
theorem d_Mo_arrive_196 : decode b_Mo_arrive 196 = .ok (.iload 6, 2) := by decide +kernel
theorem d_Mo_arrive_198 : decode b_Mo_arrive 198 = .ok (.iload 7, 2) := by decide +kernel
theorem d_Mo_arrive_200 : decode b_Mo_arrive 200 = .ok (.invokevirtual 148, 3) := by decide +kernel
theorem d_Mo_arrive_203 : decode b_Mo_arrive 203 = .ok (.goto 47, 3) := by decide +kernel
theorem d_Mo_arrive_206 : decode b_Mo_arrive 206 = .ok (.aload_n 0, 1) := by decide +kernel
theorem d_Mo_arrive_207 : decode b_Mo_arrive 207 = .ok (.getfield 16, 3) := by decide +kernel
theorem d_Mo_arrive_210 : decode b_Mo_arrive 210 = .ok (.iload 5, 2) := by decide +kernel
theorem d_Mo_arrive_212 : decode b_Mo_arrive 212 = .ok (.baload, 1) := by decide +kernel
theorem d_Mo_arrive_213 : decode b_Mo_arrive 213 = .ok (.ifCond .ne 37, 3) := by decide +kernel
theorem d_Mo_arrive_216 : decode b_Mo_arrive 216 = .ok (.aload_n 0, 1) := by decide +kernel
theorem d_Mo_arrive_217 : decode b_Mo_arrive 217 = .ok (.iload 5, 2) := by decide +kernel
theorem d_Mo_arrive_219 : decode b_Mo_arrive 219 = .ok (.iload_n 2, 1) := by decide +kernel
theorem d_Mo_arrive_220 : decode b_Mo_arrive 220 = .ok (.iload_n 3, 1) := by decide +kernel
theorem d_Mo_arrive_221 : decode b_Mo_arrive 221 = .ok (.iload 4, 2) := by decide +kernel
theorem d_Mo_arrive_223 : decode b_Mo_arrive 223 = .ok (.iload 6, 2) := by decide +kernel
theorem d_Mo_arrive_225 : decode b_Mo_arrive 225 = .ok (.iload 7, 2) := by decide +kernel
theorem d_Mo_arrive_227 : decode b_Mo_arrive 227 = .ok (.invokevirtual 151, 3) := by decide +kernel
theorem d_Mo_arrive_230 : decode b_Mo_arrive 230 = .ok (.goto 20, 3) := by decide +kernel
theorem d_Mo_arrive_233 : decode b_Mo_arrive 233 = .ok (.aload_n 0, 1) := by decide +kernel
theorem d_Mo_arrive_234 : decode b_Mo_arrive 234 = .ok (.getfield 7, 3) := by decide +kernel
theorem d_Mo_arrive_237 : decode b_Mo_arrive 237 = .ok (.iload_n 3, 1) := by decide +kernel
theorem d_Mo_arrive_238 : decode b_Mo_arrive 238 = .ok (.baload, 1) := by decide +kernel
theorem d_Mo_arrive_239 : decode b_Mo_arrive 239 = .ok (.ifCond .ne 11, 3) := by decide +kernel
theorem d_Mo_arrive_242 : decode b_Mo_arrive 242 = .ok (.aload_n 0, 1) := by decide +kernel
theorem d_Mo_arrive_243 : decode b_Mo_arrive 243 = .ok (.iload_n 2, 1) := by decide +kernel
theorem d_Mo_arrive_244 : decode b_Mo_arrive 244 = .ok (.iload_n 3, 1) := by decide +kernel
theorem d_Mo_arrive_245 : decode b_Mo_arrive 245 = .ok (.iload 7, 2) := by decide +kernel
theorem d_Mo_arrive_247 : decode b_Mo_arrive 247 = .ok (.invokevirtual 155, 3) := by decide +kernel
theorem d_Mo_arrive_250 : decode b_Mo_arrive 250 = .ok (.return_, 1) := by decide +kernel
theorem d_Mo_ask_0 : decode b_Mo_ask 0 = .ok (.iconst 0, 1) := by decide +kernel
theorem d_Mo_ask_1 : decode b_Mo_ask 1 = .ok (.istore 4, 2) := by decide +kernel
theorem d_Mo_ask_3 : decode b_Mo_ask 3 = .ok (.iload 4, 2) := by decide +kernel
theorem d_Mo_ask_5 : decode b_Mo_ask 5 = .ok (.iconst 3, 1) := by decide +kernel
theorem d_Mo_ask_6 : decode b_Mo_ask 6 = .ok (.if_icmp .ge 40, 3) := by decide +kernel
theorem d_Mo_ask_9 : decode b_Mo_ask 9 = .ok (.aload_n 0, 1) := by decide +kernel
theorem d_Mo_ask_10 : decode b_Mo_ask 10 = .ok (.iload_n 1, 1) := by decide +kernel
theorem d_Mo_ask_11 : decode b_Mo_ask 11 = .ok (.iload 4, 2) := by decide +kernel
theorem d_Mo_ask_13 : decode b_Mo_ask 13 = .ok (.invokevirtual 116, 3) := by decide +kernel
theorem d_Mo_ask_16 : decode b_Mo_ask 16 = .ok (.ifCond .eq 24, 3) := by decide +kernel
theorem d_Mo_ask_19 : decode b_Mo_ask 19 = .ok (.aload_n 0, 1) := by decide +kernel
theorem d_Mo_ask_20 : decode b_Mo_ask 20 = .ok (.getfield 41, 3) := by decide +kernel
theorem d_Mo_ask_23 : decode b_Mo_ask 23 = .ok (.bipush 24, 2) := by decide +kernel
theorem d_Mo_ask_25 : decode b_Mo_ask 25 = .ok (.iload_n 2, 1) := by decide +kernel
theorem d_Mo_ask_26 : decode b_Mo_ask 26 = .ok (.imul, 1) := by decide +kernel
theorem d_Mo_ask_27 : decode b_Mo_ask 27 = .ok (.iconst 3, 1) := by decide +kernel
theorem d_Mo_ask_28 : decode b_Mo_ask 28 = .ok (.iload_n 1, 1) := by decide +kernel
theorem d_Mo_ask_29 : decode b_Mo_ask 29 = .ok (.imul, 1) := by decide +kernel
theorem d_Mo_ask_30 : decode b_Mo_ask 30 = .ok (.iadd, 1) := by decide +kernel
theorem d_Mo_ask_31 : decode b_Mo_ask 31 = .ok (.iload 4, 2) := by decide +kernel
theorem d_Mo_ask_33 : decode b_Mo_ask 33 = .ok (.iadd, 1) := by decide +kernel
theorem d_Mo_ask_34 : decode b_Mo_ask 34 = .ok (.iaload, 1) := by decide +kernel
theorem d_Mo_ask_35 : decode b_Mo_ask 35 = .ok (.iload_n 3, 1) := by decide +kernel
theorem d_Mo_ask_36 : decode b_Mo_ask 36 = .ok (.if_icmp .le 4, 3) := by decide +kernel
theorem d_Mo_ask_39 : decode b_Mo_ask 39 = .ok (.return_, 1) := by decide +kernel
theorem d_Mo_ask_40 : decode b_Mo_ask 40 = .ok (.iinc 4 1, 3) := by decide +kernel
theorem d_Mo_ask_43 : decode b_Mo_ask 43 = .ok (.goto (-40), 3) := by decide +kernel
theorem d_Mo_ask_46 : decode b_Mo_ask 46 = .ok (.iconst 0, 1) := by decide +kernel
theorem d_Mo_ask_47 : decode b_Mo_ask 47 = .ok (.istore 4, 2) := by decide +kernel
theorem d_Mo_ask_49 : decode b_Mo_ask 49 = .ok (.iload 4, 2) := by decide +kernel
theorem d_Mo_ask_51 : decode b_Mo_ask 51 = .ok (.iconst 3, 1) := by decide +kernel
theorem d_Mo_ask_52 : decode b_Mo_ask 52 = .ok (.if_icmp .ge 36, 3) := by decide +kernel
theorem d_Mo_ask_55 : decode b_Mo_ask 55 = .ok (.aload_n 0, 1) := by decide +kernel
theorem d_Mo_ask_56 : decode b_Mo_ask 56 = .ok (.iload_n 1, 1) := by decide +kernel
theorem d_Mo_ask_57 : decode b_Mo_ask 57 = .ok (.iload 4, 2) := by decide +kernel
theorem d_Mo_ask_59 : decode b_Mo_ask 59 = .ok (.invokevirtual 116, 3) := by decide +kernel
theorem d_Mo_ask_62 : decode b_Mo_ask 62 = .ok (.ifCond .eq 20, 3) := by decide +kernel
theorem d_Mo_ask_65 : decode b_Mo_ask 65 = .ok (.aload_n 0, 1) := by decide +kernel
theorem d_Mo_ask_66 : decode b_Mo_ask 66 = .ok (.getfield 41, 3) := by decide +kernel
theorem d_Mo_ask_69 : decode b_Mo_ask 69 = .ok (.bipush 24, 2) := by decide +kernel
theorem d_Mo_ask_71 : decode b_Mo_ask 71 = .ok (.iload_n 2, 1) := by decide +kernel
theorem d_Mo_ask_72 : decode b_Mo_ask 72 = .ok (.imul, 1) := by decide +kernel
theorem d_Mo_ask_73 : decode b_Mo_ask 73 = .ok (.iconst 3, 1) := by decide +kernel
theorem d_Mo_ask_74 : decode b_Mo_ask 74 = .ok (.iload_n 1, 1) := by decide +kernel
theorem d_Mo_ask_75 : decode b_Mo_ask 75 = .ok (.imul, 1) := by decide +kernel
theorem d_Mo_ask_76 : decode b_Mo_ask 76 = .ok (.iadd, 1) := by decide +kernel
theorem d_Mo_ask_77 : decode b_Mo_ask 77 = .ok (.iload 4, 2) := by decide +kernel
theorem d_Mo_ask_79 : decode b_Mo_ask 79 = .ok (.iadd, 1) := by decide +kernel
theorem d_Mo_ask_80 : decode b_Mo_ask 80 = .ok (.iload_n 3, 1) := by decide +kernel
theorem d_Mo_ask_81 : decode b_Mo_ask 81 = .ok (.iastore, 1) := by decide +kernel
theorem d_Mo_ask_82 : decode b_Mo_ask 82 = .ok (.iinc 4 1, 3) := by decide +kernel
theorem d_Mo_ask_85 : decode b_Mo_ask 85 = .ok (.goto (-36), 3) := by decide +kernel
theorem d_Mo_ask_88 : decode b_Mo_ask 88 = .ok (.aload_n 0, 1) := by decide +kernel
theorem d_Mo_ask_89 : decode b_Mo_ask 89 = .ok (.bipush 82, 2) := by decide +kernel
theorem d_Mo_ask_91 : decode b_Mo_ask 91 = .ok (.iload_n 1, 1) := by decide +kernel
theorem d_Mo_ask_92 : decode b_Mo_ask 92 = .ok (.iconst (-1), 1) := by decide +kernel
theorem d_Mo_ask_93 : decode b_Mo_ask 93 = .ok (.iload_n 2, 1) := by decide +kernel
theorem d_Mo_ask_94 : decode b_Mo_ask 94 = .ok (.iload_n 3, 1) := by decide +kernel
theorem d_Mo_ask_95 : decode b_Mo_ask 95 = .ok (.iconst 2, 1) := by decide +kernel
theorem d_Mo_ask_96 : decode b_Mo_ask 96 = .ok (.irem, 1) := by decide +kernel
theorem d_Mo_ask_97 : decode b_Mo_ask 97 = .ok (.iload_n 3, 1) := by decide +kernel
theorem d_Mo_ask_98 : decode b_Mo_ask 98 = .ok (.iconst (-1), 1) := by decide +kernel
theorem d_Mo_ask_99 : decode b_Mo_ask 99 = .ok (.invokevirtual 94, 3) := by decide +kernel
theorem d_Mo_ask_102 : decode b_Mo_ask 102 = .ok (.ifCond .ne 4, 3) := by decide +kernel
theorem d_Mo_ask_105 : decode b_Mo_ask 105 = .ok (.return_, 1) := by decide +kernel
theorem d_Mo_ask_106 : decode b_Mo_ask 106 = .ok (.iconst 0, 1) := by decide +kernel
theorem d_Mo_ask_107 : decode b_Mo_ask 107 = .ok (.istore 4, 2) := by decide +kernel
theorem d_Mo_ask_109 : decode b_Mo_ask 109 = .ok (.iload 4, 2) := by decide +kernel
theorem d_Mo_ask_111 : decode b_Mo_ask 111 = .ok (.iconst 3, 1) := by decide +kernel
theorem d_Mo_ask_112 : decode b_Mo_ask 112 = .ok (.if_icmp .ge 85, 3) := by decide +kernel
theorem d_Mo_ask_115 : decode b_Mo_ask 115 = .ok (.bipush 24, 2) := by decide +kernel
theorem d_Mo_ask_117 : decode b_Mo_ask 117 = .ok (.iload_n 2, 1) := by decide +kernel
theorem d_Mo_ask_118 : decode b_Mo_ask 118 = .ok (.imul, 1) := by decide +kernel
theorem d_Mo_ask_119 : decode b_Mo_ask 119 = .ok (.iconst 3, 1) := by decide +kernel
theorem d_Mo_ask_120 : decode b_Mo_ask 120 = .ok (.iload_n 1, 1) := by decide +kernel
theorem d_Mo_ask_121 : decode b_Mo_ask 121 = .ok (.imul, 1) := by decide +kernel
theorem d_Mo_ask_122 : decode b_Mo_ask 122 = .ok (.iadd, 1) := by decide +kernel
theorem d_Mo_ask_123 : decode b_Mo_ask 123 = .ok (.iload 4, 2) := by decide +kernel
theorem d_Mo_ask_125 : decode b_Mo_ask 125 = .ok (.iadd, 1) := by decide +kernel
theorem d_Mo_ask_126 : decode b_Mo_ask 126 = .ok (.istore 5, 2) := by decide +kernel
theorem d_Mo_ask_128 : decode b_Mo_ask 128 = .ok (.aload_n 0, 1) := by decide +kernel
theorem d_Mo_ask_129 : decode b_Mo_ask 129 = .ok (.getfield 74, 3) := by decide +kernel
theorem d_Mo_ask_132 : decode b_Mo_ask 132 = .ok (.bipush 13, 2) := by decide +kernel
theorem d_Mo_ask_134 : decode b_Mo_ask 134 = .ok (.aload_n 0, 1) := by decide +kernel
theorem d_Mo_ask_135 : decode b_Mo_ask 135 = .ok (.getfield 88, 3) := by decide +kernel
theorem d_Mo_ask_138 : decode b_Mo_ask 138 = .ok (.imul, 1) := by decide +kernel
theorem d_Mo_ask_139 : decode b_Mo_ask 139 = .ok (.bipush 6, 2) := by decide +kernel
theorem d_Mo_ask_141 : decode b_Mo_ask 141 = .ok (.isub, 1) := by decide +kernel
theorem d_Mo_ask_142 : decode b_Mo_ask 142 = .ok (.iload 4, 2) := by decide +kernel
theorem d_Mo_ask_144 : decode b_Mo_ask 144 = .ok (.iadd, 1) := by decide +kernel
theorem d_Mo_ask_145 : decode b_Mo_ask 145 = .ok (.aload_n 0, 1) := by decide +kernel
theorem d_Mo_ask_146 : decode b_Mo_ask 146 = .ok (.iload_n 1, 1) := by decide +kernel
theorem d_Mo_ask_147 : decode b_Mo_ask 147 = .ok (.iload 4, 2) := by decide +kernel
theorem d_Mo_ask_149 : decode b_Mo_ask 149 = .ok (.invokevirtual 116, 3) := by decide +kernel
theorem d_Mo_ask_152 : decode b_Mo_ask 152 = .ok (.ifCond .eq 13, 3) := by decide +kernel
theorem d_Mo_ask_155 : decode b_Mo_ask 155 = .ok (.aload_n 0, 1) := by decide +kernel
theorem d_Mo_ask_156 : decode b_Mo_ask 156 = .ok (.getfield 44, 3) := by decide +kernel
theorem d_Mo_ask_159 : decode b_Mo_ask 159 = .ok (.iload 5, 2) := by decide +kernel
theorem d_Mo_ask_161 : decode b_Mo_ask 161 = .ok (.iaload, 1) := by decide +kernel
theorem d_Mo_ask_162 : decode b_Mo_ask 162 = .ok (.goto 4, 3) := by decide +kernel
