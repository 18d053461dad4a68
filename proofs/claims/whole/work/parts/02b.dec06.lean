theorem d_PC_sendVotes_3 : decode b_PC_sendVotes 3 = .ok (.iload 5, 2) := by decide +kernel
theorem d_PC_sendVotes_5 : decode b_PC_sendVotes 5 = .ok (.aload_n 0, 1) := by decide +kernel
theorem d_PC_sendVotes_6 : decode b_PC_sendVotes 6 = .ok (.getfield 48, 3) := by decide +kernel
theorem d_PC_sendVotes_9 : decode b_PC_sendVotes 9 = .ok (.arraylength, 1) := by decide +kernel
theorem d_PC_sendVotes_10 : decode b_PC_sendVotes 10 = .ok (.if_icmp .ge 55, 3) := by decide +kernel
theorem d_PC_sendVotes_13 : decode b_PC_sendVotes 13 = .ok (.aload_n 0, 1) := by decide +kernel
theorem d_PC_sendVotes_14 : decode b_PC_sendVotes 14 = .ok (.getfield 28, 3) := by decide +kernel
theorem d_PC_sendVotes_17 : decode b_PC_sendVotes 17 = .ok (.iconst 3, 1) := by decide +kernel
theorem d_PC_sendVotes_18 : decode b_PC_sendVotes 18 = .ok (.iload_n 1, 1) := by decide +kernel
theorem d_PC_sendVotes_19 : decode b_PC_sendVotes 19 = .ok (.invokevirtual 325, 3) := by decide +kernel
theorem d_PC_sendVotes_22 : decode b_PC_sendVotes 22 = .ok (.astore 6, 2) := by decide +kernel
theorem d_PC_sendVotes_24 : decode b_PC_sendVotes 24 = .ok (.aload 6, 2) := by decide +kernel
theorem d_PC_sendVotes_26 : decode b_PC_sendVotes 26 = .ok (.iload_n 2, 1) := by decide +kernel
theorem d_PC_sendVotes_27 : decode b_PC_sendVotes 27 = .ok (.putfield 260, 3) := by decide +kernel
theorem d_PC_sendVotes_30 : decode b_PC_sendVotes 30 = .ok (.aload 6, 2) := by decide +kernel
theorem d_PC_sendVotes_32 : decode b_PC_sendVotes 32 = .ok (.iload 5, 2) := by decide +kernel
theorem d_PC_sendVotes_34 : decode b_PC_sendVotes 34 = .ok (.putfield 266, 3) := by decide +kernel
theorem d_PC_sendVotes_37 : decode b_PC_sendVotes 37 = .ok (.aload 6, 2) := by decide +kernel
theorem d_PC_sendVotes_39 : decode b_PC_sendVotes 39 = .ok (.iload_n 3, 1) := by decide +kernel
theorem d_PC_sendVotes_40 : decode b_PC_sendVotes 40 = .ok (.putfield 269, 3) := by decide +kernel
theorem d_PC_sendVotes_43 : decode b_PC_sendVotes 43 = .ok (.aload 6, 2) := by decide +kernel
theorem d_PC_sendVotes_45 : decode b_PC_sendVotes 45 = .ok (.iload 4, 2) := by decide +kernel
theorem d_PC_sendVotes_47 : decode b_PC_sendVotes 47 = .ok (.putfield 303, 3) := by decide +kernel
theorem d_PC_sendVotes_50 : decode b_PC_sendVotes 50 = .ok (.aload_n 0, 1) := by decide +kernel
theorem d_PC_sendVotes_51 : decode b_PC_sendVotes 51 = .ok (.getfield 28, 3) := by decide +kernel
theorem d_PC_sendVotes_54 : decode b_PC_sendVotes 54 = .ok (.aload 6, 2) := by decide +kernel
theorem d_PC_sendVotes_56 : decode b_PC_sendVotes 56 = .ok (.invokevirtual 329, 3) := by decide +kernel
theorem d_PC_sendVotes_59 : decode b_PC_sendVotes 59 = .ok (.iinc 5 1, 3) := by decide +kernel
theorem d_PC_sendVotes_62 : decode b_PC_sendVotes 62 = .ok (.goto (-59), 3) := by decide +kernel
theorem d_PC_sendVotes_65 : decode b_PC_sendVotes 65 = .ok (.return_, 1) := by decide +kernel
theorem d_PC_state_0 : decode b_PC_state 0 = .ok (.iload_n 1, 1) := by decide +kernel
theorem d_PC_state_1 : decode b_PC_state 1 = .ok (.bipush 8, 2) := by decide +kernel
theorem d_PC_state_3 : decode b_PC_state 3 = .ok (.invokestatic 64, 3) := by decide +kernel
theorem d_PC_state_6 : decode b_PC_state 6 = .ok (.iload_n 2, 1) := by decide +kernel
theorem d_PC_state_7 : decode b_PC_state 7 = .ok (.iconst 3, 1) := by decide +kernel
theorem d_PC_state_8 : decode b_PC_state 8 = .ok (.invokestatic 64, 3) := by decide +kernel
theorem d_PC_state_11 : decode b_PC_state 11 = .ok (.aload_n 0, 1) := by decide +kernel
theorem d_PC_state_12 : decode b_PC_state 12 = .ok (.iload_n 1, 1) := by decide +kernel
theorem d_PC_state_13 : decode b_PC_state 13 = .ok (.invokevirtual 68, 3) := by decide +kernel
theorem d_PC_state_16 : decode b_PC_state 16 = .ok (.aload_n 0, 1) := by decide +kernel
theorem d_PC_state_17 : decode b_PC_state 17 = .ok (.getfield 11, 3) := by decide +kernel
theorem d_PC_state_20 : decode b_PC_state 20 = .ok (.iload_n 2, 1) := by decide +kernel
theorem d_PC_state_21 : decode b_PC_state 21 = .ok (.aaload, 1) := by decide +kernel
theorem d_PC_state_22 : decode b_PC_state 22 = .ok (.getfield 117, 3) := by decide +kernel
theorem d_PC_state_25 : decode b_PC_state 25 = .ok (.iload_n 1, 1) := by decide +kernel
theorem d_PC_state_26 : decode b_PC_state 26 = .ok (.iaload, 1) := by decide +kernel
theorem d_PC_state_27 : decode b_PC_state 27 = .ok (.ireturn, 1) := by decide +kernel
theorem d_PC_stop_0 : decode b_PC_stop 0 = .ok (.iload_n 1, 1) := by decide +kernel
theorem d_PC_stop_1 : decode b_PC_stop 1 = .ok (.ifCond .ne 15, 3) := by decide +kernel
theorem d_PC_stop_4 : decode b_PC_stop 4 = .ok (.aload_n 0, 1) := by decide +kernel
theorem d_PC_stop_5 : decode b_PC_stop 5 = .ok (.getfield 11, 3) := by decide +kernel
theorem d_PC_stop_8 : decode b_PC_stop 8 = .ok (.iload_n 2, 1) := by decide +kernel
theorem d_PC_stop_9 : decode b_PC_stop 9 = .ok (.aaload, 1) := by decide +kernel
theorem d_PC_stop_10 : decode b_PC_stop 10 = .ok (.invokevirtual 227, 3) := by decide +kernel
theorem d_PC_stop_13 : decode b_PC_stop 13 = .ok (.goto 31, 3) := by decide +kernel
theorem d_PC_stop_16 : decode b_PC_stop 16 = .ok (.iload_n 1, 1) := by decide +kernel
theorem d_PC_stop_17 : decode b_PC_stop 17 = .ok (.iconst 2, 1) := by decide +kernel
theorem d_PC_stop_18 : decode b_PC_stop 18 = .ok (.if_icmp .ne 26, 3) := by decide +kernel
theorem d_PC_stop_21 : decode b_PC_stop 21 = .ok (.iconst 0, 1) := by decide +kernel
theorem d_PC_stop_22 : decode b_PC_stop 22 = .ok (.istore_n 3, 1) := by decide +kernel
theorem d_PC_stop_23 : decode b_PC_stop 23 = .ok (.iload_n 3, 1) := by decide +kernel
theorem d_PC_stop_24 : decode b_PC_stop 24 = .ok (.bipush 8, 2) := by decide +kernel
theorem d_PC_stop_26 : decode b_PC_stop 26 = .ok (.if_icmp .ge 18, 3) := by decide +kernel
theorem d_PC_stop_29 : decode b_PC_stop 29 = .ok (.aload_n 0, 1) := by decide +kernel
theorem d_PC_stop_30 : decode b_PC_stop 30 = .ok (.iload_n 2, 1) := by decide +kernel
theorem d_PC_stop_31 : decode b_PC_stop 31 = .ok (.iload_n 3, 1) := by decide +kernel
theorem d_PC_stop_32 : decode b_PC_stop 32 = .ok (.invokevirtual 130, 3) := by decide +kernel
theorem d_PC_stop_35 : decode b_PC_stop 35 = .ok (.invokevirtual 230, 3) := by decide +kernel
theorem d_PC_stop_38 : decode b_PC_stop 38 = .ok (.iinc 3 1, 3) := by decide +kernel
theorem d_PC_stop_41 : decode b_PC_stop 41 = .ok (.goto (-18), 3) := by decide +kernel
theorem d_PC_stop_44 : decode b_PC_stop 44 = .ok (.return_, 1) := by decide +kernel
theorem d_PC_take_0 : decode b_PC_take 0 = .ok (.iload_n 1, 1) := by decide +kernel
theorem d_PC_take_1 : decode b_PC_take 1 = .ok (.iconst 2, 1) := by decide +kernel
theorem d_PC_take_2 : decode b_PC_take 2 = .ok (.invokestatic 64, 3) := by decide +kernel
theorem d_PC_take_5 : decode b_PC_take 5 = .ok (.iload_n 2, 1) := by decide +kernel
theorem d_PC_take_6 : decode b_PC_take 6 = .ok (.bipush 8, 2) := by decide +kernel
theorem d_PC_take_8 : decode b_PC_take 8 = .ok (.invokestatic 64, 3) := by decide +kernel
theorem d_PC_take_11 : decode b_PC_take 11 = .ok (.aload_n 0, 1) := by decide +kernel
theorem d_PC_take_12 : decode b_PC_take 12 = .ok (.iload_n 2, 1) := by decide +kernel
theorem d_PC_take_13 : decode b_PC_take 13 = .ok (.invokevirtual 68, 3) := by decide +kernel
theorem d_PC_take_16 : decode b_PC_take 16 = .ok (.aload_n 0, 1) := by decide +kernel
theorem d_PC_take_17 : decode b_PC_take 17 = .ok (.iconst 2, 1) := by decide +kernel
theorem d_PC_take_18 : decode b_PC_take 18 = .ok (.iload_n 1, 1) := by decide +kernel
theorem d_PC_take_19 : decode b_PC_take 19 = .ok (.invokevirtual 71, 3) := by decide +kernel
theorem d_PC_take_22 : decode b_PC_take 22 = .ok (.aload_n 0, 1) := by decide +kernel
theorem d_PC_take_23 : decode b_PC_take 23 = .ok (.getfield 35, 3) := by decide +kernel
theorem d_PC_take_26 : decode b_PC_take 26 = .ok (.iload_n 2, 1) := by decide +kernel
theorem d_PC_take_27 : decode b_PC_take 27 = .ok (.baload, 1) := by decide +kernel
theorem d_PC_take_28 : decode b_PC_take 28 = .ok (.ifCond .ne 13, 3) := by decide +kernel
theorem d_PC_take_31 : decode b_PC_take 31 = .ok (.new 84, 3) := by decide +kernel
theorem d_PC_take_34 : decode b_PC_take 34 = .ok (.dup, 1) := by decide +kernel
theorem d_PC_take_35 : decode b_PC_take 35 = .ok (.ldc 128, 2) := by decide +kernel
theorem d_PC_take_37 : decode b_PC_take 37 = .ok (.invokespecial 88, 3) := by decide +kernel
theorem d_PC_take_40 : decode b_PC_take 40 = .ok (.athrow, 1) := by decide +kernel
theorem d_PC_take_41 : decode b_PC_take 41 = .ok (.aload_n 0, 1) := by decide +kernel
theorem d_PC_take_42 : decode b_PC_take 42 = .ok (.iload_n 1, 1) := by decide +kernel
theorem d_PC_take_43 : decode b_PC_take 43 = .ok (.iload_n 2, 1) := by decide +kernel
theorem d_PC_take_44 : decode b_PC_take 44 = .ok (.invokevirtual 130, 3) := by decide +kernel
theorem d_PC_take_47 : decode b_PC_take 47 = .ok (.iload_n 1, 1) := by decide +kernel
theorem d_PC_take_48 : decode b_PC_take 48 = .ok (.invokevirtual 134, 3) := by decide +kernel
theorem d_PC_take_51 : decode b_PC_take 51 = .ok (.istore_n 3, 1) := by decide +kernel
theorem d_PC_take_52 : decode b_PC_take 52 = .ok (.aload_n 0, 1) := by decide +kernel
theorem d_PC_take_53 : decode b_PC_take 53 = .ok (.iload_n 2, 1) := by decide +kernel
theorem d_PC_take_54 : decode b_PC_take 54 = .ok (.iload_n 3, 1) := by decide +kernel
theorem d_PC_take_55 : decode b_PC_take 55 = .ok (.invokevirtual 137, 3) := by decide +kernel
theorem d_PC_take_58 : decode b_PC_take 58 = .ok (.iload_n 3, 1) := by decide +kernel
theorem d_PC_take_59 : decode b_PC_take 59 = .ok (.ireturn, 1) := by decide +kernel
theorem d_PC_taken_0 : decode b_PC_taken 0 = .ok (.iload_n 1, 1) := by decide +kernel
theorem d_PC_taken_1 : decode b_PC_taken 1 = .ok (.aload_n 0, 1) := by decide +kernel
theorem d_PC_taken_2 : decode b_PC_taken 2 = .ok (.getfield 48, 3) := by decide +kernel
theorem d_PC_taken_5 : decode b_PC_taken 5 = .ok (.arraylength, 1) := by decide +kernel
theorem d_PC_taken_6 : decode b_PC_taken 6 = .ok (.invokestatic 64, 3) := by decide +kernel
theorem d_PC_taken_9 : decode b_PC_taken 9 = .ok (.iload_n 2, 1) := by decide +kernel
theorem d_PC_taken_10 : decode b_PC_taken 10 = .ok (.bipush 8, 2) := by decide +kernel
theorem d_PC_taken_12 : decode b_PC_taken 12 = .ok (.invokestatic 64, 3) := by decide +kernel
theorem d_PC_taken_15 : decode b_PC_taken 15 = .ok (.iload_n 3, 1) := by decide +kernel
theorem d_PC_taken_16 : decode b_PC_taken 16 = .ok (.iconst 3, 1) := by decide +kernel
theorem d_PC_taken_17 : decode b_PC_taken 17 = .ok (.invokestatic 64, 3) := by decide +kernel
theorem d_PC_taken_20 : decode b_PC_taken 20 = .ok (.aload_n 0, 1) := by decide +kernel
theorem d_PC_taken_21 : decode b_PC_taken 21 = .ok (.iload_n 2, 1) := by decide +kernel
theorem d_PC_taken_22 : decode b_PC_taken 22 = .ok (.invokevirtual 68, 3) := by decide +kernel
theorem d_PC_taken_25 : decode b_PC_taken 25 = .ok (.aload_n 0, 1) := by decide +kernel
theorem d_PC_taken_26 : decode b_PC_taken 26 = .ok (.getfield 48, 3) := by decide +kernel
theorem d_PC_taken_29 : decode b_PC_taken 29 = .ok (.iload_n 1, 1) := by decide +kernel
theorem d_PC_taken_30 : decode b_PC_taken 30 = .ok (.aaload, 1) := by decide +kernel
theorem d_PC_taken_31 : decode b_PC_taken 31 = .ok (.astore 5, 2) := by decide +kernel
theorem d_PC_taken_33 : decode b_PC_taken 33 = .ok (.iload 4, 2) := by decide +kernel
theorem d_PC_taken_35 : decode b_PC_taken 35 = .ok (.ifCond .eq 15, 3) := by decide +kernel
theorem d_PC_taken_38 : decode b_PC_taken 38 = .ok (.aload 5, 2) := by decide +kernel
theorem d_PC_taken_40 : decode b_PC_taken 40 = .ok (.getfield 203, 3) := by decide +kernel
theorem d_PC_taken_43 : decode b_PC_taken 43 = .ok (.iload_n 2, 1) := by decide +kernel
theorem d_PC_taken_44 : decode b_PC_taken 44 = .ok (.aaload, 1) := by decide +kernel
theorem d_PC_taken_45 : decode b_PC_taken 45 = .ok (.iload_n 3, 1) := by decide +kernel
theorem d_PC_taken_46 : decode b_PC_taken 46 = .ok (.iaload, 1) := by decide +kernel
theorem d_PC_taken_47 : decode b_PC_taken 47 = .ok (.goto 12, 3) := by decide +kernel
theorem d_PC_taken_50 : decode b_PC_taken 50 = .ok (.aload 5, 2) := by decide +kernel
theorem d_PC_taken_52 : decode b_PC_taken 52 = .ok (.getfield 207, 3) := by decide +kernel
theorem d_PC_taken_55 : decode b_PC_taken 55 = .ok (.iload_n 2, 1) := by decide +kernel
theorem d_PC_taken_56 : decode b_PC_taken 56 = .ok (.aaload, 1) := by decide +kernel
theorem d_PC_taken_57 : decode b_PC_taken 57 = .ok (.iload_n 3, 1) := by decide +kernel
theorem d_PC_taken_58 : decode b_PC_taken 58 = .ok (.iaload, 1) := by decide +kernel
theorem d_PC_taken_59 : decode b_PC_taken 59 = .ok (.ireturn, 1) := by decide +kernel
theorem d_PC_text_0 : decode b_PC_text 0 = .ok (.iload_n 2, 1) := by decide +kernel
theorem d_PC_text_1 : decode b_PC_text 1 = .ok (.ifCond .ge 13, 3) := by decide +kernel
theorem d_PC_text_4 : decode b_PC_text 4 = .ok (.new 166, 3) := by decide +kernel
theorem d_PC_text_7 : decode b_PC_text 7 = .ok (.dup, 1) := by decide +kernel
theorem d_PC_text_8 : decode b_PC_text 8 = .ok (.ldc 168, 2) := by decide +kernel
theorem d_PC_text_10 : decode b_PC_text 10 = .ok (.invokespecial 170, 3) := by decide +kernel
theorem d_PC_text_13 : decode b_PC_text 13 = .ok (.athrow, 1) := by decide +kernel
theorem d_PC_text_14 : decode b_PC_text 14 = .ok (.aload_n 0, 1) := by decide +kernel
theorem d_PC_text_15 : decode b_PC_text 15 = .ok (.iload_n 1, 1) := by decide +kernel
theorem d_PC_text_16 : decode b_PC_text 16 = .ok (.invokevirtual 140, 3) := by decide +kernel
theorem d_PC_text_19 : decode b_PC_text 19 = .ok (.new 171, 3) := by decide +kernel
theorem d_PC_text_22 : decode b_PC_text 22 = .ok (.dup, 1) := by decide +kernel
theorem d_PC_text_23 : decode b_PC_text 23 = .ok (.invokespecial 173, 3) := by decide +kernel
theorem d_PC_text_26 : decode b_PC_text 26 = .ok (.astore_n 3, 1) := by decide +kernel
theorem d_PC_text_27 : decode b_PC_text 27 = .ok (.aload_n 0, 1) := by decide +kernel
theorem d_PC_text_28 : decode b_PC_text 28 = .ok (.getfield 28, 3) := by decide +kernel
theorem d_PC_text_31 : decode b_PC_text 31 = .ok (.getfield 174, 3) := by decide +kernel
theorem d_PC_text_34 : decode b_PC_text 34 = .ok (.iload_n 1, 1) := by decide +kernel
theorem d_PC_text_35 : decode b_PC_text 35 = .ok (.aaload, 1) := by decide +kernel
theorem d_PC_text_36 : decode b_PC_text 36 = .ok (.aload_n 3, 1) := by decide +kernel
theorem d_PC_text_37 : decode b_PC_text 37 = .ok (.invokevirtual 178, 3) := by decide +kernel
theorem d_PC_text_40 : decode b_PC_text 40 = .ok (.iload_n 2, 1) := by decide +kernel
theorem d_PC_text_41 : decode b_PC_text 41 = .ok (.aload_n 3, 1) := by decide +kernel
theorem d_PC_text_42 : decode b_PC_text 42 = .ok (.invokevirtual 184, 3) := by decide +kernel
theorem d_PC_text_45 : decode b_PC_text 45 = .ok (.if_icmp .lt 5, 3) := by decide +kernel
theorem d_PC_text_48 : decode b_PC_text 48 = .ok (.iconst (-1), 1) := by decide +kernel
theorem d_PC_text_49 : decode b_PC_text 49 = .ok (.ireturn, 1) := by decide +kernel
theorem d_PC_text_50 : decode b_PC_text 50 = .ok (.aload_n 3, 1) := by decide +kernel
theorem d_PC_text_51 : decode b_PC_text 51 = .ok (.iload_n 2, 1) := by decide +kernel
theorem d_PC_text_52 : decode b_PC_text 52 = .ok (.invokevirtual 188, 3) := by decide +kernel
theorem d_PC_text_55 : decode b_PC_text 55 = .ok (.ireturn, 1) := by decide +kernel
theorem d_PC_up_0 : decode b_PC_up 0 = .ok (.iload_n 1, 1) := by decide +kernel
theorem d_PC_up_1 : decode b_PC_up 1 = .ok (.aload_n 0, 1) := by decide +kernel
theorem d_PC_up_2 : decode b_PC_up 2 = .ok (.getfield 21, 3) := by decide +kernel
theorem d_PC_up_5 : decode b_PC_up 5 = .ok (.arraylength, 1) := by decide +kernel
theorem d_PC_up_6 : decode b_PC_up 6 = .ok (.invokestatic 64, 3) := by decide +kernel
theorem d_PC_up_9 : decode b_PC_up 9 = .ok (.iload_n 2, 1) := by decide +kernel
theorem d_PC_up_10 : decode b_PC_up 10 = .ok (.aload_n 0, 1) := by decide +kernel
theorem d_PC_up_11 : decode b_PC_up 11 = .ok (.iload_n 1, 1) := by decide +kernel
theorem d_PC_up_12 : decode b_PC_up 12 = .ok (.invokevirtual 157, 3) := by decide +kernel
theorem d_PC_up_15 : decode b_PC_up 15 = .ok (.invokestatic 64, 3) := by decide +kernel
theorem d_PC_up_18 : decode b_PC_up 18 = .ok (.aload_n 0, 1) := by decide +kernel
theorem d_PC_up_19 : decode b_PC_up 19 = .ok (.getfield 21, 3) := by decide +kernel
theorem d_PC_up_22 : decode b_PC_up 22 = .ok (.iload_n 1, 1) := by decide +kernel
theorem d_PC_up_23 : decode b_PC_up 23 = .ok (.iaload, 1) := by decide +kernel
theorem d_PC_up_24 : decode b_PC_up 24 = .ok (.iload_n 2, 1) := by decide +kernel
theorem d_PC_up_25 : decode b_PC_up 25 = .ok (.invokestatic 105, 3) := by decide +kernel
theorem d_PC_up_28 : decode b_PC_up 28 = .ok (.istore 4, 2) := by decide +kernel
theorem d_PC_up_30 : decode b_PC_up 30 = .ok (.iload_n 3, 1) := by decide +kernel
theorem d_PC_up_31 : decode b_PC_up 31 = .ok (.ifCond .eq 22, 3) := by decide +kernel
theorem d_PC_up_34 : decode b_PC_up 34 = .ok (.aload_n 0, 1) := by decide +kernel
theorem d_PC_up_35 : decode b_PC_up 35 = .ok (.getfield 21, 3) := by decide +kernel
theorem d_PC_up_38 : decode b_PC_up 38 = .ok (.iload_n 1, 1) := by decide +kernel
theorem d_PC_up_39 : decode b_PC_up 39 = .ok (.aload_n 0, 1) := by decide +kernel
theorem d_PC_up_40 : decode b_PC_up 40 = .ok (.getfield 21, 3) := by decide +kernel
theorem d_PC_up_43 : decode b_PC_up 43 = .ok (.iload_n 1, 1) := by decide +kernel
theorem d_PC_up_44 : decode b_PC_up 44 = .ok (.iaload, 1) := by decide +kernel
theorem d_PC_up_45 : decode b_PC_up 45 = .ok (.iload_n 2, 1) := by decide +kernel
theorem d_PC_up_46 : decode b_PC_up 46 = .ok (.invokestatic 93, 3) := by decide +kernel
theorem d_PC_up_49 : decode b_PC_up 49 = .ok (.iastore, 1) := by decide +kernel
theorem d_PC_up_50 : decode b_PC_up 50 = .ok (.goto 25, 3) := by decide +kernel
theorem d_PC_up_53 : decode b_PC_up 53 = .ok (.aload_n 0, 1) := by decide +kernel
theorem d_PC_up_54 : decode b_PC_up 54 = .ok (.getfield 21, 3) := by decide +kernel
theorem d_PC_up_57 : decode b_PC_up 57 = .ok (.iload_n 1, 1) := by decide +kernel
theorem d_PC_up_58 : decode b_PC_up 58 = .ok (.aload_n 0, 1) := by decide +kernel
theorem d_PC_up_59 : decode b_PC_up 59 = .ok (.getfield 21, 3) := by decide +kernel
theorem d_PC_up_62 : decode b_PC_up 62 = .ok (.iload_n 1, 1) := by decide +kernel
theorem d_PC_up_63 : decode b_PC_up 63 = .ok (.iaload, 1) := by decide +kernel
theorem d_PC_up_64 : decode b_PC_up 64 = .ok (.iload_n 2, 1) := by decide +kernel
theorem d_PC_up_65 : decode b_PC_up 65 = .ok (.invokestatic 160, 3) := by decide +kernel
theorem d_PC_up_68 : decode b_PC_up 68 = .ok (.iastore, 1) := by decide +kernel
theorem d_PC_up_69 : decode b_PC_up 69 = .ok (.aload_n 0, 1) := by decide +kernel
theorem d_PC_up_70 : decode b_PC_up 70 = .ok (.iload_n 1, 1) := by decide +kernel
theorem d_PC_up_71 : decode b_PC_up 71 = .ok (.iload_n 2, 1) := by decide +kernel
theorem d_PC_up_72 : decode b_PC_up 72 = .ok (.invokevirtual 163, 3) := by decide +kernel
theorem d_PC_up_75 : decode b_PC_up 75 = .ok (.iload 4, 2) := by decide +kernel
theorem d_PC_up_77 : decode b_PC_up 77 = .ok (.ireturn, 1) := by decide +kernel
theorem d_PC_value_0 : decode b_PC_value 0 = .ok (.iload_n 1, 1) := by decide +kernel
theorem d_PC_value_1 : decode b_PC_value 1 = .ok (.iconst 3, 1) := by decide +kernel
theorem d_PC_value_2 : decode b_PC_value 2 = .ok (.invokestatic 64, 3) := by decide +kernel
theorem d_PC_value_5 : decode b_PC_value 5 = .ok (.iload_n 2, 1) := by decide +kernel
theorem d_PC_value_6 : decode b_PC_value 6 = .ok (.iconst 4, 1) := by decide +kernel
theorem d_PC_value_7 : decode b_PC_value 7 = .ok (.invokestatic 64, 3) := by decide +kernel
theorem d_PC_value_10 : decode b_PC_value 10 = .ok (.aload_n 0, 1) := by decide +kernel
theorem d_PC_value_11 : decode b_PC_value 11 = .ok (.getfield 11, 3) := by decide +kernel
theorem d_PC_value_14 : decode b_PC_value 14 = .ok (.iload_n 1, 1) := by decide +kernel
theorem d_PC_value_15 : decode b_PC_value 15 = .ok (.aaload, 1) := by decide +kernel
theorem d_PC_value_16 : decode b_PC_value 16 = .ok (.getfield 192, 3) := by decide +kernel
theorem d_PC_value_19 : decode b_PC_value 19 = .ok (.iload_n 2, 1) := by decide +kernel
theorem d_PC_value_20 : decode b_PC_value 20 = .ok (.iaload, 1) := by decide +kernel
theorem d_PC_value_21 : decode b_PC_value 21 = .ok (.ireturn, 1) := by decide +kernel
theorem d_PC_voteOf_0 : decode b_PC_voteOf 0 = .ok (.iload_n 0, 1) := by decide +kernel
theorem d_PC_voteOf_1 : decode b_PC_voteOf 1 = .ok (.iconst 2, 1) := by decide +kernel
theorem d_PC_voteOf_2 : decode b_PC_voteOf 2 = .ok (.irem, 1) := by decide +kernel
theorem d_PC_voteOf_3 : decode b_PC_voteOf 3 = .ok (.ifCond .ne 7, 3) := by decide +kernel
theorem d_PC_voteOf_6 : decode b_PC_voteOf 6 = .ok (.iconst 0, 1) := by decide +kernel
theorem d_PC_voteOf_7 : decode b_PC_voteOf 7 = .ok (.goto 4, 3) := by decide +kernel
theorem d_PC_voteOf_10 : decode b_PC_voteOf 10 = .ok (.iconst 1, 1) := by decide +kernel
theorem d_PC_voteOf_11 : decode b_PC_voteOf 11 = .ok (.ireturn, 1) := by decide +kernel
theorem d_PC_with_0 : decode b_PC_with 0 = .ok (.iload_n 0, 1) := by decide +kernel
theorem d_PC_with_1 : decode b_PC_with 1 = .ok (.iconst 1, 1) := by decide +kernel
theorem d_PC_with_2 : decode b_PC_with 2 = .ok (.iload_n 1, 1) := by decide +kernel
theorem d_PC_with_3 : decode b_PC_with 3 = .ok (.ishl, 1) := by decide +kernel
theorem d_PC_with_4 : decode b_PC_with 4 = .ok (.ior, 1) := by decide +kernel
theorem d_PC_with_5 : decode b_PC_with 5 = .ok (.ireturn, 1) := by decide +kernel
theorem d_PC_without_0 : decode b_PC_without 0 = .ok (.iload_n 0, 1) := by decide +kernel
theorem d_PC_without_1 : decode b_PC_without 1 = .ok (.iconst 1, 1) := by decide +kernel
theorem d_PC_without_2 : decode b_PC_without 2 = .ok (.iload_n 1, 1) := by decide +kernel
theorem d_PC_without_3 : decode b_PC_without 3 = .ok (.ishl, 1) := by decide +kernel
theorem d_PC_without_4 : decode b_PC_without 4 = .ok (.iconst (-1), 1) := by decide +kernel
theorem d_PC_without_5 : decode b_PC_without 5 = .ok (.ixor, 1) := by decide +kernel
theorem d_PC_without_6 : decode b_PC_without 6 = .ok (.iand, 1) := by decide +kernel
theorem d_PC_without_7 : decode b_PC_without 7 = .ok (.ireturn, 1) := by decide +kernel
theorem d_PC_write_0 : decode b_PC_write 0 = .ok (.iload_n 1, 1) := by decide +kernel
theorem d_PC_write_1 : decode b_PC_write 1 = .ok (.bipush 8, 2) := by decide +kernel
theorem d_PC_write_3 : decode b_PC_write 3 = .ok (.invokestatic 64, 3) := by decide +kernel
theorem d_PC_write_6 : decode b_PC_write 6 = .ok (.iload_n 2, 1) := by decide +kernel
theorem d_PC_write_7 : decode b_PC_write 7 = .ok (.iconst 3, 1) := by decide +kernel
theorem d_PC_write_8 : decode b_PC_write 8 = .ok (.invokestatic 64, 3) := by decide +kernel
theorem d_PC_write_11 : decode b_PC_write 11 = .ok (.iload_n 3, 1) := by decide +kernel
theorem d_PC_write_12 : decode b_PC_write 12 = .ok (.iconst 4, 1) := by decide +kernel
theorem d_PC_write_13 : decode b_PC_write 13 = .ok (.invokestatic 64, 3) := by decide +kernel
theorem d_PC_write_16 : decode b_PC_write 16 = .ok (.aload_n 0, 1) := by decide +kernel
theorem d_PC_write_17 : decode b_PC_write 17 = .ok (.iload_n 1, 1) := by decide +kernel
theorem d_PC_write_18 : decode b_PC_write 18 = .ok (.invokevirtual 68, 3) := by decide +kernel
theorem d_PC_write_21 : decode b_PC_write 21 = .ok (.aload_n 0, 1) := by decide +kernel
theorem d_PC_write_22 : decode b_PC_write 22 = .ok (.iconst 0, 1) := by decide +kernel
theorem d_PC_write_23 : decode b_PC_write 23 = .ok (.iload_n 2, 1) := by decide +kernel
theorem d_PC_write_24 : decode b_PC_write 24 = .ok (.invokevirtual 71, 3) := by decide +kernel
theorem d_PC_write_27 : decode b_PC_write 27 = .ok (.aload_n 0, 1) := by decide +kernel
theorem d_PC_write_28 : decode b_PC_write 28 = .ok (.getfield 11, 3) := by decide +kernel
theorem d_PC_write_31 : decode b_PC_write 31 = .ok (.iload_n 2, 1) := by decide +kernel
theorem d_PC_write_32 : decode b_PC_write 32 = .ok (.aaload, 1) := by decide +kernel
theorem d_PC_write_33 : decode b_PC_write 33 = .ok (.astore 5, 2) := by decide +kernel
theorem d_PC_write_35 : decode b_PC_write 35 = .ok (.aload 5, 2) := by decide +kernel
theorem d_PC_write_37 : decode b_PC_write 37 = .ok (.iload_n 1, 1) := by decide +kernel
theorem d_PC_write_38 : decode b_PC_write 38 = .ok (.iload_n 3, 1) := by decide +kernel
theorem d_PC_write_39 : decode b_PC_write 39 = .ok (.invokevirtual 74, 3) := by decide +kernel
theorem d_PC_write_42 : decode b_PC_write 42 = .ok (.ifCond .eq 13, 3) := by decide +kernel
theorem d_PC_write_45 : decode b_PC_write 45 = .ok (.new 57, 3) := by decide +kernel
theorem d_PC_write_48 : decode b_PC_write 48 = .ok (.dup, 1) := by decide +kernel
theorem d_PC_write_49 : decode b_PC_write 49 = .ok (.ldc 78, 2) := by decide +kernel
theorem d_PC_write_51 : decode b_PC_write 51 = .ok (.invokespecial 61, 3) := by decide +kernel
theorem d_PC_write_54 : decode b_PC_write 54 = .ok (.athrow, 1) := by decide +kernel
theorem d_PC_write_55 : decode b_PC_write 55 = .ok (.aload_n 0, 1) := by decide +kernel
theorem d_PC_write_56 : decode b_PC_write 56 = .ok (.getfield 35, 3) := by decide +kernel
theorem d_PC_write_59 : decode b_PC_write 59 = .ok (.iload_n 1, 1) := by decide +kernel
theorem d_PC_write_60 : decode b_PC_write 60 = .ok (.baload, 1) := by decide +kernel
theorem d_PC_write_61 : decode b_PC_write 61 = .ok (.ifCond .ne 12, 3) := by decide +kernel
theorem d_PC_write_64 : decode b_PC_write 64 = .ok (.aload 5, 2) := by decide +kernel
theorem d_PC_write_66 : decode b_PC_write 66 = .ok (.iload_n 1, 1) := by decide +kernel
theorem d_PC_write_67 : decode b_PC_write 67 = .ok (.invokevirtual 80, 3) := by decide +kernel
theorem d_PC_write_70 : decode b_PC_write 70 = .ok (.ifCond .ne 13, 3) := by decide +kernel
theorem d_PC_write_73 : decode b_PC_write 73 = .ok (.new 84, 3) := by decide +kernel
theorem d_PC_write_76 : decode b_PC_write 76 = .ok (.dup, 1) := by decide +kernel
theorem d_PC_write_77 : decode b_PC_write 77 = .ok (.ldc 86, 2) := by decide +kernel
theorem d_PC_write_79 : decode b_PC_write 79 = .ok (.invokespecial 88, 3) := by decide +kernel
theorem d_PC_write_82 : decode b_PC_write 82 = .ok (.athrow, 1) := by decide +kernel
theorem d_PC_write_83 : decode b_PC_write 83 = .ok (.aload 5, 2) := by decide +kernel
theorem d_PC_write_85 : decode b_PC_write 85 = .ok (.iload_n 1, 1) := by decide +kernel
theorem d_PC_write_86 : decode b_PC_write 86 = .ok (.iload_n 3, 1) := by decide +kernel
theorem d_PC_write_87 : decode b_PC_write 87 = .ok (.iload 4, 2) := by decide +kernel
theorem d_PC_write_89 : decode b_PC_write 89 = .ok (.invokevirtual 89, 3) := by decide +kernel
theorem d_PC_write_92 : decode b_PC_write 92 = .ok (.aload_n 0, 1) := by decide +kernel
theorem d_PC_write_93 : decode b_PC_write 93 = .ok (.getfield 32, 3) := by decide +kernel
theorem d_PC_write_96 : decode b_PC_write 96 = .ok (.iload_n 1, 1) := by decide +kernel
theorem d_PC_write_97 : decode b_PC_write 97 = .ok (.aload_n 0, 1) := by decide +kernel
theorem d_PC_write_98 : decode b_PC_write 98 = .ok (.getfield 32, 3) := by decide +kernel
theorem d_PC_write_101 : decode b_PC_write 101 = .ok (.iload_n 1, 1) := by decide +kernel
theorem d_PC_write_102 : decode b_PC_write 102 = .ok (.iaload, 1) := by decide +kernel
theorem d_PC_write_103 : decode b_PC_write 103 = .ok (.iload_n 2, 1) := by decide +kernel
theorem d_PC_write_104 : decode b_PC_write 104 = .ok (.invokestatic 93, 3) := by decide +kernel
theorem d_PC_write_107 : decode b_PC_write 107 = .ok (.iastore, 1) := by decide +kernel
theorem d_PC_write_108 : decode b_PC_write 108 = .ok (.aload 5, 2) := by decide +kernel
theorem d_PC_write_110 : decode b_PC_write 110 = .ok (.iload_n 1, 1) := by decide +kernel
theorem d_PC_write_111 : decode b_PC_write 111 = .ok (.invokevirtual 97, 3) := by decide +kernel
theorem d_PC_write_114 : decode b_PC_write 114 = .ok (.ireturn, 1) := by decide +kernel
theorem d_Store_abort_0 : decode b_Store_abort 0 = .ok (.aload_n 0, 1) := by decide +kernel
theorem d_Store_abort_1 : decode b_Store_abort 1 = .ok (.getfield 18, 3) := by decide +kernel
theorem d_Store_abort_4 : decode b_Store_abort 4 = .ok (.iload_n 1, 1) := by decide +kernel
theorem d_Store_abort_5 : decode b_Store_abort 5 = .ok (.iconst 4, 1) := by decide +kernel
theorem d_Store_abort_6 : decode b_Store_abort 6 = .ok (.iastore, 1) := by decide +kernel
theorem d_Store_abort_7 : decode b_Store_abort 7 = .ok (.aload_n 0, 1) := by decide +kernel
theorem d_Store_abort_8 : decode b_Store_abort 8 = .ok (.iload_n 1, 1) := by decide +kernel
theorem d_Store_abort_9 : decode b_Store_abort 9 = .ok (.invokevirtual 49, 3) := by decide +kernel
theorem d_Store_abort_12 : decode b_Store_abort 12 = .ok (.return_, 1) := by decide +kernel
theorem d_Store_abortWork_0 : decode b_Store_abortWork 0 = .ok (.iconst 0, 1) := by decide +kernel
theorem d_Store_abortWork_1 : decode b_Store_abortWork 1 = .ok (.istore_n 1, 1) := by decide +kernel
theorem d_Store_abortWork_2 : decode b_Store_abortWork 2 = .ok (.iload_n 1, 1) := by decide +kernel
theorem d_Store_abortWork_3 : decode b_Store_abortWork 3 = .ok (.bipush 8, 2) := by decide +kernel
theorem d_Store_abortWork_5 : decode b_Store_abortWork 5 = .ok (.if_icmp .ge 24, 3) := by decide +kernel
theorem d_Store_abortWork_8 : decode b_Store_abortWork 8 = .ok (.aload_n 0, 1) := by decide +kernel
theorem d_Store_abortWork_9 : decode b_Store_abortWork 9 = .ok (.getfield 18, 3) := by decide +kernel
theorem d_Store_abortWork_12 : decode b_Store_abortWork 12 = .ok (.iload_n 1, 1) := by decide +kernel
theorem d_Store_abortWork_13 : decode b_Store_abortWork 13 = .ok (.iaload, 1) := by decide +kernel
theorem d_Store_abortWork_14 : decode b_Store_abortWork 14 = .ok (.iconst 1, 1) := by decide +kernel
theorem d_Store_abortWork_15 : decode b_Store_abortWork 15 = .ok (.if_icmp .ne 8, 3) := by decide +kernel
theorem d_Store_abortWork_18 : decode b_Store_abortWork 18 = .ok (.aload_n 0, 1) := by decide +kernel
theorem d_Store_abortWork_19 : decode b_Store_abortWork 19 = .ok (.iload_n 1, 1) := by decide +kernel
theorem d_Store_abortWork_20 : decode b_Store_abortWork 20 = .ok (.invokevirtual 53, 3) := by decide +kernel
theorem d_Store_abortWork_23 : decode b_Store_abortWork 23 = .ok (.iinc 1 1, 3) := by decide +kernel
theorem d_Store_abortWork_26 : decode b_Store_abortWork 26 = .ok (.goto (-24), 3) := by decide +kernel
theorem d_Store_abortWork_29 : decode b_Store_abortWork 29 = .ok (.return_, 1) := by decide +kernel
theorem d_Store_commit_0 : decode b_Store_commit 0 = .ok (.iconst 0, 1) := by decide +kernel
theorem d_Store_commit_1 : decode b_Store_commit 1 = .ok (.istore_n 2, 1) := by decide +kernel
theorem d_Store_commit_2 : decode b_Store_commit 2 = .ok (.iload_n 2, 1) := by decide +kernel
theorem d_Store_commit_3 : decode b_Store_commit 3 = .ok (.iconst 4, 1) := by decide +kernel
theorem d_Store_commit_4 : decode b_Store_commit 4 = .ok (.if_icmp .ge 36, 3) := by decide +kernel
theorem d_Store_commit_7 : decode b_Store_commit 7 = .ok (.aload_n 0, 1) := by decide +kernel
theorem d_Store_commit_8 : decode b_Store_commit 8 = .ok (.getfield 21, 3) := by decide +kernel
theorem d_Store_commit_11 : decode b_Store_commit 11 = .ok (.iload_n 1, 1) := by decide +kernel
theorem d_Store_commit_12 : decode b_Store_commit 12 = .ok (.iaload, 1) := by decide +kernel
theorem d_Store_commit_13 : decode b_Store_commit 13 = .ok (.iload_n 2, 1) := by decide +kernel
theorem d_Store_commit_14 : decode b_Store_commit 14 = .ok (.invokestatic 45, 3) := by decide +kernel
theorem d_Store_commit_17 : decode b_Store_commit 17 = .ok (.ifCond .eq 17, 3) := by decide +kernel
theorem d_Store_commit_20 : decode b_Store_commit 20 = .ok (.aload_n 0, 1) := by decide +kernel
theorem d_Store_commit_21 : decode b_Store_commit 21 = .ok (.getfield 9, 3) := by decide +kernel
theorem d_Store_commit_24 : decode b_Store_commit 24 = .ok (.iload_n 2, 1) := by decide +kernel
theorem d_Store_commit_25 : decode b_Store_commit 25 = .ok (.aload_n 0, 1) := by decide +kernel
theorem d_Store_commit_26 : decode b_Store_commit 26 = .ok (.getfield 26, 3) := by decide +kernel
theorem d_Store_commit_29 : decode b_Store_commit 29 = .ok (.iload_n 1, 1) := by decide +kernel
theorem d_Store_commit_30 : decode b_Store_commit 30 = .ok (.aaload, 1) := by decide +kernel
theorem d_Store_commit_31 : decode b_Store_commit 31 = .ok (.iload_n 2, 1) := by decide +kernel
theorem d_Store_commit_32 : decode b_Store_commit 32 = .ok (.iaload, 1) := by decide +kernel
theorem d_Store_commit_33 : decode b_Store_commit 33 = .ok (.iastore, 1) := by decide +kernel
theorem d_Store_commit_34 : decode b_Store_commit 34 = .ok (.iinc 2 1, 3) := by decide +kernel
theorem d_Store_commit_37 : decode b_Store_commit 37 = .ok (.goto (-35), 3) := by decide +kernel
theorem d_Store_commit_40 : decode b_Store_commit 40 = .ok (.aload_n 0, 1) := by decide +kernel
theorem d_Store_commit_41 : decode b_Store_commit 41 = .ok (.getfield 18, 3) := by decide +kernel
theorem d_Store_commit_44 : decode b_Store_commit 44 = .ok (.iload_n 1, 1) := by decide +kernel
theorem d_Store_commit_45 : decode b_Store_commit 45 = .ok (.iconst 3, 1) := by decide +kernel
theorem d_Store_commit_46 : decode b_Store_commit 46 = .ok (.iastore, 1) := by decide +kernel
theorem d_Store_commit_47 : decode b_Store_commit 47 = .ok (.aload_n 0, 1) := by decide +kernel
theorem d_Store_commit_48 : decode b_Store_commit 48 = .ok (.iload_n 1, 1) := by decide +kernel
theorem d_Store_commit_49 : decode b_Store_commit 49 = .ok (.invokevirtual 49, 3) := by decide +kernel
theorem d_Store_commit_52 : decode b_Store_commit 52 = .ok (.return_, 1) := by decide +kernel
theorem d_Store_init_0 : decode b_Store_init 0 = .ok (.aload_n 0, 1) := by decide +kernel
theorem d_Store_init_1 : decode b_Store_init 1 = .ok (.invokespecial 3, 3) := by decide +kernel
theorem d_Store_init_4 : decode b_Store_init 4 = .ok (.aload_n 0, 1) := by decide +kernel
theorem d_Store_init_5 : decode b_Store_init 5 = .ok (.iconst 4, 1) := by decide +kernel
theorem d_Store_init_6 : decode b_Store_init 6 = .ok (.newarray .int, 2) := by decide +kernel
theorem d_Store_init_8 : decode b_Store_init 8 = .ok (.putfield 9, 3) := by decide +kernel
theorem d_Store_init_11 : decode b_Store_init 11 = .ok (.aload_n 0, 1) := by decide +kernel
theorem d_Store_init_12 : decode b_Store_init 12 = .ok (.iconst 4, 1) := by decide +kernel
theorem d_Store_init_13 : decode b_Store_init 13 = .ok (.newarray .int, 2) := by decide +kernel
theorem d_Store_init_15 : decode b_Store_init 15 = .ok (.putfield 15, 3) := by decide +kernel
theorem d_Store_init_18 : decode b_Store_init 18 = .ok (.aload_n 0, 1) := by decide +kernel
theorem d_Store_init_19 : decode b_Store_init 19 = .ok (.bipush 8, 2) := by decide +kernel
theorem d_Store_init_21 : decode b_Store_init 21 = .ok (.newarray .int, 2) := by decide +kernel
theorem d_Store_init_23 : decode b_Store_init 23 = .ok (.putfield 18, 3) := by decide +kernel
theorem d_Store_init_26 : decode b_Store_init 26 = .ok (.aload_n 0, 1) := by decide +kernel
theorem d_Store_init_27 : decode b_Store_init 27 = .ok (.bipush 8, 2) := by decide +kernel
theorem d_Store_init_29 : decode b_Store_init 29 = .ok (.newarray .int, 2) := by decide +kernel
theorem d_Store_init_31 : decode b_Store_init 31 = .ok (.putfield 21, 3) := by decide +kernel
theorem d_Store_init_34 : decode b_Store_init 34 = .ok (.aload_n 0, 1) := by decide +kernel
theorem d_Store_init_35 : decode b_Store_init 35 = .ok (.bipush 8, 2) := by decide +kernel
theorem d_Store_init_37 : decode b_Store_init 37 = .ok (.iconst 4, 1) := by decide +kernel
theorem d_Store_init_38 : decode b_Store_init 38 = .ok (.multianewarray 24 2, 4) := by decide +kernel
theorem d_Store_init_42 : decode b_Store_init 42 = .ok (.putfield 26, 3) := by decide +kernel
theorem d_Store_init_45 : decode b_Store_init 45 = .ok (.aload_n 0, 1) := by decide +kernel
theorem d_Store_init_46 : decode b_Store_init 46 = .ok (.getfield 15, 3) := by decide +kernel
theorem d_Store_init_49 : decode b_Store_init 49 = .ok (.iconst (-1), 1) := by decide +kernel
theorem d_Store_init_50 : decode b_Store_init 50 = .ok (.invokestatic 29, 3) := by decide +kernel
theorem d_Store_init_53 : decode b_Store_init 53 = .ok (.return_, 1) := by decide +kernel
theorem d_Store_isLockedByAnother_0 : decode b_Store_isLockedByAnother 0 = .ok (.aload_n 0, 1) := by decide +kernel
theorem d_Store_isLockedByAnother_1 : decode b_Store_isLockedByAnother 1 = .ok (.getfield 15, 3) := by decide +kernel
theorem d_Store_isLockedByAnother_4 : decode b_Store_isLockedByAnother 4 = .ok (.iload_n 2, 1) := by decide +kernel
theorem d_Store_isLockedByAnother_5 : decode b_Store_isLockedByAnother 5 = .ok (.iaload, 1) := by decide +kernel
theorem d_Store_isLockedByAnother_6 : decode b_Store_isLockedByAnother 6 = .ok (.iconst (-1), 1) := by decide +kernel
theorem d_Store_isLockedByAnother_7 : decode b_Store_isLockedByAnother 7 = .ok (.if_icmp .eq 17, 3) := by decide +kernel
theorem d_Store_isLockedByAnother_10 : decode b_Store_isLockedByAnother 10 = .ok (.aload_n 0, 1) := by decide +kernel
theorem d_Store_isLockedByAnother_11 : decode b_Store_isLockedByAnother 11 = .ok (.getfield 15, 3) := by decide +kernel
theorem d_Store_isLockedByAnother_14 : decode b_Store_isLockedByAnother 14 = .ok (.iload_n 2, 1) := by decide +kernel
theorem d_Store_isLockedByAnother_15 : decode b_Store_isLockedByAnother 15 = .ok (.iaload, 1) := by decide +kernel
theorem d_Store_isLockedByAnother_16 : decode b_Store_isLockedByAnother 16 = .ok (.iload_n 1, 1) := by decide +kernel
theorem d_Store_isLockedByAnother_17 : decode b_Store_isLockedByAnother 17 = .ok (.if_icmp .eq 7, 3) := by decide +kernel
theorem d_Store_isLockedByAnother_20 : decode b_Store_isLockedByAnother 20 = .ok (.iconst 1, 1) := by decide +kernel
theorem d_Store_isLockedByAnother_21 : decode b_Store_isLockedByAnother 21 = .ok (.goto 4, 3) := by decide +kernel
theorem d_Store_isLockedByAnother_24 : decode b_Store_isLockedByAnother 24 = .ok (.iconst 0, 1) := by decide +kernel
theorem d_Store_isLockedByAnother_25 : decode b_Store_isLockedByAnother 25 = .ok (.ireturn, 1) := by decide +kernel
theorem d_Store_isOpenFor_0 : decode b_Store_isOpenFor 0 = .ok (.aload_n 0, 1) := by decide +kernel
theorem d_Store_isOpenFor_1 : decode b_Store_isOpenFor 1 = .ok (.getfield 18, 3) := by decide +kernel
theorem d_Store_isOpenFor_4 : decode b_Store_isOpenFor 4 = .ok (.iload_n 1, 1) := by decide +kernel
theorem d_Store_isOpenFor_5 : decode b_Store_isOpenFor 5 = .ok (.iaload, 1) := by decide +kernel
theorem d_Store_isOpenFor_6 : decode b_Store_isOpenFor 6 = .ok (.ifCond .eq 13, 3) := by decide +kernel
theorem d_Store_isOpenFor_9 : decode b_Store_isOpenFor 9 = .ok (.aload_n 0, 1) := by decide +kernel
theorem d_Store_isOpenFor_10 : decode b_Store_isOpenFor 10 = .ok (.getfield 18, 3) := by decide +kernel
theorem d_Store_isOpenFor_13 : decode b_Store_isOpenFor 13 = .ok (.iload_n 1, 1) := by decide +kernel
theorem d_Store_isOpenFor_14 : decode b_Store_isOpenFor 14 = .ok (.iaload, 1) := by decide +kernel
theorem d_Store_isOpenFor_15 : decode b_Store_isOpenFor 15 = .ok (.iconst 1, 1) := by decide +kernel
theorem d_Store_isOpenFor_16 : decode b_Store_isOpenFor 16 = .ok (.if_icmp .ne 7, 3) := by decide +kernel
theorem d_Store_isOpenFor_19 : decode b_Store_isOpenFor 19 = .ok (.iconst 1, 1) := by decide +kernel
theorem d_Store_isOpenFor_20 : decode b_Store_isOpenFor 20 = .ok (.goto 4, 3) := by decide +kernel
theorem d_Store_isOpenFor_23 : decode b_Store_isOpenFor 23 = .ok (.iconst 0, 1) := by decide +kernel
theorem d_Store_isOpenFor_24 : decode b_Store_isOpenFor 24 = .ok (.ireturn, 1) := by decide +kernel
theorem d_Store_keep_0 : decode b_Store_keep 0 = .ok (.aload_n 0, 1) := by decide +kernel
theorem d_Store_keep_1 : decode b_Store_keep 1 = .ok (.getfield 18, 3) := by decide +kernel
theorem d_Store_keep_4 : decode b_Store_keep 4 = .ok (.iload_n 1, 1) := by decide +kernel
theorem d_Store_keep_5 : decode b_Store_keep 5 = .ok (.iconst 1, 1) := by decide +kernel
theorem d_Store_keep_6 : decode b_Store_keep 6 = .ok (.iastore, 1) := by decide +kernel
theorem d_Store_keep_7 : decode b_Store_keep 7 = .ok (.aload_n 0, 1) := by decide +kernel
theorem d_Store_keep_8 : decode b_Store_keep 8 = .ok (.getfield 15, 3) := by decide +kernel
theorem d_Store_keep_11 : decode b_Store_keep 11 = .ok (.iload_n 2, 1) := by decide +kernel
theorem d_Store_keep_12 : decode b_Store_keep 12 = .ok (.iload_n 1, 1) := by decide +kernel
theorem d_Store_keep_13 : decode b_Store_keep 13 = .ok (.iastore, 1) := by decide +kernel
theorem d_Store_keep_14 : decode b_Store_keep 14 = .ok (.aload_n 0, 1) := by decide +kernel
theorem d_Store_keep_15 : decode b_Store_keep 15 = .ok (.getfield 21, 3) := by decide +kernel
theorem d_Store_keep_18 : decode b_Store_keep 18 = .ok (.iload_n 1, 1) := by decide +kernel
theorem d_Store_keep_19 : decode b_Store_keep 19 = .ok (.aload_n 0, 1) := by decide +kernel
theorem d_Store_keep_20 : decode b_Store_keep 20 = .ok (.getfield 21, 3) := by decide +kernel
theorem d_Store_keep_23 : decode b_Store_keep 23 = .ok (.iload_n 1, 1) := by decide +kernel
theorem d_Store_keep_24 : decode b_Store_keep 24 = .ok (.iaload, 1) := by decide +kernel
theorem d_Store_keep_25 : decode b_Store_keep 25 = .ok (.iload_n 2, 1) := by decide +kernel
theorem d_Store_keep_26 : decode b_Store_keep 26 = .ok (.invokestatic 35, 3) := by decide +kernel
theorem d_Store_keep_29 : decode b_Store_keep 29 = .ok (.iastore, 1) := by decide +kernel
theorem d_Store_keep_30 : decode b_Store_keep 30 = .ok (.aload_n 0, 1) := by decide +kernel
theorem d_Store_keep_31 : decode b_Store_keep 31 = .ok (.getfield 26, 3) := by decide +kernel
theorem d_Store_keep_34 : decode b_Store_keep 34 = .ok (.iload_n 1, 1) := by decide +kernel
theorem d_Store_keep_35 : decode b_Store_keep 35 = .ok (.aaload, 1) := by decide +kernel
theorem d_Store_keep_36 : decode b_Store_keep 36 = .ok (.iload_n 2, 1) := by decide +kernel
theorem d_Store_keep_37 : decode b_Store_keep 37 = .ok (.iload_n 3, 1) := by decide +kernel
theorem d_Store_keep_38 : decode b_Store_keep 38 = .ok (.iastore, 1) := by decide +kernel
theorem d_Store_keep_39 : decode b_Store_keep 39 = .ok (.return_, 1) := by decide +kernel
theorem d_Store_keysWritten_0 : decode b_Store_keysWritten 0 = .ok (.aload_n 0, 1) := by decide +kernel
theorem d_Store_keysWritten_1 : decode b_Store_keysWritten 1 = .ok (.getfield 21, 3) := by decide +kernel
theorem d_Store_keysWritten_4 : decode b_Store_keysWritten 4 = .ok (.iload_n 1, 1) := by decide +kernel
theorem d_Store_keysWritten_5 : decode b_Store_keysWritten 5 = .ok (.iaload, 1) := by decide +kernel
theorem d_Store_keysWritten_6 : decode b_Store_keysWritten 6 = .ok (.invokestatic 39, 3) := by decide +kernel
theorem d_Store_keysWritten_9 : decode b_Store_keysWritten 9 = .ok (.ireturn, 1) := by decide +kernel
theorem d_Store_unlock_0 : decode b_Store_unlock 0 = .ok (.iconst 0, 1) := by decide +kernel
theorem d_Store_unlock_1 : decode b_Store_unlock 1 = .ok (.istore_n 2, 1) := by decide +kernel
theorem d_Store_unlock_2 : decode b_Store_unlock 2 = .ok (.iload_n 2, 1) := by decide +kernel
theorem d_Store_unlock_3 : decode b_Store_unlock 3 = .ok (.iconst 4, 1) := by decide +kernel
theorem d_Store_unlock_4 : decode b_Store_unlock 4 = .ok (.if_icmp .ge 26, 3) := by decide +kernel
theorem d_Store_unlock_7 : decode b_Store_unlock 7 = .ok (.aload_n 0, 1) := by decide +kernel
theorem d_Store_unlock_8 : decode b_Store_unlock 8 = .ok (.getfield 15, 3) := by decide +kernel
theorem d_Store_unlock_11 : decode b_Store_unlock 11 = .ok (.iload_n 2, 1) := by decide +kernel
theorem d_Store_unlock_12 : decode b_Store_unlock 12 = .ok (.iaload, 1) := by decide +kernel
theorem d_Store_unlock_13 : decode b_Store_unlock 13 = .ok (.iload_n 1, 1) := by decide +kernel
theorem d_Store_unlock_14 : decode b_Store_unlock 14 = .ok (.if_icmp .ne 10, 3) := by decide +kernel
theorem d_Store_unlock_17 : decode b_Store_unlock 17 = .ok (.aload_n 0, 1) := by decide +kernel
theorem d_Store_unlock_18 : decode b_Store_unlock 18 = .ok (.getfield 15, 3) := by decide +kernel
theorem d_Store_unlock_21 : decode b_Store_unlock 21 = .ok (.iload_n 2, 1) := by decide +kernel
theorem d_Store_unlock_22 : decode b_Store_unlock 22 = .ok (.iconst (-1), 1) := by decide +kernel
theorem d_Store_unlock_23 : decode b_Store_unlock 23 = .ok (.iastore, 1) := by decide +kernel
theorem d_Store_unlock_24 : decode b_Store_unlock 24 = .ok (.iinc 2 1, 3) := by decide +kernel
theorem d_Store_unlock_27 : decode b_Store_unlock 27 = .ok (.goto (-25), 3) := by decide +kernel
theorem d_Store_unlock_30 : decode b_Store_unlock 30 = .ok (.return_, 1) := by decide +kernel
