theorem d_Acc_accept_0 : decode b_Acc_accept 0 = .ok (.aload_n 0, 1) := by decide +kernel
theorem d_Acc_accept_1 : decode b_Acc_accept 1 = .ok (.getfield 11, 3) := by decide +kernel
theorem d_Acc_accept_4 : decode b_Acc_accept 4 = .ok (.iload_n 1, 1) := by decide +kernel
theorem d_Acc_accept_5 : decode b_Acc_accept 5 = .ok (.aaload, 1) := by decide +kernel
theorem d_Acc_accept_6 : decode b_Acc_accept 6 = .ok (.iload_n 2, 1) := by decide +kernel
theorem d_Acc_accept_7 : decode b_Acc_accept 7 = .ok (.iload_n 3, 1) := by decide +kernel
theorem d_Acc_accept_8 : decode b_Acc_accept 8 = .ok (.iastore, 1) := by decide +kernel
theorem d_Acc_accept_9 : decode b_Acc_accept 9 = .ok (.aload_n 0, 1) := by decide +kernel
theorem d_Acc_accept_10 : decode b_Acc_accept 10 = .ok (.getfield 16, 3) := by decide +kernel
theorem d_Acc_accept_13 : decode b_Acc_accept 13 = .ok (.iload_n 1, 1) := by decide +kernel
theorem d_Acc_accept_14 : decode b_Acc_accept 14 = .ok (.aaload, 1) := by decide +kernel
theorem d_Acc_accept_15 : decode b_Acc_accept 15 = .ok (.iload_n 2, 1) := by decide +kernel
theorem d_Acc_accept_16 : decode b_Acc_accept 16 = .ok (.iload_n 3, 1) := by decide +kernel
theorem d_Acc_accept_17 : decode b_Acc_accept 17 = .ok (.iload 4, 2) := by decide +kernel
theorem d_Acc_accept_19 : decode b_Acc_accept 19 = .ok (.invokestatic 29, 3) := by decide +kernel
theorem d_Acc_accept_22 : decode b_Acc_accept 22 = .ok (.iastore, 1) := by decide +kernel
theorem d_Acc_accept_23 : decode b_Acc_accept 23 = .ok (.return_, 1) := by decide +kernel
theorem d_Acc_hasPromisedAbove_0 : decode b_Acc_hasPromisedAbove 0 = .ok (.iconst 0, 1) := by decide +kernel
theorem d_Acc_hasPromisedAbove_1 : decode b_Acc_hasPromisedAbove 1 = .ok (.istore 4, 2) := by decide +kernel
theorem d_Acc_hasPromisedAbove_3 : decode b_Acc_hasPromisedAbove 3 = .ok (.iconst 0, 1) := by decide +kernel
theorem d_Acc_hasPromisedAbove_4 : decode b_Acc_hasPromisedAbove 4 = .ok (.istore 5, 2) := by decide +kernel
theorem d_Acc_hasPromisedAbove_6 : decode b_Acc_hasPromisedAbove 6 = .ok (.iload 5, 2) := by decide +kernel
theorem d_Acc_hasPromisedAbove_8 : decode b_Acc_hasPromisedAbove 8 = .ok (.iconst 3, 1) := by decide +kernel
theorem d_Acc_hasPromisedAbove_9 : decode b_Acc_hasPromisedAbove 9 = .ok (.if_icmp .ge 34, 3) := by decide +kernel
theorem d_Acc_hasPromisedAbove_12 : decode b_Acc_hasPromisedAbove 12 = .ok (.iload_n 2, 1) := by decide +kernel
theorem d_Acc_hasPromisedAbove_13 : decode b_Acc_hasPromisedAbove 13 = .ok (.iload 5, 2) := by decide +kernel
theorem d_Acc_hasPromisedAbove_15 : decode b_Acc_hasPromisedAbove 15 = .ok (.invokestatic 25, 3) := by decide +kernel
theorem d_Acc_hasPromisedAbove_18 : decode b_Acc_hasPromisedAbove 18 = .ok (.ifCond .eq 19, 3) := by decide +kernel
theorem d_Acc_hasPromisedAbove_21 : decode b_Acc_hasPromisedAbove 21 = .ok (.aload_n 0, 1) := by decide +kernel
theorem d_Acc_hasPromisedAbove_22 : decode b_Acc_hasPromisedAbove 22 = .ok (.getfield 11, 3) := by decide +kernel
theorem d_Acc_hasPromisedAbove_25 : decode b_Acc_hasPromisedAbove 25 = .ok (.iload_n 1, 1) := by decide +kernel
theorem d_Acc_hasPromisedAbove_26 : decode b_Acc_hasPromisedAbove 26 = .ok (.aaload, 1) := by decide +kernel
theorem d_Acc_hasPromisedAbove_27 : decode b_Acc_hasPromisedAbove 27 = .ok (.iload 5, 2) := by decide +kernel
theorem d_Acc_hasPromisedAbove_29 : decode b_Acc_hasPromisedAbove 29 = .ok (.iaload, 1) := by decide +kernel
theorem d_Acc_hasPromisedAbove_30 : decode b_Acc_hasPromisedAbove 30 = .ok (.iload_n 3, 1) := by decide +kernel
theorem d_Acc_hasPromisedAbove_31 : decode b_Acc_hasPromisedAbove 31 = .ok (.if_icmp .le 6, 3) := by decide +kernel
theorem d_Acc_hasPromisedAbove_34 : decode b_Acc_hasPromisedAbove 34 = .ok (.iconst 1, 1) := by decide +kernel
theorem d_Acc_hasPromisedAbove_35 : decode b_Acc_hasPromisedAbove 35 = .ok (.istore 4, 2) := by decide +kernel
theorem d_Acc_hasPromisedAbove_37 : decode b_Acc_hasPromisedAbove 37 = .ok (.iinc 5 1, 3) := by decide +kernel
theorem d_Acc_hasPromisedAbove_40 : decode b_Acc_hasPromisedAbove 40 = .ok (.goto (-34), 3) := by decide +kernel
theorem d_Acc_hasPromisedAbove_43 : decode b_Acc_hasPromisedAbove 43 = .ok (.iload 4, 2) := by decide +kernel
theorem d_Acc_hasPromisedAbove_45 : decode b_Acc_hasPromisedAbove 45 = .ok (.ireturn, 1) := by decide +kernel
theorem d_Acc_init_0 : decode b_Acc_init 0 = .ok (.aload_n 0, 1) := by decide +kernel
theorem d_Acc_init_1 : decode b_Acc_init 1 = .ok (.invokespecial 3, 3) := by decide +kernel
theorem d_Acc_init_4 : decode b_Acc_init 4 = .ok (.aload_n 0, 1) := by decide +kernel
theorem d_Acc_init_5 : decode b_Acc_init 5 = .ok (.bipush 8, 2) := by decide +kernel
theorem d_Acc_init_7 : decode b_Acc_init 7 = .ok (.iconst 3, 1) := by decide +kernel
theorem d_Acc_init_8 : decode b_Acc_init 8 = .ok (.multianewarray 9 2, 4) := by decide +kernel
theorem d_Acc_init_12 : decode b_Acc_init 12 = .ok (.putfield 11, 3) := by decide +kernel
theorem d_Acc_init_15 : decode b_Acc_init 15 = .ok (.aload_n 0, 1) := by decide +kernel
theorem d_Acc_init_16 : decode b_Acc_init 16 = .ok (.bipush 8, 2) := by decide +kernel
theorem d_Acc_init_18 : decode b_Acc_init 18 = .ok (.iconst 3, 1) := by decide +kernel
theorem d_Acc_init_19 : decode b_Acc_init 19 = .ok (.multianewarray 9 2, 4) := by decide +kernel
theorem d_Acc_init_23 : decode b_Acc_init 23 = .ok (.putfield 16, 3) := by decide +kernel
theorem d_Acc_init_26 : decode b_Acc_init 26 = .ok (.iconst 0, 1) := by decide +kernel
theorem d_Acc_init_27 : decode b_Acc_init 27 = .ok (.istore_n 1, 1) := by decide +kernel
theorem d_Acc_init_28 : decode b_Acc_init 28 = .ok (.iload_n 1, 1) := by decide +kernel
theorem d_Acc_init_29 : decode b_Acc_init 29 = .ok (.bipush 8, 2) := by decide +kernel
theorem d_Acc_init_31 : decode b_Acc_init 31 = .ok (.if_icmp .ge 19, 3) := by decide +kernel
theorem d_Acc_init_34 : decode b_Acc_init 34 = .ok (.aload_n 0, 1) := by decide +kernel
theorem d_Acc_init_35 : decode b_Acc_init 35 = .ok (.getfield 16, 3) := by decide +kernel
theorem d_Acc_init_38 : decode b_Acc_init 38 = .ok (.iload_n 1, 1) := by decide +kernel
theorem d_Acc_init_39 : decode b_Acc_init 39 = .ok (.aaload, 1) := by decide +kernel
theorem d_Acc_init_40 : decode b_Acc_init 40 = .ok (.iconst (-1), 1) := by decide +kernel
theorem d_Acc_init_41 : decode b_Acc_init 41 = .ok (.invokestatic 19, 3) := by decide +kernel
theorem d_Acc_init_44 : decode b_Acc_init 44 = .ok (.iinc 1 1, 3) := by decide +kernel
theorem d_Acc_init_47 : decode b_Acc_init 47 = .ok (.goto (-19), 3) := by decide +kernel
theorem d_Acc_init_50 : decode b_Acc_init 50 = .ok (.return_, 1) := by decide +kernel
theorem d_Acc_promise_0 : decode b_Acc_promise 0 = .ok (.iconst 0, 1) := by decide +kernel
theorem d_Acc_promise_1 : decode b_Acc_promise 1 = .ok (.istore 4, 2) := by decide +kernel
theorem d_Acc_promise_3 : decode b_Acc_promise 3 = .ok (.iload 4, 2) := by decide +kernel
theorem d_Acc_promise_5 : decode b_Acc_promise 5 = .ok (.iconst 3, 1) := by decide +kernel
theorem d_Acc_promise_6 : decode b_Acc_promise 6 = .ok (.if_icmp .ge 28, 3) := by decide +kernel
theorem d_Acc_promise_9 : decode b_Acc_promise 9 = .ok (.iload_n 2, 1) := by decide +kernel
theorem d_Acc_promise_10 : decode b_Acc_promise 10 = .ok (.iload 4, 2) := by decide +kernel
theorem d_Acc_promise_12 : decode b_Acc_promise 12 = .ok (.invokestatic 25, 3) := by decide +kernel
theorem d_Acc_promise_15 : decode b_Acc_promise 15 = .ok (.ifCond .eq 13, 3) := by decide +kernel
theorem d_Acc_promise_18 : decode b_Acc_promise 18 = .ok (.aload_n 0, 1) := by decide +kernel
theorem d_Acc_promise_19 : decode b_Acc_promise 19 = .ok (.getfield 11, 3) := by decide +kernel
theorem d_Acc_promise_22 : decode b_Acc_promise 22 = .ok (.iload_n 1, 1) := by decide +kernel
theorem d_Acc_promise_23 : decode b_Acc_promise 23 = .ok (.aaload, 1) := by decide +kernel
theorem d_Acc_promise_24 : decode b_Acc_promise 24 = .ok (.iload 4, 2) := by decide +kernel
theorem d_Acc_promise_26 : decode b_Acc_promise 26 = .ok (.iload_n 3, 1) := by decide +kernel
theorem d_Acc_promise_27 : decode b_Acc_promise 27 = .ok (.iastore, 1) := by decide +kernel
theorem d_Acc_promise_28 : decode b_Acc_promise 28 = .ok (.iinc 4 1, 3) := by decide +kernel
theorem d_Acc_promise_31 : decode b_Acc_promise 31 = .ok (.goto (-28), 3) := by decide +kernel
theorem d_Acc_promise_34 : decode b_Acc_promise 34 = .ok (.return_, 1) := by decide +kernel
theorem d_Arrays_fill_0 : decode b_Arrays_fill 0 = .ok (.iconst 0, 1) := by decide +kernel
theorem d_Arrays_fill_1 : decode b_Arrays_fill 1 = .ok (.istore_n 2, 1) := by decide +kernel
theorem d_Arrays_fill_2 : decode b_Arrays_fill 2 = .ok (.aload_n 0, 1) := by decide +kernel
theorem d_Arrays_fill_3 : decode b_Arrays_fill 3 = .ok (.arraylength, 1) := by decide +kernel
theorem d_Arrays_fill_4 : decode b_Arrays_fill 4 = .ok (.istore_n 3, 1) := by decide +kernel
theorem d_Arrays_fill_5 : decode b_Arrays_fill 5 = .ok (.iload_n 2, 1) := by decide +kernel
theorem d_Arrays_fill_6 : decode b_Arrays_fill 6 = .ok (.iload_n 3, 1) := by decide +kernel
theorem d_Arrays_fill_7 : decode b_Arrays_fill 7 = .ok (.if_icmp .ge 13, 3) := by decide +kernel
theorem d_Arrays_fill_10 : decode b_Arrays_fill 10 = .ok (.aload_n 0, 1) := by decide +kernel
theorem d_Arrays_fill_11 : decode b_Arrays_fill 11 = .ok (.iload_n 2, 1) := by decide +kernel
theorem d_Arrays_fill_12 : decode b_Arrays_fill 12 = .ok (.iload_n 1, 1) := by decide +kernel
theorem d_Arrays_fill_13 : decode b_Arrays_fill 13 = .ok (.iastore, 1) := by decide +kernel
theorem d_Arrays_fill_14 : decode b_Arrays_fill 14 = .ok (.iinc 2 1, 3) := by decide +kernel
theorem d_Arrays_fill_17 : decode b_Arrays_fill 17 = .ok (.goto (-12), 3) := by decide +kernel
theorem d_Arrays_fill_20 : decode b_Arrays_fill 20 = .ok (.return_, 1) := by decide +kernel
theorem d_Integer_bitCount_0 : decode b_Integer_bitCount 0 = .ok (.iload_n 0, 1) := by decide +kernel
theorem d_Integer_bitCount_1 : decode b_Integer_bitCount 1 = .ok (.iload_n 0, 1) := by decide +kernel
theorem d_Integer_bitCount_2 : decode b_Integer_bitCount 2 = .ok (.iconst 1, 1) := by decide +kernel
theorem d_Integer_bitCount_3 : decode b_Integer_bitCount 3 = .ok (.iushr, 1) := by decide +kernel
theorem d_Integer_bitCount_4 : decode b_Integer_bitCount 4 = .ok (.ldc_w 265, 3) := by decide +kernel
theorem d_Integer_bitCount_7 : decode b_Integer_bitCount 7 = .ok (.iand, 1) := by decide +kernel
theorem d_Integer_bitCount_8 : decode b_Integer_bitCount 8 = .ok (.isub, 1) := by decide +kernel
theorem d_Integer_bitCount_9 : decode b_Integer_bitCount 9 = .ok (.istore_n 0, 1) := by decide +kernel
theorem d_Integer_bitCount_10 : decode b_Integer_bitCount 10 = .ok (.iload_n 0, 1) := by decide +kernel
theorem d_Integer_bitCount_11 : decode b_Integer_bitCount 11 = .ok (.ldc_w 266, 3) := by decide +kernel
theorem d_Integer_bitCount_14 : decode b_Integer_bitCount 14 = .ok (.iand, 1) := by decide +kernel
theorem d_Integer_bitCount_15 : decode b_Integer_bitCount 15 = .ok (.iload_n 0, 1) := by decide +kernel
theorem d_Integer_bitCount_16 : decode b_Integer_bitCount 16 = .ok (.iconst 2, 1) := by decide +kernel
theorem d_Integer_bitCount_17 : decode b_Integer_bitCount 17 = .ok (.iushr, 1) := by decide +kernel
theorem d_Integer_bitCount_18 : decode b_Integer_bitCount 18 = .ok (.ldc_w 266, 3) := by decide +kernel
theorem d_Integer_bitCount_21 : decode b_Integer_bitCount 21 = .ok (.iand, 1) := by decide +kernel
theorem d_Integer_bitCount_22 : decode b_Integer_bitCount 22 = .ok (.iadd, 1) := by decide +kernel
theorem d_Integer_bitCount_23 : decode b_Integer_bitCount 23 = .ok (.istore_n 0, 1) := by decide +kernel
theorem d_Integer_bitCount_24 : decode b_Integer_bitCount 24 = .ok (.iload_n 0, 1) := by decide +kernel
theorem d_Integer_bitCount_25 : decode b_Integer_bitCount 25 = .ok (.iload_n 0, 1) := by decide +kernel
theorem d_Integer_bitCount_26 : decode b_Integer_bitCount 26 = .ok (.iconst 4, 1) := by decide +kernel
theorem d_Integer_bitCount_27 : decode b_Integer_bitCount 27 = .ok (.iushr, 1) := by decide +kernel
theorem d_Integer_bitCount_28 : decode b_Integer_bitCount 28 = .ok (.iadd, 1) := by decide +kernel
theorem d_Integer_bitCount_29 : decode b_Integer_bitCount 29 = .ok (.ldc_w 267, 3) := by decide +kernel
theorem d_Integer_bitCount_32 : decode b_Integer_bitCount 32 = .ok (.iand, 1) := by decide +kernel
theorem d_Integer_bitCount_33 : decode b_Integer_bitCount 33 = .ok (.istore_n 0, 1) := by decide +kernel
theorem d_Integer_bitCount_34 : decode b_Integer_bitCount 34 = .ok (.iload_n 0, 1) := by decide +kernel
theorem d_Integer_bitCount_35 : decode b_Integer_bitCount 35 = .ok (.iload_n 0, 1) := by decide +kernel
theorem d_Integer_bitCount_36 : decode b_Integer_bitCount 36 = .ok (.bipush 8, 2) := by decide +kernel
theorem d_Integer_bitCount_38 : decode b_Integer_bitCount 38 = .ok (.iushr, 1) := by decide +kernel
theorem d_Integer_bitCount_39 : decode b_Integer_bitCount 39 = .ok (.iadd, 1) := by decide +kernel
theorem d_Integer_bitCount_40 : decode b_Integer_bitCount 40 = .ok (.istore_n 0, 1) := by decide +kernel
theorem d_Integer_bitCount_41 : decode b_Integer_bitCount 41 = .ok (.iload_n 0, 1) := by decide +kernel
theorem d_Integer_bitCount_42 : decode b_Integer_bitCount 42 = .ok (.iload_n 0, 1) := by decide +kernel
theorem d_Integer_bitCount_43 : decode b_Integer_bitCount 43 = .ok (.bipush 16, 2) := by decide +kernel
theorem d_Integer_bitCount_45 : decode b_Integer_bitCount 45 = .ok (.iushr, 1) := by decide +kernel
theorem d_Integer_bitCount_46 : decode b_Integer_bitCount 46 = .ok (.iadd, 1) := by decide +kernel
theorem d_Integer_bitCount_47 : decode b_Integer_bitCount 47 = .ok (.istore_n 0, 1) := by decide +kernel
theorem d_Integer_bitCount_48 : decode b_Integer_bitCount 48 = .ok (.iload_n 0, 1) := by decide +kernel
theorem d_Integer_bitCount_49 : decode b_Integer_bitCount 49 = .ok (.bipush 63, 2) := by decide +kernel
theorem d_Integer_bitCount_51 : decode b_Integer_bitCount 51 = .ok (.iand, 1) := by decide +kernel
theorem d_Integer_bitCount_52 : decode b_Integer_bitCount 52 = .ok (.ireturn, 1) := by decide +kernel
theorem d_Law_begin_0 : decode b_Law_begin 0 = .ok (.aload_n 1, 1) := by decide +kernel
theorem d_Law_begin_1 : decode b_Law_begin 1 = .ok (.iconst 0, 1) := by decide +kernel
theorem d_Law_begin_2 : decode b_Law_begin 2 = .ok (.aload_n 0, 1) := by decide +kernel
theorem d_Law_begin_3 : decode b_Law_begin 3 = .ok (.invokevirtual 7, 3) := by decide +kernel
theorem d_Law_begin_6 : decode b_Law_begin 6 = .ok (.i2l, 1) := by decide +kernel
theorem d_Law_begin_7 : decode b_Law_begin 7 = .ok (.lastore, 1) := by decide +kernel
theorem d_Law_begin_8 : decode b_Law_begin 8 = .ok (.goto 6, 3) := by decide +kernel
theorem d_Law_begin_11 : decode b_Law_begin 11 = .ok (.astore_n 2, 1) := by decide +kernel
theorem d_Law_begin_12 : decode b_Law_begin 12 = .ok (.iconst 1, 1) := by decide +kernel
theorem d_Law_begin_13 : decode b_Law_begin 13 = .ok (.ireturn, 1) := by decide +kernel
theorem d_Law_begin_14 : decode b_Law_begin 14 = .ok (.iconst 0, 1) := by decide +kernel
theorem d_Law_begin_15 : decode b_Law_begin 15 = .ok (.ireturn, 1) := by decide +kernel
theorem d_Law_cell_0 : decode b_Law_cell 0 = .ok (.iload_n 1, 1) := by decide +kernel
theorem d_Law_cell_1 : decode b_Law_cell 1 = .ok (.aload_n 0, 1) := by decide +kernel
theorem d_Law_cell_2 : decode b_Law_cell 2 = .ok (.arraylength, 1) := by decide +kernel
theorem d_Law_cell_3 : decode b_Law_cell 3 = .ok (.if_icmp .ge 9, 3) := by decide +kernel
theorem d_Law_cell_6 : decode b_Law_cell 6 = .ok (.aload_n 0, 1) := by decide +kernel
theorem d_Law_cell_7 : decode b_Law_cell 7 = .ok (.iload_n 1, 1) := by decide +kernel
theorem d_Law_cell_8 : decode b_Law_cell 8 = .ok (.iaload, 1) := by decide +kernel
theorem d_Law_cell_9 : decode b_Law_cell 9 = .ok (.goto 4, 3) := by decide +kernel
theorem d_Law_cell_12 : decode b_Law_cell 12 = .ok (.iconst 0, 1) := by decide +kernel
theorem d_Law_cell_13 : decode b_Law_cell 13 = .ok (.ireturn, 1) := by decide +kernel
theorem d_Law_count_0 : decode b_Law_count 0 = .ok (.aload_n 2, 1) := by decide +kernel
theorem d_Law_count_1 : decode b_Law_count 1 = .ok (.iconst 0, 1) := by decide +kernel
theorem d_Law_count_2 : decode b_Law_count 2 = .ok (.aload_n 0, 1) := by decide +kernel
theorem d_Law_count_3 : decode b_Law_count 3 = .ok (.iload_n 1, 1) := by decide +kernel
theorem d_Law_count_4 : decode b_Law_count 4 = .ok (.invokevirtual 68, 3) := by decide +kernel
theorem d_Law_count_7 : decode b_Law_count 7 = .ok (.i2l, 1) := by decide +kernel
theorem d_Law_count_8 : decode b_Law_count 8 = .ok (.lastore, 1) := by decide +kernel
theorem d_Law_count_9 : decode b_Law_count 9 = .ok (.goto 6, 3) := by decide +kernel
theorem d_Law_count_12 : decode b_Law_count 12 = .ok (.astore_n 3, 1) := by decide +kernel
theorem d_Law_count_13 : decode b_Law_count 13 = .ok (.iconst 1, 1) := by decide +kernel
theorem d_Law_count_14 : decode b_Law_count 14 = .ok (.ireturn, 1) := by decide +kernel
theorem d_Law_count_15 : decode b_Law_count 15 = .ok (.iconst 0, 1) := by decide +kernel
theorem d_Law_count_16 : decode b_Law_count 16 = .ok (.ireturn, 1) := by decide +kernel
theorem d_Law_deliver_0 : decode b_Law_deliver 0 = .ok (.aload_n 3, 1) := by decide +kernel
theorem d_Law_deliver_1 : decode b_Law_deliver 1 = .ok (.iconst 0, 1) := by decide +kernel
theorem d_Law_deliver_2 : decode b_Law_deliver 2 = .ok (.aload_n 0, 1) := by decide +kernel
theorem d_Law_deliver_3 : decode b_Law_deliver 3 = .ok (.iload_n 1, 1) := by decide +kernel
theorem d_Law_deliver_4 : decode b_Law_deliver 4 = .ok (.iload_n 2, 1) := by decide +kernel
theorem d_Law_deliver_5 : decode b_Law_deliver 5 = .ok (.invokevirtual 36, 3) := by decide +kernel
theorem d_Law_deliver_8 : decode b_Law_deliver 8 = .ok (.i2l, 1) := by decide +kernel
theorem d_Law_deliver_9 : decode b_Law_deliver 9 = .ok (.lastore, 1) := by decide +kernel
theorem d_Law_deliver_10 : decode b_Law_deliver 10 = .ok (.goto 7, 3) := by decide +kernel
theorem d_Law_deliver_13 : decode b_Law_deliver 13 = .ok (.astore 4, 2) := by decide +kernel
theorem d_Law_deliver_15 : decode b_Law_deliver 15 = .ok (.iconst 1, 1) := by decide +kernel
theorem d_Law_deliver_16 : decode b_Law_deliver 16 = .ok (.ireturn, 1) := by decide +kernel
theorem d_Law_deliver_17 : decode b_Law_deliver 17 = .ok (.iconst 0, 1) := by decide +kernel
theorem d_Law_deliver_18 : decode b_Law_deliver 18 = .ok (.ireturn, 1) := by decide +kernel
theorem d_Law_lock_0 : decode b_Law_lock 0 = .ok (.aload_n 3, 1) := by decide +kernel
theorem d_Law_lock_1 : decode b_Law_lock 1 = .ok (.iconst 0, 1) := by decide +kernel
theorem d_Law_lock_2 : decode b_Law_lock 2 = .ok (.aload_n 0, 1) := by decide +kernel
theorem d_Law_lock_3 : decode b_Law_lock 3 = .ok (.iload_n 1, 1) := by decide +kernel
theorem d_Law_lock_4 : decode b_Law_lock 4 = .ok (.iload_n 2, 1) := by decide +kernel
theorem d_Law_lock_5 : decode b_Law_lock 5 = .ok (.invokevirtual 55, 3) := by decide +kernel
theorem d_Law_lock_8 : decode b_Law_lock 8 = .ok (.i2l, 1) := by decide +kernel
theorem d_Law_lock_9 : decode b_Law_lock 9 = .ok (.lastore, 1) := by decide +kernel
theorem d_Law_lock_10 : decode b_Law_lock 10 = .ok (.goto 7, 3) := by decide +kernel
theorem d_Law_lock_13 : decode b_Law_lock 13 = .ok (.astore 4, 2) := by decide +kernel
theorem d_Law_lock_15 : decode b_Law_lock 15 = .ok (.iconst 1, 1) := by decide +kernel
theorem d_Law_lock_16 : decode b_Law_lock 16 = .ok (.ireturn, 1) := by decide +kernel
theorem d_Law_lock_17 : decode b_Law_lock 17 = .ok (.iconst 0, 1) := by decide +kernel
theorem d_Law_lock_18 : decode b_Law_lock 18 = .ok (.ireturn, 1) := by decide +kernel
theorem d_Law_lose_0 : decode b_Law_lose 0 = .ok (.aload_n 2, 1) := by decide +kernel
theorem d_Law_lose_1 : decode b_Law_lose 1 = .ok (.iconst 0, 1) := by decide +kernel
theorem d_Law_lose_2 : decode b_Law_lose 2 = .ok (.aload_n 0, 1) := by decide +kernel
theorem d_Law_lose_3 : decode b_Law_lose 3 = .ok (.iload_n 1, 1) := by decide +kernel
theorem d_Law_lose_4 : decode b_Law_lose 4 = .ok (.invokevirtual 42, 3) := by decide +kernel
theorem d_Law_lose_7 : decode b_Law_lose 7 = .ok (.i2l, 1) := by decide +kernel
theorem d_Law_lose_8 : decode b_Law_lose 8 = .ok (.lastore, 1) := by decide +kernel
theorem d_Law_lose_9 : decode b_Law_lose 9 = .ok (.goto 6, 3) := by decide +kernel
theorem d_Law_lose_12 : decode b_Law_lose 12 = .ok (.astore_n 3, 1) := by decide +kernel
theorem d_Law_lose_13 : decode b_Law_lose 13 = .ok (.iconst 1, 1) := by decide +kernel
theorem d_Law_lose_14 : decode b_Law_lose 14 = .ok (.ireturn, 1) := by decide +kernel
theorem d_Law_lose_15 : decode b_Law_lose 15 = .ok (.iconst 0, 1) := by decide +kernel
theorem d_Law_lose_16 : decode b_Law_lose 16 = .ok (.ireturn, 1) := by decide +kernel
theorem d_Law_outcome_0 : decode b_Law_outcome 0 = .ok (.aload_n 3, 1) := by decide +kernel
theorem d_Law_outcome_1 : decode b_Law_outcome 1 = .ok (.iconst 0, 1) := by decide +kernel
theorem d_Law_outcome_2 : decode b_Law_outcome 2 = .ok (.aload_n 0, 1) := by decide +kernel
theorem d_Law_outcome_3 : decode b_Law_outcome 3 = .ok (.iload_n 1, 1) := by decide +kernel
theorem d_Law_outcome_4 : decode b_Law_outcome 4 = .ok (.iload_n 2, 1) := by decide +kernel
theorem d_Law_outcome_5 : decode b_Law_outcome 5 = .ok (.invokevirtual 61, 3) := by decide +kernel
theorem d_Law_outcome_8 : decode b_Law_outcome 8 = .ok (.i2l, 1) := by decide +kernel
theorem d_Law_outcome_9 : decode b_Law_outcome 9 = .ok (.lastore, 1) := by decide +kernel
theorem d_Law_outcome_10 : decode b_Law_outcome 10 = .ok (.goto 15, 3) := by decide +kernel
theorem d_Law_outcome_13 : decode b_Law_outcome 13 = .ok (.astore 4, 2) := by decide +kernel
theorem d_Law_outcome_15 : decode b_Law_outcome 15 = .ok (.iconst 1, 1) := by decide +kernel
theorem d_Law_outcome_16 : decode b_Law_outcome 16 = .ok (.ireturn, 1) := by decide +kernel
theorem d_Law_outcome_17 : decode b_Law_outcome 17 = .ok (.astore 4, 2) := by decide +kernel
theorem d_Law_outcome_19 : decode b_Law_outcome 19 = .ok (.iconst 2, 1) := by decide +kernel
theorem d_Law_outcome_20 : decode b_Law_outcome 20 = .ok (.ireturn, 1) := by decide +kernel
theorem d_Law_outcome_21 : decode b_Law_outcome 21 = .ok (.astore 4, 2) := by decide +kernel
theorem d_Law_outcome_23 : decode b_Law_outcome 23 = .ok (.iconst 3, 1) := by decide +kernel
theorem d_Law_outcome_24 : decode b_Law_outcome 24 = .ok (.ireturn, 1) := by decide +kernel
theorem d_Law_outcome_25 : decode b_Law_outcome 25 = .ok (.iconst 0, 1) := by decide +kernel
theorem d_Law_outcome_26 : decode b_Law_outcome 26 = .ok (.ireturn, 1) := by decide +kernel
theorem d_Law_refuse_0 : decode b_Law_refuse 0 = .ok (.aload_n 3, 1) := by decide +kernel
theorem d_Law_refuse_1 : decode b_Law_refuse 1 = .ok (.iconst 0, 1) := by decide +kernel
theorem d_Law_refuse_2 : decode b_Law_refuse 2 = .ok (.aload_n 0, 1) := by decide +kernel
theorem d_Law_refuse_3 : decode b_Law_refuse 3 = .ok (.iload_n 1, 1) := by decide +kernel
theorem d_Law_refuse_4 : decode b_Law_refuse 4 = .ok (.iload_n 2, 1) := by decide +kernel
theorem d_Law_refuse_5 : decode b_Law_refuse 5 = .ok (.invokevirtual 29, 3) := by decide +kernel
theorem d_Law_refuse_8 : decode b_Law_refuse 8 = .ok (.i2l, 1) := by decide +kernel
theorem d_Law_refuse_9 : decode b_Law_refuse 9 = .ok (.lastore, 1) := by decide +kernel
theorem d_Law_refuse_10 : decode b_Law_refuse 10 = .ok (.goto 19, 3) := by decide +kernel
theorem d_Law_refuse_13 : decode b_Law_refuse 13 = .ok (.astore 4, 2) := by decide +kernel
theorem d_Law_refuse_15 : decode b_Law_refuse 15 = .ok (.iconst 1, 1) := by decide +kernel
theorem d_Law_refuse_16 : decode b_Law_refuse 16 = .ok (.ireturn, 1) := by decide +kernel
theorem d_Law_refuse_17 : decode b_Law_refuse 17 = .ok (.astore 4, 2) := by decide +kernel
theorem d_Law_refuse_19 : decode b_Law_refuse 19 = .ok (.iconst 2, 1) := by decide +kernel
theorem d_Law_refuse_20 : decode b_Law_refuse 20 = .ok (.ireturn, 1) := by decide +kernel
theorem d_Law_refuse_21 : decode b_Law_refuse 21 = .ok (.astore 4, 2) := by decide +kernel
theorem d_Law_refuse_23 : decode b_Law_refuse 23 = .ok (.iconst 3, 1) := by decide +kernel
theorem d_Law_refuse_24 : decode b_Law_refuse 24 = .ok (.ireturn, 1) := by decide +kernel
theorem d_Law_refuse_25 : decode b_Law_refuse 25 = .ok (.astore 4, 2) := by decide +kernel
theorem d_Law_refuse_27 : decode b_Law_refuse 27 = .ok (.iconst 4, 1) := by decide +kernel
theorem d_Law_refuse_28 : decode b_Law_refuse 28 = .ok (.ireturn, 1) := by decide +kernel
theorem d_Law_refuse_29 : decode b_Law_refuse 29 = .ok (.iconst 0, 1) := by decide +kernel
theorem d_Law_refuse_30 : decode b_Law_refuse 30 = .ok (.ireturn, 1) := by decide +kernel
theorem d_Law_request_0 : decode b_Law_request 0 = .ok (.aload_n 2, 1) := by decide +kernel
theorem d_Law_request_1 : decode b_Law_request 1 = .ok (.iconst 0, 1) := by decide +kernel
theorem d_Law_request_2 : decode b_Law_request 2 = .ok (.aload_n 0, 1) := by decide +kernel
theorem d_Law_request_3 : decode b_Law_request 3 = .ok (.iload_n 1, 1) := by decide +kernel
theorem d_Law_request_4 : decode b_Law_request 4 = .ok (.invokevirtual 25, 3) := by decide +kernel
theorem d_Law_request_7 : decode b_Law_request 7 = .ok (.i2l, 1) := by decide +kernel
theorem d_Law_request_8 : decode b_Law_request 8 = .ok (.lastore, 1) := by decide +kernel
theorem d_Law_request_9 : decode b_Law_request 9 = .ok (.goto 15, 3) := by decide +kernel
theorem d_Law_request_12 : decode b_Law_request 12 = .ok (.astore_n 3, 1) := by decide +kernel
theorem d_Law_request_13 : decode b_Law_request 13 = .ok (.iconst 1, 1) := by decide +kernel
theorem d_Law_request_14 : decode b_Law_request 14 = .ok (.ireturn, 1) := by decide +kernel
theorem d_Law_request_15 : decode b_Law_request 15 = .ok (.astore_n 3, 1) := by decide +kernel
theorem d_Law_request_16 : decode b_Law_request 16 = .ok (.iconst 2, 1) := by decide +kernel
theorem d_Law_request_17 : decode b_Law_request 17 = .ok (.ireturn, 1) := by decide +kernel
theorem d_Law_request_18 : decode b_Law_request 18 = .ok (.astore_n 3, 1) := by decide +kernel
theorem d_Law_request_19 : decode b_Law_request 19 = .ok (.iconst 3, 1) := by decide +kernel
theorem d_Law_request_20 : decode b_Law_request 20 = .ok (.ireturn, 1) := by decide +kernel
theorem d_Law_request_21 : decode b_Law_request 21 = .ok (.astore_n 3, 1) := by decide +kernel
theorem d_Law_request_22 : decode b_Law_request 22 = .ok (.iconst 4, 1) := by decide +kernel
theorem d_Law_request_23 : decode b_Law_request 23 = .ok (.ireturn, 1) := by decide +kernel
theorem d_Law_request_24 : decode b_Law_request 24 = .ok (.iconst 0, 1) := by decide +kernel
theorem d_Law_request_25 : decode b_Law_request 25 = .ok (.ireturn, 1) := by decide +kernel
theorem d_Law_state_0 : decode b_Law_state 0 = .ok (.aload_n 3, 1) := by decide +kernel
theorem d_Law_state_1 : decode b_Law_state 1 = .ok (.iconst 0, 1) := by decide +kernel
theorem d_Law_state_2 : decode b_Law_state 2 = .ok (.aload_n 0, 1) := by decide +kernel
theorem d_Law_state_3 : decode b_Law_state 3 = .ok (.iload_n 1, 1) := by decide +kernel
theorem d_Law_state_4 : decode b_Law_state 4 = .ok (.iload_n 2, 1) := by decide +kernel
theorem d_Law_state_5 : decode b_Law_state 5 = .ok (.invokevirtual 58, 3) := by decide +kernel
theorem d_Law_state_8 : decode b_Law_state 8 = .ok (.i2l, 1) := by decide +kernel
theorem d_Law_state_9 : decode b_Law_state 9 = .ok (.lastore, 1) := by decide +kernel
theorem d_Law_state_10 : decode b_Law_state 10 = .ok (.goto 11, 3) := by decide +kernel
theorem d_Law_state_13 : decode b_Law_state 13 = .ok (.astore 4, 2) := by decide +kernel
theorem d_Law_state_15 : decode b_Law_state 15 = .ok (.iconst 1, 1) := by decide +kernel
theorem d_Law_state_16 : decode b_Law_state 16 = .ok (.ireturn, 1) := by decide +kernel
theorem d_Law_state_17 : decode b_Law_state 17 = .ok (.astore 4, 2) := by decide +kernel
theorem d_Law_state_19 : decode b_Law_state 19 = .ok (.iconst 2, 1) := by decide +kernel
theorem d_Law_state_20 : decode b_Law_state 20 = .ok (.ireturn, 1) := by decide +kernel
theorem d_Law_state_21 : decode b_Law_state 21 = .ok (.iconst 0, 1) := by decide +kernel
theorem d_Law_state_22 : decode b_Law_state 22 = .ok (.ireturn, 1) := by decide +kernel
theorem d_Law_take_0 : decode b_Law_take 0 = .ok (.aload_n 3, 1) := by decide +kernel
theorem d_Law_take_1 : decode b_Law_take 1 = .ok (.iconst 0, 1) := by decide +kernel
theorem d_Law_take_2 : decode b_Law_take 2 = .ok (.aload_n 0, 1) := by decide +kernel
theorem d_Law_take_3 : decode b_Law_take 3 = .ok (.iload_n 1, 1) := by decide +kernel
theorem d_Law_take_4 : decode b_Law_take 4 = .ok (.iload_n 2, 1) := by decide +kernel
theorem d_Law_take_5 : decode b_Law_take 5 = .ok (.invokevirtual 33, 3) := by decide +kernel
theorem d_Law_take_8 : decode b_Law_take 8 = .ok (.i2l, 1) := by decide +kernel
theorem d_Law_take_9 : decode b_Law_take 9 = .ok (.lastore, 1) := by decide +kernel
theorem d_Law_take_10 : decode b_Law_take 10 = .ok (.goto 19, 3) := by decide +kernel
theorem d_Law_take_13 : decode b_Law_take 13 = .ok (.astore 4, 2) := by decide +kernel
theorem d_Law_take_15 : decode b_Law_take 15 = .ok (.iconst 1, 1) := by decide +kernel
theorem d_Law_take_16 : decode b_Law_take 16 = .ok (.ireturn, 1) := by decide +kernel
theorem d_Law_take_17 : decode b_Law_take 17 = .ok (.astore 4, 2) := by decide +kernel
theorem d_Law_take_19 : decode b_Law_take 19 = .ok (.iconst 2, 1) := by decide +kernel
theorem d_Law_take_20 : decode b_Law_take 20 = .ok (.ireturn, 1) := by decide +kernel
theorem d_Law_take_21 : decode b_Law_take 21 = .ok (.astore 4, 2) := by decide +kernel
theorem d_Law_take_23 : decode b_Law_take 23 = .ok (.iconst 3, 1) := by decide +kernel
theorem d_Law_take_24 : decode b_Law_take 24 = .ok (.ireturn, 1) := by decide +kernel
theorem d_Law_take_25 : decode b_Law_take 25 = .ok (.astore 4, 2) := by decide +kernel
theorem d_Law_take_27 : decode b_Law_take 27 = .ok (.iconst 4, 1) := by decide +kernel
theorem d_Law_take_28 : decode b_Law_take 28 = .ok (.ireturn, 1) := by decide +kernel
theorem d_Law_take_29 : decode b_Law_take 29 = .ok (.iconst 0, 1) := by decide +kernel
theorem d_Law_take_30 : decode b_Law_take 30 = .ok (.ireturn, 1) := by decide +kernel
theorem d_Law_taken_0 : decode b_Law_taken 0 = .ok (.aload 5, 2) := by decide +kernel
theorem d_Law_taken_2 : decode b_Law_taken 2 = .ok (.iconst 0, 1) := by decide +kernel
theorem d_Law_taken_3 : decode b_Law_taken 3 = .ok (.aload_n 0, 1) := by decide +kernel
theorem d_Law_taken_4 : decode b_Law_taken 4 = .ok (.iload_n 1, 1) := by decide +kernel
theorem d_Law_taken_5 : decode b_Law_taken 5 = .ok (.iload_n 2, 1) := by decide +kernel
theorem d_Law_taken_6 : decode b_Law_taken 6 = .ok (.iload_n 3, 1) := by decide +kernel
theorem d_Law_taken_7 : decode b_Law_taken 7 = .ok (.iload 4, 2) := by decide +kernel
theorem d_Law_taken_9 : decode b_Law_taken 9 = .ok (.invokevirtual 64, 3) := by decide +kernel
theorem d_Law_taken_12 : decode b_Law_taken 12 = .ok (.i2l, 1) := by decide +kernel
theorem d_Law_taken_13 : decode b_Law_taken 13 = .ok (.lastore, 1) := by decide +kernel
theorem d_Law_taken_14 : decode b_Law_taken 14 = .ok (.goto 11, 3) := by decide +kernel
theorem d_Law_taken_17 : decode b_Law_taken 17 = .ok (.astore 6, 2) := by decide +kernel
theorem d_Law_taken_19 : decode b_Law_taken 19 = .ok (.iconst 1, 1) := by decide +kernel
theorem d_Law_taken_20 : decode b_Law_taken 20 = .ok (.ireturn, 1) := by decide +kernel
theorem d_Law_taken_21 : decode b_Law_taken 21 = .ok (.astore 6, 2) := by decide +kernel
theorem d_Law_taken_23 : decode b_Law_taken 23 = .ok (.iconst 2, 1) := by decide +kernel
theorem d_Law_taken_24 : decode b_Law_taken 24 = .ok (.ireturn, 1) := by decide +kernel
theorem d_Law_taken_25 : decode b_Law_taken 25 = .ok (.iconst 0, 1) := by decide +kernel
theorem d_Law_taken_26 : decode b_Law_taken 26 = .ok (.ireturn, 1) := by decide +kernel
theorem d_Law_text_0 : decode b_Law_text 0 = .ok (.aload_n 3, 1) := by decide +kernel
theorem d_Law_text_1 : decode b_Law_text 1 = .ok (.iconst 0, 1) := by decide +kernel
theorem d_Law_text_2 : decode b_Law_text 2 = .ok (.aload_n 0, 1) := by decide +kernel
theorem d_Law_text_3 : decode b_Law_text 3 = .ok (.iload_n 1, 1) := by decide +kernel
theorem d_Law_text_4 : decode b_Law_text 4 = .ok (.iload_n 2, 1) := by decide +kernel
theorem d_Law_text_5 : decode b_Law_text 5 = .ok (.invokevirtual 49, 3) := by decide +kernel
theorem d_Law_text_8 : decode b_Law_text 8 = .ok (.i2l, 1) := by decide +kernel
theorem d_Law_text_9 : decode b_Law_text 9 = .ok (.lastore, 1) := by decide +kernel
theorem d_Law_text_10 : decode b_Law_text 10 = .ok (.goto 11, 3) := by decide +kernel
theorem d_Law_text_13 : decode b_Law_text 13 = .ok (.astore 4, 2) := by decide +kernel
theorem d_Law_text_15 : decode b_Law_text 15 = .ok (.iconst 1, 1) := by decide +kernel
theorem d_Law_text_16 : decode b_Law_text 16 = .ok (.ireturn, 1) := by decide +kernel
theorem d_Law_text_17 : decode b_Law_text 17 = .ok (.astore 4, 2) := by decide +kernel
theorem d_Law_text_19 : decode b_Law_text 19 = .ok (.iconst 2, 1) := by decide +kernel
theorem d_Law_text_20 : decode b_Law_text 20 = .ok (.ireturn, 1) := by decide +kernel
theorem d_Law_text_21 : decode b_Law_text 21 = .ok (.iconst 0, 1) := by decide +kernel
theorem d_Law_text_22 : decode b_Law_text 22 = .ok (.ireturn, 1) := by decide +kernel
theorem d_Law_up_0 : decode b_Law_up 0 = .ok (.aload 4, 2) := by decide +kernel
theorem d_Law_up_2 : decode b_Law_up 2 = .ok (.iconst 0, 1) := by decide +kernel
theorem d_Law_up_3 : decode b_Law_up 3 = .ok (.aload_n 0, 1) := by decide +kernel
theorem d_Law_up_4 : decode b_Law_up 4 = .ok (.iload_n 1, 1) := by decide +kernel
theorem d_Law_up_5 : decode b_Law_up 5 = .ok (.iload_n 2, 1) := by decide +kernel
theorem d_Law_up_6 : decode b_Law_up 6 = .ok (.iload_n 3, 1) := by decide +kernel
theorem d_Law_up_7 : decode b_Law_up 7 = .ok (.invokevirtual 45, 3) := by decide +kernel
theorem d_Law_up_10 : decode b_Law_up 10 = .ok (.ifCond .eq 7, 3) := by decide +kernel
theorem d_Law_up_13 : decode b_Law_up 13 = .ok (.lconst 1, 1) := by decide +kernel
theorem d_Law_up_14 : decode b_Law_up 14 = .ok (.goto 4, 3) := by decide +kernel
theorem d_Law_up_17 : decode b_Law_up 17 = .ok (.lconst 0, 1) := by decide +kernel
theorem d_Law_up_18 : decode b_Law_up 18 = .ok (.lastore, 1) := by decide +kernel
theorem d_Law_up_19 : decode b_Law_up 19 = .ok (.goto 7, 3) := by decide +kernel
theorem d_Law_up_22 : decode b_Law_up 22 = .ok (.astore 5, 2) := by decide +kernel
theorem d_Law_up_24 : decode b_Law_up 24 = .ok (.iconst 1, 1) := by decide +kernel
theorem d_Law_up_25 : decode b_Law_up 25 = .ok (.ireturn, 1) := by decide +kernel
theorem d_Law_up_26 : decode b_Law_up 26 = .ok (.iconst 0, 1) := by decide +kernel
theorem d_Law_up_27 : decode b_Law_up 27 = .ok (.ireturn, 1) := by decide +kernel
theorem d_Law_value_0 : decode b_Law_value 0 = .ok (.aload_n 3, 1) := by decide +kernel
theorem d_Law_value_1 : decode b_Law_value 1 = .ok (.iconst 0, 1) := by decide +kernel
theorem d_Law_value_2 : decode b_Law_value 2 = .ok (.aload_n 0, 1) := by decide +kernel
theorem d_Law_value_3 : decode b_Law_value 3 = .ok (.iload_n 1, 1) := by decide +kernel
theorem d_Law_value_4 : decode b_Law_value 4 = .ok (.iload_n 2, 1) := by decide +kernel
theorem d_Law_value_5 : decode b_Law_value 5 = .ok (.invokevirtual 52, 3) := by decide +kernel
theorem d_Law_value_8 : decode b_Law_value 8 = .ok (.i2l, 1) := by decide +kernel
theorem d_Law_value_9 : decode b_Law_value 9 = .ok (.lastore, 1) := by decide +kernel
theorem d_Law_value_10 : decode b_Law_value 10 = .ok (.goto 7, 3) := by decide +kernel
theorem d_Law_value_13 : decode b_Law_value 13 = .ok (.astore 4, 2) := by decide +kernel
theorem d_Law_value_15 : decode b_Law_value 15 = .ok (.iconst 1, 1) := by decide +kernel
theorem d_Law_value_16 : decode b_Law_value 16 = .ok (.ireturn, 1) := by decide +kernel
theorem d_Law_value_17 : decode b_Law_value 17 = .ok (.iconst 0, 1) := by decide +kernel
theorem d_Law_value_18 : decode b_Law_value 18 = .ok (.ireturn, 1) := by decide +kernel
theorem d_Law_write_0 : decode b_Law_write 0 = .ok (.aload 5, 2) := by decide +kernel
theorem d_Law_write_2 : decode b_Law_write 2 = .ok (.iconst 0, 1) := by decide +kernel
theorem d_Law_write_3 : decode b_Law_write 3 = .ok (.aload_n 0, 1) := by decide +kernel
theorem d_Law_write_4 : decode b_Law_write 4 = .ok (.iload_n 1, 1) := by decide +kernel
theorem d_Law_write_5 : decode b_Law_write 5 = .ok (.iload_n 2, 1) := by decide +kernel
theorem d_Law_write_6 : decode b_Law_write 6 = .ok (.iload_n 3, 1) := by decide +kernel
theorem d_Law_write_7 : decode b_Law_write 7 = .ok (.iload 4, 2) := by decide +kernel
theorem d_Law_write_9 : decode b_Law_write 9 = .ok (.invokevirtual 15, 3) := by decide +kernel
theorem d_Law_write_12 : decode b_Law_write 12 = .ok (.i2l, 1) := by decide +kernel
theorem d_Law_write_13 : decode b_Law_write 13 = .ok (.lastore, 1) := by decide +kernel
theorem d_Law_write_14 : decode b_Law_write 14 = .ok (.goto 19, 3) := by decide +kernel
theorem d_Law_write_17 : decode b_Law_write 17 = .ok (.astore 6, 2) := by decide +kernel
theorem d_Law_write_19 : decode b_Law_write 19 = .ok (.iconst 1, 1) := by decide +kernel
theorem d_Law_write_20 : decode b_Law_write 20 = .ok (.ireturn, 1) := by decide +kernel
theorem d_Law_write_21 : decode b_Law_write 21 = .ok (.astore 6, 2) := by decide +kernel
theorem d_Law_write_23 : decode b_Law_write 23 = .ok (.iconst 2, 1) := by decide +kernel
theorem d_Law_write_24 : decode b_Law_write 24 = .ok (.ireturn, 1) := by decide +kernel
theorem d_Law_write_25 : decode b_Law_write 25 = .ok (.astore 6, 2) := by decide +kernel
theorem d_Law_write_27 : decode b_Law_write 27 = .ok (.iconst 3, 1) := by decide +kernel
theorem d_Law_write_28 : decode b_Law_write 28 = .ok (.ireturn, 1) := by decide +kernel
theorem d_Law_write_29 : decode b_Law_write 29 = .ok (.astore 6, 2) := by decide +kernel
theorem d_Law_write_31 : decode b_Law_write 31 = .ok (.iconst 4, 1) := by decide +kernel
theorem d_Law_write_32 : decode b_Law_write 32 = .ok (.ireturn, 1) := by decide +kernel
theorem d_Law_write_33 : decode b_Law_write 33 = .ok (.iconst 0, 1) := by decide +kernel
theorem d_Law_write_34 : decode b_Law_write 34 = .ok (.ireturn, 1) := by decide +kernel
theorem d_Led_countReplies_0 : decode b_Led_countReplies 0 = .ok (.iconst 0, 1) := by decide +kernel
theorem d_Led_countReplies_1 : decode b_Led_countReplies 1 = .ok (.istore_n 1, 1) := by decide +kernel
theorem d_Led_countReplies_2 : decode b_Led_countReplies 2 = .ok (.iconst 0, 1) := by decide +kernel
theorem d_Led_countReplies_3 : decode b_Led_countReplies 3 = .ok (.istore_n 2, 1) := by decide +kernel
theorem d_Led_countReplies_4 : decode b_Led_countReplies 4 = .ok (.iload_n 2, 1) := by decide +kernel
theorem d_Led_countReplies_5 : decode b_Led_countReplies 5 = .ok (.aload_n 0, 1) := by decide +kernel
theorem d_Led_countReplies_6 : decode b_Led_countReplies 6 = .ok (.getfield 22, 3) := by decide +kernel
theorem d_Led_countReplies_9 : decode b_Led_countReplies 9 = .ok (.arraylength, 1) := by decide +kernel
theorem d_Led_countReplies_10 : decode b_Led_countReplies 10 = .ok (.if_icmp .ge 26, 3) := by decide +kernel
theorem d_Led_countReplies_13 : decode b_Led_countReplies 13 = .ok (.iload_n 1, 1) := by decide +kernel
theorem d_Led_countReplies_14 : decode b_Led_countReplies 14 = .ok (.aload_n 0, 1) := by decide +kernel
theorem d_Led_countReplies_15 : decode b_Led_countReplies 15 = .ok (.getfield 22, 3) := by decide +kernel
theorem d_Led_countReplies_18 : decode b_Led_countReplies 18 = .ok (.iload_n 2, 1) := by decide +kernel
theorem d_Led_countReplies_19 : decode b_Led_countReplies 19 = .ok (.baload, 1) := by decide +kernel
theorem d_Led_countReplies_20 : decode b_Led_countReplies 20 = .ok (.ifCond .eq 7, 3) := by decide +kernel
theorem d_Led_countReplies_23 : decode b_Led_countReplies 23 = .ok (.iconst 1, 1) := by decide +kernel
theorem d_Led_countReplies_24 : decode b_Led_countReplies 24 = .ok (.goto 4, 3) := by decide +kernel
theorem d_Led_countReplies_27 : decode b_Led_countReplies 27 = .ok (.iconst 0, 1) := by decide +kernel
theorem d_Led_countReplies_28 : decode b_Led_countReplies 28 = .ok (.iadd, 1) := by decide +kernel
theorem d_Led_countReplies_29 : decode b_Led_countReplies 29 = .ok (.istore_n 1, 1) := by decide +kernel
theorem d_Led_countReplies_30 : decode b_Led_countReplies 30 = .ok (.iinc 2 1, 3) := by decide +kernel
theorem d_Led_countReplies_33 : decode b_Led_countReplies 33 = .ok (.goto (-29), 3) := by decide +kernel
theorem d_Led_countReplies_36 : decode b_Led_countReplies 36 = .ok (.iload_n 1, 1) := by decide +kernel
theorem d_Led_countReplies_37 : decode b_Led_countReplies 37 = .ok (.ireturn, 1) := by decide +kernel
theorem d_Led_decidedVote_0 : decode b_Led_decidedVote 0 = .ok (.iconst 0, 1) := by decide +kernel
theorem d_Led_decidedVote_1 : decode b_Led_decidedVote 1 = .ok (.istore_n 3, 1) := by decide +kernel
theorem d_Led_decidedVote_2 : decode b_Led_decidedVote 2 = .ok (.iload_n 3, 1) := by decide +kernel
theorem d_Led_decidedVote_3 : decode b_Led_decidedVote 3 = .ok (.aload_n 0, 1) := by decide +kernel
theorem d_Led_decidedVote_4 : decode b_Led_decidedVote 4 = .ok (.getfield 31, 3) := by decide +kernel
theorem d_Led_decidedVote_7 : decode b_Led_decidedVote 7 = .ok (.arraylength, 1) := by decide +kernel
theorem d_Led_decidedVote_8 : decode b_Led_decidedVote 8 = .ok (.if_icmp .ge 83, 3) := by decide +kernel
theorem d_Led_decidedVote_11 : decode b_Led_decidedVote 11 = .ok (.aload_n 0, 1) := by decide +kernel
theorem d_Led_decidedVote_12 : decode b_Led_decidedVote 12 = .ok (.getfield 31, 3) := by decide +kernel
theorem d_Led_decidedVote_15 : decode b_Led_decidedVote 15 = .ok (.iload_n 3, 1) := by decide +kernel
theorem d_Led_decidedVote_16 : decode b_Led_decidedVote 16 = .ok (.aaload, 1) := by decide +kernel
theorem d_Led_decidedVote_17 : decode b_Led_decidedVote 17 = .ok (.iload_n 1, 1) := by decide +kernel
theorem d_Led_decidedVote_18 : decode b_Led_decidedVote 18 = .ok (.iaload, 1) := by decide +kernel
theorem d_Led_decidedVote_19 : decode b_Led_decidedVote 19 = .ok (.istore 4, 2) := by decide +kernel
theorem d_Led_decidedVote_21 : decode b_Led_decidedVote 21 = .ok (.iconst 0, 1) := by decide +kernel
theorem d_Led_decidedVote_22 : decode b_Led_decidedVote 22 = .ok (.istore 5, 2) := by decide +kernel
theorem d_Led_decidedVote_24 : decode b_Led_decidedVote 24 = .ok (.iconst 0, 1) := by decide +kernel
theorem d_Led_decidedVote_25 : decode b_Led_decidedVote 25 = .ok (.istore 6, 2) := by decide +kernel
theorem d_Led_decidedVote_27 : decode b_Led_decidedVote 27 = .ok (.iload 6, 2) := by decide +kernel
theorem d_Led_decidedVote_29 : decode b_Led_decidedVote 29 = .ok (.aload_n 0, 1) := by decide +kernel
theorem d_Led_decidedVote_30 : decode b_Led_decidedVote 30 = .ok (.getfield 31, 3) := by decide +kernel
theorem d_Led_decidedVote_33 : decode b_Led_decidedVote 33 = .ok (.arraylength, 1) := by decide +kernel
theorem d_Led_decidedVote_34 : decode b_Led_decidedVote 34 = .ok (.if_icmp .ge 33, 3) := by decide +kernel
theorem d_Led_decidedVote_37 : decode b_Led_decidedVote 37 = .ok (.iload 5, 2) := by decide +kernel
theorem d_Led_decidedVote_39 : decode b_Led_decidedVote 39 = .ok (.aload_n 0, 1) := by decide +kernel
theorem d_Led_decidedVote_40 : decode b_Led_decidedVote 40 = .ok (.getfield 31, 3) := by decide +kernel
theorem d_Led_decidedVote_43 : decode b_Led_decidedVote 43 = .ok (.iload 6, 2) := by decide +kernel
theorem d_Led_decidedVote_45 : decode b_Led_decidedVote 45 = .ok (.aaload, 1) := by decide +kernel
theorem d_Led_decidedVote_46 : decode b_Led_decidedVote 46 = .ok (.iload_n 1, 1) := by decide +kernel
theorem d_Led_decidedVote_47 : decode b_Led_decidedVote 47 = .ok (.iaload, 1) := by decide +kernel
theorem d_Led_decidedVote_48 : decode b_Led_decidedVote 48 = .ok (.iload 4, 2) := by decide +kernel
theorem d_Led_decidedVote_50 : decode b_Led_decidedVote 50 = .ok (.if_icmp .ne 7, 3) := by decide +kernel
theorem d_Led_decidedVote_53 : decode b_Led_decidedVote 53 = .ok (.iconst 1, 1) := by decide +kernel
theorem d_Led_decidedVote_54 : decode b_Led_decidedVote 54 = .ok (.goto 4, 3) := by decide +kernel
theorem d_Led_decidedVote_57 : decode b_Led_decidedVote 57 = .ok (.iconst 0, 1) := by decide +kernel
theorem d_Led_decidedVote_58 : decode b_Led_decidedVote 58 = .ok (.iadd, 1) := by decide +kernel
theorem d_Led_decidedVote_59 : decode b_Led_decidedVote 59 = .ok (.istore 5, 2) := by decide +kernel
theorem d_Led_decidedVote_61 : decode b_Led_decidedVote 61 = .ok (.iinc 6 1, 3) := by decide +kernel
theorem d_Led_decidedVote_64 : decode b_Led_decidedVote 64 = .ok (.goto (-37), 3) := by decide +kernel
theorem d_Led_decidedVote_67 : decode b_Led_decidedVote 67 = .ok (.iload 4, 2) := by decide +kernel
theorem d_Led_decidedVote_69 : decode b_Led_decidedVote 69 = .ok (.iconst (-1), 1) := by decide +kernel
theorem d_Led_decidedVote_70 : decode b_Led_decidedVote 70 = .ok (.if_icmp .eq 15, 3) := by decide +kernel
theorem d_Led_decidedVote_73 : decode b_Led_decidedVote 73 = .ok (.iload 5, 2) := by decide +kernel
theorem d_Led_decidedVote_75 : decode b_Led_decidedVote 75 = .ok (.iload_n 2, 1) := by decide +kernel
theorem d_Led_decidedVote_76 : decode b_Led_decidedVote 76 = .ok (.if_icmp .lt 9, 3) := by decide +kernel
theorem d_Led_decidedVote_79 : decode b_Led_decidedVote 79 = .ok (.iload 4, 2) := by decide +kernel
theorem d_Led_decidedVote_81 : decode b_Led_decidedVote 81 = .ok (.invokestatic 53, 3) := by decide +kernel
theorem d_Led_decidedVote_84 : decode b_Led_decidedVote 84 = .ok (.ireturn, 1) := by decide +kernel
theorem d_Led_decidedVote_85 : decode b_Led_decidedVote 85 = .ok (.iinc 3 1, 3) := by decide +kernel
theorem d_Led_decidedVote_88 : decode b_Led_decidedVote 88 = .ok (.goto (-86), 3) := by decide +kernel
theorem d_Led_decidedVote_91 : decode b_Led_decidedVote 91 = .ok (.iconst (-1), 1) := by decide +kernel
theorem d_Led_decidedVote_92 : decode b_Led_decidedVote 92 = .ok (.ireturn, 1) := by decide +kernel
theorem d_Led_dropReplies_0 : decode b_Led_dropReplies 0 = .ok (.iconst 0, 1) := by decide +kernel
theorem d_Led_dropReplies_1 : decode b_Led_dropReplies 1 = .ok (.istore_n 1, 1) := by decide +kernel
theorem d_Led_dropReplies_2 : decode b_Led_dropReplies 2 = .ok (.iload_n 1, 1) := by decide +kernel
theorem d_Led_dropReplies_3 : decode b_Led_dropReplies 3 = .ok (.aload_n 0, 1) := by decide +kernel
theorem d_Led_dropReplies_4 : decode b_Led_dropReplies 4 = .ok (.getfield 22, 3) := by decide +kernel
theorem d_Led_dropReplies_7 : decode b_Led_dropReplies 7 = .ok (.arraylength, 1) := by decide +kernel
theorem d_Led_dropReplies_8 : decode b_Led_dropReplies 8 = .ok (.if_icmp .ge 16, 3) := by decide +kernel
theorem d_Led_dropReplies_11 : decode b_Led_dropReplies 11 = .ok (.aload_n 0, 1) := by decide +kernel
theorem d_Led_dropReplies_12 : decode b_Led_dropReplies 12 = .ok (.getfield 22, 3) := by decide +kernel
theorem d_Led_dropReplies_15 : decode b_Led_dropReplies 15 = .ok (.iload_n 1, 1) := by decide +kernel
theorem d_Led_dropReplies_16 : decode b_Led_dropReplies 16 = .ok (.iconst 0, 1) := by decide +kernel
theorem d_Led_dropReplies_17 : decode b_Led_dropReplies 17 = .ok (.bastore, 1) := by decide +kernel
theorem d_Led_dropReplies_18 : decode b_Led_dropReplies 18 = .ok (.iinc 1 1, 3) := by decide +kernel
theorem d_Led_dropReplies_21 : decode b_Led_dropReplies 21 = .ok (.goto (-19), 3) := by decide +kernel
theorem d_Led_dropReplies_24 : decode b_Led_dropReplies 24 = .ok (.return_, 1) := by decide +kernel
theorem d_Led_forget_0 : decode b_Led_forget 0 = .ok (.aload_n 0, 1) := by decide +kernel
theorem d_Led_forget_1 : decode b_Led_forget 1 = .ok (.iconst 1, 1) := by decide +kernel
theorem d_Led_forget_2 : decode b_Led_forget 2 = .ok (.putfield 15, 3) := by decide +kernel
theorem d_Led_forget_5 : decode b_Led_forget 5 = .ok (.aload_n 0, 1) := by decide +kernel
theorem d_Led_forget_6 : decode b_Led_forget 6 = .ok (.iconst (-1), 1) := by decide +kernel
theorem d_Led_forget_7 : decode b_Led_forget 7 = .ok (.putfield 19, 3) := by decide +kernel
theorem d_Led_forget_10 : decode b_Led_forget 10 = .ok (.aload_n 0, 1) := by decide +kernel
theorem d_Led_forget_11 : decode b_Led_forget 11 = .ok (.invokevirtual 46, 3) := by decide +kernel
theorem d_Led_forget_14 : decode b_Led_forget 14 = .ok (.iconst 0, 1) := by decide +kernel
theorem d_Led_forget_15 : decode b_Led_forget 15 = .ok (.istore_n 1, 1) := by decide +kernel
theorem d_Led_forget_16 : decode b_Led_forget 16 = .ok (.iload_n 1, 1) := by decide +kernel
theorem d_Led_forget_17 : decode b_Led_forget 17 = .ok (.aload_n 0, 1) := by decide +kernel
theorem d_Led_forget_18 : decode b_Led_forget 18 = .ok (.getfield 31, 3) := by decide +kernel
theorem d_Led_forget_21 : decode b_Led_forget 21 = .ok (.arraylength, 1) := by decide +kernel
theorem d_Led_forget_22 : decode b_Led_forget 22 = .ok (.if_icmp .ge 19, 3) := by decide +kernel
theorem d_Led_forget_25 : decode b_Led_forget 25 = .ok (.aload_n 0, 1) := by decide +kernel
theorem d_Led_forget_26 : decode b_Led_forget 26 = .ok (.getfield 31, 3) := by decide +kernel
theorem d_Led_forget_29 : decode b_Led_forget 29 = .ok (.iload_n 1, 1) := by decide +kernel
theorem d_Led_forget_30 : decode b_Led_forget 30 = .ok (.aaload, 1) := by decide +kernel
theorem d_Led_forget_31 : decode b_Led_forget 31 = .ok (.iconst (-1), 1) := by decide +kernel
theorem d_Led_forget_32 : decode b_Led_forget 32 = .ok (.invokestatic 34, 3) := by decide +kernel
theorem d_Led_forget_35 : decode b_Led_forget 35 = .ok (.iinc 1 1, 3) := by decide +kernel
theorem d_Led_forget_38 : decode b_Led_forget 38 = .ok (.goto (-22), 3) := by decide +kernel
theorem d_Led_forget_41 : decode b_Led_forget 41 = .ok (.return_, 1) := by decide +kernel
theorem d_Led_hear_0 : decode b_Led_hear 0 = .ok (.aload_n 0, 1) := by decide +kernel
theorem d_Led_hear_1 : decode b_Led_hear 1 = .ok (.getfield 31, 3) := by decide +kernel
theorem d_Led_hear_4 : decode b_Led_hear 4 = .ok (.iload_n 1, 1) := by decide +kernel
theorem d_Led_hear_5 : decode b_Led_hear 5 = .ok (.aaload, 1) := by decide +kernel
theorem d_Led_hear_6 : decode b_Led_hear 6 = .ok (.iload_n 2, 1) := by decide +kernel
theorem d_Led_hear_7 : decode b_Led_hear 7 = .ok (.iaload, 1) := by decide +kernel
theorem d_Led_hear_8 : decode b_Led_hear 8 = .ok (.invokestatic 49, 3) := by decide +kernel
theorem d_Led_hear_11 : decode b_Led_hear 11 = .ok (.iload_n 3, 1) := by decide +kernel
theorem d_Led_hear_12 : decode b_Led_hear 12 = .ok (.if_icmp .ge 17, 3) := by decide +kernel
theorem d_Led_hear_15 : decode b_Led_hear 15 = .ok (.aload_n 0, 1) := by decide +kernel
theorem d_Led_hear_16 : decode b_Led_hear 16 = .ok (.getfield 31, 3) := by decide +kernel
theorem d_Led_hear_19 : decode b_Led_hear 19 = .ok (.iload_n 1, 1) := by decide +kernel
theorem d_Led_hear_20 : decode b_Led_hear 20 = .ok (.aaload, 1) := by decide +kernel
theorem d_Led_hear_21 : decode b_Led_hear 21 = .ok (.iload_n 2, 1) := by decide +kernel
theorem d_Led_hear_22 : decode b_Led_hear 22 = .ok (.iload_n 3, 1) := by decide +kernel
theorem d_Led_hear_23 : decode b_Led_hear 23 = .ok (.iload 4, 2) := by decide +kernel
theorem d_Led_hear_25 : decode b_Led_hear 25 = .ok (.invokestatic 56, 3) := by decide +kernel
theorem d_Led_hear_28 : decode b_Led_hear 28 = .ok (.iastore, 1) := by decide +kernel
theorem d_Led_hear_29 : decode b_Led_hear 29 = .ok (.return_, 1) := by decide +kernel
theorem d_Led_init_0 : decode b_Led_init 0 = .ok (.aload_n 0, 1) := by decide +kernel
theorem d_Led_init_1 : decode b_Led_init 1 = .ok (.invokespecial 3, 3) := by decide +kernel
theorem d_Led_init_4 : decode b_Led_init 4 = .ok (.aload_n 0, 1) := by decide +kernel
theorem d_Led_init_5 : decode b_Led_init 5 = .ok (.iconst 0, 1) := by decide +kernel
theorem d_Led_init_6 : decode b_Led_init 6 = .ok (.putfield 9, 3) := by decide +kernel
theorem d_Led_init_9 : decode b_Led_init 9 = .ok (.aload_n 0, 1) := by decide +kernel
theorem d_Led_init_10 : decode b_Led_init 10 = .ok (.iconst 0, 1) := by decide +kernel
theorem d_Led_init_11 : decode b_Led_init 11 = .ok (.putfield 15, 3) := by decide +kernel
theorem d_Led_init_14 : decode b_Led_init 14 = .ok (.aload_n 0, 1) := by decide +kernel
theorem d_Led_init_15 : decode b_Led_init 15 = .ok (.iconst (-1), 1) := by decide +kernel
theorem d_Led_init_16 : decode b_Led_init 16 = .ok (.putfield 19, 3) := by decide +kernel
theorem d_Led_init_19 : decode b_Led_init 19 = .ok (.aload_n 0, 1) := by decide +kernel
theorem d_Led_init_20 : decode b_Led_init 20 = .ok (.iload_n 1, 1) := by decide +kernel
theorem d_Led_init_21 : decode b_Led_init 21 = .ok (.newarray .boolean, 2) := by decide +kernel
theorem d_Led_init_23 : decode b_Led_init 23 = .ok (.putfield 22, 3) := by decide +kernel
theorem d_Led_init_26 : decode b_Led_init 26 = .ok (.aload_n 0, 1) := by decide +kernel
theorem d_Led_init_27 : decode b_Led_init 27 = .ok (.iload_n 1, 1) := by decide +kernel
theorem d_Led_init_28 : decode b_Led_init 28 = .ok (.iconst 3, 1) := by decide +kernel
theorem d_Led_init_29 : decode b_Led_init 29 = .ok (.multianewarray 26 2, 4) := by decide +kernel
theorem d_Led_init_33 : decode b_Led_init 33 = .ok (.putfield 28, 3) := by decide +kernel
theorem d_Led_init_36 : decode b_Led_init 36 = .ok (.aload_n 0, 1) := by decide +kernel
theorem d_Led_init_37 : decode b_Led_init 37 = .ok (.iload_n 1, 1) := by decide +kernel
theorem d_Led_init_38 : decode b_Led_init 38 = .ok (.iconst 3, 1) := by decide +kernel
theorem d_Led_init_39 : decode b_Led_init 39 = .ok (.multianewarray 26 2, 4) := by decide +kernel
theorem d_Led_init_43 : decode b_Led_init 43 = .ok (.putfield 31, 3) := by decide +kernel
theorem d_Led_init_46 : decode b_Led_init 46 = .ok (.iconst 0, 1) := by decide +kernel
theorem d_Led_init_47 : decode b_Led_init 47 = .ok (.istore_n 2, 1) := by decide +kernel
theorem d_Led_init_48 : decode b_Led_init 48 = .ok (.iload_n 2, 1) := by decide +kernel
theorem d_Led_init_49 : decode b_Led_init 49 = .ok (.iload_n 1, 1) := by decide +kernel
theorem d_Led_init_50 : decode b_Led_init 50 = .ok (.if_icmp .ge 19, 3) := by decide +kernel
theorem d_Led_init_53 : decode b_Led_init 53 = .ok (.aload_n 0, 1) := by decide +kernel
theorem d_Led_init_54 : decode b_Led_init 54 = .ok (.getfield 31, 3) := by decide +kernel
theorem d_Led_init_57 : decode b_Led_init 57 = .ok (.iload_n 2, 1) := by decide +kernel
theorem d_Led_init_58 : decode b_Led_init 58 = .ok (.aaload, 1) := by decide +kernel
theorem d_Led_init_59 : decode b_Led_init 59 = .ok (.iconst (-1), 1) := by decide +kernel
theorem d_Led_init_60 : decode b_Led_init 60 = .ok (.invokestatic 34, 3) := by decide +kernel
theorem d_Led_init_63 : decode b_Led_init 63 = .ok (.iinc 2 1, 3) := by decide +kernel
theorem d_Led_init_66 : decode b_Led_init 66 = .ok (.goto (-18), 3) := by decide +kernel
theorem d_Led_init_69 : decode b_Led_init 69 = .ok (.return_, 1) := by decide +kernel
theorem d_Led_judge_0 : decode b_Led_judge 0 = .ok (.iconst 1, 1) := by decide +kernel
theorem d_Led_judge_1 : decode b_Led_judge 1 = .ok (.istore_n 3, 1) := by decide +kernel
theorem d_Led_judge_2 : decode b_Led_judge 2 = .ok (.iconst 0, 1) := by decide +kernel
theorem d_Led_judge_3 : decode b_Led_judge 3 = .ok (.istore 4, 2) := by decide +kernel
theorem d_Led_judge_5 : decode b_Led_judge 5 = .ok (.iload 4, 2) := by decide +kernel
theorem d_Led_judge_7 : decode b_Led_judge 7 = .ok (.iconst 3, 1) := by decide +kernel
theorem d_Led_judge_8 : decode b_Led_judge 8 = .ok (.if_icmp .ge 42, 3) := by decide +kernel
theorem d_Led_judge_11 : decode b_Led_judge 11 = .ok (.iload_n 1, 1) := by decide +kernel
theorem d_Led_judge_12 : decode b_Led_judge 12 = .ok (.iload 4, 2) := by decide +kernel
theorem d_Led_judge_14 : decode b_Led_judge 14 = .ok (.invokestatic 59, 3) := by decide +kernel
theorem d_Led_judge_17 : decode b_Led_judge 17 = .ok (.ifCond .eq 27, 3) := by decide +kernel
theorem d_Led_judge_20 : decode b_Led_judge 20 = .ok (.aload_n 0, 1) := by decide +kernel
theorem d_Led_judge_21 : decode b_Led_judge 21 = .ok (.iload 4, 2) := by decide +kernel
theorem d_Led_judge_23 : decode b_Led_judge 23 = .ok (.iload_n 2, 1) := by decide +kernel
theorem d_Led_judge_24 : decode b_Led_judge 24 = .ok (.invokevirtual 63, 3) := by decide +kernel
theorem d_Led_judge_27 : decode b_Led_judge 27 = .ok (.istore 5, 2) := by decide +kernel
theorem d_Led_judge_29 : decode b_Led_judge 29 = .ok (.iload 5, 2) := by decide +kernel
theorem d_Led_judge_31 : decode b_Led_judge 31 = .ok (.ifCond .ne 5, 3) := by decide +kernel
theorem d_Led_judge_34 : decode b_Led_judge 34 = .ok (.iconst 0, 1) := by decide +kernel
theorem d_Led_judge_35 : decode b_Led_judge 35 = .ok (.ireturn, 1) := by decide +kernel
theorem d_Led_judge_36 : decode b_Led_judge 36 = .ok (.iload 5, 2) := by decide +kernel
theorem d_Led_judge_38 : decode b_Led_judge 38 = .ok (.iconst (-1), 1) := by decide +kernel
theorem d_Led_judge_39 : decode b_Led_judge 39 = .ok (.if_icmp .ne 5, 3) := by decide +kernel
theorem d_Led_judge_42 : decode b_Led_judge 42 = .ok (.iconst (-1), 1) := by decide +kernel
theorem d_Led_judge_43 : decode b_Led_judge 43 = .ok (.istore_n 3, 1) := by decide +kernel
theorem d_Led_judge_44 : decode b_Led_judge 44 = .ok (.iinc 4 1, 3) := by decide +kernel
theorem d_Led_judge_47 : decode b_Led_judge 47 = .ok (.goto (-42), 3) := by decide +kernel
theorem d_Led_judge_50 : decode b_Led_judge 50 = .ok (.iload_n 3, 1) := by decide +kernel
theorem d_Led_judge_51 : decode b_Led_judge 51 = .ok (.ireturn, 1) := by decide +kernel
theorem d_Led_keepReply_0 : decode b_Led_keepReply 0 = .ok (.aload_n 0, 1) := by decide +kernel
theorem d_Led_keepReply_1 : decode b_Led_keepReply 1 = .ok (.getfield 22, 3) := by decide +kernel
theorem d_Led_keepReply_4 : decode b_Led_keepReply 4 = .ok (.iload_n 1, 1) := by decide +kernel
theorem d_Led_keepReply_5 : decode b_Led_keepReply 5 = .ok (.iconst 1, 1) := by decide +kernel
theorem d_Led_keepReply_6 : decode b_Led_keepReply 6 = .ok (.bastore, 1) := by decide +kernel
theorem d_Led_keepReply_7 : decode b_Led_keepReply 7 = .ok (.iconst 0, 1) := by decide +kernel
theorem d_Led_keepReply_8 : decode b_Led_keepReply 8 = .ok (.istore_n 3, 1) := by decide +kernel
theorem d_Led_keepReply_9 : decode b_Led_keepReply 9 = .ok (.iload_n 3, 1) := by decide +kernel
theorem d_Led_keepReply_10 : decode b_Led_keepReply 10 = .ok (.iconst 3, 1) := by decide +kernel
theorem d_Led_keepReply_11 : decode b_Led_keepReply 11 = .ok (.if_icmp .ge 20, 3) := by decide +kernel
theorem d_Led_keepReply_14 : decode b_Led_keepReply 14 = .ok (.aload_n 0, 1) := by decide +kernel
theorem d_Led_keepReply_15 : decode b_Led_keepReply 15 = .ok (.getfield 28, 3) := by decide +kernel
theorem d_Led_keepReply_18 : decode b_Led_keepReply 18 = .ok (.iload_n 1, 1) := by decide +kernel
theorem d_Led_keepReply_19 : decode b_Led_keepReply 19 = .ok (.aaload, 1) := by decide +kernel
theorem d_Led_keepReply_20 : decode b_Led_keepReply 20 = .ok (.iload_n 3, 1) := by decide +kernel
theorem d_Led_keepReply_21 : decode b_Led_keepReply 21 = .ok (.aload_n 2, 1) := by decide +kernel
theorem d_Led_keepReply_22 : decode b_Led_keepReply 22 = .ok (.iload_n 3, 1) := by decide +kernel
theorem d_Led_keepReply_23 : decode b_Led_keepReply 23 = .ok (.iaload, 1) := by decide +kernel
theorem d_Led_keepReply_24 : decode b_Led_keepReply 24 = .ok (.iastore, 1) := by decide +kernel
theorem d_Led_keepReply_25 : decode b_Led_keepReply 25 = .ok (.iinc 3 1, 3) := by decide +kernel
theorem d_Led_keepReply_28 : decode b_Led_keepReply 28 = .ok (.goto (-19), 3) := by decide +kernel
theorem d_Led_keepReply_31 : decode b_Led_keepReply 31 = .ok (.return_, 1) := by decide +kernel
theorem d_Led_raiseBallot_0 : decode b_Led_raiseBallot 0 = .ok (.aload_n 0, 1) := by decide +kernel
theorem d_Led_raiseBallot_1 : decode b_Led_raiseBallot 1 = .ok (.dup, 1) := by decide +kernel
theorem d_Led_raiseBallot_2 : decode b_Led_raiseBallot 2 = .ok (.getfield 9, 3) := by decide +kernel
theorem d_Led_raiseBallot_5 : decode b_Led_raiseBallot 5 = .ok (.iconst 1, 1) := by decide +kernel
theorem d_Led_raiseBallot_6 : decode b_Led_raiseBallot 6 = .ok (.iadd, 1) := by decide +kernel
theorem d_Led_raiseBallot_7 : decode b_Led_raiseBallot 7 = .ok (.putfield 9, 3) := by decide +kernel
theorem d_Led_raiseBallot_10 : decode b_Led_raiseBallot 10 = .ok (.aload_n 0, 1) := by decide +kernel
theorem d_Led_raiseBallot_11 : decode b_Led_raiseBallot 11 = .ok (.getfield 9, 3) := by decide +kernel
theorem d_Led_raiseBallot_14 : decode b_Led_raiseBallot 14 = .ok (.iconst 2, 1) := by decide +kernel
theorem d_Led_raiseBallot_15 : decode b_Led_raiseBallot 15 = .ok (.invokestatic 40, 3) := by decide +kernel
theorem d_Led_raiseBallot_18 : decode b_Led_raiseBallot 18 = .ok (.iload_n 1, 1) := by decide +kernel
theorem d_Led_raiseBallot_19 : decode b_Led_raiseBallot 19 = .ok (.if_icmp .eq 13, 3) := by decide +kernel
theorem d_Led_raiseBallot_22 : decode b_Led_raiseBallot 22 = .ok (.aload_n 0, 1) := by decide +kernel
theorem d_Led_raiseBallot_23 : decode b_Led_raiseBallot 23 = .ok (.dup, 1) := by decide +kernel
theorem d_Led_raiseBallot_24 : decode b_Led_raiseBallot 24 = .ok (.getfield 9, 3) := by decide +kernel
theorem d_Led_raiseBallot_27 : decode b_Led_raiseBallot 27 = .ok (.iconst 1, 1) := by decide +kernel
theorem d_Led_raiseBallot_28 : decode b_Led_raiseBallot 28 = .ok (.iadd, 1) := by decide +kernel
theorem d_Led_raiseBallot_29 : decode b_Led_raiseBallot 29 = .ok (.putfield 9, 3) := by decide +kernel
theorem d_Led_raiseBallot_32 : decode b_Led_raiseBallot 32 = .ok (.aload_n 0, 1) := by decide +kernel
theorem d_Led_raiseBallot_33 : decode b_Led_raiseBallot 33 = .ok (.iconst 0, 1) := by decide +kernel
theorem d_Led_raiseBallot_34 : decode b_Led_raiseBallot 34 = .ok (.putfield 15, 3) := by decide +kernel
theorem d_Led_raiseBallot_37 : decode b_Led_raiseBallot 37 = .ok (.aload_n 0, 1) := by decide +kernel
theorem d_Led_raiseBallot_38 : decode b_Led_raiseBallot 38 = .ok (.invokevirtual 46, 3) := by decide +kernel
theorem d_Led_raiseBallot_41 : decode b_Led_raiseBallot 41 = .ok (.aload_n 0, 1) := by decide +kernel
theorem d_Led_raiseBallot_42 : decode b_Led_raiseBallot 42 = .ok (.getfield 9, 3) := by decide +kernel
theorem d_Led_raiseBallot_45 : decode b_Led_raiseBallot 45 = .ok (.ireturn, 1) := by decide +kernel
theorem d_Led_voteToPropose_0 : decode b_Led_voteToPropose 0 = .ok (.iconst (-1), 1) := by decide +kernel
theorem d_Led_voteToPropose_1 : decode b_Led_voteToPropose 1 = .ok (.istore_n 2, 1) := by decide +kernel
theorem d_Led_voteToPropose_2 : decode b_Led_voteToPropose 2 = .ok (.iconst 0, 1) := by decide +kernel
theorem d_Led_voteToPropose_3 : decode b_Led_voteToPropose 3 = .ok (.istore_n 3, 1) := by decide +kernel
theorem d_Led_voteToPropose_4 : decode b_Led_voteToPropose 4 = .ok (.iload_n 3, 1) := by decide +kernel
theorem d_Led_voteToPropose_5 : decode b_Led_voteToPropose 5 = .ok (.aload_n 0, 1) := by decide +kernel
theorem d_Led_voteToPropose_6 : decode b_Led_voteToPropose 6 = .ok (.getfield 22, 3) := by decide +kernel
theorem d_Led_voteToPropose_9 : decode b_Led_voteToPropose 9 = .ok (.arraylength, 1) := by decide +kernel
theorem d_Led_voteToPropose_10 : decode b_Led_voteToPropose 10 = .ok (.if_icmp .ge 45, 3) := by decide +kernel
theorem d_Led_voteToPropose_13 : decode b_Led_voteToPropose 13 = .ok (.aload_n 0, 1) := by decide +kernel
theorem d_Led_voteToPropose_14 : decode b_Led_voteToPropose 14 = .ok (.getfield 22, 3) := by decide +kernel
theorem d_Led_voteToPropose_17 : decode b_Led_voteToPropose 17 = .ok (.iload_n 3, 1) := by decide +kernel
theorem d_Led_voteToPropose_18 : decode b_Led_voteToPropose 18 = .ok (.baload, 1) := by decide +kernel
theorem d_Led_voteToPropose_19 : decode b_Led_voteToPropose 19 = .ok (.ifCond .eq 30, 3) := by decide +kernel
theorem d_Led_voteToPropose_22 : decode b_Led_voteToPropose 22 = .ok (.aload_n 0, 1) := by decide +kernel
theorem d_Led_voteToPropose_23 : decode b_Led_voteToPropose 23 = .ok (.getfield 28, 3) := by decide +kernel
theorem d_Led_voteToPropose_26 : decode b_Led_voteToPropose 26 = .ok (.iload_n 3, 1) := by decide +kernel
theorem d_Led_voteToPropose_27 : decode b_Led_voteToPropose 27 = .ok (.aaload, 1) := by decide +kernel
theorem d_Led_voteToPropose_28 : decode b_Led_voteToPropose 28 = .ok (.iload_n 1, 1) := by decide +kernel
theorem d_Led_voteToPropose_29 : decode b_Led_voteToPropose 29 = .ok (.iaload, 1) := by decide +kernel
theorem d_Led_voteToPropose_30 : decode b_Led_voteToPropose 30 = .ok (.invokestatic 49, 3) := by decide +kernel
theorem d_Led_voteToPropose_33 : decode b_Led_voteToPropose 33 = .ok (.iload_n 2, 1) := by decide +kernel
theorem d_Led_voteToPropose_34 : decode b_Led_voteToPropose 34 = .ok (.invokestatic 49, 3) := by decide +kernel
theorem d_Led_voteToPropose_37 : decode b_Led_voteToPropose 37 = .ok (.if_icmp .le 12, 3) := by decide +kernel
theorem d_Led_voteToPropose_40 : decode b_Led_voteToPropose 40 = .ok (.aload_n 0, 1) := by decide +kernel
theorem d_Led_voteToPropose_41 : decode b_Led_voteToPropose 41 = .ok (.getfield 28, 3) := by decide +kernel
theorem d_Led_voteToPropose_44 : decode b_Led_voteToPropose 44 = .ok (.iload_n 3, 1) := by decide +kernel
theorem d_Led_voteToPropose_45 : decode b_Led_voteToPropose 45 = .ok (.aaload, 1) := by decide +kernel
theorem d_Led_voteToPropose_46 : decode b_Led_voteToPropose 46 = .ok (.iload_n 1, 1) := by decide +kernel
theorem d_Led_voteToPropose_47 : decode b_Led_voteToPropose 47 = .ok (.iaload, 1) := by decide +kernel
theorem d_Led_voteToPropose_48 : decode b_Led_voteToPropose 48 = .ok (.istore_n 2, 1) := by decide +kernel
theorem d_Led_voteToPropose_49 : decode b_Led_voteToPropose 49 = .ok (.iinc 3 1, 3) := by decide +kernel
