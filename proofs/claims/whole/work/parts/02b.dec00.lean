theorem d_AbstractStringBuilder_append_C_0 : decode b_AbstractStringBuilder_append_C 0 = .ok (.aload_n 0, 1) := by decide +kernel
theorem d_AbstractStringBuilder_append_C_1 : decode b_AbstractStringBuilder_append_C 1 = .ok (.aload_n 0, 1) := by decide +kernel
theorem d_AbstractStringBuilder_append_C_2 : decode b_AbstractStringBuilder_append_C 2 = .ok (.getfield 79, 3) := by decide +kernel
theorem d_AbstractStringBuilder_append_C_5 : decode b_AbstractStringBuilder_append_C 5 = .ok (.iconst 1, 1) := by decide +kernel
theorem d_AbstractStringBuilder_append_C_6 : decode b_AbstractStringBuilder_append_C 6 = .ok (.iadd, 1) := by decide +kernel
theorem d_AbstractStringBuilder_append_C_7 : decode b_AbstractStringBuilder_append_C 7 = .ok (.invokevirtual 100, 3) := by decide +kernel
theorem d_AbstractStringBuilder_append_C_10 : decode b_AbstractStringBuilder_append_C 10 = .ok (.aload_n 0, 1) := by decide +kernel
theorem d_AbstractStringBuilder_append_C_11 : decode b_AbstractStringBuilder_append_C 11 = .ok (.invokevirtual 83, 3) := by decide +kernel
theorem d_AbstractStringBuilder_append_C_14 : decode b_AbstractStringBuilder_append_C 14 = .ok (.ifCond .eq 31, 3) := by decide +kernel
theorem d_AbstractStringBuilder_append_C_17 : decode b_AbstractStringBuilder_append_C 17 = .ok (.iload_n 1, 1) := by decide +kernel
theorem d_AbstractStringBuilder_append_C_18 : decode b_AbstractStringBuilder_append_C 18 = .ok (.invokestatic 191, 3) := by decide +kernel
theorem d_AbstractStringBuilder_append_C_21 : decode b_AbstractStringBuilder_append_C 21 = .ok (.ifCond .eq 24, 3) := by decide +kernel
theorem d_AbstractStringBuilder_append_C_24 : decode b_AbstractStringBuilder_append_C 24 = .ok (.aload_n 0, 1) := by decide +kernel
theorem d_AbstractStringBuilder_append_C_25 : decode b_AbstractStringBuilder_append_C 25 = .ok (.getfield 15, 3) := by decide +kernel
theorem d_AbstractStringBuilder_append_C_28 : decode b_AbstractStringBuilder_append_C 28 = .ok (.aload_n 0, 1) := by decide +kernel
theorem d_AbstractStringBuilder_append_C_29 : decode b_AbstractStringBuilder_append_C 29 = .ok (.dup, 1) := by decide +kernel
theorem d_AbstractStringBuilder_append_C_30 : decode b_AbstractStringBuilder_append_C 30 = .ok (.getfield 79, 3) := by decide +kernel
theorem d_AbstractStringBuilder_append_C_33 : decode b_AbstractStringBuilder_append_C 33 = .ok (.dup_x1, 1) := by decide +kernel
theorem d_AbstractStringBuilder_append_C_34 : decode b_AbstractStringBuilder_append_C 34 = .ok (.iconst 1, 1) := by decide +kernel
theorem d_AbstractStringBuilder_append_C_35 : decode b_AbstractStringBuilder_append_C 35 = .ok (.iadd, 1) := by decide +kernel
theorem d_AbstractStringBuilder_append_C_36 : decode b_AbstractStringBuilder_append_C 36 = .ok (.putfield 79, 3) := by decide +kernel
theorem d_AbstractStringBuilder_append_C_39 : decode b_AbstractStringBuilder_append_C 39 = .ok (.iload_n 1, 1) := by decide +kernel
theorem d_AbstractStringBuilder_append_C_40 : decode b_AbstractStringBuilder_append_C 40 = .ok (.i2b, 1) := by decide +kernel
theorem d_AbstractStringBuilder_append_C_41 : decode b_AbstractStringBuilder_append_C 41 = .ok (.bastore, 1) := by decide +kernel
theorem d_AbstractStringBuilder_append_C_42 : decode b_AbstractStringBuilder_append_C 42 = .ok (.goto 33, 3) := by decide +kernel
theorem d_AbstractStringBuilder_append_C_45 : decode b_AbstractStringBuilder_append_C 45 = .ok (.aload_n 0, 1) := by decide +kernel
theorem d_AbstractStringBuilder_append_C_46 : decode b_AbstractStringBuilder_append_C 46 = .ok (.invokevirtual 83, 3) := by decide +kernel
theorem d_AbstractStringBuilder_append_C_49 : decode b_AbstractStringBuilder_append_C 49 = .ok (.ifCond .eq 7, 3) := by decide +kernel
theorem d_AbstractStringBuilder_append_C_52 : decode b_AbstractStringBuilder_append_C 52 = .ok (.aload_n 0, 1) := by decide +kernel
theorem d_AbstractStringBuilder_append_C_53 : decode b_AbstractStringBuilder_append_C 53 = .ok (.invokevirtual 195, 3) := by decide +kernel
theorem d_AbstractStringBuilder_append_C_56 : decode b_AbstractStringBuilder_append_C 56 = .ok (.aload_n 0, 1) := by decide +kernel
theorem d_AbstractStringBuilder_append_C_57 : decode b_AbstractStringBuilder_append_C 57 = .ok (.getfield 15, 3) := by decide +kernel
theorem d_AbstractStringBuilder_append_C_60 : decode b_AbstractStringBuilder_append_C 60 = .ok (.aload_n 0, 1) := by decide +kernel
theorem d_AbstractStringBuilder_append_C_61 : decode b_AbstractStringBuilder_append_C 61 = .ok (.dup, 1) := by decide +kernel
theorem d_AbstractStringBuilder_append_C_62 : decode b_AbstractStringBuilder_append_C 62 = .ok (.getfield 79, 3) := by decide +kernel
theorem d_AbstractStringBuilder_append_C_65 : decode b_AbstractStringBuilder_append_C 65 = .ok (.dup_x1, 1) := by decide +kernel
theorem d_AbstractStringBuilder_append_C_66 : decode b_AbstractStringBuilder_append_C 66 = .ok (.iconst 1, 1) := by decide +kernel
theorem d_AbstractStringBuilder_append_C_67 : decode b_AbstractStringBuilder_append_C 67 = .ok (.iadd, 1) := by decide +kernel
theorem d_AbstractStringBuilder_append_C_68 : decode b_AbstractStringBuilder_append_C 68 = .ok (.putfield 79, 3) := by decide +kernel
theorem d_AbstractStringBuilder_append_C_71 : decode b_AbstractStringBuilder_append_C 71 = .ok (.iload_n 1, 1) := by decide +kernel
theorem d_AbstractStringBuilder_append_C_72 : decode b_AbstractStringBuilder_append_C 72 = .ok (.invokestatic 197, 3) := by decide +kernel
theorem d_AbstractStringBuilder_append_C_75 : decode b_AbstractStringBuilder_append_C 75 = .ok (.aload_n 0, 1) := by decide +kernel
theorem d_AbstractStringBuilder_append_C_76 : decode b_AbstractStringBuilder_append_C 76 = .ok (.areturn, 1) := by decide +kernel
theorem d_AbstractStringBuilder_append_I_0 : decode b_AbstractStringBuilder_append_I 0 = .ok (.aload_n 0, 1) := by decide +kernel
theorem d_AbstractStringBuilder_append_I_1 : decode b_AbstractStringBuilder_append_I 1 = .ok (.getfield 79, 3) := by decide +kernel
theorem d_AbstractStringBuilder_append_I_4 : decode b_AbstractStringBuilder_append_I 4 = .ok (.istore_n 2, 1) := by decide +kernel
theorem d_AbstractStringBuilder_append_I_5 : decode b_AbstractStringBuilder_append_I 5 = .ok (.iload_n 2, 1) := by decide +kernel
theorem d_AbstractStringBuilder_append_I_6 : decode b_AbstractStringBuilder_append_I 6 = .ok (.iload_n 1, 1) := by decide +kernel
theorem d_AbstractStringBuilder_append_I_7 : decode b_AbstractStringBuilder_append_I 7 = .ok (.invokestatic 245, 3) := by decide +kernel
theorem d_AbstractStringBuilder_append_I_10 : decode b_AbstractStringBuilder_append_I 10 = .ok (.iadd, 1) := by decide +kernel
theorem d_AbstractStringBuilder_append_I_11 : decode b_AbstractStringBuilder_append_I 11 = .ok (.istore_n 3, 1) := by decide +kernel
theorem d_AbstractStringBuilder_append_I_12 : decode b_AbstractStringBuilder_append_I 12 = .ok (.aload_n 0, 1) := by decide +kernel
theorem d_AbstractStringBuilder_append_I_13 : decode b_AbstractStringBuilder_append_I 13 = .ok (.iload_n 3, 1) := by decide +kernel
theorem d_AbstractStringBuilder_append_I_14 : decode b_AbstractStringBuilder_append_I 14 = .ok (.invokevirtual 100, 3) := by decide +kernel
theorem d_AbstractStringBuilder_append_I_17 : decode b_AbstractStringBuilder_append_I 17 = .ok (.aload_n 0, 1) := by decide +kernel
theorem d_AbstractStringBuilder_append_I_18 : decode b_AbstractStringBuilder_append_I 18 = .ok (.invokevirtual 83, 3) := by decide +kernel
theorem d_AbstractStringBuilder_append_I_21 : decode b_AbstractStringBuilder_append_I 21 = .ok (.ifCond .eq 16, 3) := by decide +kernel
theorem d_AbstractStringBuilder_append_I_24 : decode b_AbstractStringBuilder_append_I 24 = .ok (.iload_n 1, 1) := by decide +kernel
theorem d_AbstractStringBuilder_append_I_25 : decode b_AbstractStringBuilder_append_I 25 = .ok (.iload_n 3, 1) := by decide +kernel
theorem d_AbstractStringBuilder_append_I_26 : decode b_AbstractStringBuilder_append_I 26 = .ok (.aload_n 0, 1) := by decide +kernel
theorem d_AbstractStringBuilder_append_I_27 : decode b_AbstractStringBuilder_append_I 27 = .ok (.getfield 15, 3) := by decide +kernel
theorem d_AbstractStringBuilder_append_I_30 : decode b_AbstractStringBuilder_append_I 30 = .ok (.invokestatic 248, 3) := by decide +kernel
theorem d_AbstractStringBuilder_append_I_33 : decode b_AbstractStringBuilder_append_I 33 = .ok (.pop, 1) := by decide +kernel
theorem d_AbstractStringBuilder_append_I_34 : decode b_AbstractStringBuilder_append_I 34 = .ok (.goto 14, 3) := by decide +kernel
theorem d_AbstractStringBuilder_append_I_37 : decode b_AbstractStringBuilder_append_I 37 = .ok (.iload_n 1, 1) := by decide +kernel
theorem d_AbstractStringBuilder_append_I_38 : decode b_AbstractStringBuilder_append_I 38 = .ok (.iload_n 2, 1) := by decide +kernel
theorem d_AbstractStringBuilder_append_I_39 : decode b_AbstractStringBuilder_append_I 39 = .ok (.iload_n 3, 1) := by decide +kernel
theorem d_AbstractStringBuilder_append_I_40 : decode b_AbstractStringBuilder_append_I 40 = .ok (.aload_n 0, 1) := by decide +kernel
theorem d_AbstractStringBuilder_append_I_41 : decode b_AbstractStringBuilder_append_I 41 = .ok (.getfield 15, 3) := by decide +kernel
theorem d_AbstractStringBuilder_append_I_44 : decode b_AbstractStringBuilder_append_I 44 = .ok (.invokestatic 251, 3) := by decide +kernel
theorem d_AbstractStringBuilder_append_I_47 : decode b_AbstractStringBuilder_append_I 47 = .ok (.pop, 1) := by decide +kernel
theorem d_AbstractStringBuilder_append_I_48 : decode b_AbstractStringBuilder_append_I 48 = .ok (.aload_n 0, 1) := by decide +kernel
theorem d_AbstractStringBuilder_append_I_49 : decode b_AbstractStringBuilder_append_I 49 = .ok (.iload_n 3, 1) := by decide +kernel
theorem d_AbstractStringBuilder_append_I_50 : decode b_AbstractStringBuilder_append_I 50 = .ok (.putfield 79, 3) := by decide +kernel
theorem d_AbstractStringBuilder_append_I_53 : decode b_AbstractStringBuilder_append_I 53 = .ok (.aload_n 0, 1) := by decide +kernel
theorem d_AbstractStringBuilder_append_I_54 : decode b_AbstractStringBuilder_append_I 54 = .ok (.areturn, 1) := by decide +kernel
theorem d_AbstractStringBuilder_charAt_0 : decode b_AbstractStringBuilder_charAt 0 = .ok (.aload_n 0, 1) := by decide +kernel
theorem d_AbstractStringBuilder_charAt_1 : decode b_AbstractStringBuilder_charAt 1 = .ok (.getfield 22, 3) := by decide +kernel
theorem d_AbstractStringBuilder_charAt_4 : decode b_AbstractStringBuilder_charAt 4 = .ok (.istore_n 2, 1) := by decide +kernel
theorem d_AbstractStringBuilder_charAt_5 : decode b_AbstractStringBuilder_charAt 5 = .ok (.aload_n 0, 1) := by decide +kernel
theorem d_AbstractStringBuilder_charAt_6 : decode b_AbstractStringBuilder_charAt 6 = .ok (.getfield 15, 3) := by decide +kernel
theorem d_AbstractStringBuilder_charAt_9 : decode b_AbstractStringBuilder_charAt 9 = .ok (.astore_n 3, 1) := by decide +kernel
theorem d_AbstractStringBuilder_charAt_10 : decode b_AbstractStringBuilder_charAt 10 = .ok (.aload_n 0, 1) := by decide +kernel
theorem d_AbstractStringBuilder_charAt_11 : decode b_AbstractStringBuilder_charAt 11 = .ok (.getfield 79, 3) := by decide +kernel
theorem d_AbstractStringBuilder_charAt_14 : decode b_AbstractStringBuilder_charAt 14 = .ok (.aload_n 3, 1) := by decide +kernel
theorem d_AbstractStringBuilder_charAt_15 : decode b_AbstractStringBuilder_charAt 15 = .ok (.arraylength, 1) := by decide +kernel
theorem d_AbstractStringBuilder_charAt_16 : decode b_AbstractStringBuilder_charAt 16 = .ok (.iload_n 2, 1) := by decide +kernel
theorem d_AbstractStringBuilder_charAt_17 : decode b_AbstractStringBuilder_charAt 17 = .ok (.ishr, 1) := by decide +kernel
theorem d_AbstractStringBuilder_charAt_18 : decode b_AbstractStringBuilder_charAt 18 = .ok (.invokestatic 138, 3) := by decide +kernel
theorem d_AbstractStringBuilder_charAt_21 : decode b_AbstractStringBuilder_charAt 21 = .ok (.istore 4, 2) := by decide +kernel
theorem d_AbstractStringBuilder_charAt_23 : decode b_AbstractStringBuilder_charAt 23 = .ok (.iload_n 1, 1) := by decide +kernel
theorem d_AbstractStringBuilder_charAt_24 : decode b_AbstractStringBuilder_charAt 24 = .ok (.iload 4, 2) := by decide +kernel
theorem d_AbstractStringBuilder_charAt_26 : decode b_AbstractStringBuilder_charAt 26 = .ok (.invokestatic 144, 3) := by decide +kernel
theorem d_AbstractStringBuilder_charAt_29 : decode b_AbstractStringBuilder_charAt 29 = .ok (.iload_n 2, 1) := by decide +kernel
theorem d_AbstractStringBuilder_charAt_30 : decode b_AbstractStringBuilder_charAt 30 = .ok (.ifCond .ne 12, 3) := by decide +kernel
theorem d_AbstractStringBuilder_charAt_33 : decode b_AbstractStringBuilder_charAt 33 = .ok (.aload_n 3, 1) := by decide +kernel
theorem d_AbstractStringBuilder_charAt_34 : decode b_AbstractStringBuilder_charAt 34 = .ok (.iload_n 1, 1) := by decide +kernel
theorem d_AbstractStringBuilder_charAt_35 : decode b_AbstractStringBuilder_charAt 35 = .ok (.baload, 1) := by decide +kernel
theorem d_AbstractStringBuilder_charAt_36 : decode b_AbstractStringBuilder_charAt 36 = .ok (.sipush 255, 3) := by decide +kernel
theorem d_AbstractStringBuilder_charAt_39 : decode b_AbstractStringBuilder_charAt 39 = .ok (.iand, 1) := by decide +kernel
theorem d_AbstractStringBuilder_charAt_40 : decode b_AbstractStringBuilder_charAt 40 = .ok (.i2c, 1) := by decide +kernel
theorem d_AbstractStringBuilder_charAt_41 : decode b_AbstractStringBuilder_charAt 41 = .ok (.ireturn, 1) := by decide +kernel
theorem d_AbstractStringBuilder_charAt_42 : decode b_AbstractStringBuilder_charAt 42 = .ok (.aload_n 3, 1) := by decide +kernel
theorem d_AbstractStringBuilder_charAt_43 : decode b_AbstractStringBuilder_charAt 43 = .ok (.iload_n 1, 1) := by decide +kernel
theorem d_AbstractStringBuilder_charAt_44 : decode b_AbstractStringBuilder_charAt 44 = .ok (.invokestatic 148, 3) := by decide +kernel
theorem d_AbstractStringBuilder_charAt_47 : decode b_AbstractStringBuilder_charAt 47 = .ok (.ireturn, 1) := by decide +kernel
theorem d_AbstractStringBuilder_ensureCapacityInternal_0 : decode b_AbstractStringBuilder_ensureCapacityInternal 0 = .ok (.aload_n 0, 1) := by decide +kernel
theorem d_AbstractStringBuilder_ensureCapacityInternal_1 : decode b_AbstractStringBuilder_ensureCapacityInternal 1 = .ok (.getfield 15, 3) := by decide +kernel
theorem d_AbstractStringBuilder_ensureCapacityInternal_4 : decode b_AbstractStringBuilder_ensureCapacityInternal 4 = .ok (.arraylength, 1) := by decide +kernel
theorem d_AbstractStringBuilder_ensureCapacityInternal_5 : decode b_AbstractStringBuilder_ensureCapacityInternal 5 = .ok (.aload_n 0, 1) := by decide +kernel
theorem d_AbstractStringBuilder_ensureCapacityInternal_6 : decode b_AbstractStringBuilder_ensureCapacityInternal 6 = .ok (.getfield 22, 3) := by decide +kernel
theorem d_AbstractStringBuilder_ensureCapacityInternal_9 : decode b_AbstractStringBuilder_ensureCapacityInternal 9 = .ok (.ishr, 1) := by decide +kernel
theorem d_AbstractStringBuilder_ensureCapacityInternal_10 : decode b_AbstractStringBuilder_ensureCapacityInternal 10 = .ok (.istore_n 2, 1) := by decide +kernel
theorem d_AbstractStringBuilder_ensureCapacityInternal_11 : decode b_AbstractStringBuilder_ensureCapacityInternal 11 = .ok (.iload_n 1, 1) := by decide +kernel
theorem d_AbstractStringBuilder_ensureCapacityInternal_12 : decode b_AbstractStringBuilder_ensureCapacityInternal 12 = .ok (.iload_n 2, 1) := by decide +kernel
theorem d_AbstractStringBuilder_ensureCapacityInternal_13 : decode b_AbstractStringBuilder_ensureCapacityInternal 13 = .ok (.isub, 1) := by decide +kernel
theorem d_AbstractStringBuilder_ensureCapacityInternal_14 : decode b_AbstractStringBuilder_ensureCapacityInternal 14 = .ok (.ifCond .le 24, 3) := by decide +kernel
theorem d_AbstractStringBuilder_ensureCapacityInternal_17 : decode b_AbstractStringBuilder_ensureCapacityInternal 17 = .ok (.aload_n 0, 1) := by decide +kernel
theorem d_AbstractStringBuilder_ensureCapacityInternal_18 : decode b_AbstractStringBuilder_ensureCapacityInternal 18 = .ok (.aload_n 0, 1) := by decide +kernel
theorem d_AbstractStringBuilder_ensureCapacityInternal_19 : decode b_AbstractStringBuilder_ensureCapacityInternal 19 = .ok (.getfield 15, 3) := by decide +kernel
theorem d_AbstractStringBuilder_ensureCapacityInternal_22 : decode b_AbstractStringBuilder_ensureCapacityInternal 22 = .ok (.aload_n 0, 1) := by decide +kernel
theorem d_AbstractStringBuilder_ensureCapacityInternal_23 : decode b_AbstractStringBuilder_ensureCapacityInternal 23 = .ok (.iload_n 1, 1) := by decide +kernel
theorem d_AbstractStringBuilder_ensureCapacityInternal_24 : decode b_AbstractStringBuilder_ensureCapacityInternal 24 = .ok (.invokevirtual 104, 3) := by decide +kernel
theorem d_AbstractStringBuilder_ensureCapacityInternal_27 : decode b_AbstractStringBuilder_ensureCapacityInternal 27 = .ok (.aload_n 0, 1) := by decide +kernel
theorem d_AbstractStringBuilder_ensureCapacityInternal_28 : decode b_AbstractStringBuilder_ensureCapacityInternal 28 = .ok (.getfield 22, 3) := by decide +kernel
theorem d_AbstractStringBuilder_ensureCapacityInternal_31 : decode b_AbstractStringBuilder_ensureCapacityInternal 31 = .ok (.ishl, 1) := by decide +kernel
theorem d_AbstractStringBuilder_ensureCapacityInternal_32 : decode b_AbstractStringBuilder_ensureCapacityInternal 32 = .ok (.invokestatic 108, 3) := by decide +kernel
theorem d_AbstractStringBuilder_ensureCapacityInternal_35 : decode b_AbstractStringBuilder_ensureCapacityInternal 35 = .ok (.putfield 15, 3) := by decide +kernel
theorem d_AbstractStringBuilder_ensureCapacityInternal_38 : decode b_AbstractStringBuilder_ensureCapacityInternal 38 = .ok (.return_, 1) := by decide +kernel
theorem d_AbstractStringBuilder_init_0 : decode b_AbstractStringBuilder_init 0 = .ok (.aload_n 0, 1) := by decide +kernel
theorem d_AbstractStringBuilder_init_1 : decode b_AbstractStringBuilder_init 1 = .ok (.invokespecial 3, 3) := by decide +kernel
theorem d_AbstractStringBuilder_init_4 : decode b_AbstractStringBuilder_init 4 = .ok (.getstatic 18, 3) := by decide +kernel
theorem d_AbstractStringBuilder_init_7 : decode b_AbstractStringBuilder_init 7 = .ok (.ifCond .eq 18, 3) := by decide +kernel
theorem d_AbstractStringBuilder_init_10 : decode b_AbstractStringBuilder_init 10 = .ok (.aload_n 0, 1) := by decide +kernel
theorem d_AbstractStringBuilder_init_11 : decode b_AbstractStringBuilder_init 11 = .ok (.iload_n 1, 1) := by decide +kernel
theorem d_AbstractStringBuilder_init_12 : decode b_AbstractStringBuilder_init 12 = .ok (.newarray .byte, 2) := by decide +kernel
theorem d_AbstractStringBuilder_init_14 : decode b_AbstractStringBuilder_init 14 = .ok (.putfield 15, 3) := by decide +kernel
theorem d_AbstractStringBuilder_init_17 : decode b_AbstractStringBuilder_init 17 = .ok (.aload_n 0, 1) := by decide +kernel
theorem d_AbstractStringBuilder_init_18 : decode b_AbstractStringBuilder_init 18 = .ok (.iconst 0, 1) := by decide +kernel
theorem d_AbstractStringBuilder_init_19 : decode b_AbstractStringBuilder_init 19 = .ok (.putfield 22, 3) := by decide +kernel
theorem d_AbstractStringBuilder_init_22 : decode b_AbstractStringBuilder_init 22 = .ok (.goto 16, 3) := by decide +kernel
theorem d_AbstractStringBuilder_init_25 : decode b_AbstractStringBuilder_init 25 = .ok (.aload_n 0, 1) := by decide +kernel
theorem d_AbstractStringBuilder_init_26 : decode b_AbstractStringBuilder_init 26 = .ok (.iload_n 1, 1) := by decide +kernel
theorem d_AbstractStringBuilder_init_27 : decode b_AbstractStringBuilder_init 27 = .ok (.invokestatic 26, 3) := by decide +kernel
theorem d_AbstractStringBuilder_init_30 : decode b_AbstractStringBuilder_init 30 = .ok (.putfield 15, 3) := by decide +kernel
theorem d_AbstractStringBuilder_init_33 : decode b_AbstractStringBuilder_init 33 = .ok (.aload_n 0, 1) := by decide +kernel
theorem d_AbstractStringBuilder_init_34 : decode b_AbstractStringBuilder_init 34 = .ok (.iconst 1, 1) := by decide +kernel
theorem d_AbstractStringBuilder_init_35 : decode b_AbstractStringBuilder_init 35 = .ok (.putfield 22, 3) := by decide +kernel
theorem d_AbstractStringBuilder_init_38 : decode b_AbstractStringBuilder_init 38 = .ok (.return_, 1) := by decide +kernel
theorem d_AbstractStringBuilder_isLatin1_0 : decode b_AbstractStringBuilder_isLatin1 0 = .ok (.getstatic 18, 3) := by decide +kernel
theorem d_AbstractStringBuilder_isLatin1_3 : decode b_AbstractStringBuilder_isLatin1 3 = .ok (.ifCond .eq 14, 3) := by decide +kernel
theorem d_AbstractStringBuilder_isLatin1_6 : decode b_AbstractStringBuilder_isLatin1 6 = .ok (.aload_n 0, 1) := by decide +kernel
theorem d_AbstractStringBuilder_isLatin1_7 : decode b_AbstractStringBuilder_isLatin1 7 = .ok (.getfield 22, 3) := by decide +kernel
theorem d_AbstractStringBuilder_isLatin1_10 : decode b_AbstractStringBuilder_isLatin1 10 = .ok (.ifCond .ne 7, 3) := by decide +kernel
theorem d_AbstractStringBuilder_isLatin1_13 : decode b_AbstractStringBuilder_isLatin1 13 = .ok (.iconst 1, 1) := by decide +kernel
theorem d_AbstractStringBuilder_isLatin1_14 : decode b_AbstractStringBuilder_isLatin1 14 = .ok (.goto 4, 3) := by decide +kernel
theorem d_AbstractStringBuilder_isLatin1_17 : decode b_AbstractStringBuilder_isLatin1 17 = .ok (.iconst 0, 1) := by decide +kernel
theorem d_AbstractStringBuilder_isLatin1_18 : decode b_AbstractStringBuilder_isLatin1 18 = .ok (.ireturn, 1) := by decide +kernel
theorem d_AbstractStringBuilder_length_0 : decode b_AbstractStringBuilder_length 0 = .ok (.aload_n 0, 1) := by decide +kernel
theorem d_AbstractStringBuilder_length_1 : decode b_AbstractStringBuilder_length 1 = .ok (.getfield 79, 3) := by decide +kernel
theorem d_AbstractStringBuilder_length_4 : decode b_AbstractStringBuilder_length 4 = .ok (.ireturn, 1) := by decide +kernel
theorem d_AbstractStringBuilder_newCapacity_0 : decode b_AbstractStringBuilder_newCapacity 0 = .ok (.aload_n 0, 1) := by decide +kernel
theorem d_AbstractStringBuilder_newCapacity_1 : decode b_AbstractStringBuilder_newCapacity 1 = .ok (.getfield 15, 3) := by decide +kernel
theorem d_AbstractStringBuilder_newCapacity_4 : decode b_AbstractStringBuilder_newCapacity 4 = .ok (.arraylength, 1) := by decide +kernel
theorem d_AbstractStringBuilder_newCapacity_5 : decode b_AbstractStringBuilder_newCapacity 5 = .ok (.istore_n 2, 1) := by decide +kernel
theorem d_AbstractStringBuilder_newCapacity_6 : decode b_AbstractStringBuilder_newCapacity 6 = .ok (.iload_n 1, 1) := by decide +kernel
theorem d_AbstractStringBuilder_newCapacity_7 : decode b_AbstractStringBuilder_newCapacity 7 = .ok (.aload_n 0, 1) := by decide +kernel
theorem d_AbstractStringBuilder_newCapacity_8 : decode b_AbstractStringBuilder_newCapacity 8 = .ok (.getfield 22, 3) := by decide +kernel
theorem d_AbstractStringBuilder_newCapacity_11 : decode b_AbstractStringBuilder_newCapacity 11 = .ok (.ishl, 1) := by decide +kernel
theorem d_AbstractStringBuilder_newCapacity_12 : decode b_AbstractStringBuilder_newCapacity 12 = .ok (.istore_n 3, 1) := by decide +kernel
theorem d_AbstractStringBuilder_newCapacity_13 : decode b_AbstractStringBuilder_newCapacity 13 = .ok (.iload_n 3, 1) := by decide +kernel
theorem d_AbstractStringBuilder_newCapacity_14 : decode b_AbstractStringBuilder_newCapacity 14 = .ok (.iload_n 2, 1) := by decide +kernel
theorem d_AbstractStringBuilder_newCapacity_15 : decode b_AbstractStringBuilder_newCapacity 15 = .ok (.isub, 1) := by decide +kernel
theorem d_AbstractStringBuilder_newCapacity_16 : decode b_AbstractStringBuilder_newCapacity 16 = .ok (.istore 4, 2) := by decide +kernel
theorem d_AbstractStringBuilder_newCapacity_18 : decode b_AbstractStringBuilder_newCapacity 18 = .ok (.iload_n 2, 1) := by decide +kernel
theorem d_AbstractStringBuilder_newCapacity_19 : decode b_AbstractStringBuilder_newCapacity 19 = .ok (.iload 4, 2) := by decide +kernel
theorem d_AbstractStringBuilder_newCapacity_21 : decode b_AbstractStringBuilder_newCapacity 21 = .ok (.iload_n 2, 1) := by decide +kernel
theorem d_AbstractStringBuilder_newCapacity_22 : decode b_AbstractStringBuilder_newCapacity 22 = .ok (.iconst 2, 1) := by decide +kernel
theorem d_AbstractStringBuilder_newCapacity_23 : decode b_AbstractStringBuilder_newCapacity 23 = .ok (.aload_n 0, 1) := by decide +kernel
theorem d_AbstractStringBuilder_newCapacity_24 : decode b_AbstractStringBuilder_newCapacity 24 = .ok (.getfield 22, 3) := by decide +kernel
theorem d_AbstractStringBuilder_newCapacity_27 : decode b_AbstractStringBuilder_newCapacity 27 = .ok (.ishl, 1) := by decide +kernel
theorem d_AbstractStringBuilder_newCapacity_28 : decode b_AbstractStringBuilder_newCapacity 28 = .ok (.iadd, 1) := by decide +kernel
theorem d_AbstractStringBuilder_newCapacity_29 : decode b_AbstractStringBuilder_newCapacity 29 = .ok (.invokestatic 114, 3) := by decide +kernel
theorem d_AbstractStringBuilder_newCapacity_32 : decode b_AbstractStringBuilder_newCapacity 32 = .ok (.istore 5, 2) := by decide +kernel
theorem d_AbstractStringBuilder_newCapacity_34 : decode b_AbstractStringBuilder_newCapacity 34 = .ok (.iload 5, 2) := by decide +kernel
theorem d_AbstractStringBuilder_newCapacity_36 : decode b_AbstractStringBuilder_newCapacity 36 = .ok (.ldc 39, 2) := by decide +kernel
theorem d_AbstractStringBuilder_newCapacity_38 : decode b_AbstractStringBuilder_newCapacity 38 = .ok (.if_icmp .ne 13, 3) := by decide +kernel
theorem d_AbstractStringBuilder_newCapacity_41 : decode b_AbstractStringBuilder_newCapacity 41 = .ok (.new 120, 3) := by decide +kernel
theorem d_AbstractStringBuilder_newCapacity_44 : decode b_AbstractStringBuilder_newCapacity 44 = .ok (.dup, 1) := by decide +kernel
theorem d_AbstractStringBuilder_newCapacity_45 : decode b_AbstractStringBuilder_newCapacity 45 = .ok (.ldc 122, 2) := by decide +kernel
theorem d_AbstractStringBuilder_newCapacity_47 : decode b_AbstractStringBuilder_newCapacity 47 = .ok (.invokespecial 124, 3) := by decide +kernel
theorem d_AbstractStringBuilder_newCapacity_50 : decode b_AbstractStringBuilder_newCapacity 50 = .ok (.athrow, 1) := by decide +kernel
theorem d_AbstractStringBuilder_newCapacity_51 : decode b_AbstractStringBuilder_newCapacity 51 = .ok (.iload 5, 2) := by decide +kernel
theorem d_AbstractStringBuilder_newCapacity_53 : decode b_AbstractStringBuilder_newCapacity 53 = .ok (.aload_n 0, 1) := by decide +kernel
theorem d_AbstractStringBuilder_newCapacity_54 : decode b_AbstractStringBuilder_newCapacity 54 = .ok (.getfield 22, 3) := by decide +kernel
theorem d_AbstractStringBuilder_newCapacity_57 : decode b_AbstractStringBuilder_newCapacity 57 = .ok (.ishr, 1) := by decide +kernel
theorem d_AbstractStringBuilder_newCapacity_58 : decode b_AbstractStringBuilder_newCapacity 58 = .ok (.ireturn, 1) := by decide +kernel
theorem d_Acc_accept_0 : decode b_Acc_accept 0 = .ok (.aload_n 0, 1) := by decide +kernel
theorem d_Acc_accept_1 : decode b_Acc_accept 1 = .ok (.getfield 11, 3) := by decide +kernel
theorem d_Acc_accept_4 : decode b_Acc_accept 4 = .ok (.iload_n 1, 1) := by decide +kernel
theorem d_Acc_accept_5 : decode b_Acc_accept 5 = .ok (.aaload, 1) := by decide +kernel
theorem d_Acc_accept_6 : decode b_Acc_accept 6 = .ok (.iload_n 2, 1) := by decide +kernel
theorem d_Acc_accept_7 : decode b_Acc_accept 7 = .ok (.iload_n 3, 1) := by decide +kernel
theorem d_Acc_accept_8 : decode b_Acc_accept 8 = .ok (.iastore, 1) := by decide +kernel
theorem d_Acc_accept_9 : decode b_Acc_accept 9 = .ok (.aload_n 0, 1) := by decide +kernel
theorem d_Acc_accept_10 : decode b_Acc_accept 10 = .ok (.getfield 16, 3) := by decide +kernel
theorem d_Acc_accept_13 : decode b_Acc_accept 13 = .ok (.iload_n 1, 1) := by decide +kernel
theorem d_Acc_accept_14 : decode b_Acc_accept 14 = .ok (.aaload, 1) := by decide +kernel
theorem d_Acc_accept_15 : decode b_Acc_accept 15 = .ok (.iload_n 2, 1) := by decide +kernel
theorem d_Acc_accept_16 : decode b_Acc_accept 16 = .ok (.iload_n 3, 1) := by decide +kernel
theorem d_Acc_accept_17 : decode b_Acc_accept 17 = .ok (.iload 4, 2) := by decide +kernel
theorem d_Acc_accept_19 : decode b_Acc_accept 19 = .ok (.invokestatic 29, 3) := by decide +kernel
theorem d_Acc_accept_22 : decode b_Acc_accept 22 = .ok (.iastore, 1) := by decide +kernel
theorem d_Acc_accept_23 : decode b_Acc_accept 23 = .ok (.return_, 1) := by decide +kernel
theorem d_Acc_hasPromisedAbove_0 : decode b_Acc_hasPromisedAbove 0 = .ok (.iconst 0, 1) := by decide +kernel
theorem d_Acc_hasPromisedAbove_1 : decode b_Acc_hasPromisedAbove 1 = .ok (.istore 4, 2) := by decide +kernel
theorem d_Acc_hasPromisedAbove_3 : decode b_Acc_hasPromisedAbove 3 = .ok (.iconst 0, 1) := by decide +kernel
theorem d_Acc_hasPromisedAbove_4 : decode b_Acc_hasPromisedAbove 4 = .ok (.istore 5, 2) := by decide +kernel
theorem d_Acc_hasPromisedAbove_6 : decode b_Acc_hasPromisedAbove 6 = .ok (.iload 5, 2) := by decide +kernel
theorem d_Acc_hasPromisedAbove_8 : decode b_Acc_hasPromisedAbove 8 = .ok (.iconst 3, 1) := by decide +kernel
theorem d_Acc_hasPromisedAbove_9 : decode b_Acc_hasPromisedAbove 9 = .ok (.if_icmp .ge 34, 3) := by decide +kernel
theorem d_Acc_hasPromisedAbove_12 : decode b_Acc_hasPromisedAbove 12 = .ok (.iload_n 2, 1) := by decide +kernel
theorem d_Acc_hasPromisedAbove_13 : decode b_Acc_hasPromisedAbove 13 = .ok (.iload 5, 2) := by decide +kernel
theorem d_Acc_hasPromisedAbove_15 : decode b_Acc_hasPromisedAbove 15 = .ok (.invokestatic 25, 3) := by decide +kernel
theorem d_Acc_hasPromisedAbove_18 : decode b_Acc_hasPromisedAbove 18 = .ok (.ifCond .eq 19, 3) := by decide +kernel
theorem d_Acc_hasPromisedAbove_21 : decode b_Acc_hasPromisedAbove 21 = .ok (.aload_n 0, 1) := by decide +kernel
theorem d_Acc_hasPromisedAbove_22 : decode b_Acc_hasPromisedAbove 22 = .ok (.getfield 11, 3) := by decide +kernel
theorem d_Acc_hasPromisedAbove_25 : decode b_Acc_hasPromisedAbove 25 = .ok (.iload_n 1, 1) := by decide +kernel
theorem d_Acc_hasPromisedAbove_26 : decode b_Acc_hasPromisedAbove 26 = .ok (.aaload, 1) := by decide +kernel
theorem d_Acc_hasPromisedAbove_27 : decode b_Acc_hasPromisedAbove 27 = .ok (.iload 5, 2) := by decide +kernel
theorem d_Acc_hasPromisedAbove_29 : decode b_Acc_hasPromisedAbove 29 = .ok (.iaload, 1) := by decide +kernel
theorem d_Acc_hasPromisedAbove_30 : decode b_Acc_hasPromisedAbove 30 = .ok (.iload_n 3, 1) := by decide +kernel
theorem d_Acc_hasPromisedAbove_31 : decode b_Acc_hasPromisedAbove 31 = .ok (.if_icmp .le 6, 3) := by decide +kernel
theorem d_Acc_hasPromisedAbove_34 : decode b_Acc_hasPromisedAbove 34 = .ok (.iconst 1, 1) := by decide +kernel
theorem d_Acc_hasPromisedAbove_35 : decode b_Acc_hasPromisedAbove 35 = .ok (.istore 4, 2) := by decide +kernel
theorem d_Acc_hasPromisedAbove_37 : decode b_Acc_hasPromisedAbove 37 = .ok (.iinc 5 1, 3) := by decide +kernel
theorem d_Acc_hasPromisedAbove_40 : decode b_Acc_hasPromisedAbove 40 = .ok (.goto (-34), 3) := by decide +kernel
theorem d_Acc_hasPromisedAbove_43 : decode b_Acc_hasPromisedAbove 43 = .ok (.iload 4, 2) := by decide +kernel
theorem d_Acc_hasPromisedAbove_45 : decode b_Acc_hasPromisedAbove 45 = .ok (.ireturn, 1) := by decide +kernel
theorem d_Acc_init_0 : decode b_Acc_init 0 = .ok (.aload_n 0, 1) := by decide +kernel
theorem d_Acc_init_1 : decode b_Acc_init 1 = .ok (.invokespecial 3, 3) := by decide +kernel
theorem d_Acc_init_4 : decode b_Acc_init 4 = .ok (.aload_n 0, 1) := by decide +kernel
theorem d_Acc_init_5 : decode b_Acc_init 5 = .ok (.bipush 8, 2) := by decide +kernel
theorem d_Acc_init_7 : decode b_Acc_init 7 = .ok (.iconst 3, 1) := by decide +kernel
theorem d_Acc_init_8 : decode b_Acc_init 8 = .ok (.multianewarray 9 2, 4) := by decide +kernel
theorem d_Acc_init_12 : decode b_Acc_init 12 = .ok (.putfield 11, 3) := by decide +kernel
theorem d_Acc_init_15 : decode b_Acc_init 15 = .ok (.aload_n 0, 1) := by decide +kernel
theorem d_Acc_init_16 : decode b_Acc_init 16 = .ok (.bipush 8, 2) := by decide +kernel
theorem d_Acc_init_18 : decode b_Acc_init 18 = .ok (.iconst 3, 1) := by decide +kernel
theorem d_Acc_init_19 : decode b_Acc_init 19 = .ok (.multianewarray 9 2, 4) := by decide +kernel
theorem d_Acc_init_23 : decode b_Acc_init 23 = .ok (.putfield 16, 3) := by decide +kernel
theorem d_Acc_init_26 : decode b_Acc_init 26 = .ok (.iconst 0, 1) := by decide +kernel
theorem d_Acc_init_27 : decode b_Acc_init 27 = .ok (.istore_n 1, 1) := by decide +kernel
theorem d_Acc_init_28 : decode b_Acc_init 28 = .ok (.iload_n 1, 1) := by decide +kernel
theorem d_Acc_init_29 : decode b_Acc_init 29 = .ok (.bipush 8, 2) := by decide +kernel
theorem d_Acc_init_31 : decode b_Acc_init 31 = .ok (.if_icmp .ge 19, 3) := by decide +kernel
theorem d_Acc_init_34 : decode b_Acc_init 34 = .ok (.aload_n 0, 1) := by decide +kernel
theorem d_Acc_init_35 : decode b_Acc_init 35 = .ok (.getfield 16, 3) := by decide +kernel
theorem d_Acc_init_38 : decode b_Acc_init 38 = .ok (.iload_n 1, 1) := by decide +kernel
theorem d_Acc_init_39 : decode b_Acc_init 39 = .ok (.aaload, 1) := by decide +kernel
theorem d_Acc_init_40 : decode b_Acc_init 40 = .ok (.iconst (-1), 1) := by decide +kernel
theorem d_Acc_init_41 : decode b_Acc_init 41 = .ok (.invokestatic 19, 3) := by decide +kernel
theorem d_Acc_init_44 : decode b_Acc_init 44 = .ok (.iinc 1 1, 3) := by decide +kernel
theorem d_Acc_init_47 : decode b_Acc_init 47 = .ok (.goto (-19), 3) := by decide +kernel
theorem d_Acc_init_50 : decode b_Acc_init 50 = .ok (.return_, 1) := by decide +kernel
theorem d_Acc_promise_0 : decode b_Acc_promise 0 = .ok (.iconst 0, 1) := by decide +kernel
theorem d_Acc_promise_1 : decode b_Acc_promise 1 = .ok (.istore 4, 2) := by decide +kernel
theorem d_Acc_promise_3 : decode b_Acc_promise 3 = .ok (.iload 4, 2) := by decide +kernel
theorem d_Acc_promise_5 : decode b_Acc_promise 5 = .ok (.iconst 3, 1) := by decide +kernel
theorem d_Acc_promise_6 : decode b_Acc_promise 6 = .ok (.if_icmp .ge 28, 3) := by decide +kernel
theorem d_Acc_promise_9 : decode b_Acc_promise 9 = .ok (.iload_n 2, 1) := by decide +kernel
theorem d_Acc_promise_10 : decode b_Acc_promise 10 = .ok (.iload 4, 2) := by decide +kernel
theorem d_Acc_promise_12 : decode b_Acc_promise 12 = .ok (.invokestatic 25, 3) := by decide +kernel
theorem d_Acc_promise_15 : decode b_Acc_promise 15 = .ok (.ifCond .eq 13, 3) := by decide +kernel
theorem d_Acc_promise_18 : decode b_Acc_promise 18 = .ok (.aload_n 0, 1) := by decide +kernel
theorem d_Acc_promise_19 : decode b_Acc_promise 19 = .ok (.getfield 11, 3) := by decide +kernel
theorem d_Acc_promise_22 : decode b_Acc_promise 22 = .ok (.iload_n 1, 1) := by decide +kernel
theorem d_Acc_promise_23 : decode b_Acc_promise 23 = .ok (.aaload, 1) := by decide +kernel
theorem d_Acc_promise_24 : decode b_Acc_promise 24 = .ok (.iload 4, 2) := by decide +kernel
theorem d_Acc_promise_26 : decode b_Acc_promise 26 = .ok (.iload_n 3, 1) := by decide +kernel
theorem d_Acc_promise_27 : decode b_Acc_promise 27 = .ok (.iastore, 1) := by decide +kernel
theorem d_Acc_promise_28 : decode b_Acc_promise 28 = .ok (.iinc 4 1, 3) := by decide +kernel
theorem d_Acc_promise_31 : decode b_Acc_promise 31 = .ok (.goto (-28), 3) := by decide +kernel
theorem d_Acc_promise_34 : decode b_Acc_promise 34 = .ok (.return_, 1) := by decide +kernel
theorem d_ArraysSupport_newLength_0 : decode b_ArraysSupport_newLength 0 = .ok (.iload_n 0, 1) := by decide +kernel
theorem d_ArraysSupport_newLength_1 : decode b_ArraysSupport_newLength 1 = .ok (.iload_n 1, 1) := by decide +kernel
theorem d_ArraysSupport_newLength_2 : decode b_ArraysSupport_newLength 2 = .ok (.iload_n 2, 1) := by decide +kernel
theorem d_ArraysSupport_newLength_3 : decode b_ArraysSupport_newLength 3 = .ok (.invokestatic 194, 3) := by decide +kernel
theorem d_ArraysSupport_newLength_6 : decode b_ArraysSupport_newLength 6 = .ok (.iadd, 1) := by decide +kernel
theorem d_ArraysSupport_newLength_7 : decode b_ArraysSupport_newLength 7 = .ok (.istore_n 3, 1) := by decide +kernel
theorem d_ArraysSupport_newLength_8 : decode b_ArraysSupport_newLength 8 = .ok (.iconst 0, 1) := by decide +kernel
theorem d_ArraysSupport_newLength_9 : decode b_ArraysSupport_newLength 9 = .ok (.iload_n 3, 1) := by decide +kernel
theorem d_ArraysSupport_newLength_10 : decode b_ArraysSupport_newLength 10 = .ok (.if_icmp .ge 11, 3) := by decide +kernel
theorem d_ArraysSupport_newLength_13 : decode b_ArraysSupport_newLength 13 = .ok (.iload_n 3, 1) := by decide +kernel
theorem d_ArraysSupport_newLength_14 : decode b_ArraysSupport_newLength 14 = .ok (.ldc 200, 2) := by decide +kernel
theorem d_ArraysSupport_newLength_16 : decode b_ArraysSupport_newLength 16 = .ok (.if_icmp .gt 5, 3) := by decide +kernel
theorem d_ArraysSupport_newLength_19 : decode b_ArraysSupport_newLength 19 = .ok (.iload_n 3, 1) := by decide +kernel
theorem d_ArraysSupport_newLength_20 : decode b_ArraysSupport_newLength 20 = .ok (.ireturn, 1) := by decide +kernel
theorem d_ArraysSupport_newLength_21 : decode b_ArraysSupport_newLength 21 = .ok (.iload_n 0, 1) := by decide +kernel
theorem d_ArraysSupport_newLength_22 : decode b_ArraysSupport_newLength 22 = .ok (.iload_n 1, 1) := by decide +kernel
theorem d_ArraysSupport_newLength_23 : decode b_ArraysSupport_newLength 23 = .ok (.invokestatic 201, 3) := by decide +kernel
theorem d_ArraysSupport_newLength_26 : decode b_ArraysSupport_newLength 26 = .ok (.ireturn, 1) := by decide +kernel
theorem d_Arrays_copyOf_0 : decode b_Arrays_copyOf 0 = .ok (.iload_n 1, 1) := by decide +kernel
theorem d_Arrays_copyOf_1 : decode b_Arrays_copyOf 1 = .ok (.aload_n 0, 1) := by decide +kernel
theorem d_Arrays_copyOf_2 : decode b_Arrays_copyOf 2 = .ok (.arraylength, 1) := by decide +kernel
theorem d_Arrays_copyOf_3 : decode b_Arrays_copyOf 3 = .ok (.if_icmp .ne 11, 3) := by decide +kernel
theorem d_Arrays_copyOf_6 : decode b_Arrays_copyOf 6 = .ok (.aload_n 0, 1) := by decide +kernel
theorem d_Arrays_copyOf_7 : decode b_Arrays_copyOf 7 = .ok (.invokevirtual 310, 3) := by decide +kernel
theorem d_Arrays_copyOf_10 : decode b_Arrays_copyOf 10 = .ok (.checkcast 311, 3) := by decide +kernel
theorem d_Arrays_copyOf_13 : decode b_Arrays_copyOf 13 = .ok (.areturn, 1) := by decide +kernel
theorem d_Arrays_copyOf_14 : decode b_Arrays_copyOf 14 = .ok (.iload_n 1, 1) := by decide +kernel
theorem d_Arrays_copyOf_15 : decode b_Arrays_copyOf 15 = .ok (.newarray .byte, 2) := by decide +kernel
theorem d_Arrays_copyOf_17 : decode b_Arrays_copyOf 17 = .ok (.astore_n 2, 1) := by decide +kernel
theorem d_Arrays_copyOf_18 : decode b_Arrays_copyOf 18 = .ok (.aload_n 0, 1) := by decide +kernel
theorem d_Arrays_copyOf_19 : decode b_Arrays_copyOf 19 = .ok (.iconst 0, 1) := by decide +kernel
theorem d_Arrays_copyOf_20 : decode b_Arrays_copyOf 20 = .ok (.aload_n 2, 1) := by decide +kernel
theorem d_Arrays_copyOf_21 : decode b_Arrays_copyOf 21 = .ok (.iconst 0, 1) := by decide +kernel
theorem d_Arrays_copyOf_22 : decode b_Arrays_copyOf 22 = .ok (.aload_n 0, 1) := by decide +kernel
theorem d_Arrays_copyOf_23 : decode b_Arrays_copyOf 23 = .ok (.arraylength, 1) := by decide +kernel
theorem d_Arrays_copyOf_24 : decode b_Arrays_copyOf 24 = .ok (.iload_n 1, 1) := by decide +kernel
theorem d_Arrays_copyOf_25 : decode b_Arrays_copyOf 25 = .ok (.invokestatic 304, 3) := by decide +kernel
theorem d_Arrays_copyOf_28 : decode b_Arrays_copyOf 28 = .ok (.invokestatic 150, 3) := by decide +kernel
theorem d_Arrays_copyOf_31 : decode b_Arrays_copyOf 31 = .ok (.aload_n 2, 1) := by decide +kernel
theorem d_Arrays_copyOf_32 : decode b_Arrays_copyOf 32 = .ok (.areturn, 1) := by decide +kernel
theorem d_Arrays_fill_0 : decode b_Arrays_fill 0 = .ok (.iconst 0, 1) := by decide +kernel
theorem d_Arrays_fill_1 : decode b_Arrays_fill 1 = .ok (.istore_n 2, 1) := by decide +kernel
theorem d_Arrays_fill_2 : decode b_Arrays_fill 2 = .ok (.aload_n 0, 1) := by decide +kernel
theorem d_Arrays_fill_3 : decode b_Arrays_fill 3 = .ok (.arraylength, 1) := by decide +kernel
theorem d_Arrays_fill_4 : decode b_Arrays_fill 4 = .ok (.istore_n 3, 1) := by decide +kernel
theorem d_Arrays_fill_5 : decode b_Arrays_fill 5 = .ok (.iload_n 2, 1) := by decide +kernel
theorem d_Arrays_fill_6 : decode b_Arrays_fill 6 = .ok (.iload_n 3, 1) := by decide +kernel
theorem d_Arrays_fill_7 : decode b_Arrays_fill 7 = .ok (.if_icmp .ge 13, 3) := by decide +kernel
theorem d_Arrays_fill_10 : decode b_Arrays_fill 10 = .ok (.aload_n 0, 1) := by decide +kernel
theorem d_Arrays_fill_11 : decode b_Arrays_fill 11 = .ok (.iload_n 2, 1) := by decide +kernel
theorem d_Arrays_fill_12 : decode b_Arrays_fill 12 = .ok (.iload_n 1, 1) := by decide +kernel
theorem d_Arrays_fill_13 : decode b_Arrays_fill 13 = .ok (.iastore, 1) := by decide +kernel
theorem d_Arrays_fill_14 : decode b_Arrays_fill 14 = .ok (.iinc 2 1, 3) := by decide +kernel
theorem d_Arrays_fill_17 : decode b_Arrays_fill 17 = .ok (.goto (-12), 3) := by decide +kernel
theorem d_Arrays_fill_20 : decode b_Arrays_fill 20 = .ok (.return_, 1) := by decide +kernel
theorem d_Integer_bitCount_0 : decode b_Integer_bitCount 0 = .ok (.iload_n 0, 1) := by decide +kernel
theorem d_Integer_bitCount_1 : decode b_Integer_bitCount 1 = .ok (.iload_n 0, 1) := by decide +kernel
theorem d_Integer_bitCount_2 : decode b_Integer_bitCount 2 = .ok (.iconst 1, 1) := by decide +kernel
theorem d_Integer_bitCount_3 : decode b_Integer_bitCount 3 = .ok (.iushr, 1) := by decide +kernel
theorem d_Integer_bitCount_4 : decode b_Integer_bitCount 4 = .ok (.ldc_w 265, 3) := by decide +kernel
theorem d_Integer_bitCount_7 : decode b_Integer_bitCount 7 = .ok (.iand, 1) := by decide +kernel
theorem d_Integer_bitCount_8 : decode b_Integer_bitCount 8 = .ok (.isub, 1) := by decide +kernel
theorem d_Integer_bitCount_9 : decode b_Integer_bitCount 9 = .ok (.istore_n 0, 1) := by decide +kernel
theorem d_Integer_bitCount_10 : decode b_Integer_bitCount 10 = .ok (.iload_n 0, 1) := by decide +kernel
theorem d_Integer_bitCount_11 : decode b_Integer_bitCount 11 = .ok (.ldc_w 266, 3) := by decide +kernel
theorem d_Integer_bitCount_14 : decode b_Integer_bitCount 14 = .ok (.iand, 1) := by decide +kernel
theorem d_Integer_bitCount_15 : decode b_Integer_bitCount 15 = .ok (.iload_n 0, 1) := by decide +kernel
theorem d_Integer_bitCount_16 : decode b_Integer_bitCount 16 = .ok (.iconst 2, 1) := by decide +kernel
theorem d_Integer_bitCount_17 : decode b_Integer_bitCount 17 = .ok (.iushr, 1) := by decide +kernel
theorem d_Integer_bitCount_18 : decode b_Integer_bitCount 18 = .ok (.ldc_w 266, 3) := by decide +kernel
theorem d_Integer_bitCount_21 : decode b_Integer_bitCount 21 = .ok (.iand, 1) := by decide +kernel
theorem d_Integer_bitCount_22 : decode b_Integer_bitCount 22 = .ok (.iadd, 1) := by decide +kernel
theorem d_Integer_bitCount_23 : decode b_Integer_bitCount 23 = .ok (.istore_n 0, 1) := by decide +kernel
theorem d_Integer_bitCount_24 : decode b_Integer_bitCount 24 = .ok (.iload_n 0, 1) := by decide +kernel
theorem d_Integer_bitCount_25 : decode b_Integer_bitCount 25 = .ok (.iload_n 0, 1) := by decide +kernel
theorem d_Integer_bitCount_26 : decode b_Integer_bitCount 26 = .ok (.iconst 4, 1) := by decide +kernel
theorem d_Integer_bitCount_27 : decode b_Integer_bitCount 27 = .ok (.iushr, 1) := by decide +kernel
theorem d_Integer_bitCount_28 : decode b_Integer_bitCount 28 = .ok (.iadd, 1) := by decide +kernel
theorem d_Integer_bitCount_29 : decode b_Integer_bitCount 29 = .ok (.ldc_w 267, 3) := by decide +kernel
theorem d_Integer_bitCount_32 : decode b_Integer_bitCount 32 = .ok (.iand, 1) := by decide +kernel
theorem d_Integer_bitCount_33 : decode b_Integer_bitCount 33 = .ok (.istore_n 0, 1) := by decide +kernel
theorem d_Integer_bitCount_34 : decode b_Integer_bitCount 34 = .ok (.iload_n 0, 1) := by decide +kernel
theorem d_Integer_bitCount_35 : decode b_Integer_bitCount 35 = .ok (.iload_n 0, 1) := by decide +kernel
theorem d_Integer_bitCount_36 : decode b_Integer_bitCount 36 = .ok (.bipush 8, 2) := by decide +kernel
theorem d_Integer_bitCount_38 : decode b_Integer_bitCount 38 = .ok (.iushr, 1) := by decide +kernel
theorem d_Integer_bitCount_39 : decode b_Integer_bitCount 39 = .ok (.iadd, 1) := by decide +kernel
theorem d_Integer_bitCount_40 : decode b_Integer_bitCount 40 = .ok (.istore_n 0, 1) := by decide +kernel
theorem d_Integer_bitCount_41 : decode b_Integer_bitCount 41 = .ok (.iload_n 0, 1) := by decide +kernel
theorem d_Integer_bitCount_42 : decode b_Integer_bitCount 42 = .ok (.iload_n 0, 1) := by decide +kernel
theorem d_Integer_bitCount_43 : decode b_Integer_bitCount 43 = .ok (.bipush 16, 2) := by decide +kernel
theorem d_Integer_bitCount_45 : decode b_Integer_bitCount 45 = .ok (.iushr, 1) := by decide +kernel
theorem d_Integer_bitCount_46 : decode b_Integer_bitCount 46 = .ok (.iadd, 1) := by decide +kernel
theorem d_Integer_bitCount_47 : decode b_Integer_bitCount 47 = .ok (.istore_n 0, 1) := by decide +kernel
theorem d_Integer_bitCount_48 : decode b_Integer_bitCount 48 = .ok (.iload_n 0, 1) := by decide +kernel
theorem d_Integer_bitCount_49 : decode b_Integer_bitCount 49 = .ok (.bipush 63, 2) := by decide +kernel
theorem d_Integer_bitCount_51 : decode b_Integer_bitCount 51 = .ok (.iand, 1) := by decide +kernel
theorem d_Integer_bitCount_52 : decode b_Integer_bitCount 52 = .ok (.ireturn, 1) := by decide +kernel
theorem d_Integer_getChars_0 : decode b_Integer_getChars 0 = .ok (.iload_n 1, 1) := by decide +kernel
theorem d_Integer_getChars_1 : decode b_Integer_getChars 1 = .ok (.istore 5, 2) := by decide +kernel
theorem d_Integer_getChars_3 : decode b_Integer_getChars 3 = .ok (.iload_n 0, 1) := by decide +kernel
theorem d_Integer_getChars_4 : decode b_Integer_getChars 4 = .ok (.ifCond .ge 7, 3) := by decide +kernel
theorem d_Integer_getChars_7 : decode b_Integer_getChars 7 = .ok (.iconst 1, 1) := by decide +kernel
theorem d_Integer_getChars_8 : decode b_Integer_getChars 8 = .ok (.goto 4, 3) := by decide +kernel
theorem d_Integer_getChars_11 : decode b_Integer_getChars 11 = .ok (.iconst 0, 1) := by decide +kernel
theorem d_Integer_getChars_12 : decode b_Integer_getChars 12 = .ok (.istore 6, 2) := by decide +kernel
theorem d_Integer_getChars_14 : decode b_Integer_getChars 14 = .ok (.iload 6, 2) := by decide +kernel
theorem d_Integer_getChars_16 : decode b_Integer_getChars 16 = .ok (.ifCond .ne 6, 3) := by decide +kernel
theorem d_Integer_getChars_19 : decode b_Integer_getChars 19 = .ok (.iload_n 0, 1) := by decide +kernel
theorem d_Integer_getChars_20 : decode b_Integer_getChars 20 = .ok (.ineg, 1) := by decide +kernel
theorem d_Integer_getChars_21 : decode b_Integer_getChars 21 = .ok (.istore_n 0, 1) := by decide +kernel
theorem d_Integer_getChars_22 : decode b_Integer_getChars 22 = .ok (.iload_n 0, 1) := by decide +kernel
theorem d_Integer_getChars_23 : decode b_Integer_getChars 23 = .ok (.bipush (-100), 2) := by decide +kernel
theorem d_Integer_getChars_25 : decode b_Integer_getChars 25 = .ok (.if_icmp .gt 47, 3) := by decide +kernel
theorem d_Integer_getChars_28 : decode b_Integer_getChars 28 = .ok (.iload_n 0, 1) := by decide +kernel
theorem d_Integer_getChars_29 : decode b_Integer_getChars 29 = .ok (.bipush 100, 2) := by decide +kernel
theorem d_Integer_getChars_31 : decode b_Integer_getChars 31 = .ok (.idiv, 1) := by decide +kernel
theorem d_Integer_getChars_32 : decode b_Integer_getChars 32 = .ok (.istore_n 3, 1) := by decide +kernel
theorem d_Integer_getChars_33 : decode b_Integer_getChars 33 = .ok (.iload_n 3, 1) := by decide +kernel
theorem d_Integer_getChars_34 : decode b_Integer_getChars 34 = .ok (.bipush 100, 2) := by decide +kernel
theorem d_Integer_getChars_36 : decode b_Integer_getChars 36 = .ok (.imul, 1) := by decide +kernel
theorem d_Integer_getChars_37 : decode b_Integer_getChars 37 = .ok (.iload_n 0, 1) := by decide +kernel
theorem d_Integer_getChars_38 : decode b_Integer_getChars 38 = .ok (.isub, 1) := by decide +kernel
theorem d_Integer_getChars_39 : decode b_Integer_getChars 39 = .ok (.istore 4, 2) := by decide +kernel
theorem d_Integer_getChars_41 : decode b_Integer_getChars 41 = .ok (.iload_n 3, 1) := by decide +kernel
theorem d_Integer_getChars_42 : decode b_Integer_getChars 42 = .ok (.istore_n 0, 1) := by decide +kernel
theorem d_Integer_getChars_43 : decode b_Integer_getChars 43 = .ok (.aload_n 2, 1) := by decide +kernel
theorem d_Integer_getChars_44 : decode b_Integer_getChars 44 = .ok (.iinc 5 (-1), 3) := by decide +kernel
theorem d_Integer_getChars_47 : decode b_Integer_getChars 47 = .ok (.iload 5, 2) := by decide +kernel
theorem d_Integer_getChars_49 : decode b_Integer_getChars 49 = .ok (.getstatic 83, 3) := by decide +kernel
theorem d_Integer_getChars_52 : decode b_Integer_getChars 52 = .ok (.iload 4, 2) := by decide +kernel
theorem d_Integer_getChars_54 : decode b_Integer_getChars 54 = .ok (.baload, 1) := by decide +kernel
theorem d_Integer_getChars_55 : decode b_Integer_getChars 55 = .ok (.bastore, 1) := by decide +kernel
theorem d_Integer_getChars_56 : decode b_Integer_getChars 56 = .ok (.aload_n 2, 1) := by decide +kernel
theorem d_Integer_getChars_57 : decode b_Integer_getChars 57 = .ok (.iinc 5 (-1), 3) := by decide +kernel
theorem d_Integer_getChars_60 : decode b_Integer_getChars 60 = .ok (.iload 5, 2) := by decide +kernel
theorem d_Integer_getChars_62 : decode b_Integer_getChars 62 = .ok (.getstatic 87, 3) := by decide +kernel
theorem d_Integer_getChars_65 : decode b_Integer_getChars 65 = .ok (.iload 4, 2) := by decide +kernel
theorem d_Integer_getChars_67 : decode b_Integer_getChars 67 = .ok (.baload, 1) := by decide +kernel
theorem d_Integer_getChars_68 : decode b_Integer_getChars 68 = .ok (.bastore, 1) := by decide +kernel
theorem d_Integer_getChars_69 : decode b_Integer_getChars 69 = .ok (.goto (-47), 3) := by decide +kernel
theorem d_Integer_getChars_72 : decode b_Integer_getChars 72 = .ok (.aload_n 2, 1) := by decide +kernel
theorem d_Integer_getChars_73 : decode b_Integer_getChars 73 = .ok (.iinc 5 (-1), 3) := by decide +kernel
theorem d_Integer_getChars_76 : decode b_Integer_getChars 76 = .ok (.iload 5, 2) := by decide +kernel
theorem d_Integer_getChars_78 : decode b_Integer_getChars 78 = .ok (.getstatic 83, 3) := by decide +kernel
theorem d_Integer_getChars_81 : decode b_Integer_getChars 81 = .ok (.iload_n 0, 1) := by decide +kernel
theorem d_Integer_getChars_82 : decode b_Integer_getChars 82 = .ok (.ineg, 1) := by decide +kernel
theorem d_Integer_getChars_83 : decode b_Integer_getChars 83 = .ok (.baload, 1) := by decide +kernel
theorem d_Integer_getChars_84 : decode b_Integer_getChars 84 = .ok (.bastore, 1) := by decide +kernel
theorem d_Integer_getChars_85 : decode b_Integer_getChars 85 = .ok (.iload_n 0, 1) := by decide +kernel
theorem d_Integer_getChars_86 : decode b_Integer_getChars 86 = .ok (.bipush (-9), 2) := by decide +kernel
theorem d_Integer_getChars_88 : decode b_Integer_getChars 88 = .ok (.if_icmp .ge 16, 3) := by decide +kernel
theorem d_Integer_getChars_91 : decode b_Integer_getChars 91 = .ok (.aload_n 2, 1) := by decide +kernel
theorem d_Integer_getChars_92 : decode b_Integer_getChars 92 = .ok (.iinc 5 (-1), 3) := by decide +kernel
theorem d_Integer_getChars_95 : decode b_Integer_getChars 95 = .ok (.iload 5, 2) := by decide +kernel
theorem d_Integer_getChars_97 : decode b_Integer_getChars 97 = .ok (.getstatic 87, 3) := by decide +kernel
theorem d_Integer_getChars_100 : decode b_Integer_getChars 100 = .ok (.iload_n 0, 1) := by decide +kernel
theorem d_Integer_getChars_101 : decode b_Integer_getChars 101 = .ok (.ineg, 1) := by decide +kernel
theorem d_Integer_getChars_102 : decode b_Integer_getChars 102 = .ok (.baload, 1) := by decide +kernel
theorem d_Integer_getChars_103 : decode b_Integer_getChars 103 = .ok (.bastore, 1) := by decide +kernel
theorem d_Integer_getChars_104 : decode b_Integer_getChars 104 = .ok (.iload 6, 2) := by decide +kernel
theorem d_Integer_getChars_106 : decode b_Integer_getChars 106 = .ok (.ifCond .eq 12, 3) := by decide +kernel
theorem d_Integer_getChars_109 : decode b_Integer_getChars 109 = .ok (.aload_n 2, 1) := by decide +kernel
theorem d_Integer_getChars_110 : decode b_Integer_getChars 110 = .ok (.iinc 5 (-1), 3) := by decide +kernel
theorem d_Integer_getChars_113 : decode b_Integer_getChars 113 = .ok (.iload 5, 2) := by decide +kernel
theorem d_Integer_getChars_115 : decode b_Integer_getChars 115 = .ok (.bipush 45, 2) := by decide +kernel
theorem d_Integer_getChars_117 : decode b_Integer_getChars 117 = .ok (.bastore, 1) := by decide +kernel
theorem d_Integer_getChars_118 : decode b_Integer_getChars 118 = .ok (.iload 5, 2) := by decide +kernel
theorem d_Integer_getChars_120 : decode b_Integer_getChars 120 = .ok (.ireturn, 1) := by decide +kernel
theorem d_Integer_stringSize_0 : decode b_Integer_stringSize 0 = .ok (.iconst 1, 1) := by decide +kernel
theorem d_Integer_stringSize_1 : decode b_Integer_stringSize 1 = .ok (.istore_n 1, 1) := by decide +kernel
theorem d_Integer_stringSize_2 : decode b_Integer_stringSize 2 = .ok (.iload_n 0, 1) := by decide +kernel
theorem d_Integer_stringSize_3 : decode b_Integer_stringSize 3 = .ok (.ifCond .lt 8, 3) := by decide +kernel
theorem d_Integer_stringSize_6 : decode b_Integer_stringSize 6 = .ok (.iconst 0, 1) := by decide +kernel
theorem d_Integer_stringSize_7 : decode b_Integer_stringSize 7 = .ok (.istore_n 1, 1) := by decide +kernel
theorem d_Integer_stringSize_8 : decode b_Integer_stringSize 8 = .ok (.iload_n 0, 1) := by decide +kernel
theorem d_Integer_stringSize_9 : decode b_Integer_stringSize 9 = .ok (.ineg, 1) := by decide +kernel
theorem d_Integer_stringSize_10 : decode b_Integer_stringSize 10 = .ok (.istore_n 0, 1) := by decide +kernel
theorem d_Integer_stringSize_11 : decode b_Integer_stringSize 11 = .ok (.bipush (-10), 2) := by decide +kernel
theorem d_Integer_stringSize_13 : decode b_Integer_stringSize 13 = .ok (.istore_n 2, 1) := by decide +kernel
theorem d_Integer_stringSize_14 : decode b_Integer_stringSize 14 = .ok (.iconst 1, 1) := by decide +kernel
theorem d_Integer_stringSize_15 : decode b_Integer_stringSize 15 = .ok (.istore_n 3, 1) := by decide +kernel
theorem d_Integer_stringSize_16 : decode b_Integer_stringSize 16 = .ok (.iload_n 3, 1) := by decide +kernel
theorem d_Integer_stringSize_17 : decode b_Integer_stringSize 17 = .ok (.bipush 10, 2) := by decide +kernel
theorem d_Integer_stringSize_19 : decode b_Integer_stringSize 19 = .ok (.if_icmp .ge 23, 3) := by decide +kernel
theorem d_Integer_stringSize_22 : decode b_Integer_stringSize 22 = .ok (.iload_n 0, 1) := by decide +kernel
theorem d_Integer_stringSize_23 : decode b_Integer_stringSize 23 = .ok (.iload_n 2, 1) := by decide +kernel
theorem d_Integer_stringSize_24 : decode b_Integer_stringSize 24 = .ok (.if_icmp .le 7, 3) := by decide +kernel
theorem d_Integer_stringSize_27 : decode b_Integer_stringSize 27 = .ok (.iload_n 3, 1) := by decide +kernel
theorem d_Integer_stringSize_28 : decode b_Integer_stringSize 28 = .ok (.iload_n 1, 1) := by decide +kernel
theorem d_Integer_stringSize_29 : decode b_Integer_stringSize 29 = .ok (.iadd, 1) := by decide +kernel
theorem d_Integer_stringSize_30 : decode b_Integer_stringSize 30 = .ok (.ireturn, 1) := by decide +kernel
theorem d_Integer_stringSize_31 : decode b_Integer_stringSize 31 = .ok (.bipush 10, 2) := by decide +kernel
theorem d_Integer_stringSize_33 : decode b_Integer_stringSize 33 = .ok (.iload_n 2, 1) := by decide +kernel
theorem d_Integer_stringSize_34 : decode b_Integer_stringSize 34 = .ok (.imul, 1) := by decide +kernel
theorem d_Integer_stringSize_35 : decode b_Integer_stringSize 35 = .ok (.istore_n 2, 1) := by decide +kernel
theorem d_Integer_stringSize_36 : decode b_Integer_stringSize 36 = .ok (.iinc 3 1, 3) := by decide +kernel
theorem d_Integer_stringSize_39 : decode b_Integer_stringSize 39 = .ok (.goto (-23), 3) := by decide +kernel
theorem d_Integer_stringSize_42 : decode b_Integer_stringSize 42 = .ok (.bipush 10, 2) := by decide +kernel
theorem d_Integer_stringSize_44 : decode b_Integer_stringSize 44 = .ok (.iload_n 1, 1) := by decide +kernel
theorem d_Integer_stringSize_45 : decode b_Integer_stringSize 45 = .ok (.iadd, 1) := by decide +kernel
theorem d_Integer_stringSize_46 : decode b_Integer_stringSize 46 = .ok (.ireturn, 1) := by decide +kernel
theorem d_Law_begin_0 : decode b_Law_begin 0 = .ok (.aload_n 1, 1) := by decide +kernel
theorem d_Law_begin_1 : decode b_Law_begin 1 = .ok (.iconst 0, 1) := by decide +kernel
theorem d_Law_begin_2 : decode b_Law_begin 2 = .ok (.aload_n 0, 1) := by decide +kernel
theorem d_Law_begin_3 : decode b_Law_begin 3 = .ok (.invokevirtual 7, 3) := by decide +kernel
theorem d_Law_begin_6 : decode b_Law_begin 6 = .ok (.i2l, 1) := by decide +kernel
theorem d_Law_begin_7 : decode b_Law_begin 7 = .ok (.lastore, 1) := by decide +kernel
theorem d_Law_begin_8 : decode b_Law_begin 8 = .ok (.goto 6, 3) := by decide +kernel
theorem d_Law_begin_11 : decode b_Law_begin 11 = .ok (.astore_n 2, 1) := by decide +kernel
theorem d_Law_begin_12 : decode b_Law_begin 12 = .ok (.iconst 1, 1) := by decide +kernel
theorem d_Law_begin_13 : decode b_Law_begin 13 = .ok (.ireturn, 1) := by decide +kernel
theorem d_Law_begin_14 : decode b_Law_begin 14 = .ok (.iconst 0, 1) := by decide +kernel
theorem d_Law_begin_15 : decode b_Law_begin 15 = .ok (.ireturn, 1) := by decide +kernel
theorem d_Law_cell_0 : decode b_Law_cell 0 = .ok (.iload_n 1, 1) := by decide +kernel
theorem d_Law_cell_1 : decode b_Law_cell 1 = .ok (.aload_n 0, 1) := by decide +kernel
theorem d_Law_cell_2 : decode b_Law_cell 2 = .ok (.arraylength, 1) := by decide +kernel
theorem d_Law_cell_3 : decode b_Law_cell 3 = .ok (.if_icmp .ge 9, 3) := by decide +kernel
theorem d_Law_cell_6 : decode b_Law_cell 6 = .ok (.aload_n 0, 1) := by decide +kernel
theorem d_Law_cell_7 : decode b_Law_cell 7 = .ok (.iload_n 1, 1) := by decide +kernel
theorem d_Law_cell_8 : decode b_Law_cell 8 = .ok (.iaload, 1) := by decide +kernel
theorem d_Law_cell_9 : decode b_Law_cell 9 = .ok (.goto 4, 3) := by decide +kernel
theorem d_Law_cell_12 : decode b_Law_cell 12 = .ok (.iconst 0, 1) := by decide +kernel
theorem d_Law_cell_13 : decode b_Law_cell 13 = .ok (.ireturn, 1) := by decide +kernel
theorem d_Law_count_0 : decode b_Law_count 0 = .ok (.aload_n 2, 1) := by decide +kernel
theorem d_Law_count_1 : decode b_Law_count 1 = .ok (.iconst 0, 1) := by decide +kernel
theorem d_Law_count_2 : decode b_Law_count 2 = .ok (.aload_n 0, 1) := by decide +kernel
theorem d_Law_count_3 : decode b_Law_count 3 = .ok (.iload_n 1, 1) := by decide +kernel
theorem d_Law_count_4 : decode b_Law_count 4 = .ok (.invokevirtual 68, 3) := by decide +kernel
theorem d_Law_count_7 : decode b_Law_count 7 = .ok (.i2l, 1) := by decide +kernel
theorem d_Law_count_8 : decode b_Law_count 8 = .ok (.lastore, 1) := by decide +kernel
theorem d_Law_count_9 : decode b_Law_count 9 = .ok (.goto 6, 3) := by decide +kernel
theorem d_Law_count_12 : decode b_Law_count 12 = .ok (.astore_n 3, 1) := by decide +kernel
theorem d_Law_count_13 : decode b_Law_count 13 = .ok (.iconst 1, 1) := by decide +kernel
theorem d_Law_count_14 : decode b_Law_count 14 = .ok (.ireturn, 1) := by decide +kernel
theorem d_Law_count_15 : decode b_Law_count 15 = .ok (.iconst 0, 1) := by decide +kernel
theorem d_Law_count_16 : decode b_Law_count 16 = .ok (.ireturn, 1) := by decide +kernel
theorem d_Law_deliver_0 : decode b_Law_deliver 0 = .ok (.aload_n 3, 1) := by decide +kernel
theorem d_Law_deliver_1 : decode b_Law_deliver 1 = .ok (.iconst 0, 1) := by decide +kernel
theorem d_Law_deliver_2 : decode b_Law_deliver 2 = .ok (.aload_n 0, 1) := by decide +kernel
theorem d_Law_deliver_3 : decode b_Law_deliver 3 = .ok (.iload_n 1, 1) := by decide +kernel
theorem d_Law_deliver_4 : decode b_Law_deliver 4 = .ok (.iload_n 2, 1) := by decide +kernel
theorem d_Law_deliver_5 : decode b_Law_deliver 5 = .ok (.invokevirtual 36, 3) := by decide +kernel
theorem d_Law_deliver_8 : decode b_Law_deliver 8 = .ok (.i2l, 1) := by decide +kernel
theorem d_Law_deliver_9 : decode b_Law_deliver 9 = .ok (.lastore, 1) := by decide +kernel
theorem d_Law_deliver_10 : decode b_Law_deliver 10 = .ok (.goto 7, 3) := by decide +kernel
theorem d_Law_deliver_13 : decode b_Law_deliver 13 = .ok (.astore 4, 2) := by decide +kernel
theorem d_Law_deliver_15 : decode b_Law_deliver 15 = .ok (.iconst 1, 1) := by decide +kernel
theorem d_Law_deliver_16 : decode b_Law_deliver 16 = .ok (.ireturn, 1) := by decide +kernel
theorem d_Law_deliver_17 : decode b_Law_deliver 17 = .ok (.iconst 0, 1) := by decide +kernel
theorem d_Law_deliver_18 : decode b_Law_deliver 18 = .ok (.ireturn, 1) := by decide +kernel
theorem d_Law_law_0 : decode b_Law_law 0 = .ok (.new 8, 3) := by decide +kernel
theorem d_Law_law_3 : decode b_Law_law 3 = .ok (.dup, 1) := by decide +kernel
theorem d_Law_law_4 : decode b_Law_law 4 = .ok (.aload_n 0, 1) := by decide +kernel
theorem d_Law_law_5 : decode b_Law_law 5 = .ok (.iconst 0, 1) := by decide +kernel
theorem d_Law_law_6 : decode b_Law_law 6 = .ok (.invokestatic 71, 3) := by decide +kernel
theorem d_Law_law_9 : decode b_Law_law 9 = .ok (.invokespecial 77, 3) := by decide +kernel
theorem d_Law_law_12 : decode b_Law_law 12 = .ok (.astore_n 1, 1) := by decide +kernel
theorem d_Law_law_13 : decode b_Law_law 13 = .ok (.new 80, 3) := by decide +kernel
theorem d_Law_law_16 : decode b_Law_law 16 = .ok (.dup, 1) := by decide +kernel
theorem d_Law_law_17 : decode b_Law_law 17 = .ok (.aload_n 0, 1) := by decide +kernel
theorem d_Law_law_18 : decode b_Law_law 18 = .ok (.iconst 0, 1) := by decide +kernel
theorem d_Law_law_19 : decode b_Law_law 19 = .ok (.invokestatic 71, 3) := by decide +kernel
theorem d_Law_law_22 : decode b_Law_law 22 = .ok (.invokespecial 82, 3) := by decide +kernel
theorem d_Law_law_25 : decode b_Law_law 25 = .ok (.astore_n 2, 1) := by decide +kernel
theorem d_Law_law_26 : decode b_Law_law 26 = .ok (.iconst 1, 1) := by decide +kernel
theorem d_Law_law_27 : decode b_Law_law 27 = .ok (.newarray .long, 2) := by decide +kernel
theorem d_Law_law_29 : decode b_Law_law 29 = .ok (.astore_n 3, 1) := by decide +kernel
theorem d_Law_law_30 : decode b_Law_law 30 = .ok (.iconst 1, 1) := by decide +kernel
theorem d_Law_law_31 : decode b_Law_law 31 = .ok (.istore 4, 2) := by decide +kernel
theorem d_Law_law_33 : decode b_Law_law 33 = .ok (.iload 4, 2) := by decide +kernel
theorem d_Law_law_35 : decode b_Law_law 35 = .ok (.aload_n 0, 1) := by decide +kernel
theorem d_Law_law_36 : decode b_Law_law 36 = .ok (.arraylength, 1) := by decide +kernel
theorem d_Law_law_37 : decode b_Law_law 37 = .ok (.iconst 5, 1) := by decide +kernel
theorem d_Law_law_38 : decode b_Law_law 38 = .ok (.isub, 1) := by decide +kernel
theorem d_Law_law_39 : decode b_Law_law 39 = .ok (.if_icmp .gt 1166, 3) := by decide +kernel
theorem d_Law_law_42 : decode b_Law_law 42 = .ok (.aload_n 0, 1) := by decide +kernel
theorem d_Law_law_43 : decode b_Law_law 43 = .ok (.iload 4, 2) := by decide +kernel
theorem d_Law_law_45 : decode b_Law_law 45 = .ok (.iaload, 1) := by decide +kernel
theorem d_Law_law_46 : decode b_Law_law 46 = .ok (.bipush 15, 2) := by decide +kernel
theorem d_Law_law_48 : decode b_Law_law 48 = .ok (.iand, 1) := by decide +kernel
theorem d_Law_law_49 : decode b_Law_law 49 = .ok (.tableswitch 1150 0 14 #[75, 119, 211, 267, 335, 403, 487, 543, 646, 714, 782, 850, 918, 986, 1094], 75) := by decide +kernel
theorem d_Law_law_124 : decode b_Law_law 124 = .ok (.aload_n 1, 1) := by decide +kernel
theorem d_Law_law_125 : decode b_Law_law 125 = .ok (.aload_n 3, 1) := by decide +kernel
theorem d_Law_law_126 : decode b_Law_law 126 = .ok (.invokestatic 83, 3) := by decide +kernel
theorem d_Law_law_129 : decode b_Law_law 129 = .ok (.istore 5, 2) := by decide +kernel
theorem d_Law_law_131 : decode b_Law_law 131 = .ok (.aload_n 2, 1) := by decide +kernel
theorem d_Law_law_132 : decode b_Law_law 132 = .ok (.invokevirtual 86, 3) := by decide +kernel
theorem d_Law_law_135 : decode b_Law_law 135 = .ok (.istore 6, 2) := by decide +kernel
theorem d_Law_law_137 : decode b_Law_law 137 = .ok (.aload_n 2, 1) := by decide +kernel
theorem d_Law_law_138 : decode b_Law_law 138 = .ok (.invokevirtual 87, 3) := by decide +kernel
theorem d_Law_law_141 : decode b_Law_law 141 = .ok (.iload 5, 2) := by decide +kernel
theorem d_Law_law_143 : decode b_Law_law 143 = .ok (.if_icmp .eq 5, 3) := by decide +kernel
theorem d_Law_law_146 : decode b_Law_law 146 = .ok (.iconst 0, 1) := by decide +kernel
theorem d_Law_law_147 : decode b_Law_law 147 = .ok (.ireturn, 1) := by decide +kernel
theorem d_Law_law_148 : decode b_Law_law 148 = .ok (.iload 5, 2) := by decide +kernel
theorem d_Law_law_150 : decode b_Law_law 150 = .ok (.ifCond .ne 15, 3) := by decide +kernel
theorem d_Law_law_153 : decode b_Law_law 153 = .ok (.aload_n 3, 1) := by decide +kernel
theorem d_Law_law_154 : decode b_Law_law 154 = .ok (.iconst 0, 1) := by decide +kernel
theorem d_Law_law_155 : decode b_Law_law 155 = .ok (.laload, 1) := by decide +kernel
theorem d_Law_law_156 : decode b_Law_law 156 = .ok (.iload 6, 2) := by decide +kernel
theorem d_Law_law_158 : decode b_Law_law 158 = .ok (.i2l, 1) := by decide +kernel
theorem d_Law_law_159 : decode b_Law_law 159 = .ok (.lcmp, 1) := by decide +kernel
theorem d_Law_law_160 : decode b_Law_law 160 = .ok (.ifCond .eq 5, 3) := by decide +kernel
theorem d_Law_law_163 : decode b_Law_law 163 = .ok (.iconst 0, 1) := by decide +kernel
theorem d_Law_law_164 : decode b_Law_law 164 = .ok (.ireturn, 1) := by decide +kernel
theorem d_Law_law_165 : decode b_Law_law 165 = .ok (.goto 1034, 3) := by decide +kernel
theorem d_Law_law_168 : decode b_Law_law 168 = .ok (.aload_n 1, 1) := by decide +kernel
theorem d_Law_law_169 : decode b_Law_law 169 = .ok (.aload_n 0, 1) := by decide +kernel
theorem d_Law_law_170 : decode b_Law_law 170 = .ok (.iload 4, 2) := by decide +kernel
theorem d_Law_law_172 : decode b_Law_law 172 = .ok (.iconst 1, 1) := by decide +kernel
theorem d_Law_law_173 : decode b_Law_law 173 = .ok (.iadd, 1) := by decide +kernel
theorem d_Law_law_174 : decode b_Law_law 174 = .ok (.iaload, 1) := by decide +kernel
theorem d_Law_law_175 : decode b_Law_law 175 = .ok (.aload_n 0, 1) := by decide +kernel
theorem d_Law_law_176 : decode b_Law_law 176 = .ok (.iload 4, 2) := by decide +kernel
theorem d_Law_law_178 : decode b_Law_law 178 = .ok (.iconst 2, 1) := by decide +kernel
theorem d_Law_law_179 : decode b_Law_law 179 = .ok (.iadd, 1) := by decide +kernel
theorem d_Law_law_180 : decode b_Law_law 180 = .ok (.iaload, 1) := by decide +kernel
theorem d_Law_law_181 : decode b_Law_law 181 = .ok (.aload_n 0, 1) := by decide +kernel
theorem d_Law_law_182 : decode b_Law_law 182 = .ok (.iload 4, 2) := by decide +kernel
theorem d_Law_law_184 : decode b_Law_law 184 = .ok (.iconst 3, 1) := by decide +kernel
theorem d_Law_law_185 : decode b_Law_law 185 = .ok (.iadd, 1) := by decide +kernel
theorem d_Law_law_186 : decode b_Law_law 186 = .ok (.iaload, 1) := by decide +kernel
theorem d_Law_law_187 : decode b_Law_law 187 = .ok (.aload_n 0, 1) := by decide +kernel
theorem d_Law_law_188 : decode b_Law_law 188 = .ok (.iload 4, 2) := by decide +kernel
theorem d_Law_law_190 : decode b_Law_law 190 = .ok (.iconst 4, 1) := by decide +kernel
theorem d_Law_law_191 : decode b_Law_law 191 = .ok (.iadd, 1) := by decide +kernel
theorem d_Law_law_192 : decode b_Law_law 192 = .ok (.iaload, 1) := by decide +kernel
theorem d_Law_law_193 : decode b_Law_law 193 = .ok (.aload_n 3, 1) := by decide +kernel
theorem d_Law_law_194 : decode b_Law_law 194 = .ok (.invokestatic 90, 3) := by decide +kernel
theorem d_Law_law_197 : decode b_Law_law 197 = .ok (.istore 5, 2) := by decide +kernel
theorem d_Law_law_199 : decode b_Law_law 199 = .ok (.aload_n 2, 1) := by decide +kernel
theorem d_Law_law_200 : decode b_Law_law 200 = .ok (.aload_n 0, 1) := by decide +kernel
theorem d_Law_law_201 : decode b_Law_law 201 = .ok (.iload 4, 2) := by decide +kernel
theorem d_Law_law_203 : decode b_Law_law 203 = .ok (.iconst 1, 1) := by decide +kernel
theorem d_Law_law_204 : decode b_Law_law 204 = .ok (.iadd, 1) := by decide +kernel
theorem d_Law_law_205 : decode b_Law_law 205 = .ok (.iaload, 1) := by decide +kernel
theorem d_Law_law_206 : decode b_Law_law 206 = .ok (.aload_n 0, 1) := by decide +kernel
theorem d_Law_law_207 : decode b_Law_law 207 = .ok (.iload 4, 2) := by decide +kernel
theorem d_Law_law_209 : decode b_Law_law 209 = .ok (.iconst 2, 1) := by decide +kernel
theorem d_Law_law_210 : decode b_Law_law 210 = .ok (.iadd, 1) := by decide +kernel
theorem d_Law_law_211 : decode b_Law_law 211 = .ok (.iaload, 1) := by decide +kernel
theorem d_Law_law_212 : decode b_Law_law 212 = .ok (.aload_n 0, 1) := by decide +kernel
theorem d_Law_law_213 : decode b_Law_law 213 = .ok (.iload 4, 2) := by decide +kernel
theorem d_Law_law_215 : decode b_Law_law 215 = .ok (.iconst 3, 1) := by decide +kernel
theorem d_Law_law_216 : decode b_Law_law 216 = .ok (.iadd, 1) := by decide +kernel
theorem d_Law_law_217 : decode b_Law_law 217 = .ok (.iaload, 1) := by decide +kernel
theorem d_Law_law_218 : decode b_Law_law 218 = .ok (.aload_n 0, 1) := by decide +kernel
theorem d_Law_law_219 : decode b_Law_law 219 = .ok (.iload 4, 2) := by decide +kernel
theorem d_Law_law_221 : decode b_Law_law 221 = .ok (.iconst 4, 1) := by decide +kernel
theorem d_Law_law_222 : decode b_Law_law 222 = .ok (.iadd, 1) := by decide +kernel
theorem d_Law_law_223 : decode b_Law_law 223 = .ok (.iaload, 1) := by decide +kernel
theorem d_Law_law_224 : decode b_Law_law 224 = .ok (.invokevirtual 93, 3) := by decide +kernel
theorem d_Law_law_227 : decode b_Law_law 227 = .ok (.istore 6, 2) := by decide +kernel
theorem d_Law_law_229 : decode b_Law_law 229 = .ok (.aload_n 2, 1) := by decide +kernel
theorem d_Law_law_230 : decode b_Law_law 230 = .ok (.invokevirtual 87, 3) := by decide +kernel
theorem d_Law_law_233 : decode b_Law_law 233 = .ok (.iload 5, 2) := by decide +kernel
theorem d_Law_law_235 : decode b_Law_law 235 = .ok (.if_icmp .eq 5, 3) := by decide +kernel
theorem d_Law_law_238 : decode b_Law_law 238 = .ok (.iconst 0, 1) := by decide +kernel
theorem d_Law_law_239 : decode b_Law_law 239 = .ok (.ireturn, 1) := by decide +kernel
theorem d_Law_law_240 : decode b_Law_law 240 = .ok (.iload 5, 2) := by decide +kernel
theorem d_Law_law_242 : decode b_Law_law 242 = .ok (.ifCond .ne 15, 3) := by decide +kernel
theorem d_Law_law_245 : decode b_Law_law 245 = .ok (.aload_n 3, 1) := by decide +kernel
theorem d_Law_law_246 : decode b_Law_law 246 = .ok (.iconst 0, 1) := by decide +kernel
theorem d_Law_law_247 : decode b_Law_law 247 = .ok (.laload, 1) := by decide +kernel
theorem d_Law_law_248 : decode b_Law_law 248 = .ok (.iload 6, 2) := by decide +kernel
theorem d_Law_law_250 : decode b_Law_law 250 = .ok (.i2l, 1) := by decide +kernel
theorem d_Law_law_251 : decode b_Law_law 251 = .ok (.lcmp, 1) := by decide +kernel
theorem d_Law_law_252 : decode b_Law_law 252 = .ok (.ifCond .eq 5, 3) := by decide +kernel
theorem d_Law_law_255 : decode b_Law_law 255 = .ok (.iconst 0, 1) := by decide +kernel
theorem d_Law_law_256 : decode b_Law_law 256 = .ok (.ireturn, 1) := by decide +kernel
theorem d_Law_law_257 : decode b_Law_law 257 = .ok (.goto 942, 3) := by decide +kernel
theorem d_Law_law_260 : decode b_Law_law 260 = .ok (.aload_n 1, 1) := by decide +kernel
theorem d_Law_law_261 : decode b_Law_law 261 = .ok (.aload_n 0, 1) := by decide +kernel
theorem d_Law_law_262 : decode b_Law_law 262 = .ok (.iload 4, 2) := by decide +kernel
theorem d_Law_law_264 : decode b_Law_law 264 = .ok (.iconst 1, 1) := by decide +kernel
theorem d_Law_law_265 : decode b_Law_law 265 = .ok (.iadd, 1) := by decide +kernel
theorem d_Law_law_266 : decode b_Law_law 266 = .ok (.iaload, 1) := by decide +kernel
theorem d_Law_law_267 : decode b_Law_law 267 = .ok (.aload_n 3, 1) := by decide +kernel
theorem d_Law_law_268 : decode b_Law_law 268 = .ok (.invokestatic 94, 3) := by decide +kernel
theorem d_Law_law_271 : decode b_Law_law 271 = .ok (.istore 5, 2) := by decide +kernel
theorem d_Law_law_273 : decode b_Law_law 273 = .ok (.aload_n 2, 1) := by decide +kernel
theorem d_Law_law_274 : decode b_Law_law 274 = .ok (.aload_n 0, 1) := by decide +kernel
theorem d_Law_law_275 : decode b_Law_law 275 = .ok (.iload 4, 2) := by decide +kernel
theorem d_Law_law_277 : decode b_Law_law 277 = .ok (.iconst 1, 1) := by decide +kernel
theorem d_Law_law_278 : decode b_Law_law 278 = .ok (.iadd, 1) := by decide +kernel
theorem d_Law_law_279 : decode b_Law_law 279 = .ok (.iaload, 1) := by decide +kernel
theorem d_Law_law_280 : decode b_Law_law 280 = .ok (.invokevirtual 97, 3) := by decide +kernel
theorem d_Law_law_283 : decode b_Law_law 283 = .ok (.istore 6, 2) := by decide +kernel
theorem d_Law_law_285 : decode b_Law_law 285 = .ok (.aload_n 2, 1) := by decide +kernel
theorem d_Law_law_286 : decode b_Law_law 286 = .ok (.invokevirtual 87, 3) := by decide +kernel
theorem d_Law_law_289 : decode b_Law_law 289 = .ok (.iload 5, 2) := by decide +kernel
theorem d_Law_law_291 : decode b_Law_law 291 = .ok (.if_icmp .eq 5, 3) := by decide +kernel
theorem d_Law_law_294 : decode b_Law_law 294 = .ok (.iconst 0, 1) := by decide +kernel
theorem d_Law_law_295 : decode b_Law_law 295 = .ok (.ireturn, 1) := by decide +kernel
theorem d_Law_law_296 : decode b_Law_law 296 = .ok (.iload 5, 2) := by decide +kernel
theorem d_Law_law_298 : decode b_Law_law 298 = .ok (.ifCond .ne 15, 3) := by decide +kernel
theorem d_Law_law_301 : decode b_Law_law 301 = .ok (.aload_n 3, 1) := by decide +kernel
theorem d_Law_law_302 : decode b_Law_law 302 = .ok (.iconst 0, 1) := by decide +kernel
theorem d_Law_law_303 : decode b_Law_law 303 = .ok (.laload, 1) := by decide +kernel
theorem d_Law_law_304 : decode b_Law_law 304 = .ok (.iload 6, 2) := by decide +kernel
theorem d_Law_law_306 : decode b_Law_law 306 = .ok (.i2l, 1) := by decide +kernel
theorem d_Law_law_307 : decode b_Law_law 307 = .ok (.lcmp, 1) := by decide +kernel
theorem d_Law_law_308 : decode b_Law_law 308 = .ok (.ifCond .eq 5, 3) := by decide +kernel
theorem d_Law_law_311 : decode b_Law_law 311 = .ok (.iconst 0, 1) := by decide +kernel
theorem d_Law_law_312 : decode b_Law_law 312 = .ok (.ireturn, 1) := by decide +kernel
theorem d_Law_law_313 : decode b_Law_law 313 = .ok (.goto 886, 3) := by decide +kernel
theorem d_Law_law_316 : decode b_Law_law 316 = .ok (.aload_n 1, 1) := by decide +kernel
theorem d_Law_law_317 : decode b_Law_law 317 = .ok (.aload_n 0, 1) := by decide +kernel
theorem d_Law_law_318 : decode b_Law_law 318 = .ok (.iload 4, 2) := by decide +kernel
theorem d_Law_law_320 : decode b_Law_law 320 = .ok (.iconst 1, 1) := by decide +kernel
theorem d_Law_law_321 : decode b_Law_law 321 = .ok (.iadd, 1) := by decide +kernel
theorem d_Law_law_322 : decode b_Law_law 322 = .ok (.iaload, 1) := by decide +kernel
theorem d_Law_law_323 : decode b_Law_law 323 = .ok (.aload_n 0, 1) := by decide +kernel
theorem d_Law_law_324 : decode b_Law_law 324 = .ok (.iload 4, 2) := by decide +kernel
theorem d_Law_law_326 : decode b_Law_law 326 = .ok (.iconst 2, 1) := by decide +kernel
theorem d_Law_law_327 : decode b_Law_law 327 = .ok (.iadd, 1) := by decide +kernel
