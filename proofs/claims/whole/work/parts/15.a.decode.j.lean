theorem dxB_init_0 : decode cxB_init 0 = .ok (.aload_n 0, 1) := by decide +kernel
theorem dxB_init_1 : decode cxB_init 1 = .ok (.bipush 16, 2) := by decide +kernel
theorem dxB_init_3 : decode cxB_init 3 = .ok (.invokespecial 1, 3) := by decide +kernel
theorem dxB_init_6 : decode cxB_init 6 = .ok (.return_, 1) := by decide +kernel
theorem dxA_init_0 : decode cxA_init 0 = .ok (.aload_n 0, 1) := by decide +kernel
theorem dxA_init_1 : decode cxA_init 1 = .ok (.invokespecial 3, 3) := by decide +kernel
theorem dxA_init_4 : decode cxA_init 4 = .ok (.getstatic 18, 3) := by decide +kernel
theorem dxA_init_7 : decode cxA_init 7 = .ok (.ifCond .eq 18, 3) := by decide +kernel
theorem dxA_init_10 : decode cxA_init 10 = .ok (.aload_n 0, 1) := by decide +kernel
theorem dxA_init_11 : decode cxA_init 11 = .ok (.iload_n 1, 1) := by decide +kernel
theorem dxA_init_12 : decode cxA_init 12 = .ok (.newarray .byte, 2) := by decide +kernel
theorem dxA_init_14 : decode cxA_init 14 = .ok (.putfield 15, 3) := by decide +kernel
theorem dxA_init_17 : decode cxA_init 17 = .ok (.aload_n 0, 1) := by decide +kernel
theorem dxA_init_18 : decode cxA_init 18 = .ok (.iconst 0, 1) := by decide +kernel
theorem dxA_init_19 : decode cxA_init 19 = .ok (.putfield 22, 3) := by decide +kernel
theorem dxA_init_22 : decode cxA_init 22 = .ok (.goto 16, 3) := by decide +kernel
theorem dxA_init_25 : decode cxA_init 25 = .ok (.aload_n 0, 1) := by decide +kernel
theorem dxA_init_26 : decode cxA_init 26 = .ok (.iload_n 1, 1) := by decide +kernel
theorem dxA_init_27 : decode cxA_init 27 = .ok (.invokestatic 26, 3) := by decide +kernel
theorem dxA_init_30 : decode cxA_init 30 = .ok (.putfield 15, 3) := by decide +kernel
theorem dxA_init_33 : decode cxA_init 33 = .ok (.aload_n 0, 1) := by decide +kernel
theorem dxA_init_34 : decode cxA_init 34 = .ok (.iconst 1, 1) := by decide +kernel
theorem dxA_init_35 : decode cxA_init 35 = .ok (.putfield 22, 3) := by decide +kernel
theorem dxA_init_38 : decode cxA_init 38 = .ok (.return_, 1) := by decide +kernel
theorem dxB_setLength_0 : decode cxB_setLength 0 = .ok (.aload_n 0, 1) := by decide +kernel
theorem dxB_setLength_1 : decode cxB_setLength 1 = .ok (.iload_n 1, 1) := by decide +kernel
theorem dxB_setLength_2 : decode cxB_setLength 2 = .ok (.invokespecial 333, 3) := by decide +kernel
theorem dxB_setLength_5 : decode cxB_setLength 5 = .ok (.return_, 1) := by decide +kernel
theorem dxA_setLength_0 : decode cxA_setLength 0 = .ok (.iload_n 1, 1) := by decide +kernel
theorem dxA_setLength_1 : decode cxA_setLength 1 = .ok (.ifCond .ge 12, 3) := by decide +kernel
theorem dxA_setLength_4 : decode cxA_setLength 4 = .ok (.new 129, 3) := by decide +kernel
theorem dxA_setLength_7 : decode cxA_setLength 7 = .ok (.dup, 1) := by decide +kernel
theorem dxA_setLength_8 : decode cxA_setLength 8 = .ok (.iload_n 1, 1) := by decide +kernel
theorem dxA_setLength_9 : decode cxA_setLength 9 = .ok (.invokespecial 131, 3) := by decide +kernel
theorem dxA_setLength_12 : decode cxA_setLength 12 = .ok (.athrow, 1) := by decide +kernel
theorem dxA_setLength_13 : decode cxA_setLength 13 = .ok (.aload_n 0, 1) := by decide +kernel
theorem dxA_setLength_14 : decode cxA_setLength 14 = .ok (.iload_n 1, 1) := by decide +kernel
theorem dxA_setLength_15 : decode cxA_setLength 15 = .ok (.invokevirtual 100, 3) := by decide +kernel
theorem dxA_setLength_18 : decode cxA_setLength 18 = .ok (.aload_n 0, 1) := by decide +kernel
theorem dxA_setLength_19 : decode cxA_setLength 19 = .ok (.getfield 79, 3) := by decide +kernel
theorem dxA_setLength_22 : decode cxA_setLength 22 = .ok (.iload_n 1, 1) := by decide +kernel
theorem dxA_setLength_23 : decode cxA_setLength 23 = .ok (.if_icmp .ge 40, 3) := by decide +kernel
theorem dxA_setLength_26 : decode cxA_setLength 26 = .ok (.aload_n 0, 1) := by decide +kernel
theorem dxA_setLength_27 : decode cxA_setLength 27 = .ok (.invokevirtual 83, 3) := by decide +kernel
theorem dxA_setLength_30 : decode cxA_setLength 30 = .ok (.ifCond .eq 18, 3) := by decide +kernel
theorem dxA_setLength_33 : decode cxA_setLength 33 = .ok (.aload_n 0, 1) := by decide +kernel
theorem dxA_setLength_34 : decode cxA_setLength 34 = .ok (.getfield 15, 3) := by decide +kernel
theorem dxA_setLength_37 : decode cxA_setLength 37 = .ok (.aload_n 0, 1) := by decide +kernel
theorem dxA_setLength_38 : decode cxA_setLength 38 = .ok (.getfield 79, 3) := by decide +kernel
theorem dxA_setLength_41 : decode cxA_setLength 41 = .ok (.iload_n 1, 1) := by decide +kernel
theorem dxA_setLength_42 : decode cxA_setLength 42 = .ok (.invokestatic 133, 3) := by decide +kernel
theorem dxA_setLength_45 : decode cxA_setLength 45 = .ok (.goto 31, 3) := by decide +kernel
theorem dxA_setLength_48 : decode cxA_setLength 48 = .ok (.aload_n 0, 1) := by decide +kernel
theorem dxA_setLength_49 : decode cxA_setLength 49 = .ok (.getfield 15, 3) := by decide +kernel
theorem dxA_setLength_52 : decode cxA_setLength 52 = .ok (.aload_n 0, 1) := by decide +kernel
theorem dxA_setLength_53 : decode cxA_setLength 53 = .ok (.getfield 79, 3) := by decide +kernel
theorem dxA_setLength_56 : decode cxA_setLength 56 = .ok (.iload_n 1, 1) := by decide +kernel
theorem dxA_setLength_57 : decode cxA_setLength 57 = .ok (.invokestatic 137, 3) := by decide +kernel
theorem dxA_setLength_60 : decode cxA_setLength 60 = .ok (.goto 16, 3) := by decide +kernel
theorem dxA_setLength_63 : decode cxA_setLength 63 = .ok (.aload_n 0, 1) := by decide +kernel
theorem dxA_setLength_64 : decode cxA_setLength 64 = .ok (.getfield 79, 3) := by decide +kernel
theorem dxA_setLength_67 : decode cxA_setLength 67 = .ok (.iload_n 1, 1) := by decide +kernel
theorem dxA_setLength_68 : decode cxA_setLength 68 = .ok (.if_icmp .le 8, 3) := by decide +kernel
theorem dxA_setLength_71 : decode cxA_setLength 71 = .ok (.aload_n 0, 1) := by decide +kernel
theorem dxA_setLength_72 : decode cxA_setLength 72 = .ok (.iconst 1, 1) := by decide +kernel
theorem dxA_setLength_73 : decode cxA_setLength 73 = .ok (.putfield 73, 3) := by decide +kernel
theorem dxA_setLength_76 : decode cxA_setLength 76 = .ok (.aload_n 0, 1) := by decide +kernel
theorem dxA_setLength_77 : decode cxA_setLength 77 = .ok (.iload_n 1, 1) := by decide +kernel
theorem dxA_setLength_78 : decode cxA_setLength 78 = .ok (.putfield 79, 3) := by decide +kernel
theorem dxA_setLength_81 : decode cxA_setLength 81 = .ok (.return_, 1) := by decide +kernel
theorem dxA_ensureCapacityInternal_0 : decode cxA_ensureCapacityInternal 0 = .ok (.aload_n 0, 1) := by decide +kernel
theorem dxA_ensureCapacityInternal_1 : decode cxA_ensureCapacityInternal 1 = .ok (.getfield 15, 3) := by decide +kernel
theorem dxA_ensureCapacityInternal_4 : decode cxA_ensureCapacityInternal 4 = .ok (.arraylength, 1) := by decide +kernel
theorem dxA_ensureCapacityInternal_5 : decode cxA_ensureCapacityInternal 5 = .ok (.aload_n 0, 1) := by decide +kernel
theorem dxA_ensureCapacityInternal_6 : decode cxA_ensureCapacityInternal 6 = .ok (.getfield 22, 3) := by decide +kernel
theorem dxA_ensureCapacityInternal_9 : decode cxA_ensureCapacityInternal 9 = .ok (.ishr, 1) := by decide +kernel
theorem dxA_ensureCapacityInternal_10 : decode cxA_ensureCapacityInternal 10 = .ok (.istore_n 2, 1) := by decide +kernel
theorem dxA_ensureCapacityInternal_11 : decode cxA_ensureCapacityInternal 11 = .ok (.iload_n 1, 1) := by decide +kernel
theorem dxA_ensureCapacityInternal_12 : decode cxA_ensureCapacityInternal 12 = .ok (.iload_n 2, 1) := by decide +kernel
theorem dxA_ensureCapacityInternal_13 : decode cxA_ensureCapacityInternal 13 = .ok (.isub, 1) := by decide +kernel
theorem dxA_ensureCapacityInternal_14 : decode cxA_ensureCapacityInternal 14 = .ok (.ifCond .le 24, 3) := by decide +kernel
theorem dxA_ensureCapacityInternal_17 : decode cxA_ensureCapacityInternal 17 = .ok (.aload_n 0, 1) := by decide +kernel
theorem dxA_ensureCapacityInternal_18 : decode cxA_ensureCapacityInternal 18 = .ok (.aload_n 0, 1) := by decide +kernel
theorem dxA_ensureCapacityInternal_19 : decode cxA_ensureCapacityInternal 19 = .ok (.getfield 15, 3) := by decide +kernel
theorem dxA_ensureCapacityInternal_22 : decode cxA_ensureCapacityInternal 22 = .ok (.aload_n 0, 1) := by decide +kernel
theorem dxA_ensureCapacityInternal_23 : decode cxA_ensureCapacityInternal 23 = .ok (.iload_n 1, 1) := by decide +kernel
theorem dxA_ensureCapacityInternal_24 : decode cxA_ensureCapacityInternal 24 = .ok (.invokevirtual 104, 3) := by decide +kernel
theorem dxA_ensureCapacityInternal_27 : decode cxA_ensureCapacityInternal 27 = .ok (.aload_n 0, 1) := by decide +kernel
theorem dxA_ensureCapacityInternal_28 : decode cxA_ensureCapacityInternal 28 = .ok (.getfield 22, 3) := by decide +kernel
theorem dxA_ensureCapacityInternal_31 : decode cxA_ensureCapacityInternal 31 = .ok (.ishl, 1) := by decide +kernel
theorem dxA_ensureCapacityInternal_32 : decode cxA_ensureCapacityInternal 32 = .ok (.invokestatic 108, 3) := by decide +kernel
theorem dxA_ensureCapacityInternal_35 : decode cxA_ensureCapacityInternal 35 = .ok (.putfield 15, 3) := by decide +kernel
theorem dxA_ensureCapacityInternal_38 : decode cxA_ensureCapacityInternal 38 = .ok (.return_, 1) := by decide +kernel
theorem dxA_newCapacity_0 : decode cxA_newCapacity 0 = .ok (.aload_n 0, 1) := by decide +kernel
theorem dxA_newCapacity_1 : decode cxA_newCapacity 1 = .ok (.getfield 15, 3) := by decide +kernel
theorem dxA_newCapacity_4 : decode cxA_newCapacity 4 = .ok (.arraylength, 1) := by decide +kernel
theorem dxA_newCapacity_5 : decode cxA_newCapacity 5 = .ok (.istore_n 2, 1) := by decide +kernel
theorem dxA_newCapacity_6 : decode cxA_newCapacity 6 = .ok (.iload_n 1, 1) := by decide +kernel
theorem dxA_newCapacity_7 : decode cxA_newCapacity 7 = .ok (.aload_n 0, 1) := by decide +kernel
theorem dxA_newCapacity_8 : decode cxA_newCapacity 8 = .ok (.getfield 22, 3) := by decide +kernel
theorem dxA_newCapacity_11 : decode cxA_newCapacity 11 = .ok (.ishl, 1) := by decide +kernel
theorem dxA_newCapacity_12 : decode cxA_newCapacity 12 = .ok (.istore_n 3, 1) := by decide +kernel
theorem dxA_newCapacity_13 : decode cxA_newCapacity 13 = .ok (.iload_n 3, 1) := by decide +kernel
theorem dxA_newCapacity_14 : decode cxA_newCapacity 14 = .ok (.iload_n 2, 1) := by decide +kernel
theorem dxA_newCapacity_15 : decode cxA_newCapacity 15 = .ok (.isub, 1) := by decide +kernel
theorem dxA_newCapacity_16 : decode cxA_newCapacity 16 = .ok (.istore 4, 2) := by decide +kernel
theorem dxA_newCapacity_18 : decode cxA_newCapacity 18 = .ok (.iload_n 2, 1) := by decide +kernel
theorem dxA_newCapacity_19 : decode cxA_newCapacity 19 = .ok (.iload 4, 2) := by decide +kernel
theorem dxA_newCapacity_21 : decode cxA_newCapacity 21 = .ok (.iload_n 2, 1) := by decide +kernel
theorem dxA_newCapacity_22 : decode cxA_newCapacity 22 = .ok (.iconst 2, 1) := by decide +kernel
theorem dxA_newCapacity_23 : decode cxA_newCapacity 23 = .ok (.aload_n 0, 1) := by decide +kernel
theorem dxA_newCapacity_24 : decode cxA_newCapacity 24 = .ok (.getfield 22, 3) := by decide +kernel
theorem dxA_newCapacity_27 : decode cxA_newCapacity 27 = .ok (.ishl, 1) := by decide +kernel
theorem dxA_newCapacity_28 : decode cxA_newCapacity 28 = .ok (.iadd, 1) := by decide +kernel
theorem dxA_newCapacity_29 : decode cxA_newCapacity 29 = .ok (.invokestatic 114, 3) := by decide +kernel
theorem dxA_newCapacity_32 : decode cxA_newCapacity 32 = .ok (.istore 5, 2) := by decide +kernel
theorem dxA_newCapacity_34 : decode cxA_newCapacity 34 = .ok (.iload 5, 2) := by decide +kernel
theorem dxA_newCapacity_36 : decode cxA_newCapacity 36 = .ok (.ldc 39, 2) := by decide +kernel
theorem dxA_newCapacity_38 : decode cxA_newCapacity 38 = .ok (.if_icmp .ne 13, 3) := by decide +kernel
theorem dxA_newCapacity_41 : decode cxA_newCapacity 41 = .ok (.new 120, 3) := by decide +kernel
theorem dxA_newCapacity_44 : decode cxA_newCapacity 44 = .ok (.dup, 1) := by decide +kernel
theorem dxA_newCapacity_45 : decode cxA_newCapacity 45 = .ok (.ldc 122, 2) := by decide +kernel
theorem dxA_newCapacity_47 : decode cxA_newCapacity 47 = .ok (.invokespecial 124, 3) := by decide +kernel
theorem dxA_newCapacity_50 : decode cxA_newCapacity 50 = .ok (.athrow, 1) := by decide +kernel
theorem dxA_newCapacity_51 : decode cxA_newCapacity 51 = .ok (.iload 5, 2) := by decide +kernel
theorem dxA_newCapacity_53 : decode cxA_newCapacity 53 = .ok (.aload_n 0, 1) := by decide +kernel
theorem dxA_newCapacity_54 : decode cxA_newCapacity 54 = .ok (.getfield 22, 3) := by decide +kernel
theorem dxA_newCapacity_57 : decode cxA_newCapacity 57 = .ok (.ishr, 1) := by decide +kernel
theorem dxA_newCapacity_58 : decode cxA_newCapacity 58 = .ok (.ireturn, 1) := by decide +kernel
theorem dxZ_newLength_0 : decode cxZ_newLength 0 = .ok (.iload_n 0, 1) := by decide +kernel
theorem dxZ_newLength_1 : decode cxZ_newLength 1 = .ok (.iload_n 1, 1) := by decide +kernel
theorem dxZ_newLength_2 : decode cxZ_newLength 2 = .ok (.iload_n 2, 1) := by decide +kernel
theorem dxZ_newLength_3 : decode cxZ_newLength 3 = .ok (.invokestatic 194, 3) := by decide +kernel
theorem dxZ_newLength_6 : decode cxZ_newLength 6 = .ok (.iadd, 1) := by decide +kernel
theorem dxZ_newLength_7 : decode cxZ_newLength 7 = .ok (.istore_n 3, 1) := by decide +kernel
theorem dxZ_newLength_8 : decode cxZ_newLength 8 = .ok (.iconst 0, 1) := by decide +kernel
theorem dxZ_newLength_9 : decode cxZ_newLength 9 = .ok (.iload_n 3, 1) := by decide +kernel
theorem dxZ_newLength_10 : decode cxZ_newLength 10 = .ok (.if_icmp .ge 11, 3) := by decide +kernel
theorem dxZ_newLength_13 : decode cxZ_newLength 13 = .ok (.iload_n 3, 1) := by decide +kernel
theorem dxZ_newLength_14 : decode cxZ_newLength 14 = .ok (.ldc 200, 2) := by decide +kernel
theorem dxZ_newLength_16 : decode cxZ_newLength 16 = .ok (.if_icmp .gt 5, 3) := by decide +kernel
theorem dxZ_newLength_19 : decode cxZ_newLength 19 = .ok (.iload_n 3, 1) := by decide +kernel
theorem dxZ_newLength_20 : decode cxZ_newLength 20 = .ok (.ireturn, 1) := by decide +kernel
theorem dxZ_newLength_21 : decode cxZ_newLength 21 = .ok (.iload_n 0, 1) := by decide +kernel
theorem dxZ_newLength_22 : decode cxZ_newLength 22 = .ok (.iload_n 1, 1) := by decide +kernel
theorem dxZ_newLength_23 : decode cxZ_newLength 23 = .ok (.invokestatic 201, 3) := by decide +kernel
theorem dxZ_newLength_26 : decode cxZ_newLength 26 = .ok (.ireturn, 1) := by decide +kernel
theorem dxY_copyOf_0 : decode cxY_copyOf 0 = .ok (.iload_n 1, 1) := by decide +kernel
theorem dxY_copyOf_1 : decode cxY_copyOf 1 = .ok (.aload_n 0, 1) := by decide +kernel
theorem dxY_copyOf_2 : decode cxY_copyOf 2 = .ok (.arraylength, 1) := by decide +kernel
theorem dxY_copyOf_3 : decode cxY_copyOf 3 = .ok (.if_icmp .ne 11, 3) := by decide +kernel
theorem dxY_copyOf_6 : decode cxY_copyOf 6 = .ok (.aload_n 0, 1) := by decide +kernel
theorem dxY_copyOf_7 : decode cxY_copyOf 7 = .ok (.invokevirtual 310, 3) := by decide +kernel
theorem dxY_copyOf_10 : decode cxY_copyOf 10 = .ok (.checkcast 311, 3) := by decide +kernel
theorem dxY_copyOf_13 : decode cxY_copyOf 13 = .ok (.areturn, 1) := by decide +kernel
theorem dxY_copyOf_14 : decode cxY_copyOf 14 = .ok (.iload_n 1, 1) := by decide +kernel
theorem dxY_copyOf_15 : decode cxY_copyOf 15 = .ok (.newarray .byte, 2) := by decide +kernel
theorem dxY_copyOf_17 : decode cxY_copyOf 17 = .ok (.astore_n 2, 1) := by decide +kernel
theorem dxY_copyOf_18 : decode cxY_copyOf 18 = .ok (.aload_n 0, 1) := by decide +kernel
theorem dxY_copyOf_19 : decode cxY_copyOf 19 = .ok (.iconst 0, 1) := by decide +kernel
theorem dxY_copyOf_20 : decode cxY_copyOf 20 = .ok (.aload_n 2, 1) := by decide +kernel
theorem dxY_copyOf_21 : decode cxY_copyOf 21 = .ok (.iconst 0, 1) := by decide +kernel
theorem dxY_copyOf_22 : decode cxY_copyOf 22 = .ok (.aload_n 0, 1) := by decide +kernel
theorem dxY_copyOf_23 : decode cxY_copyOf 23 = .ok (.arraylength, 1) := by decide +kernel
theorem dxY_copyOf_24 : decode cxY_copyOf 24 = .ok (.iload_n 1, 1) := by decide +kernel
theorem dxY_copyOf_25 : decode cxY_copyOf 25 = .ok (.invokestatic 304, 3) := by decide +kernel
theorem dxY_copyOf_28 : decode cxY_copyOf 28 = .ok (.invokestatic 150, 3) := by decide +kernel
theorem dxY_copyOf_31 : decode cxY_copyOf 31 = .ok (.aload_n 2, 1) := by decide +kernel
theorem dxY_copyOf_32 : decode cxY_copyOf 32 = .ok (.areturn, 1) := by decide +kernel
theorem dxA_isLatin1_0 : decode cxA_isLatin1 0 = .ok (.getstatic 18, 3) := by decide +kernel
theorem dxA_isLatin1_3 : decode cxA_isLatin1 3 = .ok (.ifCond .eq 14, 3) := by decide +kernel
theorem dxA_isLatin1_6 : decode cxA_isLatin1 6 = .ok (.aload_n 0, 1) := by decide +kernel
theorem dxA_isLatin1_7 : decode cxA_isLatin1 7 = .ok (.getfield 22, 3) := by decide +kernel
theorem dxA_isLatin1_10 : decode cxA_isLatin1 10 = .ok (.ifCond .ne 7, 3) := by decide +kernel
theorem dxA_isLatin1_13 : decode cxA_isLatin1 13 = .ok (.iconst 1, 1) := by decide +kernel
theorem dxA_isLatin1_14 : decode cxA_isLatin1 14 = .ok (.goto 4, 3) := by decide +kernel
theorem dxA_isLatin1_17 : decode cxA_isLatin1 17 = .ok (.iconst 0, 1) := by decide +kernel
theorem dxA_isLatin1_18 : decode cxA_isLatin1 18 = .ok (.ireturn, 1) := by decide +kernel
theorem dxB_append_0 : decode cxB_append 0 = .ok (.aload_n 0, 1) := by decide +kernel
theorem dxB_append_1 : decode cxB_append 1 = .ok (.aload_n 1, 1) := by decide +kernel
theorem dxB_append_2 : decode cxB_append 2 = .ok (.invokespecial 29, 3) := by decide +kernel
theorem dxB_append_5 : decode cxB_append 5 = .ok (.pop, 1) := by decide +kernel
theorem dxB_append_6 : decode cxB_append 6 = .ok (.aload_n 0, 1) := by decide +kernel
theorem dxB_append_7 : decode cxB_append 7 = .ok (.areturn, 1) := by decide +kernel
theorem dxA_append_0 : decode cxA_append 0 = .ok (.aload_n 1, 1) := by decide +kernel
theorem dxA_append_1 : decode cxA_append 1 = .ok (.ifnonnull 8, 3) := by decide +kernel
theorem dxA_append_4 : decode cxA_append 4 = .ok (.aload_n 0, 1) := by decide +kernel
theorem dxA_append_5 : decode cxA_append 5 = .ok (.invokevirtual 204, 3) := by decide +kernel
theorem dxA_append_8 : decode cxA_append 8 = .ok (.areturn, 1) := by decide +kernel
theorem dxA_append_9 : decode cxA_append 9 = .ok (.aload_n 1, 1) := by decide +kernel
theorem dxA_append_10 : decode cxA_append 10 = .ok (.invokevirtual 32, 3) := by decide +kernel
theorem dxA_append_13 : decode cxA_append 13 = .ok (.istore_n 2, 1) := by decide +kernel
theorem dxA_append_14 : decode cxA_append 14 = .ok (.aload_n 0, 1) := by decide +kernel
theorem dxA_append_15 : decode cxA_append 15 = .ok (.aload_n 0, 1) := by decide +kernel
theorem dxA_append_16 : decode cxA_append 16 = .ok (.getfield 79, 3) := by decide +kernel
theorem dxA_append_19 : decode cxA_append 19 = .ok (.iload_n 2, 1) := by decide +kernel
theorem dxA_append_20 : decode cxA_append 20 = .ok (.iadd, 1) := by decide +kernel
theorem dxA_append_21 : decode cxA_append 21 = .ok (.invokevirtual 100, 3) := by decide +kernel
theorem dxA_append_24 : decode cxA_append 24 = .ok (.aload_n 0, 1) := by decide +kernel
theorem dxA_append_25 : decode cxA_append 25 = .ok (.aload_n 0, 1) := by decide +kernel
theorem dxA_append_26 : decode cxA_append 26 = .ok (.getfield 79, 3) := by decide +kernel
theorem dxA_append_29 : decode cxA_append 29 = .ok (.aload_n 1, 1) := by decide +kernel
theorem dxA_append_30 : decode cxA_append 30 = .ok (.invokevirtual 208, 3) := by decide +kernel
theorem dxA_append_33 : decode cxA_append 33 = .ok (.aload_n 0, 1) := by decide +kernel
theorem dxA_append_34 : decode cxA_append 34 = .ok (.dup, 1) := by decide +kernel
theorem dxA_append_35 : decode cxA_append 35 = .ok (.getfield 79, 3) := by decide +kernel
theorem dxA_append_38 : decode cxA_append 38 = .ok (.iload_n 2, 1) := by decide +kernel
theorem dxA_append_39 : decode cxA_append 39 = .ok (.iadd, 1) := by decide +kernel
theorem dxA_append_40 : decode cxA_append 40 = .ok (.putfield 79, 3) := by decide +kernel
theorem dxA_append_43 : decode cxA_append 43 = .ok (.aload_n 0, 1) := by decide +kernel
theorem dxA_append_44 : decode cxA_append 44 = .ok (.areturn, 1) := by decide +kernel
theorem dxS_length_0 : decode cxS_length 0 = .ok (.aload_n 0, 1) := by decide +kernel
theorem dxS_length_1 : decode cxS_length 1 = .ok (.getfield 9, 3) := by decide +kernel
theorem dxS_length_4 : decode cxS_length 4 = .ok (.arraylength, 1) := by decide +kernel
theorem dxS_length_5 : decode cxS_length 5 = .ok (.aload_n 0, 1) := by decide +kernel
theorem dxS_length_6 : decode cxS_length 6 = .ok (.invokevirtual 335, 3) := by decide +kernel
theorem dxS_length_9 : decode cxS_length 9 = .ok (.ishr, 1) := by decide +kernel
theorem dxS_length_10 : decode cxS_length 10 = .ok (.ireturn, 1) := by decide +kernel
theorem dxS_coder_0 : decode cxS_coder 0 = .ok (.getstatic 38, 3) := by decide +kernel
theorem dxS_coder_3 : decode cxS_coder 3 = .ok (.ifCond .eq 10, 3) := by decide +kernel
theorem dxS_coder_6 : decode cxS_coder 6 = .ok (.aload_n 0, 1) := by decide +kernel
theorem dxS_coder_7 : decode cxS_coder 7 = .ok (.getfield 15, 3) := by decide +kernel
theorem dxS_coder_10 : decode cxS_coder 10 = .ok (.goto 4, 3) := by decide +kernel
theorem dxS_coder_13 : decode cxS_coder 13 = .ok (.iconst 1, 1) := by decide +kernel
theorem dxS_coder_14 : decode cxS_coder 14 = .ok (.ireturn, 1) := by decide +kernel
theorem dxA_putStringAt_0 : decode cxA_putStringAt 0 = .ok (.aload_n 0, 1) := by decide +kernel
theorem dxA_putStringAt_1 : decode cxA_putStringAt 1 = .ok (.aload_n 2, 1) := by decide +kernel
theorem dxA_putStringAt_2 : decode cxA_putStringAt 2 = .ok (.invokevirtual 397, 3) := by decide +kernel
theorem dxA_putStringAt_5 : decode cxA_putStringAt 5 = .ok (.aload_n 2, 1) := by decide +kernel
theorem dxA_putStringAt_6 : decode cxA_putStringAt 6 = .ok (.aload_n 0, 1) := by decide +kernel
theorem dxA_putStringAt_7 : decode cxA_putStringAt 7 = .ok (.getfield 15, 3) := by decide +kernel
theorem dxA_putStringAt_10 : decode cxA_putStringAt 10 = .ok (.iload_n 1, 1) := by decide +kernel
theorem dxA_putStringAt_11 : decode cxA_putStringAt 11 = .ok (.aload_n 0, 1) := by decide +kernel
theorem dxA_putStringAt_12 : decode cxA_putStringAt 12 = .ok (.getfield 22, 3) := by decide +kernel
theorem dxA_putStringAt_15 : decode cxA_putStringAt 15 = .ok (.invokevirtual 399, 3) := by decide +kernel
theorem dxA_putStringAt_18 : decode cxA_putStringAt 18 = .ok (.return_, 1) := by decide +kernel
theorem dxA_inflateIfNeededFor_0 : decode cxA_inflateIfNeededFor 0 = .ok (.getstatic 18, 3) := by decide +kernel
theorem dxA_inflateIfNeededFor_3 : decode cxA_inflateIfNeededFor 3 = .ok (.ifCond .eq 18, 3) := by decide +kernel
theorem dxA_inflateIfNeededFor_6 : decode cxA_inflateIfNeededFor 6 = .ok (.aload_n 0, 1) := by decide +kernel
theorem dxA_inflateIfNeededFor_7 : decode cxA_inflateIfNeededFor 7 = .ok (.getfield 22, 3) := by decide +kernel
theorem dxA_inflateIfNeededFor_10 : decode cxA_inflateIfNeededFor 10 = .ok (.aload_n 1, 1) := by decide +kernel
theorem dxA_inflateIfNeededFor_11 : decode cxA_inflateIfNeededFor 11 = .ok (.invokevirtual 40, 3) := by decide +kernel
theorem dxA_inflateIfNeededFor_14 : decode cxA_inflateIfNeededFor 14 = .ok (.if_icmp .eq 7, 3) := by decide +kernel
theorem dxA_inflateIfNeededFor_17 : decode cxA_inflateIfNeededFor 17 = .ok (.aload_n 0, 1) := by decide +kernel
theorem dxA_inflateIfNeededFor_18 : decode cxA_inflateIfNeededFor 18 = .ok (.invokevirtual 195, 3) := by decide +kernel
theorem dxA_inflateIfNeededFor_21 : decode cxA_inflateIfNeededFor 21 = .ok (.return_, 1) := by decide +kernel
theorem dxS_getBytes_0 : decode cxS_getBytes 0 = .ok (.aload_n 0, 1) := by decide +kernel
theorem dxS_getBytes_1 : decode cxS_getBytes 1 = .ok (.invokevirtual 335, 3) := by decide +kernel
theorem dxS_getBytes_4 : decode cxS_getBytes 4 = .ok (.iload_n 3, 1) := by decide +kernel
theorem dxS_getBytes_5 : decode cxS_getBytes 5 = .ok (.if_icmp .ne 23, 3) := by decide +kernel
theorem dxS_getBytes_8 : decode cxS_getBytes 8 = .ok (.aload_n 0, 1) := by decide +kernel
theorem dxS_getBytes_9 : decode cxS_getBytes 9 = .ok (.getfield 9, 3) := by decide +kernel
theorem dxS_getBytes_12 : decode cxS_getBytes 12 = .ok (.iconst 0, 1) := by decide +kernel
theorem dxS_getBytes_13 : decode cxS_getBytes 13 = .ok (.aload_n 1, 1) := by decide +kernel
theorem dxS_getBytes_14 : decode cxS_getBytes 14 = .ok (.iload_n 2, 1) := by decide +kernel
theorem dxS_getBytes_15 : decode cxS_getBytes 15 = .ok (.iload_n 3, 1) := by decide +kernel
theorem dxS_getBytes_16 : decode cxS_getBytes 16 = .ok (.ishl, 1) := by decide +kernel
theorem dxS_getBytes_17 : decode cxS_getBytes 17 = .ok (.aload_n 0, 1) := by decide +kernel
theorem dxS_getBytes_18 : decode cxS_getBytes 18 = .ok (.getfield 9, 3) := by decide +kernel
theorem dxS_getBytes_21 : decode cxS_getBytes 21 = .ok (.arraylength, 1) := by decide +kernel
theorem dxS_getBytes_22 : decode cxS_getBytes 22 = .ok (.invokestatic 212, 3) := by decide +kernel
theorem dxS_getBytes_25 : decode cxS_getBytes 25 = .ok (.goto 18, 3) := by decide +kernel
theorem dxS_getBytes_28 : decode cxS_getBytes 28 = .ok (.aload_n 0, 1) := by decide +kernel
theorem dxS_getBytes_29 : decode cxS_getBytes 29 = .ok (.getfield 9, 3) := by decide +kernel
theorem dxS_getBytes_32 : decode cxS_getBytes 32 = .ok (.iconst 0, 1) := by decide +kernel
theorem dxS_getBytes_33 : decode cxS_getBytes 33 = .ok (.aload_n 1, 1) := by decide +kernel
theorem dxS_getBytes_34 : decode cxS_getBytes 34 = .ok (.iload_n 2, 1) := by decide +kernel
theorem dxS_getBytes_35 : decode cxS_getBytes 35 = .ok (.aload_n 0, 1) := by decide +kernel
theorem dxS_getBytes_36 : decode cxS_getBytes 36 = .ok (.getfield 9, 3) := by decide +kernel
theorem dxS_getBytes_39 : decode cxS_getBytes 39 = .ok (.arraylength, 1) := by decide +kernel
theorem dxS_getBytes_40 : decode cxS_getBytes 40 = .ok (.invokestatic 106, 3) := by decide +kernel
theorem dxS_getBytes_43 : decode cxS_getBytes 43 = .ok (.return_, 1) := by decide +kernel
theorem dxB_append2_0 : decode cxB_append2 0 = .ok (.aload_n 0, 1) := by decide +kernel
theorem dxB_append2_1 : decode cxB_append2 1 = .ok (.iload_n 1, 1) := by decide +kernel
theorem dxB_append2_2 : decode cxB_append2 2 = .ok (.invokespecial 50, 3) := by decide +kernel
theorem dxB_append2_5 : decode cxB_append2 5 = .ok (.pop, 1) := by decide +kernel
theorem dxB_append2_6 : decode cxB_append2 6 = .ok (.aload_n 0, 1) := by decide +kernel
theorem dxB_append2_7 : decode cxB_append2 7 = .ok (.areturn, 1) := by decide +kernel
theorem dxA_append2_0 : decode cxA_append2 0 = .ok (.aload_n 0, 1) := by decide +kernel
theorem dxA_append2_1 : decode cxA_append2 1 = .ok (.aload_n 0, 1) := by decide +kernel
theorem dxA_append2_2 : decode cxA_append2 2 = .ok (.getfield 79, 3) := by decide +kernel
theorem dxA_append2_5 : decode cxA_append2 5 = .ok (.iconst 1, 1) := by decide +kernel
theorem dxA_append2_6 : decode cxA_append2 6 = .ok (.iadd, 1) := by decide +kernel
theorem dxA_append2_7 : decode cxA_append2 7 = .ok (.invokevirtual 100, 3) := by decide +kernel
theorem dxA_append2_10 : decode cxA_append2 10 = .ok (.aload_n 0, 1) := by decide +kernel
theorem dxA_append2_11 : decode cxA_append2 11 = .ok (.invokevirtual 83, 3) := by decide +kernel
theorem dxA_append2_14 : decode cxA_append2 14 = .ok (.ifCond .eq 31, 3) := by decide +kernel
theorem dxA_append2_17 : decode cxA_append2 17 = .ok (.iload_n 1, 1) := by decide +kernel
theorem dxA_append2_18 : decode cxA_append2 18 = .ok (.invokestatic 191, 3) := by decide +kernel
theorem dxA_append2_21 : decode cxA_append2 21 = .ok (.ifCond .eq 24, 3) := by decide +kernel
theorem dxA_append2_24 : decode cxA_append2 24 = .ok (.aload_n 0, 1) := by decide +kernel
theorem dxA_append2_25 : decode cxA_append2 25 = .ok (.getfield 15, 3) := by decide +kernel
theorem dxA_append2_28 : decode cxA_append2 28 = .ok (.aload_n 0, 1) := by decide +kernel
theorem dxA_append2_29 : decode cxA_append2 29 = .ok (.dup, 1) := by decide +kernel
theorem dxA_append2_30 : decode cxA_append2 30 = .ok (.getfield 79, 3) := by decide +kernel
theorem dxA_append2_33 : decode cxA_append2 33 = .ok (.dup_x1, 1) := by decide +kernel
theorem dxA_append2_34 : decode cxA_append2 34 = .ok (.iconst 1, 1) := by decide +kernel
theorem dxA_append2_35 : decode cxA_append2 35 = .ok (.iadd, 1) := by decide +kernel
theorem dxA_append2_36 : decode cxA_append2 36 = .ok (.putfield 79, 3) := by decide +kernel
theorem dxA_append2_39 : decode cxA_append2 39 = .ok (.iload_n 1, 1) := by decide +kernel
theorem dxA_append2_40 : decode cxA_append2 40 = .ok (.i2b, 1) := by decide +kernel
theorem dxA_append2_41 : decode cxA_append2 41 = .ok (.bastore, 1) := by decide +kernel
theorem dxA_append2_42 : decode cxA_append2 42 = .ok (.goto 33, 3) := by decide +kernel
theorem dxA_append2_45 : decode cxA_append2 45 = .ok (.aload_n 0, 1) := by decide +kernel
theorem dxA_append2_46 : decode cxA_append2 46 = .ok (.invokevirtual 83, 3) := by decide +kernel
theorem dxA_append2_49 : decode cxA_append2 49 = .ok (.ifCond .eq 7, 3) := by decide +kernel
theorem dxA_append2_52 : decode cxA_append2 52 = .ok (.aload_n 0, 1) := by decide +kernel
theorem dxA_append2_53 : decode cxA_append2 53 = .ok (.invokevirtual 195, 3) := by decide +kernel
theorem dxA_append2_56 : decode cxA_append2 56 = .ok (.aload_n 0, 1) := by decide +kernel
theorem dxA_append2_57 : decode cxA_append2 57 = .ok (.getfield 15, 3) := by decide +kernel
theorem dxA_append2_60 : decode cxA_append2 60 = .ok (.aload_n 0, 1) := by decide +kernel
theorem dxA_append2_61 : decode cxA_append2 61 = .ok (.dup, 1) := by decide +kernel
theorem dxA_append2_62 : decode cxA_append2 62 = .ok (.getfield 79, 3) := by decide +kernel
theorem dxA_append2_65 : decode cxA_append2 65 = .ok (.dup_x1, 1) := by decide +kernel
theorem dxA_append2_66 : decode cxA_append2 66 = .ok (.iconst 1, 1) := by decide +kernel
theorem dxA_append2_67 : decode cxA_append2 67 = .ok (.iadd, 1) := by decide +kernel
theorem dxA_append2_68 : decode cxA_append2 68 = .ok (.putfield 79, 3) := by decide +kernel
theorem dxA_append2_71 : decode cxA_append2 71 = .ok (.iload_n 1, 1) := by decide +kernel
theorem dxA_append2_72 : decode cxA_append2 72 = .ok (.invokestatic 197, 3) := by decide +kernel
theorem dxA_append2_75 : decode cxA_append2 75 = .ok (.aload_n 0, 1) := by decide +kernel
theorem dxA_append2_76 : decode cxA_append2 76 = .ok (.areturn, 1) := by decide +kernel
theorem dxU_canEncode_0 : decode cxU_canEncode 0 = .ok (.iload_n 0, 1) := by decide +kernel
theorem dxU_canEncode_1 : decode cxU_canEncode 1 = .ok (.sipush 255, 3) := by decide +kernel
theorem dxU_canEncode_4 : decode cxU_canEncode 4 = .ok (.if_icmp .gt 7, 3) := by decide +kernel
theorem dxU_canEncode_7 : decode cxU_canEncode 7 = .ok (.iconst 1, 1) := by decide +kernel
theorem dxU_canEncode_8 : decode cxU_canEncode 8 = .ok (.goto 4, 3) := by decide +kernel
theorem dxU_canEncode_11 : decode cxU_canEncode 11 = .ok (.iconst 0, 1) := by decide +kernel
theorem dxU_canEncode_12 : decode cxU_canEncode 12 = .ok (.ireturn, 1) := by decide +kernel
theorem dxS_checkIndex_0 : decode cxS_checkIndex 0 = .ok (.iload_n 0, 1) := by decide +kernel
theorem dxS_checkIndex_1 : decode cxS_checkIndex 1 = .ok (.iload_n 1, 1) := by decide +kernel
theorem dxS_checkIndex_2 : decode cxS_checkIndex 2 = .ok (.getstatic 1053, 3) := by decide +kernel
theorem dxS_checkIndex_5 : decode cxS_checkIndex 5 = .ok (.invokestatic 1059, 3) := by decide +kernel
theorem dxS_checkIndex_8 : decode cxS_checkIndex 8 = .ok (.pop, 1) := by decide +kernel
theorem dxS_checkIndex_9 : decode cxS_checkIndex 9 = .ok (.return_, 1) := by decide +kernel
theorem dxX_checkIndex_0 : decode cxX_checkIndex 0 = .ok (.iload_n 0, 1) := by decide +kernel
theorem dxX_checkIndex_1 : decode cxX_checkIndex 1 = .ok (.ifCond .lt 8, 3) := by decide +kernel
theorem dxX_checkIndex_4 : decode cxX_checkIndex 4 = .ok (.iload_n 0, 1) := by decide +kernel
theorem dxX_checkIndex_5 : decode cxX_checkIndex 5 = .ok (.iload_n 1, 1) := by decide +kernel
theorem dxX_checkIndex_6 : decode cxX_checkIndex 6 = .ok (.if_icmp .lt 10, 3) := by decide +kernel
theorem dxX_checkIndex_9 : decode cxX_checkIndex 9 = .ok (.aload_n 2, 1) := by decide +kernel
theorem dxX_checkIndex_10 : decode cxX_checkIndex 10 = .ok (.iload_n 0, 1) := by decide +kernel
theorem dxX_checkIndex_11 : decode cxX_checkIndex 11 = .ok (.iload_n 1, 1) := by decide +kernel
theorem dxX_checkIndex_12 : decode cxX_checkIndex 12 = .ok (.invokestatic 95, 3) := by decide +kernel
theorem dxX_checkIndex_15 : decode cxX_checkIndex 15 = .ok (.athrow, 1) := by decide +kernel
theorem dxX_checkIndex_16 : decode cxX_checkIndex 16 = .ok (.iload_n 0, 1) := by decide +kernel
theorem dxX_checkIndex_17 : decode cxX_checkIndex 17 = .ok (.ireturn, 1) := by decide +kernel
theorem dxB_append3_0 : decode cxB_append3 0 = .ok (.aload_n 0, 1) := by decide +kernel
theorem dxB_append3_1 : decode cxB_append3 1 = .ok (.iload_n 1, 1) := by decide +kernel
theorem dxB_append3_2 : decode cxB_append3 2 = .ok (.invokespecial 53, 3) := by decide +kernel
theorem dxB_append3_5 : decode cxB_append3 5 = .ok (.pop, 1) := by decide +kernel
theorem dxB_append3_6 : decode cxB_append3 6 = .ok (.aload_n 0, 1) := by decide +kernel
theorem dxB_append3_7 : decode cxB_append3 7 = .ok (.areturn, 1) := by decide +kernel
theorem dxA_append3_0 : decode cxA_append3 0 = .ok (.aload_n 0, 1) := by decide +kernel
theorem dxA_append3_1 : decode cxA_append3 1 = .ok (.getfield 79, 3) := by decide +kernel
theorem dxA_append3_4 : decode cxA_append3 4 = .ok (.istore_n 2, 1) := by decide +kernel
theorem dxA_append3_5 : decode cxA_append3 5 = .ok (.iload_n 2, 1) := by decide +kernel
theorem dxA_append3_6 : decode cxA_append3 6 = .ok (.iload_n 1, 1) := by decide +kernel
theorem dxA_append3_7 : decode cxA_append3 7 = .ok (.invokestatic 245, 3) := by decide +kernel
theorem dxA_append3_10 : decode cxA_append3 10 = .ok (.iadd, 1) := by decide +kernel
theorem dxA_append3_11 : decode cxA_append3 11 = .ok (.istore_n 3, 1) := by decide +kernel
theorem dxA_append3_12 : decode cxA_append3 12 = .ok (.aload_n 0, 1) := by decide +kernel
theorem dxA_append3_13 : decode cxA_append3 13 = .ok (.iload_n 3, 1) := by decide +kernel
theorem dxA_append3_14 : decode cxA_append3 14 = .ok (.invokevirtual 100, 3) := by decide +kernel
theorem dxA_append3_17 : decode cxA_append3 17 = .ok (.aload_n 0, 1) := by decide +kernel
theorem dxA_append3_18 : decode cxA_append3 18 = .ok (.invokevirtual 83, 3) := by decide +kernel
theorem dxA_append3_21 : decode cxA_append3 21 = .ok (.ifCond .eq 16, 3) := by decide +kernel
theorem dxA_append3_24 : decode cxA_append3 24 = .ok (.iload_n 1, 1) := by decide +kernel
theorem dxA_append3_25 : decode cxA_append3 25 = .ok (.iload_n 3, 1) := by decide +kernel
theorem dxA_append3_26 : decode cxA_append3 26 = .ok (.aload_n 0, 1) := by decide +kernel
theorem dxA_append3_27 : decode cxA_append3 27 = .ok (.getfield 15, 3) := by decide +kernel
theorem dxA_append3_30 : decode cxA_append3 30 = .ok (.invokestatic 248, 3) := by decide +kernel
theorem dxA_append3_33 : decode cxA_append3 33 = .ok (.pop, 1) := by decide +kernel
theorem dxA_append3_34 : decode cxA_append3 34 = .ok (.goto 14, 3) := by decide +kernel
theorem dxA_append3_37 : decode cxA_append3 37 = .ok (.iload_n 1, 1) := by decide +kernel
theorem dxA_append3_38 : decode cxA_append3 38 = .ok (.iload_n 2, 1) := by decide +kernel
theorem dxA_append3_39 : decode cxA_append3 39 = .ok (.iload_n 3, 1) := by decide +kernel
theorem dxA_append3_40 : decode cxA_append3 40 = .ok (.aload_n 0, 1) := by decide +kernel
theorem dxA_append3_41 : decode cxA_append3 41 = .ok (.getfield 15, 3) := by decide +kernel
theorem dxA_append3_44 : decode cxA_append3 44 = .ok (.invokestatic 251, 3) := by decide +kernel
theorem dxA_append3_47 : decode cxA_append3 47 = .ok (.pop, 1) := by decide +kernel
theorem dxA_append3_48 : decode cxA_append3 48 = .ok (.aload_n 0, 1) := by decide +kernel
theorem dxA_append3_49 : decode cxA_append3 49 = .ok (.iload_n 3, 1) := by decide +kernel
theorem dxA_append3_50 : decode cxA_append3 50 = .ok (.putfield 79, 3) := by decide +kernel
theorem dxA_append3_53 : decode cxA_append3 53 = .ok (.aload_n 0, 1) := by decide +kernel
theorem dxA_append3_54 : decode cxA_append3 54 = .ok (.areturn, 1) := by decide +kernel
theorem dxI_stringSize_0 : decode cxI_stringSize 0 = .ok (.iconst 1, 1) := by decide +kernel
theorem dxI_stringSize_1 : decode cxI_stringSize 1 = .ok (.istore_n 1, 1) := by decide +kernel
theorem dxI_stringSize_2 : decode cxI_stringSize 2 = .ok (.iload_n 0, 1) := by decide +kernel
theorem dxI_stringSize_3 : decode cxI_stringSize 3 = .ok (.ifCond .lt 8, 3) := by decide +kernel
theorem dxI_stringSize_6 : decode cxI_stringSize 6 = .ok (.iconst 0, 1) := by decide +kernel
theorem dxI_stringSize_7 : decode cxI_stringSize 7 = .ok (.istore_n 1, 1) := by decide +kernel
theorem dxI_stringSize_8 : decode cxI_stringSize 8 = .ok (.iload_n 0, 1) := by decide +kernel
theorem dxI_stringSize_9 : decode cxI_stringSize 9 = .ok (.ineg, 1) := by decide +kernel
theorem dxI_stringSize_10 : decode cxI_stringSize 10 = .ok (.istore_n 0, 1) := by decide +kernel
theorem dxI_stringSize_11 : decode cxI_stringSize 11 = .ok (.bipush (-10), 2) := by decide +kernel
theorem dxI_stringSize_13 : decode cxI_stringSize 13 = .ok (.istore_n 2, 1) := by decide +kernel
theorem dxI_stringSize_14 : decode cxI_stringSize 14 = .ok (.iconst 1, 1) := by decide +kernel
theorem dxI_stringSize_15 : decode cxI_stringSize 15 = .ok (.istore_n 3, 1) := by decide +kernel
theorem dxI_stringSize_16 : decode cxI_stringSize 16 = .ok (.iload_n 3, 1) := by decide +kernel
theorem dxI_stringSize_17 : decode cxI_stringSize 17 = .ok (.bipush 10, 2) := by decide +kernel
theorem dxI_stringSize_19 : decode cxI_stringSize 19 = .ok (.if_icmp .ge 23, 3) := by decide +kernel
theorem dxI_stringSize_22 : decode cxI_stringSize 22 = .ok (.iload_n 0, 1) := by decide +kernel
theorem dxI_stringSize_23 : decode cxI_stringSize 23 = .ok (.iload_n 2, 1) := by decide +kernel
theorem dxI_stringSize_24 : decode cxI_stringSize 24 = .ok (.if_icmp .le 7, 3) := by decide +kernel
theorem dxI_stringSize_27 : decode cxI_stringSize 27 = .ok (.iload_n 3, 1) := by decide +kernel
theorem dxI_stringSize_28 : decode cxI_stringSize 28 = .ok (.iload_n 1, 1) := by decide +kernel
theorem dxI_stringSize_29 : decode cxI_stringSize 29 = .ok (.iadd, 1) := by decide +kernel
theorem dxI_stringSize_30 : decode cxI_stringSize 30 = .ok (.ireturn, 1) := by decide +kernel
theorem dxI_stringSize_31 : decode cxI_stringSize 31 = .ok (.bipush 10, 2) := by decide +kernel
theorem dxI_stringSize_33 : decode cxI_stringSize 33 = .ok (.iload_n 2, 1) := by decide +kernel
theorem dxI_stringSize_34 : decode cxI_stringSize 34 = .ok (.imul, 1) := by decide +kernel
theorem dxI_stringSize_35 : decode cxI_stringSize 35 = .ok (.istore_n 2, 1) := by decide +kernel
theorem dxI_stringSize_36 : decode cxI_stringSize 36 = .ok (.iinc 3 1, 3) := by decide +kernel
theorem dxI_stringSize_39 : decode cxI_stringSize 39 = .ok (.goto (-23), 3) := by decide +kernel
theorem dxI_stringSize_42 : decode cxI_stringSize 42 = .ok (.bipush 10, 2) := by decide +kernel
theorem dxI_stringSize_44 : decode cxI_stringSize 44 = .ok (.iload_n 1, 1) := by decide +kernel
theorem dxI_stringSize_45 : decode cxI_stringSize 45 = .ok (.iadd, 1) := by decide +kernel
theorem dxI_stringSize_46 : decode cxI_stringSize 46 = .ok (.ireturn, 1) := by decide +kernel
theorem dxI_getChars_0 : decode cxI_getChars 0 = .ok (.iload_n 1, 1) := by decide +kernel
theorem dxI_getChars_1 : decode cxI_getChars 1 = .ok (.istore 5, 2) := by decide +kernel
theorem dxI_getChars_3 : decode cxI_getChars 3 = .ok (.iload_n 0, 1) := by decide +kernel
theorem dxI_getChars_4 : decode cxI_getChars 4 = .ok (.ifCond .ge 7, 3) := by decide +kernel
theorem dxI_getChars_7 : decode cxI_getChars 7 = .ok (.iconst 1, 1) := by decide +kernel
theorem dxI_getChars_8 : decode cxI_getChars 8 = .ok (.goto 4, 3) := by decide +kernel
theorem dxI_getChars_11 : decode cxI_getChars 11 = .ok (.iconst 0, 1) := by decide +kernel
theorem dxI_getChars_12 : decode cxI_getChars 12 = .ok (.istore 6, 2) := by decide +kernel
theorem dxI_getChars_14 : decode cxI_getChars 14 = .ok (.iload 6, 2) := by decide +kernel
theorem dxI_getChars_16 : decode cxI_getChars 16 = .ok (.ifCond .ne 6, 3) := by decide +kernel
theorem dxI_getChars_19 : decode cxI_getChars 19 = .ok (.iload_n 0, 1) := by decide +kernel
theorem dxI_getChars_20 : decode cxI_getChars 20 = .ok (.ineg, 1) := by decide +kernel
theorem dxI_getChars_21 : decode cxI_getChars 21 = .ok (.istore_n 0, 1) := by decide +kernel
theorem dxI_getChars_22 : decode cxI_getChars 22 = .ok (.iload_n 0, 1) := by decide +kernel
theorem dxI_getChars_23 : decode cxI_getChars 23 = .ok (.bipush (-100), 2) := by decide +kernel
theorem dxI_getChars_25 : decode cxI_getChars 25 = .ok (.if_icmp .gt 47, 3) := by decide +kernel
theorem dxI_getChars_28 : decode cxI_getChars 28 = .ok (.iload_n 0, 1) := by decide +kernel
theorem dxI_getChars_29 : decode cxI_getChars 29 = .ok (.bipush 100, 2) := by decide +kernel
theorem dxI_getChars_31 : decode cxI_getChars 31 = .ok (.idiv, 1) := by decide +kernel
theorem dxI_getChars_32 : decode cxI_getChars 32 = .ok (.istore_n 3, 1) := by decide +kernel
theorem dxI_getChars_33 : decode cxI_getChars 33 = .ok (.iload_n 3, 1) := by decide +kernel
theorem dxI_getChars_34 : decode cxI_getChars 34 = .ok (.bipush 100, 2) := by decide +kernel
theorem dxI_getChars_36 : decode cxI_getChars 36 = .ok (.imul, 1) := by decide +kernel
theorem dxI_getChars_37 : decode cxI_getChars 37 = .ok (.iload_n 0, 1) := by decide +kernel
theorem dxI_getChars_38 : decode cxI_getChars 38 = .ok (.isub, 1) := by decide +kernel
theorem dxI_getChars_39 : decode cxI_getChars 39 = .ok (.istore 4, 2) := by decide +kernel
theorem dxI_getChars_41 : decode cxI_getChars 41 = .ok (.iload_n 3, 1) := by decide +kernel
theorem dxI_getChars_42 : decode cxI_getChars 42 = .ok (.istore_n 0, 1) := by decide +kernel
theorem dxI_getChars_43 : decode cxI_getChars 43 = .ok (.aload_n 2, 1) := by decide +kernel
theorem dxI_getChars_44 : decode cxI_getChars 44 = .ok (.iinc 5 (-1), 3) := by decide +kernel
theorem dxI_getChars_47 : decode cxI_getChars 47 = .ok (.iload 5, 2) := by decide +kernel
theorem dxI_getChars_49 : decode cxI_getChars 49 = .ok (.getstatic 83, 3) := by decide +kernel
theorem dxI_getChars_52 : decode cxI_getChars 52 = .ok (.iload 4, 2) := by decide +kernel
theorem dxI_getChars_54 : decode cxI_getChars 54 = .ok (.baload, 1) := by decide +kernel
theorem dxI_getChars_55 : decode cxI_getChars 55 = .ok (.bastore, 1) := by decide +kernel
theorem dxI_getChars_56 : decode cxI_getChars 56 = .ok (.aload_n 2, 1) := by decide +kernel
theorem dxI_getChars_57 : decode cxI_getChars 57 = .ok (.iinc 5 (-1), 3) := by decide +kernel
theorem dxI_getChars_60 : decode cxI_getChars 60 = .ok (.iload 5, 2) := by decide +kernel
theorem dxI_getChars_62 : decode cxI_getChars 62 = .ok (.getstatic 87, 3) := by decide +kernel
theorem dxI_getChars_65 : decode cxI_getChars 65 = .ok (.iload 4, 2) := by decide +kernel
theorem dxI_getChars_67 : decode cxI_getChars 67 = .ok (.baload, 1) := by decide +kernel
theorem dxI_getChars_68 : decode cxI_getChars 68 = .ok (.bastore, 1) := by decide +kernel
theorem dxI_getChars_69 : decode cxI_getChars 69 = .ok (.goto (-47), 3) := by decide +kernel
theorem dxI_getChars_72 : decode cxI_getChars 72 = .ok (.aload_n 2, 1) := by decide +kernel
theorem dxI_getChars_73 : decode cxI_getChars 73 = .ok (.iinc 5 (-1), 3) := by decide +kernel
theorem dxI_getChars_76 : decode cxI_getChars 76 = .ok (.iload 5, 2) := by decide +kernel
theorem dxI_getChars_78 : decode cxI_getChars 78 = .ok (.getstatic 83, 3) := by decide +kernel
theorem dxI_getChars_81 : decode cxI_getChars 81 = .ok (.iload_n 0, 1) := by decide +kernel
theorem dxI_getChars_82 : decode cxI_getChars 82 = .ok (.ineg, 1) := by decide +kernel
theorem dxI_getChars_83 : decode cxI_getChars 83 = .ok (.baload, 1) := by decide +kernel
theorem dxI_getChars_84 : decode cxI_getChars 84 = .ok (.bastore, 1) := by decide +kernel
theorem dxI_getChars_85 : decode cxI_getChars 85 = .ok (.iload_n 0, 1) := by decide +kernel
theorem dxI_getChars_86 : decode cxI_getChars 86 = .ok (.bipush (-9), 2) := by decide +kernel
theorem dxI_getChars_88 : decode cxI_getChars 88 = .ok (.if_icmp .ge 16, 3) := by decide +kernel
theorem dxI_getChars_91 : decode cxI_getChars 91 = .ok (.aload_n 2, 1) := by decide +kernel
theorem dxI_getChars_92 : decode cxI_getChars 92 = .ok (.iinc 5 (-1), 3) := by decide +kernel
theorem dxI_getChars_95 : decode cxI_getChars 95 = .ok (.iload 5, 2) := by decide +kernel
theorem dxI_getChars_97 : decode cxI_getChars 97 = .ok (.getstatic 87, 3) := by decide +kernel
theorem dxI_getChars_100 : decode cxI_getChars 100 = .ok (.iload_n 0, 1) := by decide +kernel
theorem dxI_getChars_101 : decode cxI_getChars 101 = .ok (.ineg, 1) := by decide +kernel
theorem dxI_getChars_102 : decode cxI_getChars 102 = .ok (.baload, 1) := by decide +kernel
theorem dxI_getChars_103 : decode cxI_getChars 103 = .ok (.bastore, 1) := by decide +kernel
theorem dxI_getChars_104 : decode cxI_getChars 104 = .ok (.iload 6, 2) := by decide +kernel
theorem dxI_getChars_106 : decode cxI_getChars 106 = .ok (.ifCond .eq 12, 3) := by decide +kernel
theorem dxI_getChars_109 : decode cxI_getChars 109 = .ok (.aload_n 2, 1) := by decide +kernel
theorem dxI_getChars_110 : decode cxI_getChars 110 = .ok (.iinc 5 (-1), 3) := by decide +kernel
theorem dxI_getChars_113 : decode cxI_getChars 113 = .ok (.iload 5, 2) := by decide +kernel
theorem dxI_getChars_115 : decode cxI_getChars 115 = .ok (.bipush 45, 2) := by decide +kernel
theorem dxI_getChars_117 : decode cxI_getChars 117 = .ok (.bastore, 1) := by decide +kernel
theorem dxI_getChars_118 : decode cxI_getChars 118 = .ok (.iload 5, 2) := by decide +kernel
theorem dxI_getChars_120 : decode cxI_getChars 120 = .ok (.ireturn, 1) := by decide +kernel
theorem dxB_length_0 : decode cxB_length 0 = .ok (.aload_n 0, 1) := by decide +kernel
theorem dxB_length_1 : decode cxB_length 1 = .ok (.invokespecial 343, 3) := by decide +kernel
theorem dxB_length_4 : decode cxB_length 4 = .ok (.ireturn, 1) := by decide +kernel
theorem dxA_length_0 : decode cxA_length 0 = .ok (.aload_n 0, 1) := by decide +kernel
theorem dxA_length_1 : decode cxA_length 1 = .ok (.getfield 79, 3) := by decide +kernel
theorem dxA_length_4 : decode cxA_length 4 = .ok (.ireturn, 1) := by decide +kernel
theorem dxB_charAt_0 : decode cxB_charAt 0 = .ok (.aload_n 0, 1) := by decide +kernel
theorem dxB_charAt_1 : decode cxB_charAt 1 = .ok (.iload_n 1, 1) := by decide +kernel
theorem dxB_charAt_2 : decode cxB_charAt 2 = .ok (.invokespecial 329, 3) := by decide +kernel
theorem dxB_charAt_5 : decode cxB_charAt 5 = .ok (.ireturn, 1) := by decide +kernel
theorem dxA_charAt_0 : decode cxA_charAt 0 = .ok (.aload_n 0, 1) := by decide +kernel
theorem dxA_charAt_1 : decode cxA_charAt 1 = .ok (.getfield 22, 3) := by decide +kernel
theorem dxA_charAt_4 : decode cxA_charAt 4 = .ok (.istore_n 2, 1) := by decide +kernel
theorem dxA_charAt_5 : decode cxA_charAt 5 = .ok (.aload_n 0, 1) := by decide +kernel
theorem dxA_charAt_6 : decode cxA_charAt 6 = .ok (.getfield 15, 3) := by decide +kernel
theorem dxA_charAt_9 : decode cxA_charAt 9 = .ok (.astore_n 3, 1) := by decide +kernel
theorem dxA_charAt_10 : decode cxA_charAt 10 = .ok (.aload_n 0, 1) := by decide +kernel
theorem dxA_charAt_11 : decode cxA_charAt 11 = .ok (.getfield 79, 3) := by decide +kernel
theorem dxA_charAt_14 : decode cxA_charAt 14 = .ok (.aload_n 3, 1) := by decide +kernel
theorem dxA_charAt_15 : decode cxA_charAt 15 = .ok (.arraylength, 1) := by decide +kernel
theorem dxA_charAt_16 : decode cxA_charAt 16 = .ok (.iload_n 2, 1) := by decide +kernel
theorem dxA_charAt_17 : decode cxA_charAt 17 = .ok (.ishr, 1) := by decide +kernel
theorem dxA_charAt_18 : decode cxA_charAt 18 = .ok (.invokestatic 138, 3) := by decide +kernel
theorem dxA_charAt_21 : decode cxA_charAt 21 = .ok (.istore 4, 2) := by decide +kernel
theorem dxA_charAt_23 : decode cxA_charAt 23 = .ok (.iload_n 1, 1) := by decide +kernel
theorem dxA_charAt_24 : decode cxA_charAt 24 = .ok (.iload 4, 2) := by decide +kernel
theorem dxA_charAt_26 : decode cxA_charAt 26 = .ok (.invokestatic 144, 3) := by decide +kernel
theorem dxA_charAt_29 : decode cxA_charAt 29 = .ok (.iload_n 2, 1) := by decide +kernel
theorem dxA_charAt_30 : decode cxA_charAt 30 = .ok (.ifCond .ne 12, 3) := by decide +kernel
theorem dxA_charAt_33 : decode cxA_charAt 33 = .ok (.aload_n 3, 1) := by decide +kernel
theorem dxA_charAt_34 : decode cxA_charAt 34 = .ok (.iload_n 1, 1) := by decide +kernel
theorem dxA_charAt_35 : decode cxA_charAt 35 = .ok (.baload, 1) := by decide +kernel
theorem dxA_charAt_36 : decode cxA_charAt 36 = .ok (.sipush 255, 3) := by decide +kernel
theorem dxA_charAt_39 : decode cxA_charAt 39 = .ok (.iand, 1) := by decide +kernel
theorem dxA_charAt_40 : decode cxA_charAt 40 = .ok (.i2c, 1) := by decide +kernel
theorem dxA_charAt_41 : decode cxA_charAt 41 = .ok (.ireturn, 1) := by decide +kernel
theorem dxA_charAt_42 : decode cxA_charAt 42 = .ok (.aload_n 3, 1) := by decide +kernel
theorem dxA_charAt_43 : decode cxA_charAt 43 = .ok (.iload_n 1, 1) := by decide +kernel
theorem dxA_charAt_44 : decode cxA_charAt 44 = .ok (.invokestatic 148, 3) := by decide +kernel
theorem dxA_charAt_47 : decode cxA_charAt 47 = .ok (.ireturn, 1) := by decide +kernel
