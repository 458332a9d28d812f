theorem dX3_fence_24 : decode cX3_fence 24 = .ok (.pop, 1) := by decide +kernel
theorem dX3_fence_25 : decode cX3_fence 25 = .ok (.iconst 1, 1) := by decide +kernel
theorem dX3_fence_26 : decode cX3_fence 26 = .ok (.ireturn, 1) := by decide +kernel
theorem dX3_want_0 : decode cX3_want 0 = .ok (.aload_n 0, 1) := by decide +kernel
theorem dX3_want_1 : decode cX3_want 1 = .ok (.iload_n 1, 1) := by decide +kernel
theorem dX3_want_2 : decode cX3_want 2 = .ok (.putfield 13, 3) := by decide +kernel
theorem dX3_want_5 : decode cX3_want 5 = .ok (.aload_n 0, 1) := by decide +kernel
theorem dX3_want_6 : decode cX3_want 6 = .ok (.lload_n 2, 1) := by decide +kernel
theorem dX3_want_7 : decode cX3_want 7 = .ok (.putfield 117, 3) := by decide +kernel
theorem dX3_want_10 : decode cX3_want 10 = .ok (.aload_n 0, 1) := by decide +kernel
theorem dX3_want_11 : decode cX3_want 11 = .ok (.iload 4, 2) := by decide +kernel
theorem dX3_want_13 : decode cX3_want 13 = .ok (.putfield 120, 3) := by decide +kernel
theorem dX3_want_16 : decode cX3_want 16 = .ok (.aload_n 0, 1) := by decide +kernel
theorem dX3_want_17 : decode cX3_want 17 = .ok (.lload 5, 2) := by decide +kernel
theorem dX3_want_19 : decode cX3_want 19 = .ok (.putfield 123, 3) := by decide +kernel
theorem dX3_want_22 : decode cX3_want 22 = .ok (.aload_n 0, 1) := by decide +kernel
theorem dX3_want_23 : decode cX3_want 23 = .ok (.iload 7, 2) := by decide +kernel
theorem dX3_want_25 : decode cX3_want 25 = .ok (.putfield 126, 3) := by decide +kernel
theorem dX3_want_28 : decode cX3_want 28 = .ok (.aload_n 0, 1) := by decide +kernel
theorem dX3_want_29 : decode cX3_want 29 = .ok (.iload 8, 2) := by decide +kernel
theorem dX3_want_31 : decode cX3_want 31 = .ok (.putfield 129, 3) := by decide +kernel
theorem dX3_want_34 : decode cX3_want 34 = .ok (.iload_n 1, 1) := by decide +kernel
theorem dX3_want_35 : decode cX3_want 35 = .ok (.ireturn, 1) := by decide +kernel
theorem dX3_load_0 : decode cX3_load 0 = .ok (.iload_n 1, 1) := by decide +kernel
theorem dX3_load_1 : decode cX3_load 1 = .ok (.invokestatic 157, 3) := by decide +kernel
theorem dX3_load_4 : decode cX3_load 4 = .ok (.istore_n 2, 1) := by decide +kernel
theorem dX3_load_5 : decode cX3_load 5 = .ok (.iload_n 2, 1) := by decide +kernel
theorem dX3_load_6 : decode cX3_load 6 = .ok (.bipush 6, 2) := by decide +kernel
theorem dX3_load_8 : decode cX3_load 8 = .ok (.if_icmp .le 5, 3) := by decide +kernel
theorem dX3_load_11 : decode cX3_load 11 = .ok (.iconst (-1), 1) := by decide +kernel
theorem dX3_load_12 : decode cX3_load 12 = .ok (.ireturn, 1) := by decide +kernel
theorem dX3_load_13 : decode cX3_load 13 = .ok (.aload_n 0, 1) := by decide +kernel
theorem dX3_load_14 : decode cX3_load 14 = .ok (.iconst 2, 1) := by decide +kernel
theorem dX3_load_15 : decode cX3_load 15 = .ok (.aload_n 0, 1) := by decide +kernel
theorem dX3_load_16 : decode cX3_load 16 = .ok (.iload_n 1, 1) := by decide +kernel
theorem dX3_load_17 : decode cX3_load 17 = .ok (.invokevirtual 101, 3) := by decide +kernel
theorem dX3_load_20 : decode cX3_load 20 = .ok (.iload_n 1, 1) := by decide +kernel
theorem dX3_load_21 : decode cX3_load 21 = .ok (.invokestatic 160, 3) := by decide +kernel
theorem dX3_load_24 : decode cX3_load 24 = .ok (.i2l, 1) := by decide +kernel
theorem dX3_load_25 : decode cX3_load 25 = .ok (.ladd, 1) := by decide +kernel
theorem dX3_load_26 : decode cX3_load 26 = .ok (.iconst 1, 1) := by decide +kernel
theorem dX3_load_27 : decode cX3_load 27 = .ok (.iload_n 2, 1) := by decide +kernel
theorem dX3_load_28 : decode cX3_load 28 = .ok (.iconst 3, 1) := by decide +kernel
theorem dX3_load_29 : decode cX3_load 29 = .ok (.iand, 1) := by decide +kernel
theorem dX3_load_30 : decode cX3_load 30 = .ok (.ishl, 1) := by decide +kernel
theorem dX3_load_31 : decode cX3_load 31 = .ok (.lconst 0, 1) := by decide +kernel
theorem dX3_load_32 : decode cX3_load 32 = .ok (.iload_n 2, 1) := by decide +kernel
theorem dX3_load_33 : decode cX3_load 33 = .ok (.iconst 3, 1) := by decide +kernel
theorem dX3_load_34 : decode cX3_load 34 = .ok (.if_icmp .le 7, 3) := by decide +kernel
theorem dX3_load_37 : decode cX3_load 37 = .ok (.iconst 1, 1) := by decide +kernel
theorem dX3_load_38 : decode cX3_load 38 = .ok (.goto 4, 3) := by decide +kernel
theorem dX3_load_41 : decode cX3_load 41 = .ok (.iconst 0, 1) := by decide +kernel
theorem dX3_load_42 : decode cX3_load 42 = .ok (.iload_n 1, 1) := by decide +kernel
theorem dX3_load_43 : decode cX3_load 43 = .ok (.invokestatic 105, 3) := by decide +kernel
theorem dX3_load_46 : decode cX3_load 46 = .ok (.invokevirtual 108, 3) := by decide +kernel
theorem dX3_load_49 : decode cX3_load 49 = .ok (.ireturn, 1) := by decide +kernel
theorem dX3_store_0 : decode cX3_store 0 = .ok (.iload_n 1, 1) := by decide +kernel
theorem dX3_store_1 : decode cX3_store 1 = .ok (.invokestatic 157, 3) := by decide +kernel
theorem dX3_store_4 : decode cX3_store 4 = .ok (.istore_n 2, 1) := by decide +kernel
theorem dX3_store_5 : decode cX3_store 5 = .ok (.iload_n 2, 1) := by decide +kernel
theorem dX3_store_6 : decode cX3_store 6 = .ok (.iconst 3, 1) := by decide +kernel
theorem dX3_store_7 : decode cX3_store 7 = .ok (.if_icmp .le 5, 3) := by decide +kernel
theorem dX3_store_10 : decode cX3_store 10 = .ok (.iconst (-1), 1) := by decide +kernel
theorem dX3_store_11 : decode cX3_store 11 = .ok (.ireturn, 1) := by decide +kernel
theorem dX3_store_12 : decode cX3_store 12 = .ok (.aload_n 0, 1) := by decide +kernel
theorem dX3_store_13 : decode cX3_store 13 = .ok (.iconst 3, 1) := by decide +kernel
theorem dX3_store_14 : decode cX3_store 14 = .ok (.aload_n 0, 1) := by decide +kernel
theorem dX3_store_15 : decode cX3_store 15 = .ok (.iload_n 1, 1) := by decide +kernel
theorem dX3_store_16 : decode cX3_store 16 = .ok (.invokevirtual 101, 3) := by decide +kernel
theorem dX3_store_19 : decode cX3_store 19 = .ok (.iload_n 1, 1) := by decide +kernel
theorem dX3_store_20 : decode cX3_store 20 = .ok (.invokestatic 202, 3) := by decide +kernel
theorem dX3_store_23 : decode cX3_store 23 = .ok (.i2l, 1) := by decide +kernel
theorem dX3_store_24 : decode cX3_store 24 = .ok (.ladd, 1) := by decide +kernel
theorem dX3_store_25 : decode cX3_store 25 = .ok (.iconst 1, 1) := by decide +kernel
theorem dX3_store_26 : decode cX3_store 26 = .ok (.iload_n 2, 1) := by decide +kernel
theorem dX3_store_27 : decode cX3_store 27 = .ok (.ishl, 1) := by decide +kernel
theorem dX3_store_28 : decode cX3_store 28 = .ok (.aload_n 0, 1) := by decide +kernel
theorem dX3_store_29 : decode cX3_store 29 = .ok (.iload_n 1, 1) := by decide +kernel
theorem dX3_store_30 : decode cX3_store 30 = .ok (.invokevirtual 163, 3) := by decide +kernel
theorem dX3_store_33 : decode cX3_store 33 = .ok (.iconst 0, 1) := by decide +kernel
theorem dX3_store_34 : decode cX3_store 34 = .ok (.iconst 0, 1) := by decide +kernel
theorem dX3_store_35 : decode cX3_store 35 = .ok (.invokevirtual 108, 3) := by decide +kernel
theorem dX3_store_38 : decode cX3_store 38 = .ok (.ireturn, 1) := by decide +kernel
theorem dX3_atomic_0 : decode cX3_atomic 0 = .ok (.iload_n 1, 1) := by decide +kernel
theorem dX3_atomic_1 : decode cX3_atomic 1 = .ok (.invokestatic 157, 3) := by decide +kernel
theorem dX3_atomic_4 : decode cX3_atomic 4 = .ok (.istore_n 2, 1) := by decide +kernel
theorem dX3_atomic_5 : decode cX3_atomic 5 = .ok (.iload_n 2, 1) := by decide +kernel
theorem dX3_atomic_6 : decode cX3_atomic 6 = .ok (.invokestatic 205, 3) := by decide +kernel
theorem dX3_atomic_9 : decode cX3_atomic 9 = .ok (.ifCond .eq 17, 3) := by decide +kernel
theorem dX3_atomic_12 : decode cX3_atomic 12 = .ok (.iload_n 1, 1) := by decide +kernel
theorem dX3_atomic_13 : decode cX3_atomic 13 = .ok (.invokestatic 208, 3) := by decide +kernel
theorem dX3_atomic_16 : decode cX3_atomic 16 = .ok (.iload_n 1, 1) := by decide +kernel
theorem dX3_atomic_17 : decode cX3_atomic 17 = .ok (.invokestatic 154, 3) := by decide +kernel
theorem dX3_atomic_20 : decode cX3_atomic 20 = .ok (.invokestatic 211, 3) := by decide +kernel
theorem dX3_atomic_23 : decode cX3_atomic 23 = .ok (.ifCond .ne 5, 3) := by decide +kernel
theorem dX3_atomic_26 : decode cX3_atomic 26 = .ok (.iconst (-1), 1) := by decide +kernel
theorem dX3_atomic_27 : decode cX3_atomic 27 = .ok (.ireturn, 1) := by decide +kernel
theorem dX3_atomic_28 : decode cX3_atomic 28 = .ok (.aload_n 0, 1) := by decide +kernel
theorem dX3_atomic_29 : decode cX3_atomic 29 = .ok (.iconst 4, 1) := by decide +kernel
theorem dX3_atomic_30 : decode cX3_atomic 30 = .ok (.aload_n 0, 1) := by decide +kernel
theorem dX3_atomic_31 : decode cX3_atomic 31 = .ok (.iload_n 1, 1) := by decide +kernel
theorem dX3_atomic_32 : decode cX3_atomic 32 = .ok (.invokevirtual 101, 3) := by decide +kernel
theorem dX3_atomic_35 : decode cX3_atomic 35 = .ok (.iconst 1, 1) := by decide +kernel
theorem dX3_atomic_36 : decode cX3_atomic 36 = .ok (.iload_n 2, 1) := by decide +kernel
theorem dX3_atomic_37 : decode cX3_atomic 37 = .ok (.ishl, 1) := by decide +kernel
theorem dX3_atomic_38 : decode cX3_atomic 38 = .ok (.aload_n 0, 1) := by decide +kernel
theorem dX3_atomic_39 : decode cX3_atomic 39 = .ok (.iload_n 1, 1) := by decide +kernel
theorem dX3_atomic_40 : decode cX3_atomic 40 = .ok (.invokevirtual 163, 3) := by decide +kernel
theorem dX3_atomic_43 : decode cX3_atomic 43 = .ok (.iload_n 1, 1) := by decide +kernel
theorem dX3_atomic_44 : decode cX3_atomic 44 = .ok (.invokestatic 208, 3) := by decide +kernel
theorem dX3_atomic_47 : decode cX3_atomic 47 = .ok (.iload_n 1, 1) := by decide +kernel
theorem dX3_atomic_48 : decode cX3_atomic 48 = .ok (.invokestatic 105, 3) := by decide +kernel
theorem dX3_atomic_51 : decode cX3_atomic 51 = .ok (.invokevirtual 108, 3) := by decide +kernel
theorem dX3_atomic_54 : decode cX3_atomic 54 = .ok (.ireturn, 1) := by decide +kernel
theorem dX3_isFourOrEightBytes_0 : decode cX3_isFourOrEightBytes 0 = .ok (.iload_n 0, 1) := by decide +kernel
theorem dX3_isFourOrEightBytes_1 : decode cX3_isFourOrEightBytes 1 = .ok (.iconst 2, 1) := by decide +kernel
theorem dX3_isFourOrEightBytes_2 : decode cX3_isFourOrEightBytes 2 = .ok (.if_icmp .eq 8, 3) := by decide +kernel
theorem dX3_isFourOrEightBytes_5 : decode cX3_isFourOrEightBytes 5 = .ok (.iload_n 0, 1) := by decide +kernel
theorem dX3_isFourOrEightBytes_6 : decode cX3_isFourOrEightBytes 6 = .ok (.iconst 3, 1) := by decide +kernel
theorem dX3_isFourOrEightBytes_7 : decode cX3_isFourOrEightBytes 7 = .ok (.if_icmp .ne 7, 3) := by decide +kernel
theorem dX3_isFourOrEightBytes_10 : decode cX3_isFourOrEightBytes 10 = .ok (.iconst 1, 1) := by decide +kernel
theorem dX3_isFourOrEightBytes_11 : decode cX3_isFourOrEightBytes 11 = .ok (.goto 4, 3) := by decide +kernel
theorem dX3_isFourOrEightBytes_14 : decode cX3_isFourOrEightBytes 14 = .ok (.iconst 0, 1) := by decide +kernel
theorem dX3_isFourOrEightBytes_15 : decode cX3_isFourOrEightBytes 15 = .ok (.ireturn, 1) := by decide +kernel
theorem dX3_isAtomicSort_0 : decode cX3_isAtomicSort 0 = .ok (.iload_n 0, 1) := by decide +kernel
theorem dX3_isAtomicSort_1 : decode cX3_isAtomicSort 1 = .ok (.iconst 2, 1) := by decide +kernel
theorem dX3_isAtomicSort_2 : decode cX3_isAtomicSort 2 = .ok (.if_icmp .ne 13, 3) := by decide +kernel
theorem dX3_isAtomicSort_5 : decode cX3_isAtomicSort 5 = .ok (.iload_n 1, 1) := by decide +kernel
theorem dX3_isAtomicSort_6 : decode cX3_isAtomicSort 6 = .ok (.ifCond .ne 7, 3) := by decide +kernel
theorem dX3_isAtomicSort_9 : decode cX3_isAtomicSort 9 = .ok (.iconst 1, 1) := by decide +kernel
theorem dX3_isAtomicSort_10 : decode cX3_isAtomicSort 10 = .ok (.goto 4, 3) := by decide +kernel
theorem dX3_isAtomicSort_13 : decode cX3_isAtomicSort 13 = .ok (.iconst 0, 1) := by decide +kernel
theorem dX3_isAtomicSort_14 : decode cX3_isAtomicSort 14 = .ok (.ireturn, 1) := by decide +kernel
theorem dX3_isAtomicSort_15 : decode cX3_isAtomicSort 15 = .ok (.iload_n 0, 1) := by decide +kernel
theorem dX3_isAtomicSort_16 : decode cX3_isAtomicSort 16 = .ok (.iconst 4, 1) := by decide +kernel
theorem dX3_isAtomicSort_17 : decode cX3_isAtomicSort 17 = .ok (.if_icmp .lt 9, 3) := by decide +kernel
theorem dX3_isAtomicSort_20 : decode cX3_isAtomicSort 20 = .ok (.iload_n 0, 1) := by decide +kernel
theorem dX3_isAtomicSort_21 : decode cX3_isAtomicSort 21 = .ok (.iconst 4, 1) := by decide +kernel
theorem dX3_isAtomicSort_22 : decode cX3_isAtomicSort 22 = .ok (.irem, 1) := by decide +kernel
theorem dX3_isAtomicSort_23 : decode cX3_isAtomicSort 23 = .ok (.ifCond .ne 7, 3) := by decide +kernel
theorem dX3_isAtomicSort_26 : decode cX3_isAtomicSort 26 = .ok (.iconst 1, 1) := by decide +kernel
theorem dX3_isAtomicSort_27 : decode cX3_isAtomicSort 27 = .ok (.goto 4, 3) := by decide +kernel
theorem dX3_isAtomicSort_30 : decode cX3_isAtomicSort 30 = .ok (.iconst 0, 1) := by decide +kernel
theorem dX3_isAtomicSort_31 : decode cX3_isAtomicSort 31 = .ok (.ireturn, 1) := by decide +kernel
theorem dX3_loadFloat_0 : decode cX3_loadFloat 0 = .ok (.iload_n 1, 1) := by decide +kernel
theorem dX3_loadFloat_1 : decode cX3_loadFloat 1 = .ok (.invokestatic 157, 3) := by decide +kernel
theorem dX3_loadFloat_4 : decode cX3_loadFloat 4 = .ok (.istore_n 2, 1) := by decide +kernel
theorem dX3_loadFloat_5 : decode cX3_loadFloat 5 = .ok (.iload_n 2, 1) := by decide +kernel
theorem dX3_loadFloat_6 : decode cX3_loadFloat 6 = .ok (.invokestatic 205, 3) := by decide +kernel
theorem dX3_loadFloat_9 : decode cX3_loadFloat 9 = .ok (.ifCond .ne 5, 3) := by decide +kernel
theorem dX3_loadFloat_12 : decode cX3_loadFloat 12 = .ok (.iconst (-1), 1) := by decide +kernel
theorem dX3_loadFloat_13 : decode cX3_loadFloat 13 = .ok (.ireturn, 1) := by decide +kernel
theorem dX3_loadFloat_14 : decode cX3_loadFloat 14 = .ok (.aload_n 0, 1) := by decide +kernel
theorem dX3_loadFloat_15 : decode cX3_loadFloat 15 = .ok (.iconst 5, 1) := by decide +kernel
theorem dX3_loadFloat_16 : decode cX3_loadFloat 16 = .ok (.aload_n 0, 1) := by decide +kernel
theorem dX3_loadFloat_17 : decode cX3_loadFloat 17 = .ok (.iload_n 1, 1) := by decide +kernel
theorem dX3_loadFloat_18 : decode cX3_loadFloat 18 = .ok (.invokevirtual 101, 3) := by decide +kernel
theorem dX3_loadFloat_21 : decode cX3_loadFloat 21 = .ok (.iload_n 1, 1) := by decide +kernel
theorem dX3_loadFloat_22 : decode cX3_loadFloat 22 = .ok (.invokestatic 160, 3) := by decide +kernel
theorem dX3_loadFloat_25 : decode cX3_loadFloat 25 = .ok (.i2l, 1) := by decide +kernel
theorem dX3_loadFloat_26 : decode cX3_loadFloat 26 = .ok (.ladd, 1) := by decide +kernel
theorem dX3_loadFloat_27 : decode cX3_loadFloat 27 = .ok (.iconst 1, 1) := by decide +kernel
theorem dX3_loadFloat_28 : decode cX3_loadFloat 28 = .ok (.iload_n 2, 1) := by decide +kernel
theorem dX3_loadFloat_29 : decode cX3_loadFloat 29 = .ok (.ishl, 1) := by decide +kernel
theorem dX3_loadFloat_30 : decode cX3_loadFloat 30 = .ok (.lconst 0, 1) := by decide +kernel
theorem dX3_loadFloat_31 : decode cX3_loadFloat 31 = .ok (.iload_n 1, 1) := by decide +kernel
theorem dX3_loadFloat_32 : decode cX3_loadFloat 32 = .ok (.invokestatic 46, 3) := by decide +kernel
theorem dX3_loadFloat_35 : decode cX3_loadFloat 35 = .ok (.iload_n 1, 1) := by decide +kernel
theorem dX3_loadFloat_36 : decode cX3_loadFloat 36 = .ok (.invokestatic 105, 3) := by decide +kernel
theorem dX3_loadFloat_39 : decode cX3_loadFloat 39 = .ok (.invokevirtual 108, 3) := by decide +kernel
theorem dX3_loadFloat_42 : decode cX3_loadFloat 42 = .ok (.ireturn, 1) := by decide +kernel
theorem dX3_storeFloat_0 : decode cX3_storeFloat 0 = .ok (.iload_n 1, 1) := by decide +kernel
theorem dX3_storeFloat_1 : decode cX3_storeFloat 1 = .ok (.invokestatic 157, 3) := by decide +kernel
theorem dX3_storeFloat_4 : decode cX3_storeFloat 4 = .ok (.istore_n 2, 1) := by decide +kernel
theorem dX3_storeFloat_5 : decode cX3_storeFloat 5 = .ok (.iload_n 2, 1) := by decide +kernel
theorem dX3_storeFloat_6 : decode cX3_storeFloat 6 = .ok (.invokestatic 205, 3) := by decide +kernel
theorem dX3_storeFloat_9 : decode cX3_storeFloat 9 = .ok (.ifCond .ne 5, 3) := by decide +kernel
theorem dX3_storeFloat_12 : decode cX3_storeFloat 12 = .ok (.iconst (-1), 1) := by decide +kernel
theorem dX3_storeFloat_13 : decode cX3_storeFloat 13 = .ok (.ireturn, 1) := by decide +kernel
theorem dX3_storeFloat_14 : decode cX3_storeFloat 14 = .ok (.aload_n 0, 1) := by decide +kernel
theorem dX3_storeFloat_15 : decode cX3_storeFloat 15 = .ok (.iconst 5, 1) := by decide +kernel
theorem dX3_storeFloat_16 : decode cX3_storeFloat 16 = .ok (.aload_n 0, 1) := by decide +kernel
theorem dX3_storeFloat_17 : decode cX3_storeFloat 17 = .ok (.iload_n 1, 1) := by decide +kernel
theorem dX3_storeFloat_18 : decode cX3_storeFloat 18 = .ok (.invokevirtual 101, 3) := by decide +kernel
theorem dX3_storeFloat_21 : decode cX3_storeFloat 21 = .ok (.iload_n 1, 1) := by decide +kernel
theorem dX3_storeFloat_22 : decode cX3_storeFloat 22 = .ok (.invokestatic 202, 3) := by decide +kernel
theorem dX3_storeFloat_25 : decode cX3_storeFloat 25 = .ok (.i2l, 1) := by decide +kernel
theorem dX3_storeFloat_26 : decode cX3_storeFloat 26 = .ok (.ladd, 1) := by decide +kernel
theorem dX3_storeFloat_27 : decode cX3_storeFloat 27 = .ok (.iconst 1, 1) := by decide +kernel
theorem dX3_storeFloat_28 : decode cX3_storeFloat 28 = .ok (.iload_n 2, 1) := by decide +kernel
theorem dX3_storeFloat_29 : decode cX3_storeFloat 29 = .ok (.ishl, 1) := by decide +kernel
theorem dX3_storeFloat_30 : decode cX3_storeFloat 30 = .ok (.lconst 0, 1) := by decide +kernel
theorem dX3_storeFloat_31 : decode cX3_storeFloat 31 = .ok (.iload_n 1, 1) := by decide +kernel
theorem dX3_storeFloat_32 : decode cX3_storeFloat 32 = .ok (.invokestatic 46, 3) := by decide +kernel
theorem dX3_storeFloat_35 : decode cX3_storeFloat 35 = .ok (.iconst 0, 1) := by decide +kernel
theorem dX3_storeFloat_36 : decode cX3_storeFloat 36 = .ok (.invokevirtual 108, 3) := by decide +kernel
theorem dX3_storeFloat_39 : decode cX3_storeFloat 39 = .ok (.ireturn, 1) := by decide +kernel
theorem dX3_control_0 : decode cX3_control 0 = .ok (.iload_n 1, 1) := by decide +kernel
theorem dX3_control_1 : decode cX3_control 1 = .ok (.invokestatic 157, 3) := by decide +kernel
theorem dX3_control_4 : decode cX3_control 4 = .ok (.istore_n 2, 1) := by decide +kernel
theorem dX3_control_5 : decode cX3_control 5 = .ok (.iload_n 2, 1) := by decide +kernel
theorem dX3_control_6 : decode cX3_control 6 = .ok (.iconst 4, 1) := by decide +kernel
theorem dX3_control_7 : decode cX3_control 7 = .ok (.if_icmp .ne 5, 3) := by decide +kernel
theorem dX3_control_10 : decode cX3_control 10 = .ok (.iconst (-1), 1) := by decide +kernel
theorem dX3_control_11 : decode cX3_control 11 = .ok (.ireturn, 1) := by decide +kernel
theorem dX3_control_12 : decode cX3_control 12 = .ok (.aload_n 0, 1) := by decide +kernel
theorem dX3_control_13 : decode cX3_control 13 = .ok (.bipush 6, 2) := by decide +kernel
theorem dX3_control_15 : decode cX3_control 15 = .ok (.iload_n 1, 1) := by decide +kernel
theorem dX3_control_16 : decode cX3_control 16 = .ok (.invokestatic 215, 3) := by decide +kernel
theorem dX3_control_19 : decode cX3_control 19 = .ok (.i2l, 1) := by decide +kernel
theorem dX3_control_20 : decode cX3_control 20 = .ok (.iconst 0, 1) := by decide +kernel
theorem dX3_control_21 : decode cX3_control 21 = .ok (.iload_n 2, 1) := by decide +kernel
theorem dX3_control_22 : decode cX3_control 22 = .ok (.iconst 4, 1) := by decide +kernel
theorem dX3_control_23 : decode cX3_control 23 = .ok (.if_icmp .le 11, 3) := by decide +kernel
theorem dX3_control_26 : decode cX3_control 26 = .ok (.iload_n 1, 1) := by decide +kernel
theorem dX3_control_27 : decode cX3_control 27 = .ok (.invokestatic 148, 3) := by decide +kernel
theorem dX3_control_30 : decode cX3_control 30 = .ok (.i2l, 1) := by decide +kernel
theorem dX3_control_31 : decode cX3_control 31 = .ok (.goto 8, 3) := by decide +kernel
theorem dX3_control_34 : decode cX3_control 34 = .ok (.aload_n 0, 1) := by decide +kernel
theorem dX3_control_35 : decode cX3_control 35 = .ok (.iload_n 1, 1) := by decide +kernel
theorem dX3_control_36 : decode cX3_control 36 = .ok (.invokevirtual 101, 3) := by decide +kernel
theorem dX3_control_39 : decode cX3_control 39 = .ok (.iload_n 2, 1) := by decide +kernel
theorem dX3_control_40 : decode cX3_control 40 = .ok (.iload_n 1, 1) := by decide +kernel
theorem dX3_control_41 : decode cX3_control 41 = .ok (.invokestatic 105, 3) := by decide +kernel
theorem dX3_control_44 : decode cX3_control 44 = .ok (.invokevirtual 108, 3) := by decide +kernel
theorem dX3_control_47 : decode cX3_control 47 = .ok (.ireturn, 1) := by decide +kernel
theorem dX3_trimmed_0 : decode cX3_trimmed 0 = .ok (.aload_n 0, 1) := by decide +kernel
theorem dX3_trimmed_1 : decode cX3_trimmed 1 = .ok (.getfield 13, 3) := by decide +kernel
theorem dX3_trimmed_4 : decode cX3_trimmed 4 = .ok (.iconst 2, 1) := by decide +kernel
theorem dX3_trimmed_5 : decode cX3_trimmed 5 = .ok (.if_icmp .ne 35, 3) := by decide +kernel
theorem dX3_trimmed_8 : decode cX3_trimmed 8 = .ok (.bipush 64, 2) := by decide +kernel
theorem dX3_trimmed_10 : decode cX3_trimmed 10 = .ok (.bipush 8, 2) := by decide +kernel
theorem dX3_trimmed_12 : decode cX3_trimmed 12 = .ok (.aload_n 0, 1) := by decide +kernel
theorem dX3_trimmed_13 : decode cX3_trimmed 13 = .ok (.getfield 120, 3) := by decide +kernel
theorem dX3_trimmed_16 : decode cX3_trimmed 16 = .ok (.imul, 1) := by decide +kernel
theorem dX3_trimmed_17 : decode cX3_trimmed 17 = .ok (.isub, 1) := by decide +kernel
theorem dX3_trimmed_18 : decode cX3_trimmed 18 = .ok (.istore_n 3, 1) := by decide +kernel
theorem dX3_trimmed_19 : decode cX3_trimmed 19 = .ok (.aload_n 0, 1) := by decide +kernel
theorem dX3_trimmed_20 : decode cX3_trimmed 20 = .ok (.getfield 126, 3) := by decide +kernel
theorem dX3_trimmed_23 : decode cX3_trimmed 23 = .ok (.ifCond .ne 11, 3) := by decide +kernel
theorem dX3_trimmed_26 : decode cX3_trimmed 26 = .ok (.lload_n 1, 1) := by decide +kernel
theorem dX3_trimmed_27 : decode cX3_trimmed 27 = .ok (.iload_n 3, 1) := by decide +kernel
theorem dX3_trimmed_28 : decode cX3_trimmed 28 = .ok (.lshl, 1) := by decide +kernel
theorem dX3_trimmed_29 : decode cX3_trimmed 29 = .ok (.iload_n 3, 1) := by decide +kernel
theorem dX3_trimmed_30 : decode cX3_trimmed 30 = .ok (.lshr, 1) := by decide +kernel
theorem dX3_trimmed_31 : decode cX3_trimmed 31 = .ok (.goto 8, 3) := by decide +kernel
theorem dX3_trimmed_34 : decode cX3_trimmed 34 = .ok (.lload_n 1, 1) := by decide +kernel
theorem dX3_trimmed_35 : decode cX3_trimmed 35 = .ok (.iload_n 3, 1) := by decide +kernel
theorem dX3_trimmed_36 : decode cX3_trimmed 36 = .ok (.lshl, 1) := by decide +kernel
theorem dX3_trimmed_37 : decode cX3_trimmed 37 = .ok (.iload_n 3, 1) := by decide +kernel
theorem dX3_trimmed_38 : decode cX3_trimmed 38 = .ok (.lushr, 1) := by decide +kernel
theorem dX3_trimmed_39 : decode cX3_trimmed 39 = .ok (.lreturn, 1) := by decide +kernel
theorem dX3_trimmed_40 : decode cX3_trimmed 40 = .ok (.aload_n 0, 1) := by decide +kernel
theorem dX3_trimmed_41 : decode cX3_trimmed 41 = .ok (.getfield 13, 3) := by decide +kernel
theorem dX3_trimmed_44 : decode cX3_trimmed 44 = .ok (.iconst 4, 1) := by decide +kernel
theorem dX3_trimmed_45 : decode cX3_trimmed 45 = .ok (.if_icmp .ne 15, 3) := by decide +kernel
theorem dX3_trimmed_48 : decode cX3_trimmed 48 = .ok (.aload_n 0, 1) := by decide +kernel
theorem dX3_trimmed_49 : decode cX3_trimmed 49 = .ok (.getfield 120, 3) := by decide +kernel
theorem dX3_trimmed_52 : decode cX3_trimmed 52 = .ok (.iconst 4, 1) := by decide +kernel
theorem dX3_trimmed_53 : decode cX3_trimmed 53 = .ok (.if_icmp .ne 7, 3) := by decide +kernel
theorem dX3_trimmed_56 : decode cX3_trimmed 56 = .ok (.lload_n 1, 1) := by decide +kernel
theorem dX3_trimmed_57 : decode cX3_trimmed 57 = .ok (.l2i, 1) := by decide +kernel
theorem dX3_trimmed_58 : decode cX3_trimmed 58 = .ok (.i2l, 1) := by decide +kernel
theorem dX3_trimmed_59 : decode cX3_trimmed 59 = .ok (.lreturn, 1) := by decide +kernel
theorem dX3_trimmed_60 : decode cX3_trimmed 60 = .ok (.lload_n 1, 1) := by decide +kernel
theorem dX3_trimmed_61 : decode cX3_trimmed 61 = .ok (.lreturn, 1) := by decide +kernel
