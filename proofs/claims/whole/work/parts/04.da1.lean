theorem dX2_bits_9 : decode cX2_bits 9 = .ok (.ishl, 1) := by decide +kernel
theorem dX2_bits_10 : decode cX2_bits 10 = .ok (.iconst 1, 1) := by decide +kernel
theorem dX2_bits_11 : decode cX2_bits 11 = .ok (.isub, 1) := by decide +kernel
theorem dX2_bits_12 : decode cX2_bits 12 = .ok (.iand, 1) := by decide +kernel
theorem dX2_bits_13 : decode cX2_bits 13 = .ok (.ireturn, 1) := by decide +kernel
theorem dX2_code_0 : decode cX2_code 0 = .ok (.iload_n 0, 1) := by decide +kernel
theorem dX2_code_1 : decode cX2_code 1 = .ok (.bipush 6, 2) := by decide +kernel
theorem dX2_code_3 : decode cX2_code 3 = .ok (.iconst 0, 1) := by decide +kernel
theorem dX2_code_4 : decode cX2_code 4 = .ok (.invokestatic 7, 3) := by decide +kernel
theorem dX2_code_7 : decode cX2_code 7 = .ok (.ireturn, 1) := by decide +kernel
theorem dX2_d_0 : decode cX2_d 0 = .ok (.iload_n 0, 1) := by decide +kernel
theorem dX2_d_1 : decode cX2_d 1 = .ok (.bipush 11, 2) := by decide +kernel
theorem dX2_d_3 : decode cX2_d 3 = .ok (.bipush 7, 2) := by decide +kernel
theorem dX2_d_5 : decode cX2_d 5 = .ok (.invokestatic 7, 3) := by decide +kernel
theorem dX2_d_8 : decode cX2_d 8 = .ok (.ireturn, 1) := by decide +kernel
theorem dX2_f_0 : decode cX2_f 0 = .ok (.iload_n 0, 1) := by decide +kernel
theorem dX2_f_1 : decode cX2_f 1 = .ok (.bipush 14, 2) := by decide +kernel
theorem dX2_f_3 : decode cX2_f 3 = .ok (.bipush 12, 2) := by decide +kernel
theorem dX2_f_5 : decode cX2_f 5 = .ok (.invokestatic 7, 3) := by decide +kernel
theorem dX2_f_8 : decode cX2_f 8 = .ok (.ireturn, 1) := by decide +kernel
theorem dX2_a_0 : decode cX2_a 0 = .ok (.iload_n 0, 1) := by decide +kernel
theorem dX2_a_1 : decode cX2_a 1 = .ok (.bipush 19, 2) := by decide +kernel
theorem dX2_a_3 : decode cX2_a 3 = .ok (.bipush 15, 2) := by decide +kernel
theorem dX2_a_5 : decode cX2_a 5 = .ok (.invokestatic 7, 3) := by decide +kernel
theorem dX2_a_8 : decode cX2_a 8 = .ok (.ireturn, 1) := by decide +kernel
theorem dX2_b_0 : decode cX2_b 0 = .ok (.iload_n 0, 1) := by decide +kernel
theorem dX2_b_1 : decode cX2_b 1 = .ok (.bipush 24, 2) := by decide +kernel
theorem dX2_b_3 : decode cX2_b 3 = .ok (.bipush 20, 2) := by decide +kernel
theorem dX2_b_5 : decode cX2_b 5 = .ok (.invokestatic 7, 3) := by decide +kernel
theorem dX2_b_8 : decode cX2_b 8 = .ok (.ireturn, 1) := by decide +kernel
theorem dX2_g_0 : decode cX2_g 0 = .ok (.iload_n 0, 1) := by decide +kernel
theorem dX2_g_1 : decode cX2_g 1 = .ok (.bipush 31, 2) := by decide +kernel
theorem dX2_g_3 : decode cX2_g 3 = .ok (.bipush 25, 2) := by decide +kernel
theorem dX2_g_5 : decode cX2_g 5 = .ok (.invokestatic 7, 3) := by decide +kernel
theorem dX2_g_8 : decode cX2_g 8 = .ok (.ireturn, 1) := by decide +kernel
theorem dX2_aboveLongShift_0 : decode cX2_aboveLongShift 0 = .ok (.iload_n 0, 1) := by decide +kernel
theorem dX2_aboveLongShift_1 : decode cX2_aboveLongShift 1 = .ok (.bipush 31, 2) := by decide +kernel
theorem dX2_aboveLongShift_3 : decode cX2_aboveLongShift 3 = .ok (.bipush 26, 2) := by decide +kernel
theorem dX2_aboveLongShift_5 : decode cX2_aboveLongShift 5 = .ok (.invokestatic 7, 3) := by decide +kernel
theorem dX2_aboveLongShift_8 : decode cX2_aboveLongShift 8 = .ok (.ireturn, 1) := by decide +kernel
theorem dX2_atomicSort_0 : decode cX2_atomicSort 0 = .ok (.iload_n 0, 1) := by decide +kernel
theorem dX2_atomicSort_1 : decode cX2_atomicSort 1 = .ok (.bipush 31, 2) := by decide +kernel
theorem dX2_atomicSort_3 : decode cX2_atomicSort 3 = .ok (.bipush 27, 2) := by decide +kernel
theorem dX2_atomicSort_5 : decode cX2_atomicSort 5 = .ok (.invokestatic 7, 3) := by decide +kernel
theorem dX2_atomicSort_8 : decode cX2_atomicSort 8 = .ok (.ireturn, 1) := by decide +kernel
theorem dX2_controlNumber_0 : decode cX2_controlNumber 0 = .ok (.iload_n 0, 1) := by decide +kernel
theorem dX2_controlNumber_1 : decode cX2_controlNumber 1 = .ok (.bipush 31, 2) := by decide +kernel
theorem dX2_controlNumber_3 : decode cX2_controlNumber 3 = .ok (.bipush 20, 2) := by decide +kernel
theorem dX2_controlNumber_5 : decode cX2_controlNumber 5 = .ok (.invokestatic 7, 3) := by decide +kernel
theorem dX2_controlNumber_8 : decode cX2_controlNumber 8 = .ok (.ireturn, 1) := by decide +kernel
theorem dX2_immediateI_0 : decode cX2_immediateI 0 = .ok (.iload_n 0, 1) := by decide +kernel
theorem dX2_immediateI_1 : decode cX2_immediateI 1 = .ok (.bipush 20, 2) := by decide +kernel
theorem dX2_immediateI_3 : decode cX2_immediateI 3 = .ok (.ishr, 1) := by decide +kernel
theorem dX2_immediateI_4 : decode cX2_immediateI 4 = .ok (.ireturn, 1) := by decide +kernel
theorem dX2_immediateS_0 : decode cX2_immediateS 0 = .ok (.iload_n 0, 1) := by decide +kernel
theorem dX2_immediateS_1 : decode cX2_immediateS 1 = .ok (.bipush 25, 2) := by decide +kernel
theorem dX2_immediateS_3 : decode cX2_immediateS 3 = .ok (.ishr, 1) := by decide +kernel
theorem dX2_immediateS_4 : decode cX2_immediateS 4 = .ok (.iconst 5, 1) := by decide +kernel
theorem dX2_immediateS_5 : decode cX2_immediateS 5 = .ok (.ishl, 1) := by decide +kernel
theorem dX2_immediateS_6 : decode cX2_immediateS 6 = .ok (.iload_n 0, 1) := by decide +kernel
theorem dX2_immediateS_7 : decode cX2_immediateS 7 = .ok (.bipush 11, 2) := by decide +kernel
theorem dX2_immediateS_9 : decode cX2_immediateS 9 = .ok (.bipush 7, 2) := by decide +kernel
theorem dX2_immediateS_11 : decode cX2_immediateS 11 = .ok (.invokestatic 7, 3) := by decide +kernel
theorem dX2_immediateS_14 : decode cX2_immediateS 14 = .ok (.ior, 1) := by decide +kernel
theorem dX2_immediateS_15 : decode cX2_immediateS 15 = .ok (.ireturn, 1) := by decide +kernel
theorem dX2_immediateB_0 : decode cX2_immediateB 0 = .ok (.iload_n 0, 1) := by decide +kernel
theorem dX2_immediateB_1 : decode cX2_immediateB 1 = .ok (.bipush 31, 2) := by decide +kernel
theorem dX2_immediateB_3 : decode cX2_immediateB 3 = .ok (.ishr, 1) := by decide +kernel
theorem dX2_immediateB_4 : decode cX2_immediateB 4 = .ok (.bipush 12, 2) := by decide +kernel
theorem dX2_immediateB_6 : decode cX2_immediateB 6 = .ok (.ishl, 1) := by decide +kernel
theorem dX2_immediateB_7 : decode cX2_immediateB 7 = .ok (.iload_n 0, 1) := by decide +kernel
theorem dX2_immediateB_8 : decode cX2_immediateB 8 = .ok (.bipush 7, 2) := by decide +kernel
theorem dX2_immediateB_10 : decode cX2_immediateB 10 = .ok (.bipush 7, 2) := by decide +kernel
theorem dX2_immediateB_12 : decode cX2_immediateB 12 = .ok (.invokestatic 7, 3) := by decide +kernel
theorem dX2_immediateB_15 : decode cX2_immediateB 15 = .ok (.bipush 11, 2) := by decide +kernel
theorem dX2_immediateB_17 : decode cX2_immediateB 17 = .ok (.ishl, 1) := by decide +kernel
theorem dX2_immediateB_18 : decode cX2_immediateB 18 = .ok (.ior, 1) := by decide +kernel
theorem dX2_immediateB_19 : decode cX2_immediateB 19 = .ok (.iload_n 0, 1) := by decide +kernel
theorem dX2_immediateB_20 : decode cX2_immediateB 20 = .ok (.bipush 30, 2) := by decide +kernel
theorem dX2_immediateB_22 : decode cX2_immediateB 22 = .ok (.bipush 25, 2) := by decide +kernel
theorem dX2_immediateB_24 : decode cX2_immediateB 24 = .ok (.invokestatic 7, 3) := by decide +kernel
theorem dX2_immediateB_27 : decode cX2_immediateB 27 = .ok (.iconst 5, 1) := by decide +kernel
theorem dX2_immediateB_28 : decode cX2_immediateB 28 = .ok (.ishl, 1) := by decide +kernel
theorem dX2_immediateB_29 : decode cX2_immediateB 29 = .ok (.ior, 1) := by decide +kernel
theorem dX2_immediateB_30 : decode cX2_immediateB 30 = .ok (.iload_n 0, 1) := by decide +kernel
theorem dX2_immediateB_31 : decode cX2_immediateB 31 = .ok (.bipush 11, 2) := by decide +kernel
theorem dX2_immediateB_33 : decode cX2_immediateB 33 = .ok (.bipush 8, 2) := by decide +kernel
theorem dX2_immediateB_35 : decode cX2_immediateB 35 = .ok (.invokestatic 7, 3) := by decide +kernel
theorem dX2_immediateB_38 : decode cX2_immediateB 38 = .ok (.iconst 1, 1) := by decide +kernel
theorem dX2_immediateB_39 : decode cX2_immediateB 39 = .ok (.ishl, 1) := by decide +kernel
theorem dX2_immediateB_40 : decode cX2_immediateB 40 = .ok (.ior, 1) := by decide +kernel
theorem dX2_immediateB_41 : decode cX2_immediateB 41 = .ok (.ireturn, 1) := by decide +kernel
theorem dX2_immediateU_0 : decode cX2_immediateU 0 = .ok (.iload_n 0, 1) := by decide +kernel
theorem dX2_immediateU_1 : decode cX2_immediateU 1 = .ok (.bipush 12, 2) := by decide +kernel
theorem dX2_immediateU_3 : decode cX2_immediateU 3 = .ok (.ishr, 1) := by decide +kernel
theorem dX2_immediateU_4 : decode cX2_immediateU 4 = .ok (.bipush 12, 2) := by decide +kernel
theorem dX2_immediateU_6 : decode cX2_immediateU 6 = .ok (.ishl, 1) := by decide +kernel
theorem dX2_immediateU_7 : decode cX2_immediateU 7 = .ok (.ireturn, 1) := by decide +kernel
theorem dX2_immediateJ_0 : decode cX2_immediateJ 0 = .ok (.iload_n 0, 1) := by decide +kernel
theorem dX2_immediateJ_1 : decode cX2_immediateJ 1 = .ok (.bipush 31, 2) := by decide +kernel
theorem dX2_immediateJ_3 : decode cX2_immediateJ 3 = .ok (.ishr, 1) := by decide +kernel
theorem dX2_immediateJ_4 : decode cX2_immediateJ 4 = .ok (.bipush 20, 2) := by decide +kernel
theorem dX2_immediateJ_6 : decode cX2_immediateJ 6 = .ok (.ishl, 1) := by decide +kernel
theorem dX2_immediateJ_7 : decode cX2_immediateJ 7 = .ok (.iload_n 0, 1) := by decide +kernel
theorem dX2_immediateJ_8 : decode cX2_immediateJ 8 = .ok (.bipush 19, 2) := by decide +kernel
theorem dX2_immediateJ_10 : decode cX2_immediateJ 10 = .ok (.bipush 12, 2) := by decide +kernel
theorem dX2_immediateJ_12 : decode cX2_immediateJ 12 = .ok (.invokestatic 7, 3) := by decide +kernel
theorem dX2_immediateJ_15 : decode cX2_immediateJ 15 = .ok (.bipush 12, 2) := by decide +kernel
theorem dX2_immediateJ_17 : decode cX2_immediateJ 17 = .ok (.ishl, 1) := by decide +kernel
theorem dX2_immediateJ_18 : decode cX2_immediateJ 18 = .ok (.ior, 1) := by decide +kernel
theorem dX2_immediateJ_19 : decode cX2_immediateJ 19 = .ok (.iload_n 0, 1) := by decide +kernel
theorem dX2_immediateJ_20 : decode cX2_immediateJ 20 = .ok (.bipush 20, 2) := by decide +kernel
theorem dX2_immediateJ_22 : decode cX2_immediateJ 22 = .ok (.bipush 20, 2) := by decide +kernel
theorem dX2_immediateJ_24 : decode cX2_immediateJ 24 = .ok (.invokestatic 7, 3) := by decide +kernel
theorem dX2_immediateJ_27 : decode cX2_immediateJ 27 = .ok (.bipush 11, 2) := by decide +kernel
theorem dX2_immediateJ_29 : decode cX2_immediateJ 29 = .ok (.ishl, 1) := by decide +kernel
theorem dX2_immediateJ_30 : decode cX2_immediateJ 30 = .ok (.ior, 1) := by decide +kernel
theorem dX2_immediateJ_31 : decode cX2_immediateJ 31 = .ok (.iload_n 0, 1) := by decide +kernel
theorem dX2_immediateJ_32 : decode cX2_immediateJ 32 = .ok (.bipush 30, 2) := by decide +kernel
theorem dX2_immediateJ_34 : decode cX2_immediateJ 34 = .ok (.bipush 21, 2) := by decide +kernel
theorem dX2_immediateJ_36 : decode cX2_immediateJ 36 = .ok (.invokestatic 7, 3) := by decide +kernel
theorem dX2_immediateJ_39 : decode cX2_immediateJ 39 = .ok (.iconst 1, 1) := by decide +kernel
theorem dX2_immediateJ_40 : decode cX2_immediateJ 40 = .ok (.ishl, 1) := by decide +kernel
theorem dX2_immediateJ_41 : decode cX2_immediateJ 41 = .ok (.ior, 1) := by decide +kernel
theorem dX2_immediateJ_42 : decode cX2_immediateJ 42 = .ok (.ireturn, 1) := by decide +kernel
theorem dJ0_divideUnsigned_0 : decode cJ0_divideUnsigned 0 = .ok (.iload_n 0, 1) := by decide +kernel
theorem dJ0_divideUnsigned_1 : decode cJ0_divideUnsigned 1 = .ok (.invokestatic 38, 3) := by decide +kernel
theorem dJ0_divideUnsigned_4 : decode cJ0_divideUnsigned 4 = .ok (.iload_n 1, 1) := by decide +kernel
theorem dJ0_divideUnsigned_5 : decode cJ0_divideUnsigned 5 = .ok (.invokestatic 38, 3) := by decide +kernel
theorem dJ0_divideUnsigned_8 : decode cJ0_divideUnsigned 8 = .ok (.ldiv, 1) := by decide +kernel
theorem dJ0_divideUnsigned_9 : decode cJ0_divideUnsigned 9 = .ok (.l2i, 1) := by decide +kernel
theorem dJ0_divideUnsigned_10 : decode cJ0_divideUnsigned 10 = .ok (.ireturn, 1) := by decide +kernel
theorem dJ0_toUnsignedLong_0 : decode cJ0_toUnsignedLong 0 = .ok (.iload_n 0, 1) := by decide +kernel
theorem dJ0_toUnsignedLong_1 : decode cJ0_toUnsignedLong 1 = .ok (.i2l, 1) := by decide +kernel
theorem dJ0_toUnsignedLong_2 : decode cJ0_toUnsignedLong 2 = .ok (.ldc2_w 262, 3) := by decide +kernel
theorem dJ0_toUnsignedLong_5 : decode cJ0_toUnsignedLong 5 = .ok (.land, 1) := by decide +kernel
theorem dJ0_toUnsignedLong_6 : decode cJ0_toUnsignedLong 6 = .ok (.lreturn, 1) := by decide +kernel
theorem dJ0_remainderUnsigned_0 : decode cJ0_remainderUnsigned 0 = .ok (.iload_n 0, 1) := by decide +kernel
theorem dJ0_remainderUnsigned_1 : decode cJ0_remainderUnsigned 1 = .ok (.invokestatic 38, 3) := by decide +kernel
theorem dJ0_remainderUnsigned_4 : decode cJ0_remainderUnsigned 4 = .ok (.iload_n 1, 1) := by decide +kernel
theorem dJ0_remainderUnsigned_5 : decode cJ0_remainderUnsigned 5 = .ok (.invokestatic 38, 3) := by decide +kernel
theorem dJ0_remainderUnsigned_8 : decode cJ0_remainderUnsigned 8 = .ok (.lrem, 1) := by decide +kernel
theorem dJ0_remainderUnsigned_9 : decode cJ0_remainderUnsigned 9 = .ok (.l2i, 1) := by decide +kernel
theorem dJ0_remainderUnsigned_10 : decode cJ0_remainderUnsigned 10 = .ok (.ireturn, 1) := by decide +kernel
theorem dJ1_compareUnsigned_0 : decode cJ1_compareUnsigned 0 = .ok (.lload_n 0, 1) := by decide +kernel
theorem dJ1_compareUnsigned_1 : decode cJ1_compareUnsigned 1 = .ok (.ldc2_w 168, 3) := by decide +kernel
theorem dJ1_compareUnsigned_4 : decode cJ1_compareUnsigned 4 = .ok (.ladd, 1) := by decide +kernel
theorem dJ1_compareUnsigned_5 : decode cJ1_compareUnsigned 5 = .ok (.lload_n 2, 1) := by decide +kernel
theorem dJ1_compareUnsigned_6 : decode cJ1_compareUnsigned 6 = .ok (.ldc2_w 168, 3) := by decide +kernel
theorem dJ1_compareUnsigned_9 : decode cJ1_compareUnsigned 9 = .ok (.ladd, 1) := by decide +kernel
theorem dJ1_compareUnsigned_10 : decode cJ1_compareUnsigned 10 = .ok (.invokestatic 302, 3) := by decide +kernel
theorem dJ1_compareUnsigned_13 : decode cJ1_compareUnsigned 13 = .ok (.ireturn, 1) := by decide +kernel
theorem dJ1_compare_0 : decode cJ1_compare 0 = .ok (.lload_n 0, 1) := by decide +kernel
theorem dJ1_compare_1 : decode cJ1_compare 1 = .ok (.lload_n 2, 1) := by decide +kernel
theorem dJ1_compare_2 : decode cJ1_compare 2 = .ok (.lcmp, 1) := by decide +kernel
theorem dJ1_compare_3 : decode cJ1_compare 3 = .ok (.ifCond .ge 7, 3) := by decide +kernel
theorem dJ1_compare_6 : decode cJ1_compare 6 = .ok (.iconst (-1), 1) := by decide +kernel
theorem dJ1_compare_7 : decode cJ1_compare 7 = .ok (.goto 14, 3) := by decide +kernel
theorem dJ1_compare_10 : decode cJ1_compare 10 = .ok (.lload_n 0, 1) := by decide +kernel
theorem dJ1_compare_11 : decode cJ1_compare 11 = .ok (.lload_n 2, 1) := by decide +kernel
theorem dJ1_compare_12 : decode cJ1_compare 12 = .ok (.lcmp, 1) := by decide +kernel
theorem dJ1_compare_13 : decode cJ1_compare 13 = .ok (.ifCond .ne 7, 3) := by decide +kernel
theorem dJ1_compare_16 : decode cJ1_compare 16 = .ok (.iconst 0, 1) := by decide +kernel
theorem dJ1_compare_17 : decode cJ1_compare 17 = .ok (.goto 4, 3) := by decide +kernel
theorem dJ1_compare_20 : decode cJ1_compare 20 = .ok (.iconst 1, 1) := by decide +kernel
theorem dJ1_compare_21 : decode cJ1_compare 21 = .ok (.ireturn, 1) := by decide +kernel
theorem dJ2_multiplyHigh_0 : decode cJ2_multiplyHigh 0 = .ok (.lload_n 0, 1) := by decide +kernel
theorem dJ2_multiplyHigh_1 : decode cJ2_multiplyHigh 1 = .ok (.bipush 32, 2) := by decide +kernel
theorem dJ2_multiplyHigh_3 : decode cJ2_multiplyHigh 3 = .ok (.lshr, 1) := by decide +kernel
theorem dJ2_multiplyHigh_4 : decode cJ2_multiplyHigh 4 = .ok (.lstore 4, 2) := by decide +kernel
theorem dJ2_multiplyHigh_6 : decode cJ2_multiplyHigh 6 = .ok (.lload_n 0, 1) := by decide +kernel
theorem dJ2_multiplyHigh_7 : decode cJ2_multiplyHigh 7 = .ok (.ldc2_w 138, 3) := by decide +kernel
theorem dJ2_multiplyHigh_10 : decode cJ2_multiplyHigh 10 = .ok (.land, 1) := by decide +kernel
theorem dJ2_multiplyHigh_11 : decode cJ2_multiplyHigh 11 = .ok (.lstore 6, 2) := by decide +kernel
theorem dJ2_multiplyHigh_13 : decode cJ2_multiplyHigh 13 = .ok (.lload_n 2, 1) := by decide +kernel
theorem dJ2_multiplyHigh_14 : decode cJ2_multiplyHigh 14 = .ok (.bipush 32, 2) := by decide +kernel
theorem dJ2_multiplyHigh_16 : decode cJ2_multiplyHigh 16 = .ok (.lshr, 1) := by decide +kernel
theorem dJ2_multiplyHigh_17 : decode cJ2_multiplyHigh 17 = .ok (.lstore 8, 2) := by decide +kernel
theorem dJ2_multiplyHigh_19 : decode cJ2_multiplyHigh 19 = .ok (.lload_n 2, 1) := by decide +kernel
theorem dJ2_multiplyHigh_20 : decode cJ2_multiplyHigh 20 = .ok (.ldc2_w 138, 3) := by decide +kernel
theorem dJ2_multiplyHigh_23 : decode cJ2_multiplyHigh 23 = .ok (.land, 1) := by decide +kernel
theorem dJ2_multiplyHigh_24 : decode cJ2_multiplyHigh 24 = .ok (.lstore 10, 2) := by decide +kernel
theorem dJ2_multiplyHigh_26 : decode cJ2_multiplyHigh 26 = .ok (.lload 6, 2) := by decide +kernel
theorem dJ2_multiplyHigh_28 : decode cJ2_multiplyHigh 28 = .ok (.lload 10, 2) := by decide +kernel
theorem dJ2_multiplyHigh_30 : decode cJ2_multiplyHigh 30 = .ok (.lmul, 1) := by decide +kernel
theorem dJ2_multiplyHigh_31 : decode cJ2_multiplyHigh 31 = .ok (.lstore 12, 2) := by decide +kernel
theorem dJ2_multiplyHigh_33 : decode cJ2_multiplyHigh 33 = .ok (.lload 4, 2) := by decide +kernel
theorem dJ2_multiplyHigh_35 : decode cJ2_multiplyHigh 35 = .ok (.lload 10, 2) := by decide +kernel
theorem dJ2_multiplyHigh_37 : decode cJ2_multiplyHigh 37 = .ok (.lmul, 1) := by decide +kernel
theorem dJ2_multiplyHigh_38 : decode cJ2_multiplyHigh 38 = .ok (.lload 12, 2) := by decide +kernel
theorem dJ2_multiplyHigh_40 : decode cJ2_multiplyHigh 40 = .ok (.bipush 32, 2) := by decide +kernel
theorem dJ2_multiplyHigh_42 : decode cJ2_multiplyHigh 42 = .ok (.lushr, 1) := by decide +kernel
theorem dJ2_multiplyHigh_43 : decode cJ2_multiplyHigh 43 = .ok (.ladd, 1) := by decide +kernel
theorem dJ2_multiplyHigh_44 : decode cJ2_multiplyHigh 44 = .ok (.lstore 14, 2) := by decide +kernel
theorem dJ2_multiplyHigh_46 : decode cJ2_multiplyHigh 46 = .ok (.lload 14, 2) := by decide +kernel
theorem dJ2_multiplyHigh_48 : decode cJ2_multiplyHigh 48 = .ok (.ldc2_w 138, 3) := by decide +kernel
theorem dJ2_multiplyHigh_51 : decode cJ2_multiplyHigh 51 = .ok (.land, 1) := by decide +kernel
theorem dJ2_multiplyHigh_52 : decode cJ2_multiplyHigh 52 = .ok (.lstore 16, 2) := by decide +kernel
theorem dJ2_multiplyHigh_54 : decode cJ2_multiplyHigh 54 = .ok (.lload 14, 2) := by decide +kernel
theorem dJ2_multiplyHigh_56 : decode cJ2_multiplyHigh 56 = .ok (.bipush 32, 2) := by decide +kernel
theorem dJ2_multiplyHigh_58 : decode cJ2_multiplyHigh 58 = .ok (.lshr, 1) := by decide +kernel
theorem dJ2_multiplyHigh_59 : decode cJ2_multiplyHigh 59 = .ok (.lstore 18, 2) := by decide +kernel
theorem dJ2_multiplyHigh_61 : decode cJ2_multiplyHigh 61 = .ok (.lload 16, 2) := by decide +kernel
theorem dJ2_multiplyHigh_63 : decode cJ2_multiplyHigh 63 = .ok (.lload 6, 2) := by decide +kernel
theorem dJ2_multiplyHigh_65 : decode cJ2_multiplyHigh 65 = .ok (.lload 8, 2) := by decide +kernel
theorem dJ2_multiplyHigh_67 : decode cJ2_multiplyHigh 67 = .ok (.lmul, 1) := by decide +kernel
theorem dJ2_multiplyHigh_68 : decode cJ2_multiplyHigh 68 = .ok (.ladd, 1) := by decide +kernel
theorem dJ2_multiplyHigh_69 : decode cJ2_multiplyHigh 69 = .ok (.lstore 16, 2) := by decide +kernel
theorem dJ2_multiplyHigh_71 : decode cJ2_multiplyHigh 71 = .ok (.lload 4, 2) := by decide +kernel
theorem dJ2_multiplyHigh_73 : decode cJ2_multiplyHigh 73 = .ok (.lload 8, 2) := by decide +kernel
theorem dJ2_multiplyHigh_75 : decode cJ2_multiplyHigh 75 = .ok (.lmul, 1) := by decide +kernel
theorem dJ2_multiplyHigh_76 : decode cJ2_multiplyHigh 76 = .ok (.lload 18, 2) := by decide +kernel
theorem dJ2_multiplyHigh_78 : decode cJ2_multiplyHigh 78 = .ok (.ladd, 1) := by decide +kernel
theorem dJ2_multiplyHigh_79 : decode cJ2_multiplyHigh 79 = .ok (.lload 16, 2) := by decide +kernel
theorem dJ2_multiplyHigh_81 : decode cJ2_multiplyHigh 81 = .ok (.bipush 32, 2) := by decide +kernel
theorem dJ2_multiplyHigh_83 : decode cJ2_multiplyHigh 83 = .ok (.lshr, 1) := by decide +kernel
theorem dJ2_multiplyHigh_84 : decode cJ2_multiplyHigh 84 = .ok (.ladd, 1) := by decide +kernel
theorem dJ2_multiplyHigh_85 : decode cJ2_multiplyHigh 85 = .ok (.lreturn, 1) := by decide +kernel
