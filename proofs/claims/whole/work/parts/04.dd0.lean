theorem dX4_init_0 : decode cX4_init 0 = .ok (.aload_n 0, 1) := by decide +kernel
theorem dX4_init_1 : decode cX4_init 1 = .ok (.invokespecial 1, 3) := by decide +kernel
theorem dX4_init_4 : decode cX4_init 4 = .ok (.aload_n 0, 1) := by decide +kernel
theorem dX4_init_5 : decode cX4_init 5 = .ok (.bipush 32, 2) := by decide +kernel
theorem dX4_init_7 : decode cX4_init 7 = .ok (.newarray .long, 2) := by decide +kernel
theorem dX4_init_9 : decode cX4_init 9 = .ok (.putfield 7, 3) := by decide +kernel
theorem dX4_init_12 : decode cX4_init 12 = .ok (.aload_n 0, 1) := by decide +kernel
theorem dX4_init_13 : decode cX4_init 13 = .ok (.iconst (-1), 1) := by decide +kernel
theorem dX4_init_14 : decode cX4_init 14 = .ok (.putfield 13, 3) := by decide +kernel
theorem dX4_init_17 : decode cX4_init 17 = .ok (.aload_n 0, 1) := by decide +kernel
theorem dX4_init_18 : decode cX4_init 18 = .ok (.iconst 5, 1) := by decide +kernel
theorem dX4_init_19 : decode cX4_init 19 = .ok (.newarray .long, 2) := by decide +kernel
theorem dX4_init_21 : decode cX4_init 21 = .ok (.putfield 17, 3) := by decide +kernel
theorem dX4_init_24 : decode cX4_init 24 = .ok (.return_, 1) := by decide +kernel
theorem dX4_thrown_0 : decode cX4_thrown 0 = .ok (.aload_n 0, 1) := by decide +kernel
theorem dX4_thrown_1 : decode cX4_thrown 1 = .ok (.getfield 20, 3) := by decide +kernel
theorem dX4_thrown_4 : decode cX4_thrown 4 = .ok (.ireturn, 1) := by decide +kernel
theorem dX4_isRegister_0 : decode cX4_isRegister 0 = .ok (.iload_n 0, 1) := by decide +kernel
theorem dX4_isRegister_1 : decode cX4_isRegister 1 = .ok (.ifCond .lt 13, 3) := by decide +kernel
theorem dX4_isRegister_4 : decode cX4_isRegister 4 = .ok (.iload_n 0, 1) := by decide +kernel
theorem dX4_isRegister_5 : decode cX4_isRegister 5 = .ok (.bipush 32, 2) := by decide +kernel
theorem dX4_isRegister_7 : decode cX4_isRegister 7 = .ok (.if_icmp .ge 7, 3) := by decide +kernel
theorem dX4_isRegister_10 : decode cX4_isRegister 10 = .ok (.iconst 1, 1) := by decide +kernel
theorem dX4_isRegister_11 : decode cX4_isRegister 11 = .ok (.goto 4, 3) := by decide +kernel
theorem dX4_isRegister_14 : decode cX4_isRegister 14 = .ok (.iconst 0, 1) := by decide +kernel
theorem dX4_isRegister_15 : decode cX4_isRegister 15 = .ok (.ireturn, 1) := by decide +kernel
theorem dX4_get_0 : decode cX4_get 0 = .ok (.aload_n 0, 1) := by decide +kernel
theorem dX4_get_1 : decode cX4_get 1 = .ok (.iload_n 1, 1) := by decide +kernel
theorem dX4_get_2 : decode cX4_get 2 = .ok (.invokestatic 23, 3) := by decide +kernel
theorem dX4_get_5 : decode cX4_get 5 = .ok (.ifCond .eq 7, 3) := by decide +kernel
theorem dX4_get_8 : decode cX4_get 8 = .ok (.iconst 0, 1) := by decide +kernel
theorem dX4_get_9 : decode cX4_get 9 = .ok (.goto 4, 3) := by decide +kernel
theorem dX4_get_12 : decode cX4_get 12 = .ok (.iconst 1, 1) := by decide +kernel
theorem dX4_get_13 : decode cX4_get 13 = .ok (.putfield 20, 3) := by decide +kernel
theorem dX4_get_16 : decode cX4_get 16 = .ok (.aload_n 0, 1) := by decide +kernel
theorem dX4_get_17 : decode cX4_get 17 = .ok (.getfield 20, 3) := by decide +kernel
theorem dX4_get_20 : decode cX4_get 20 = .ok (.ifCond .ne 12, 3) := by decide +kernel
theorem dX4_get_23 : decode cX4_get 23 = .ok (.aload_n 0, 1) := by decide +kernel
theorem dX4_get_24 : decode cX4_get 24 = .ok (.getfield 7, 3) := by decide +kernel
theorem dX4_get_27 : decode cX4_get 27 = .ok (.iload_n 1, 1) := by decide +kernel
theorem dX4_get_28 : decode cX4_get 28 = .ok (.laload, 1) := by decide +kernel
theorem dX4_get_29 : decode cX4_get 29 = .ok (.goto 4, 3) := by decide +kernel
theorem dX4_get_32 : decode cX4_get 32 = .ok (.lconst 0, 1) := by decide +kernel
theorem dX4_get_33 : decode cX4_get 33 = .ok (.lreturn, 1) := by decide +kernel
theorem dX4_put_0 : decode cX4_put 0 = .ok (.iload_n 1, 1) := by decide +kernel
theorem dX4_put_1 : decode cX4_put 1 = .ok (.ifCond .le 10, 3) := by decide +kernel
theorem dX4_put_4 : decode cX4_put 4 = .ok (.aload_n 0, 1) := by decide +kernel
theorem dX4_put_5 : decode cX4_put 5 = .ok (.getfield 7, 3) := by decide +kernel
theorem dX4_put_8 : decode cX4_put 8 = .ok (.iload_n 1, 1) := by decide +kernel
theorem dX4_put_9 : decode cX4_put 9 = .ok (.lload_n 2, 1) := by decide +kernel
theorem dX4_put_10 : decode cX4_put 10 = .ok (.lastore, 1) := by decide +kernel
theorem dX4_put_11 : decode cX4_put 11 = .ok (.return_, 1) := by decide +kernel
theorem dX4_set_0 : decode cX4_set 0 = .ok (.aload_n 0, 1) := by decide +kernel
theorem dX4_set_1 : decode cX4_set 1 = .ok (.iload_n 1, 1) := by decide +kernel
theorem dX4_set_2 : decode cX4_set 2 = .ok (.invokestatic 23, 3) := by decide +kernel
theorem dX4_set_5 : decode cX4_set 5 = .ok (.ifCond .eq 7, 3) := by decide +kernel
theorem dX4_set_8 : decode cX4_set 8 = .ok (.iconst 0, 1) := by decide +kernel
theorem dX4_set_9 : decode cX4_set 9 = .ok (.goto 4, 3) := by decide +kernel
theorem dX4_set_12 : decode cX4_set 12 = .ok (.iconst 1, 1) := by decide +kernel
theorem dX4_set_13 : decode cX4_set 13 = .ok (.putfield 20, 3) := by decide +kernel
theorem dX4_set_16 : decode cX4_set 16 = .ok (.aload_n 0, 1) := by decide +kernel
theorem dX4_set_17 : decode cX4_set 17 = .ok (.getfield 20, 3) := by decide +kernel
theorem dX4_set_20 : decode cX4_set 20 = .ok (.ifCond .ne 9, 3) := by decide +kernel
theorem dX4_set_23 : decode cX4_set 23 = .ok (.aload_n 0, 1) := by decide +kernel
theorem dX4_set_24 : decode cX4_set 24 = .ok (.iload_n 1, 1) := by decide +kernel
theorem dX4_set_25 : decode cX4_set 25 = .ok (.lload_n 2, 1) := by decide +kernel
theorem dX4_set_26 : decode cX4_set 26 = .ok (.invokevirtual 27, 3) := by decide +kernel
theorem dX4_set_29 : decode cX4_set 29 = .ok (.return_, 1) := by decide +kernel
theorem dX4_counter_0 : decode cX4_counter 0 = .ok (.aload_n 0, 1) := by decide +kernel
theorem dX4_counter_1 : decode cX4_counter 1 = .ok (.iconst 0, 1) := by decide +kernel
theorem dX4_counter_2 : decode cX4_counter 2 = .ok (.putfield 20, 3) := by decide +kernel
theorem dX4_counter_5 : decode cX4_counter 5 = .ok (.aload_n 0, 1) := by decide +kernel
theorem dX4_counter_6 : decode cX4_counter 6 = .ok (.getfield 31, 3) := by decide +kernel
theorem dX4_counter_9 : decode cX4_counter 9 = .ok (.lreturn, 1) := by decide +kernel
theorem dX4_jump_0 : decode cX4_jump 0 = .ok (.aload_n 0, 1) := by decide +kernel
theorem dX4_jump_1 : decode cX4_jump 1 = .ok (.iconst 0, 1) := by decide +kernel
theorem dX4_jump_2 : decode cX4_jump 2 = .ok (.putfield 20, 3) := by decide +kernel
theorem dX4_jump_5 : decode cX4_jump 5 = .ok (.aload_n 0, 1) := by decide +kernel
theorem dX4_jump_6 : decode cX4_jump 6 = .ok (.lload_n 1, 1) := by decide +kernel
theorem dX4_jump_7 : decode cX4_jump 7 = .ok (.lload_n 1, 1) := by decide +kernel
theorem dX4_jump_8 : decode cX4_jump 8 = .ok (.lconst 1, 1) := by decide +kernel
theorem dX4_jump_9 : decode cX4_jump 9 = .ok (.land, 1) := by decide +kernel
theorem dX4_jump_10 : decode cX4_jump 10 = .ok (.lsub, 1) := by decide +kernel
theorem dX4_jump_11 : decode cX4_jump 11 = .ok (.putfield 31, 3) := by decide +kernel
theorem dX4_jump_14 : decode cX4_jump 14 = .ok (.aload_n 0, 1) := by decide +kernel
theorem dX4_jump_15 : decode cX4_jump 15 = .ok (.iconst (-1), 1) := by decide +kernel
theorem dX4_jump_16 : decode cX4_jump 16 = .ok (.putfield 13, 3) := by decide +kernel
theorem dX4_jump_19 : decode cX4_jump 19 = .ok (.return_, 1) := by decide +kernel
theorem dX4_done_0 : decode cX4_done 0 = .ok (.aload_n 0, 1) := by decide +kernel
theorem dX4_done_1 : decode cX4_done 1 = .ok (.iconst 0, 1) := by decide +kernel
theorem dX4_done_2 : decode cX4_done 2 = .ok (.putfield 20, 3) := by decide +kernel
theorem dX4_done_5 : decode cX4_done 5 = .ok (.aload_n 0, 1) := by decide +kernel
theorem dX4_done_6 : decode cX4_done 6 = .ok (.getfield 35, 3) := by decide +kernel
theorem dX4_done_9 : decode cX4_done 9 = .ok (.lreturn, 1) := by decide +kernel
theorem dX4_bits_0 : decode cX4_bits 0 = .ok (.iconst 0, 1) := by decide +kernel
theorem dX4_bits_1 : decode cX4_bits 1 = .ok (.istore_n 3, 1) := by decide +kernel
theorem dX4_bits_2 : decode cX4_bits 2 = .ok (.iload_n 1, 1) := by decide +kernel
theorem dX4_bits_3 : decode cX4_bits 3 = .ok (.istore 4, 2) := by decide +kernel
theorem dX4_bits_5 : decode cX4_bits 5 = .ok (.iload 4, 2) := by decide +kernel
theorem dX4_bits_7 : decode cX4_bits 7 = .ok (.iload_n 2, 1) := by decide +kernel
theorem dX4_bits_8 : decode cX4_bits 8 = .ok (.if_icmp .lt 23, 3) := by decide +kernel
theorem dX4_bits_11 : decode cX4_bits 11 = .ok (.iconst 2, 1) := by decide +kernel
theorem dX4_bits_12 : decode cX4_bits 12 = .ok (.iload_n 3, 1) := by decide +kernel
theorem dX4_bits_13 : decode cX4_bits 13 = .ok (.imul, 1) := by decide +kernel
theorem dX4_bits_14 : decode cX4_bits 14 = .ok (.aload_n 0, 1) := by decide +kernel
theorem dX4_bits_15 : decode cX4_bits 15 = .ok (.getfield 38, 3) := by decide +kernel
theorem dX4_bits_18 : decode cX4_bits 18 = .ok (.iload 4, 2) := by decide +kernel
theorem dX4_bits_20 : decode cX4_bits 20 = .ok (.ishr, 1) := by decide +kernel
theorem dX4_bits_21 : decode cX4_bits 21 = .ok (.iconst 1, 1) := by decide +kernel
theorem dX4_bits_22 : decode cX4_bits 22 = .ok (.iand, 1) := by decide +kernel
theorem dX4_bits_23 : decode cX4_bits 23 = .ok (.iadd, 1) := by decide +kernel
theorem dX4_bits_24 : decode cX4_bits 24 = .ok (.istore_n 3, 1) := by decide +kernel
theorem dX4_bits_25 : decode cX4_bits 25 = .ok (.iinc 4 (-1), 3) := by decide +kernel
theorem dX4_bits_28 : decode cX4_bits 28 = .ok (.goto (-23), 3) := by decide +kernel
theorem dX4_bits_31 : decode cX4_bits 31 = .ok (.iload_n 3, 1) := by decide +kernel
theorem dX4_bits_32 : decode cX4_bits 32 = .ok (.ireturn, 1) := by decide +kernel
theorem dX4_sign_0 : decode cX4_sign 0 = .ok (.aload_n 0, 1) := by decide +kernel
theorem dX4_sign_1 : decode cX4_sign 1 = .ok (.getfield 38, 3) := by decide +kernel
theorem dX4_sign_4 : decode cX4_sign 4 = .ok (.ifCond .ge 8, 3) := by decide +kernel
theorem dX4_sign_7 : decode cX4_sign 7 = .ok (.lload_n 1, 1) := by decide +kernel
theorem dX4_sign_8 : decode cX4_sign 8 = .ok (.lneg, 1) := by decide +kernel
theorem dX4_sign_9 : decode cX4_sign 9 = .ok (.goto 4, 3) := by decide +kernel
theorem dX4_sign_12 : decode cX4_sign 12 = .ok (.lconst 0, 1) := by decide +kernel
theorem dX4_sign_13 : decode cX4_sign 13 = .ok (.lreturn, 1) := by decide +kernel
theorem dX4_immediateI_0 : decode cX4_immediateI 0 = .ok (.aload_n 0, 1) := by decide +kernel
theorem dX4_immediateI_1 : decode cX4_immediateI 1 = .ok (.ldc2_w 41, 3) := by decide +kernel
theorem dX4_immediateI_4 : decode cX4_immediateI 4 = .ok (.invokevirtual 43, 3) := by decide +kernel
theorem dX4_immediateI_7 : decode cX4_immediateI 7 = .ok (.aload_n 0, 1) := by decide +kernel
theorem dX4_immediateI_8 : decode cX4_immediateI 8 = .ok (.bipush 30, 2) := by decide +kernel
theorem dX4_immediateI_10 : decode cX4_immediateI 10 = .ok (.bipush 20, 2) := by decide +kernel
theorem dX4_immediateI_12 : decode cX4_immediateI 12 = .ok (.invokevirtual 47, 3) := by decide +kernel
theorem dX4_immediateI_15 : decode cX4_immediateI 15 = .ok (.i2l, 1) := by decide +kernel
theorem dX4_immediateI_16 : decode cX4_immediateI 16 = .ok (.ladd, 1) := by decide +kernel
theorem dX4_immediateI_17 : decode cX4_immediateI 17 = .ok (.lreturn, 1) := by decide +kernel
theorem dX4_immediateS_0 : decode cX4_immediateS 0 = .ok (.aload_n 0, 1) := by decide +kernel
theorem dX4_immediateS_1 : decode cX4_immediateS 1 = .ok (.ldc2_w 41, 3) := by decide +kernel
theorem dX4_immediateS_4 : decode cX4_immediateS 4 = .ok (.invokevirtual 43, 3) := by decide +kernel
theorem dX4_immediateS_7 : decode cX4_immediateS 7 = .ok (.bipush 32, 2) := by decide +kernel
theorem dX4_immediateS_9 : decode cX4_immediateS 9 = .ok (.aload_n 0, 1) := by decide +kernel
theorem dX4_immediateS_10 : decode cX4_immediateS 10 = .ok (.bipush 30, 2) := by decide +kernel
theorem dX4_immediateS_12 : decode cX4_immediateS 12 = .ok (.bipush 25, 2) := by decide +kernel
theorem dX4_immediateS_14 : decode cX4_immediateS 14 = .ok (.invokevirtual 47, 3) := by decide +kernel
theorem dX4_immediateS_17 : decode cX4_immediateS 17 = .ok (.imul, 1) := by decide +kernel
theorem dX4_immediateS_18 : decode cX4_immediateS 18 = .ok (.i2l, 1) := by decide +kernel
theorem dX4_immediateS_19 : decode cX4_immediateS 19 = .ok (.ladd, 1) := by decide +kernel
theorem dX4_immediateS_20 : decode cX4_immediateS 20 = .ok (.aload_n 0, 1) := by decide +kernel
theorem dX4_immediateS_21 : decode cX4_immediateS 21 = .ok (.bipush 11, 2) := by decide +kernel
theorem dX4_immediateS_23 : decode cX4_immediateS 23 = .ok (.bipush 7, 2) := by decide +kernel
theorem dX4_immediateS_25 : decode cX4_immediateS 25 = .ok (.invokevirtual 47, 3) := by decide +kernel
theorem dX4_immediateS_28 : decode cX4_immediateS 28 = .ok (.i2l, 1) := by decide +kernel
theorem dX4_immediateS_29 : decode cX4_immediateS 29 = .ok (.ladd, 1) := by decide +kernel
theorem dX4_immediateS_30 : decode cX4_immediateS 30 = .ok (.lreturn, 1) := by decide +kernel
theorem dX4_immediateB_0 : decode cX4_immediateB 0 = .ok (.aload_n 0, 1) := by decide +kernel
theorem dX4_immediateB_1 : decode cX4_immediateB 1 = .ok (.ldc2_w 51, 3) := by decide +kernel
theorem dX4_immediateB_4 : decode cX4_immediateB 4 = .ok (.invokevirtual 43, 3) := by decide +kernel
theorem dX4_immediateB_7 : decode cX4_immediateB 7 = .ok (.sipush 2048, 3) := by decide +kernel
theorem dX4_immediateB_10 : decode cX4_immediateB 10 = .ok (.aload_n 0, 1) := by decide +kernel
theorem dX4_immediateB_11 : decode cX4_immediateB 11 = .ok (.bipush 7, 2) := by decide +kernel
theorem dX4_immediateB_13 : decode cX4_immediateB 13 = .ok (.bipush 7, 2) := by decide +kernel
theorem dX4_immediateB_15 : decode cX4_immediateB 15 = .ok (.invokevirtual 47, 3) := by decide +kernel
theorem dX4_immediateB_18 : decode cX4_immediateB 18 = .ok (.imul, 1) := by decide +kernel
theorem dX4_immediateB_19 : decode cX4_immediateB 19 = .ok (.i2l, 1) := by decide +kernel
theorem dX4_immediateB_20 : decode cX4_immediateB 20 = .ok (.ladd, 1) := by decide +kernel
theorem dX4_immediateB_21 : decode cX4_immediateB 21 = .ok (.bipush 32, 2) := by decide +kernel
theorem dX4_immediateB_23 : decode cX4_immediateB 23 = .ok (.aload_n 0, 1) := by decide +kernel
theorem dX4_immediateB_24 : decode cX4_immediateB 24 = .ok (.bipush 30, 2) := by decide +kernel
theorem dX4_immediateB_26 : decode cX4_immediateB 26 = .ok (.bipush 25, 2) := by decide +kernel
theorem dX4_immediateB_28 : decode cX4_immediateB 28 = .ok (.invokevirtual 47, 3) := by decide +kernel
theorem dX4_immediateB_31 : decode cX4_immediateB 31 = .ok (.imul, 1) := by decide +kernel
theorem dX4_immediateB_32 : decode cX4_immediateB 32 = .ok (.i2l, 1) := by decide +kernel
theorem dX4_immediateB_33 : decode cX4_immediateB 33 = .ok (.ladd, 1) := by decide +kernel
theorem dX4_immediateB_34 : decode cX4_immediateB 34 = .ok (.iconst 2, 1) := by decide +kernel
theorem dX4_immediateB_35 : decode cX4_immediateB 35 = .ok (.aload_n 0, 1) := by decide +kernel
theorem dX4_immediateB_36 : decode cX4_immediateB 36 = .ok (.bipush 11, 2) := by decide +kernel
theorem dX4_immediateB_38 : decode cX4_immediateB 38 = .ok (.bipush 8, 2) := by decide +kernel
theorem dX4_immediateB_40 : decode cX4_immediateB 40 = .ok (.invokevirtual 47, 3) := by decide +kernel
theorem dX4_immediateB_43 : decode cX4_immediateB 43 = .ok (.imul, 1) := by decide +kernel
theorem dX4_immediateB_44 : decode cX4_immediateB 44 = .ok (.i2l, 1) := by decide +kernel
theorem dX4_immediateB_45 : decode cX4_immediateB 45 = .ok (.ladd, 1) := by decide +kernel
theorem dX4_immediateB_46 : decode cX4_immediateB 46 = .ok (.lreturn, 1) := by decide +kernel
theorem dX4_immediateU_0 : decode cX4_immediateU 0 = .ok (.aload_n 0, 1) := by decide +kernel
theorem dX4_immediateU_1 : decode cX4_immediateU 1 = .ok (.ldc2_w 53, 3) := by decide +kernel
theorem dX4_immediateU_4 : decode cX4_immediateU 4 = .ok (.invokevirtual 43, 3) := by decide +kernel
theorem dX4_immediateU_7 : decode cX4_immediateU 7 = .ok (.ldc2_w 51, 3) := by decide +kernel
theorem dX4_immediateU_10 : decode cX4_immediateU 10 = .ok (.aload_n 0, 1) := by decide +kernel
theorem dX4_immediateU_11 : decode cX4_immediateU 11 = .ok (.bipush 30, 2) := by decide +kernel
theorem dX4_immediateU_13 : decode cX4_immediateU 13 = .ok (.bipush 12, 2) := by decide +kernel
theorem dX4_immediateU_15 : decode cX4_immediateU 15 = .ok (.invokevirtual 47, 3) := by decide +kernel
theorem dX4_immediateU_18 : decode cX4_immediateU 18 = .ok (.i2l, 1) := by decide +kernel
theorem dX4_immediateU_19 : decode cX4_immediateU 19 = .ok (.lmul, 1) := by decide +kernel
theorem dX4_immediateU_20 : decode cX4_immediateU 20 = .ok (.ladd, 1) := by decide +kernel
theorem dX4_immediateU_21 : decode cX4_immediateU 21 = .ok (.lreturn, 1) := by decide +kernel
theorem dX4_immediateJ_0 : decode cX4_immediateJ 0 = .ok (.aload_n 0, 1) := by decide +kernel
theorem dX4_immediateJ_1 : decode cX4_immediateJ 1 = .ok (.ldc2_w 55, 3) := by decide +kernel
theorem dX4_immediateJ_4 : decode cX4_immediateJ 4 = .ok (.invokevirtual 43, 3) := by decide +kernel
theorem dX4_immediateJ_7 : decode cX4_immediateJ 7 = .ok (.sipush 4096, 3) := by decide +kernel
theorem dX4_immediateJ_10 : decode cX4_immediateJ 10 = .ok (.aload_n 0, 1) := by decide +kernel
theorem dX4_immediateJ_11 : decode cX4_immediateJ 11 = .ok (.bipush 19, 2) := by decide +kernel
theorem dX4_immediateJ_13 : decode cX4_immediateJ 13 = .ok (.bipush 12, 2) := by decide +kernel
theorem dX4_immediateJ_15 : decode cX4_immediateJ 15 = .ok (.invokevirtual 47, 3) := by decide +kernel
theorem dX4_immediateJ_18 : decode cX4_immediateJ 18 = .ok (.imul, 1) := by decide +kernel
theorem dX4_immediateJ_19 : decode cX4_immediateJ 19 = .ok (.i2l, 1) := by decide +kernel
theorem dX4_immediateJ_20 : decode cX4_immediateJ 20 = .ok (.ladd, 1) := by decide +kernel
theorem dX4_immediateJ_21 : decode cX4_immediateJ 21 = .ok (.sipush 2048, 3) := by decide +kernel
theorem dX4_immediateJ_24 : decode cX4_immediateJ 24 = .ok (.aload_n 0, 1) := by decide +kernel
theorem dX4_immediateJ_25 : decode cX4_immediateJ 25 = .ok (.bipush 20, 2) := by decide +kernel
theorem dX4_immediateJ_27 : decode cX4_immediateJ 27 = .ok (.bipush 20, 2) := by decide +kernel
theorem dX4_immediateJ_29 : decode cX4_immediateJ 29 = .ok (.invokevirtual 47, 3) := by decide +kernel
theorem dX4_immediateJ_32 : decode cX4_immediateJ 32 = .ok (.imul, 1) := by decide +kernel
theorem dX4_immediateJ_33 : decode cX4_immediateJ 33 = .ok (.i2l, 1) := by decide +kernel
theorem dX4_immediateJ_34 : decode cX4_immediateJ 34 = .ok (.ladd, 1) := by decide +kernel
theorem dX4_immediateJ_35 : decode cX4_immediateJ 35 = .ok (.iconst 2, 1) := by decide +kernel
theorem dX4_immediateJ_36 : decode cX4_immediateJ 36 = .ok (.aload_n 0, 1) := by decide +kernel
theorem dX4_immediateJ_37 : decode cX4_immediateJ 37 = .ok (.bipush 30, 2) := by decide +kernel
theorem dX4_immediateJ_39 : decode cX4_immediateJ 39 = .ok (.bipush 21, 2) := by decide +kernel
theorem dX4_immediateJ_41 : decode cX4_immediateJ 41 = .ok (.invokevirtual 47, 3) := by decide +kernel
theorem dX4_immediateJ_44 : decode cX4_immediateJ 44 = .ok (.imul, 1) := by decide +kernel
theorem dX4_immediateJ_45 : decode cX4_immediateJ 45 = .ok (.i2l, 1) := by decide +kernel
theorem dX4_immediateJ_46 : decode cX4_immediateJ 46 = .ok (.ladd, 1) := by decide +kernel
theorem dX4_immediateJ_47 : decode cX4_immediateJ 47 = .ok (.lreturn, 1) := by decide +kernel
theorem dX4_isLess_0 : decode cX4_isLess 0 = .ok (.lload_n 0, 1) := by decide +kernel
theorem dX4_isLess_1 : decode cX4_isLess 1 = .ok (.lconst 0, 1) := by decide +kernel
theorem dX4_isLess_2 : decode cX4_isLess 2 = .ok (.lcmp, 1) := by decide +kernel
theorem dX4_isLess_3 : decode cX4_isLess 3 = .ok (.ifCond .ge 7, 3) := by decide +kernel
theorem dX4_isLess_6 : decode cX4_isLess 6 = .ok (.iconst 1, 1) := by decide +kernel
theorem dX4_isLess_7 : decode cX4_isLess 7 = .ok (.goto 4, 3) := by decide +kernel
theorem dX4_isLess_10 : decode cX4_isLess 10 = .ok (.iconst 0, 1) := by decide +kernel
theorem dX4_isLess_11 : decode cX4_isLess 11 = .ok (.lload_n 2, 1) := by decide +kernel
theorem dX4_isLess_12 : decode cX4_isLess 12 = .ok (.lconst 0, 1) := by decide +kernel
theorem dX4_isLess_13 : decode cX4_isLess 13 = .ok (.lcmp, 1) := by decide +kernel
theorem dX4_isLess_14 : decode cX4_isLess 14 = .ok (.ifCond .ge 7, 3) := by decide +kernel
theorem dX4_isLess_17 : decode cX4_isLess 17 = .ok (.iconst 1, 1) := by decide +kernel
theorem dX4_isLess_18 : decode cX4_isLess 18 = .ok (.goto 4, 3) := by decide +kernel
theorem dX4_isLess_21 : decode cX4_isLess 21 = .ok (.iconst 0, 1) := by decide +kernel
theorem dX4_isLess_22 : decode cX4_isLess 22 = .ok (.if_icmp .ne 17, 3) := by decide +kernel
theorem dX4_isLess_25 : decode cX4_isLess 25 = .ok (.lload_n 0, 1) := by decide +kernel
theorem dX4_isLess_26 : decode cX4_isLess 26 = .ok (.lload_n 2, 1) := by decide +kernel
theorem dX4_isLess_27 : decode cX4_isLess 27 = .ok (.lcmp, 1) := by decide +kernel
theorem dX4_isLess_28 : decode cX4_isLess 28 = .ok (.ifCond .ge 7, 3) := by decide +kernel
theorem dX4_isLess_31 : decode cX4_isLess 31 = .ok (.iconst 1, 1) := by decide +kernel
theorem dX4_isLess_32 : decode cX4_isLess 32 = .ok (.goto 18, 3) := by decide +kernel
theorem dX4_isLess_35 : decode cX4_isLess 35 = .ok (.iconst 0, 1) := by decide +kernel
theorem dX4_isLess_36 : decode cX4_isLess 36 = .ok (.goto 14, 3) := by decide +kernel
theorem dX4_isLess_39 : decode cX4_isLess 39 = .ok (.lload_n 2, 1) := by decide +kernel
theorem dX4_isLess_40 : decode cX4_isLess 40 = .ok (.lconst 0, 1) := by decide +kernel
theorem dX4_isLess_41 : decode cX4_isLess 41 = .ok (.lcmp, 1) := by decide +kernel
theorem dX4_isLess_42 : decode cX4_isLess 42 = .ok (.ifCond .ge 7, 3) := by decide +kernel
theorem dX4_isLess_45 : decode cX4_isLess 45 = .ok (.iconst 1, 1) := by decide +kernel
theorem dX4_isLess_46 : decode cX4_isLess 46 = .ok (.goto 4, 3) := by decide +kernel
theorem dX4_isLess_49 : decode cX4_isLess 49 = .ok (.iconst 0, 1) := by decide +kernel
theorem dX4_isLess_50 : decode cX4_isLess 50 = .ok (.ireturn, 1) := by decide +kernel
theorem dX4_upper_0 : decode cX4_upper 0 = .ok (.lconst 0, 1) := by decide +kernel
theorem dX4_upper_1 : decode cX4_upper 1 = .ok (.lstore 4, 2) := by decide +kernel
theorem dX4_upper_3 : decode cX4_upper 3 = .ok (.lconst 0, 1) := by decide +kernel
theorem dX4_upper_4 : decode cX4_upper 4 = .ok (.lstore 6, 2) := by decide +kernel
theorem dX4_upper_6 : decode cX4_upper 6 = .ok (.bipush 63, 2) := by decide +kernel
theorem dX4_upper_8 : decode cX4_upper 8 = .ok (.istore 8, 2) := by decide +kernel
theorem dX4_upper_10 : decode cX4_upper 10 = .ok (.iload 8, 2) := by decide +kernel
theorem dX4_upper_12 : decode cX4_upper 12 = .ok (.ifCond .lt 80, 3) := by decide +kernel
theorem dX4_upper_15 : decode cX4_upper 15 = .ok (.ldc2_w 57, 3) := by decide +kernel
theorem dX4_upper_18 : decode cX4_upper 18 = .ok (.lload 4, 2) := by decide +kernel
theorem dX4_upper_20 : decode cX4_upper 20 = .ok (.lmul, 1) := by decide +kernel
theorem dX4_upper_21 : decode cX4_upper 21 = .ok (.lload 6, 2) := by decide +kernel
theorem dX4_upper_23 : decode cX4_upper 23 = .ok (.lconst 0, 1) := by decide +kernel
theorem dX4_upper_24 : decode cX4_upper 24 = .ok (.lcmp, 1) := by decide +kernel
theorem dX4_upper_25 : decode cX4_upper 25 = .ok (.ifCond .ge 7, 3) := by decide +kernel
theorem dX4_upper_28 : decode cX4_upper 28 = .ok (.lconst 1, 1) := by decide +kernel
theorem dX4_upper_29 : decode cX4_upper 29 = .ok (.goto 4, 3) := by decide +kernel
theorem dX4_upper_32 : decode cX4_upper 32 = .ok (.lconst 0, 1) := by decide +kernel
theorem dX4_upper_33 : decode cX4_upper 33 = .ok (.ladd, 1) := by decide +kernel
theorem dX4_upper_34 : decode cX4_upper 34 = .ok (.lstore 4, 2) := by decide +kernel
theorem dX4_upper_36 : decode cX4_upper 36 = .ok (.ldc2_w 57, 3) := by decide +kernel
theorem dX4_upper_39 : decode cX4_upper 39 = .ok (.lload 6, 2) := by decide +kernel
theorem dX4_upper_41 : decode cX4_upper 41 = .ok (.lmul, 1) := by decide +kernel
theorem dX4_upper_42 : decode cX4_upper 42 = .ok (.lstore 6, 2) := by decide +kernel
theorem dX4_upper_44 : decode cX4_upper 44 = .ok (.lload_n 2, 1) := by decide +kernel
theorem dX4_upper_45 : decode cX4_upper 45 = .ok (.iload 8, 2) := by decide +kernel
theorem dX4_upper_47 : decode cX4_upper 47 = .ok (.lshr, 1) := by decide +kernel
theorem dX4_upper_48 : decode cX4_upper 48 = .ok (.lconst 1, 1) := by decide +kernel
theorem dX4_upper_49 : decode cX4_upper 49 = .ok (.land, 1) := by decide +kernel
theorem dX4_upper_50 : decode cX4_upper 50 = .ok (.lconst 1, 1) := by decide +kernel
theorem dX4_upper_51 : decode cX4_upper 51 = .ok (.lcmp, 1) := by decide +kernel
theorem dX4_upper_52 : decode cX4_upper 52 = .ok (.ifCond .ne 34, 3) := by decide +kernel
theorem dX4_upper_55 : decode cX4_upper 55 = .ok (.lload 6, 2) := by decide +kernel
theorem dX4_upper_57 : decode cX4_upper 57 = .ok (.lload_n 0, 1) := by decide +kernel
theorem dX4_upper_58 : decode cX4_upper 58 = .ok (.ladd, 1) := by decide +kernel
theorem dX4_upper_59 : decode cX4_upper 59 = .ok (.lstore 9, 2) := by decide +kernel
theorem dX4_upper_61 : decode cX4_upper 61 = .ok (.lload 9, 2) := by decide +kernel
theorem dX4_upper_63 : decode cX4_upper 63 = .ok (.lload 6, 2) := by decide +kernel
theorem dX4_upper_65 : decode cX4_upper 65 = .ok (.invokestatic 59, 3) := by decide +kernel
theorem dX4_upper_68 : decode cX4_upper 68 = .ok (.ifCond .eq 10, 3) := by decide +kernel
theorem dX4_upper_71 : decode cX4_upper 71 = .ok (.lload 4, 2) := by decide +kernel
theorem dX4_upper_73 : decode cX4_upper 73 = .ok (.lconst 1, 1) := by decide +kernel
theorem dX4_upper_74 : decode cX4_upper 74 = .ok (.ladd, 1) := by decide +kernel
theorem dX4_upper_75 : decode cX4_upper 75 = .ok (.goto 5, 3) := by decide +kernel
theorem dX4_upper_78 : decode cX4_upper 78 = .ok (.lload 4, 2) := by decide +kernel
theorem dX4_upper_80 : decode cX4_upper 80 = .ok (.lstore 4, 2) := by decide +kernel
theorem dX4_upper_82 : decode cX4_upper 82 = .ok (.lload 9, 2) := by decide +kernel
theorem dX4_upper_84 : decode cX4_upper 84 = .ok (.lstore 6, 2) := by decide +kernel
theorem dX4_upper_86 : decode cX4_upper 86 = .ok (.iinc 8 (-1), 3) := by decide +kernel
