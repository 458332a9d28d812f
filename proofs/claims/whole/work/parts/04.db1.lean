theorem dX3_link_15 : decode cX3_link 15 = .ok (.invokevirtual 28, 3) := by decide +kernel
theorem dX3_link_18 : decode cX3_link 18 = .ok (.aload_n 0, 1) := by decide +kernel
theorem dX3_link_19 : decode cX3_link 19 = .ok (.lload_n 2, 1) := by decide +kernel
theorem dX3_link_20 : decode cX3_link 20 = .ok (.invokevirtual 141, 3) := by decide +kernel
theorem dX3_link_23 : decode cX3_link 23 = .ok (.ireturn, 1) := by decide +kernel
theorem dX3_linkToRegister_0 : decode cX3_linkToRegister 0 = .ok (.iload_n 1, 1) := by decide +kernel
theorem dX3_linkToRegister_1 : decode cX3_linkToRegister 1 = .ok (.invokestatic 157, 3) := by decide +kernel
theorem dX3_linkToRegister_4 : decode cX3_linkToRegister 4 = .ok (.ifCond .eq 5, 3) := by decide +kernel
theorem dX3_linkToRegister_7 : decode cX3_linkToRegister 7 = .ok (.iconst (-1), 1) := by decide +kernel
theorem dX3_linkToRegister_8 : decode cX3_linkToRegister 8 = .ok (.ireturn, 1) := by decide +kernel
theorem dX3_linkToRegister_9 : decode cX3_linkToRegister 9 = .ok (.aload_n 0, 1) := by decide +kernel
theorem dX3_linkToRegister_10 : decode cX3_linkToRegister 10 = .ok (.iload_n 1, 1) := by decide +kernel
theorem dX3_linkToRegister_11 : decode cX3_linkToRegister 11 = .ok (.aload_n 0, 1) := by decide +kernel
theorem dX3_linkToRegister_12 : decode cX3_linkToRegister 12 = .ok (.iload_n 1, 1) := by decide +kernel
theorem dX3_linkToRegister_13 : decode cX3_linkToRegister 13 = .ok (.invokevirtual 101, 3) := by decide +kernel
theorem dX3_linkToRegister_16 : decode cX3_linkToRegister 16 = .ok (.iload_n 1, 1) := by decide +kernel
theorem dX3_linkToRegister_17 : decode cX3_linkToRegister 17 = .ok (.invokestatic 160, 3) := by decide +kernel
theorem dX3_linkToRegister_20 : decode cX3_linkToRegister 20 = .ok (.i2l, 1) := by decide +kernel
theorem dX3_linkToRegister_21 : decode cX3_linkToRegister 21 = .ok (.ladd, 1) := by decide +kernel
theorem dX3_linkToRegister_22 : decode cX3_linkToRegister 22 = .ok (.ldc2_w 36, 3) := by decide +kernel
theorem dX3_linkToRegister_25 : decode cX3_linkToRegister 25 = .ok (.land, 1) := by decide +kernel
theorem dX3_linkToRegister_26 : decode cX3_linkToRegister 26 = .ok (.invokevirtual 62, 3) := by decide +kernel
theorem dX3_linkToRegister_29 : decode cX3_linkToRegister 29 = .ok (.ireturn, 1) := by decide +kernel
theorem dX3_branch_0 : decode cX3_branch 0 = .ok (.iload_n 1, 1) := by decide +kernel
theorem dX3_branch_1 : decode cX3_branch 1 = .ok (.invokestatic 157, 3) := by decide +kernel
theorem dX3_branch_4 : decode cX3_branch 4 = .ok (.istore_n 2, 1) := by decide +kernel
theorem dX3_branch_5 : decode cX3_branch 5 = .ok (.iload_n 2, 1) := by decide +kernel
theorem dX3_branch_6 : decode cX3_branch 6 = .ok (.iconst 2, 1) := by decide +kernel
theorem dX3_branch_7 : decode cX3_branch 7 = .ok (.if_icmp .eq 8, 3) := by decide +kernel
theorem dX3_branch_10 : decode cX3_branch 10 = .ok (.iload_n 2, 1) := by decide +kernel
theorem dX3_branch_11 : decode cX3_branch 11 = .ok (.iconst 3, 1) := by decide +kernel
theorem dX3_branch_12 : decode cX3_branch 12 = .ok (.if_icmp .ne 5, 3) := by decide +kernel
theorem dX3_branch_15 : decode cX3_branch 15 = .ok (.iconst (-1), 1) := by decide +kernel
theorem dX3_branch_16 : decode cX3_branch 16 = .ok (.ireturn, 1) := by decide +kernel
theorem dX3_branch_17 : decode cX3_branch 17 = .ok (.aload_n 0, 1) := by decide +kernel
theorem dX3_branch_18 : decode cX3_branch 18 = .ok (.aload_n 0, 1) := by decide +kernel
theorem dX3_branch_19 : decode cX3_branch 19 = .ok (.getfield 32, 3) := by decide +kernel
theorem dX3_branch_22 : decode cX3_branch 22 = .ok (.iload_n 2, 1) := by decide +kernel
theorem dX3_branch_23 : decode cX3_branch 23 = .ok (.aload_n 0, 1) := by decide +kernel
theorem dX3_branch_24 : decode cX3_branch 24 = .ok (.iload_n 1, 1) := by decide +kernel
theorem dX3_branch_25 : decode cX3_branch 25 = .ok (.invokevirtual 101, 3) := by decide +kernel
theorem dX3_branch_28 : decode cX3_branch 28 = .ok (.aload_n 0, 1) := by decide +kernel
theorem dX3_branch_29 : decode cX3_branch 29 = .ok (.iload_n 1, 1) := by decide +kernel
theorem dX3_branch_30 : decode cX3_branch 30 = .ok (.invokevirtual 163, 3) := by decide +kernel
theorem dX3_branch_33 : decode cX3_branch 33 = .ok (.invokestatic 166, 3) := by decide +kernel
theorem dX3_branch_36 : decode cX3_branch 36 = .ok (.ifCond .eq 10, 3) := by decide +kernel
theorem dX3_branch_39 : decode cX3_branch 39 = .ok (.iload_n 1, 1) := by decide +kernel
theorem dX3_branch_40 : decode cX3_branch 40 = .ok (.invokestatic 172, 3) := by decide +kernel
theorem dX3_branch_43 : decode cX3_branch 43 = .ok (.goto 7, 3) := by decide +kernel
theorem dX3_branch_46 : decode cX3_branch 46 = .ok (.aload_n 0, 1) := by decide +kernel
theorem dX3_branch_47 : decode cX3_branch 47 = .ok (.getfield 43, 3) := by decide +kernel
theorem dX3_branch_50 : decode cX3_branch 50 = .ok (.i2l, 1) := by decide +kernel
theorem dX3_branch_51 : decode cX3_branch 51 = .ok (.ladd, 1) := by decide +kernel
theorem dX3_branch_52 : decode cX3_branch 52 = .ok (.invokevirtual 141, 3) := by decide +kernel
theorem dX3_branch_55 : decode cX3_branch 55 = .ok (.ireturn, 1) := by decide +kernel
theorem dX3_operateLongWithImmediate_0 : decode cX3_operateLongWithImmediate 0 = .ok (.iload_n 1, 1) := by decide +kernel
theorem dX3_operateLongWithImmediate_1 : decode cX3_operateLongWithImmediate 1 = .ok (.invokestatic 157, 3) := by decide +kernel
theorem dX3_operateLongWithImmediate_4 : decode cX3_operateLongWithImmediate 4 = .ok (.istore_n 2, 1) := by decide +kernel
theorem dX3_operateLongWithImmediate_5 : decode cX3_operateLongWithImmediate 5 = .ok (.iload_n 1, 1) := by decide +kernel
theorem dX3_operateLongWithImmediate_6 : decode cX3_operateLongWithImmediate 6 = .ok (.invokestatic 175, 3) := by decide +kernel
theorem dX3_operateLongWithImmediate_9 : decode cX3_operateLongWithImmediate 9 = .ok (.istore_n 3, 1) := by decide +kernel
theorem dX3_operateLongWithImmediate_10 : decode cX3_operateLongWithImmediate 10 = .ok (.aload_n 0, 1) := by decide +kernel
theorem dX3_operateLongWithImmediate_11 : decode cX3_operateLongWithImmediate 11 = .ok (.iload_n 1, 1) := by decide +kernel
theorem dX3_operateLongWithImmediate_12 : decode cX3_operateLongWithImmediate 12 = .ok (.invokevirtual 101, 3) := by decide +kernel
theorem dX3_operateLongWithImmediate_15 : decode cX3_operateLongWithImmediate 15 = .ok (.lstore 4, 2) := by decide +kernel
theorem dX3_operateLongWithImmediate_17 : decode cX3_operateLongWithImmediate 17 = .ok (.iload_n 1, 1) := by decide +kernel
theorem dX3_operateLongWithImmediate_18 : decode cX3_operateLongWithImmediate 18 = .ok (.invokestatic 160, 3) := by decide +kernel
theorem dX3_operateLongWithImmediate_21 : decode cX3_operateLongWithImmediate 21 = .ok (.i2l, 1) := by decide +kernel
theorem dX3_operateLongWithImmediate_22 : decode cX3_operateLongWithImmediate 22 = .ok (.lstore 6, 2) := by decide +kernel
theorem dX3_operateLongWithImmediate_24 : decode cX3_operateLongWithImmediate 24 = .ok (.iload_n 2, 1) := by decide +kernel
theorem dX3_operateLongWithImmediate_25 : decode cX3_operateLongWithImmediate 25 = .ok (.iconst 5, 1) := by decide +kernel
theorem dX3_operateLongWithImmediate_26 : decode cX3_operateLongWithImmediate 26 = .ok (.if_icmp .ne 22, 3) := by decide +kernel
theorem dX3_operateLongWithImmediate_29 : decode cX3_operateLongWithImmediate 29 = .ok (.iload_n 3, 1) := by decide +kernel
theorem dX3_operateLongWithImmediate_30 : decode cX3_operateLongWithImmediate 30 = .ok (.bipush 16, 2) := by decide +kernel
theorem dX3_operateLongWithImmediate_32 : decode cX3_operateLongWithImmediate 32 = .ok (.if_icmp .ne 16, 3) := by decide +kernel
theorem dX3_operateLongWithImmediate_35 : decode cX3_operateLongWithImmediate 35 = .ok (.aload_n 0, 1) := by decide +kernel
theorem dX3_operateLongWithImmediate_36 : decode cX3_operateLongWithImmediate 36 = .ok (.iload_n 1, 1) := by decide +kernel
theorem dX3_operateLongWithImmediate_37 : decode cX3_operateLongWithImmediate 37 = .ok (.lload 4, 2) := by decide +kernel
theorem dX3_operateLongWithImmediate_39 : decode cX3_operateLongWithImmediate 39 = .ok (.lload 6, 2) := by decide +kernel
theorem dX3_operateLongWithImmediate_41 : decode cX3_operateLongWithImmediate 41 = .ok (.invokestatic 178, 3) := by decide +kernel
theorem dX3_operateLongWithImmediate_44 : decode cX3_operateLongWithImmediate 44 = .ok (.invokevirtual 55, 3) := by decide +kernel
theorem dX3_operateLongWithImmediate_47 : decode cX3_operateLongWithImmediate 47 = .ok (.ireturn, 1) := by decide +kernel
theorem dX3_operateLongWithImmediate_48 : decode cX3_operateLongWithImmediate 48 = .ok (.iload_n 2, 1) := by decide +kernel
theorem dX3_operateLongWithImmediate_49 : decode cX3_operateLongWithImmediate 49 = .ok (.iconst 1, 1) := by decide +kernel
theorem dX3_operateLongWithImmediate_50 : decode cX3_operateLongWithImmediate 50 = .ok (.if_icmp .eq 8, 3) := by decide +kernel
theorem dX3_operateLongWithImmediate_53 : decode cX3_operateLongWithImmediate 53 = .ok (.iload_n 2, 1) := by decide +kernel
theorem dX3_operateLongWithImmediate_54 : decode cX3_operateLongWithImmediate 54 = .ok (.iconst 5, 1) := by decide +kernel
theorem dX3_operateLongWithImmediate_55 : decode cX3_operateLongWithImmediate 55 = .ok (.if_icmp .ne 9, 3) := by decide +kernel
theorem dX3_operateLongWithImmediate_58 : decode cX3_operateLongWithImmediate 58 = .ok (.iload_n 3, 1) := by decide +kernel
theorem dX3_operateLongWithImmediate_59 : decode cX3_operateLongWithImmediate 59 = .ok (.ifCond .eq 5, 3) := by decide +kernel
theorem dX3_operateLongWithImmediate_62 : decode cX3_operateLongWithImmediate 62 = .ok (.iconst (-1), 1) := by decide +kernel
theorem dX3_operateLongWithImmediate_63 : decode cX3_operateLongWithImmediate 63 = .ok (.ireturn, 1) := by decide +kernel
theorem dX3_operateLongWithImmediate_64 : decode cX3_operateLongWithImmediate 64 = .ok (.aload_n 0, 1) := by decide +kernel
theorem dX3_operateLongWithImmediate_65 : decode cX3_operateLongWithImmediate 65 = .ok (.iload_n 1, 1) := by decide +kernel
theorem dX3_operateLongWithImmediate_66 : decode cX3_operateLongWithImmediate 66 = .ok (.iload_n 2, 1) := by decide +kernel
theorem dX3_operateLongWithImmediate_67 : decode cX3_operateLongWithImmediate 67 = .ok (.lload 4, 2) := by decide +kernel
theorem dX3_operateLongWithImmediate_69 : decode cX3_operateLongWithImmediate 69 = .ok (.lload 6, 2) := by decide +kernel
theorem dX3_operateLongWithImmediate_71 : decode cX3_operateLongWithImmediate 71 = .ok (.invokestatic 182, 3) := by decide +kernel
theorem dX3_operateLongWithImmediate_74 : decode cX3_operateLongWithImmediate 74 = .ok (.invokevirtual 55, 3) := by decide +kernel
theorem dX3_operateLongWithImmediate_77 : decode cX3_operateLongWithImmediate 77 = .ok (.ireturn, 1) := by decide +kernel
theorem dX3_operateLongs_0 : decode cX3_operateLongs 0 = .ok (.iload_n 1, 1) := by decide +kernel
theorem dX3_operateLongs_1 : decode cX3_operateLongs 1 = .ok (.invokestatic 157, 3) := by decide +kernel
theorem dX3_operateLongs_4 : decode cX3_operateLongs 4 = .ok (.istore_n 2, 1) := by decide +kernel
theorem dX3_operateLongs_5 : decode cX3_operateLongs 5 = .ok (.aload_n 0, 1) := by decide +kernel
theorem dX3_operateLongs_6 : decode cX3_operateLongs 6 = .ok (.iload_n 1, 1) := by decide +kernel
theorem dX3_operateLongs_7 : decode cX3_operateLongs 7 = .ok (.invokevirtual 101, 3) := by decide +kernel
theorem dX3_operateLongs_10 : decode cX3_operateLongs 10 = .ok (.lstore_n 3, 1) := by decide +kernel
theorem dX3_operateLongs_11 : decode cX3_operateLongs 11 = .ok (.aload_n 0, 1) := by decide +kernel
theorem dX3_operateLongs_12 : decode cX3_operateLongs 12 = .ok (.iload_n 1, 1) := by decide +kernel
theorem dX3_operateLongs_13 : decode cX3_operateLongs 13 = .ok (.invokevirtual 163, 3) := by decide +kernel
theorem dX3_operateLongs_16 : decode cX3_operateLongs 16 = .ok (.lstore 5, 2) := by decide +kernel
theorem dX3_operateLongs_18 : decode cX3_operateLongs 18 = .ok (.iload_n 1, 1) := by decide +kernel
theorem dX3_operateLongs_19 : decode cX3_operateLongs 19 = .ok (.invokestatic 186, 3) := by decide +kernel
theorem dX3_operateLongs_22 : decode cX3_operateLongs 22 = .ok (.lookupswitch 95 #[(0, 34), (1, 47), (32, 60)], 34) := by decide +kernel
theorem dX3_operateLongs_56 : decode cX3_operateLongs 56 = .ok (.aload_n 0, 1) := by decide +kernel
theorem dX3_operateLongs_57 : decode cX3_operateLongs 57 = .ok (.iload_n 1, 1) := by decide +kernel
theorem dX3_operateLongs_58 : decode cX3_operateLongs 58 = .ok (.iload_n 2, 1) := by decide +kernel
theorem dX3_operateLongs_59 : decode cX3_operateLongs 59 = .ok (.lload_n 3, 1) := by decide +kernel
theorem dX3_operateLongs_60 : decode cX3_operateLongs 60 = .ok (.lload 5, 2) := by decide +kernel
theorem dX3_operateLongs_62 : decode cX3_operateLongs 62 = .ok (.invokestatic 182, 3) := by decide +kernel
theorem dX3_operateLongs_65 : decode cX3_operateLongs 65 = .ok (.invokevirtual 55, 3) := by decide +kernel
theorem dX3_operateLongs_68 : decode cX3_operateLongs 68 = .ok (.ireturn, 1) := by decide +kernel
theorem dX3_operateLongs_69 : decode cX3_operateLongs 69 = .ok (.aload_n 0, 1) := by decide +kernel
theorem dX3_operateLongs_70 : decode cX3_operateLongs 70 = .ok (.iload_n 1, 1) := by decide +kernel
theorem dX3_operateLongs_71 : decode cX3_operateLongs 71 = .ok (.iload_n 2, 1) := by decide +kernel
theorem dX3_operateLongs_72 : decode cX3_operateLongs 72 = .ok (.lload_n 3, 1) := by decide +kernel
theorem dX3_operateLongs_73 : decode cX3_operateLongs 73 = .ok (.lload 5, 2) := by decide +kernel
theorem dX3_operateLongs_75 : decode cX3_operateLongs 75 = .ok (.invokestatic 189, 3) := by decide +kernel
theorem dX3_operateLongs_78 : decode cX3_operateLongs 78 = .ok (.invokevirtual 55, 3) := by decide +kernel
theorem dX3_operateLongs_81 : decode cX3_operateLongs 81 = .ok (.ireturn, 1) := by decide +kernel
theorem dX3_operateLongs_82 : decode cX3_operateLongs 82 = .ok (.iload_n 2, 1) := by decide +kernel
theorem dX3_operateLongs_83 : decode cX3_operateLongs 83 = .ok (.ifCond .ne 13, 3) := by decide +kernel
theorem dX3_operateLongs_86 : decode cX3_operateLongs 86 = .ok (.aload_n 0, 1) := by decide +kernel
theorem dX3_operateLongs_87 : decode cX3_operateLongs 87 = .ok (.iload_n 1, 1) := by decide +kernel
theorem dX3_operateLongs_88 : decode cX3_operateLongs 88 = .ok (.lload_n 3, 1) := by decide +kernel
theorem dX3_operateLongs_89 : decode cX3_operateLongs 89 = .ok (.lload 5, 2) := by decide +kernel
theorem dX3_operateLongs_91 : decode cX3_operateLongs 91 = .ok (.lsub, 1) := by decide +kernel
theorem dX3_operateLongs_92 : decode cX3_operateLongs 92 = .ok (.invokevirtual 55, 3) := by decide +kernel
theorem dX3_operateLongs_95 : decode cX3_operateLongs 95 = .ok (.ireturn, 1) := by decide +kernel
theorem dX3_operateLongs_96 : decode cX3_operateLongs 96 = .ok (.iload_n 2, 1) := by decide +kernel
theorem dX3_operateLongs_97 : decode cX3_operateLongs 97 = .ok (.iconst 5, 1) := by decide +kernel
theorem dX3_operateLongs_98 : decode cX3_operateLongs 98 = .ok (.if_icmp .ne 17, 3) := by decide +kernel
theorem dX3_operateLongs_101 : decode cX3_operateLongs 101 = .ok (.aload_n 0, 1) := by decide +kernel
theorem dX3_operateLongs_102 : decode cX3_operateLongs 102 = .ok (.iload_n 1, 1) := by decide +kernel
theorem dX3_operateLongs_103 : decode cX3_operateLongs 103 = .ok (.lload_n 3, 1) := by decide +kernel
theorem dX3_operateLongs_104 : decode cX3_operateLongs 104 = .ok (.lload 5, 2) := by decide +kernel
theorem dX3_operateLongs_106 : decode cX3_operateLongs 106 = .ok (.invokestatic 178, 3) := by decide +kernel
theorem dX3_operateLongs_109 : decode cX3_operateLongs 109 = .ok (.invokevirtual 55, 3) := by decide +kernel
theorem dX3_operateLongs_112 : decode cX3_operateLongs 112 = .ok (.goto 4, 3) := by decide +kernel
theorem dX3_operateLongs_115 : decode cX3_operateLongs 115 = .ok (.iconst (-1), 1) := by decide +kernel
theorem dX3_operateLongs_116 : decode cX3_operateLongs 116 = .ok (.ireturn, 1) := by decide +kernel
theorem dX3_operateLongs_117 : decode cX3_operateLongs 117 = .ok (.iconst (-1), 1) := by decide +kernel
theorem dX3_operateLongs_118 : decode cX3_operateLongs 118 = .ok (.ireturn, 1) := by decide +kernel
theorem dX3_operateIntWithImmediate_0 : decode cX3_operateIntWithImmediate 0 = .ok (.iload_n 1, 1) := by decide +kernel
theorem dX3_operateIntWithImmediate_1 : decode cX3_operateIntWithImmediate 1 = .ok (.invokestatic 157, 3) := by decide +kernel
theorem dX3_operateIntWithImmediate_4 : decode cX3_operateIntWithImmediate 4 = .ok (.istore_n 2, 1) := by decide +kernel
theorem dX3_operateIntWithImmediate_5 : decode cX3_operateIntWithImmediate 5 = .ok (.iload_n 1, 1) := by decide +kernel
theorem dX3_operateIntWithImmediate_6 : decode cX3_operateIntWithImmediate 6 = .ok (.invokestatic 186, 3) := by decide +kernel
theorem dX3_operateIntWithImmediate_9 : decode cX3_operateIntWithImmediate 9 = .ok (.istore_n 3, 1) := by decide +kernel
theorem dX3_operateIntWithImmediate_10 : decode cX3_operateIntWithImmediate 10 = .ok (.aload_n 0, 1) := by decide +kernel
theorem dX3_operateIntWithImmediate_11 : decode cX3_operateIntWithImmediate 11 = .ok (.iload_n 1, 1) := by decide +kernel
theorem dX3_operateIntWithImmediate_12 : decode cX3_operateIntWithImmediate 12 = .ok (.invokevirtual 101, 3) := by decide +kernel
theorem dX3_operateIntWithImmediate_15 : decode cX3_operateIntWithImmediate 15 = .ok (.l2i, 1) := by decide +kernel
theorem dX3_operateIntWithImmediate_16 : decode cX3_operateIntWithImmediate 16 = .ok (.istore 4, 2) := by decide +kernel
theorem dX3_operateIntWithImmediate_18 : decode cX3_operateIntWithImmediate 18 = .ok (.iload_n 2, 1) := by decide +kernel
theorem dX3_operateIntWithImmediate_19 : decode cX3_operateIntWithImmediate 19 = .ok (.ifCond .ne 17, 3) := by decide +kernel
theorem dX3_operateIntWithImmediate_22 : decode cX3_operateIntWithImmediate 22 = .ok (.aload_n 0, 1) := by decide +kernel
theorem dX3_operateIntWithImmediate_23 : decode cX3_operateIntWithImmediate 23 = .ok (.iload_n 1, 1) := by decide +kernel
theorem dX3_operateIntWithImmediate_24 : decode cX3_operateIntWithImmediate 24 = .ok (.iload 4, 2) := by decide +kernel
theorem dX3_operateIntWithImmediate_26 : decode cX3_operateIntWithImmediate 26 = .ok (.iload_n 1, 1) := by decide +kernel
theorem dX3_operateIntWithImmediate_27 : decode cX3_operateIntWithImmediate 27 = .ok (.invokestatic 160, 3) := by decide +kernel
theorem dX3_operateIntWithImmediate_30 : decode cX3_operateIntWithImmediate 30 = .ok (.iadd, 1) := by decide +kernel
theorem dX3_operateIntWithImmediate_31 : decode cX3_operateIntWithImmediate 31 = .ok (.i2l, 1) := by decide +kernel
theorem dX3_operateIntWithImmediate_32 : decode cX3_operateIntWithImmediate 32 = .ok (.invokevirtual 55, 3) := by decide +kernel
theorem dX3_operateIntWithImmediate_35 : decode cX3_operateIntWithImmediate 35 = .ok (.ireturn, 1) := by decide +kernel
theorem dX3_operateIntWithImmediate_36 : decode cX3_operateIntWithImmediate 36 = .ok (.iload_n 2, 1) := by decide +kernel
theorem dX3_operateIntWithImmediate_37 : decode cX3_operateIntWithImmediate 37 = .ok (.iconst 5, 1) := by decide +kernel
theorem dX3_operateIntWithImmediate_38 : decode cX3_operateIntWithImmediate 38 = .ok (.if_icmp .ne 25, 3) := by decide +kernel
theorem dX3_operateIntWithImmediate_41 : decode cX3_operateIntWithImmediate 41 = .ok (.iload_n 3, 1) := by decide +kernel
theorem dX3_operateIntWithImmediate_42 : decode cX3_operateIntWithImmediate 42 = .ok (.bipush 32, 2) := by decide +kernel
theorem dX3_operateIntWithImmediate_44 : decode cX3_operateIntWithImmediate 44 = .ok (.if_icmp .ne 19, 3) := by decide +kernel
theorem dX3_operateIntWithImmediate_47 : decode cX3_operateIntWithImmediate 47 = .ok (.aload_n 0, 1) := by decide +kernel
theorem dX3_operateIntWithImmediate_48 : decode cX3_operateIntWithImmediate 48 = .ok (.iload_n 1, 1) := by decide +kernel
theorem dX3_operateIntWithImmediate_49 : decode cX3_operateIntWithImmediate 49 = .ok (.iload 4, 2) := by decide +kernel
theorem dX3_operateIntWithImmediate_51 : decode cX3_operateIntWithImmediate 51 = .ok (.iload_n 1, 1) := by decide +kernel
theorem dX3_operateIntWithImmediate_52 : decode cX3_operateIntWithImmediate 52 = .ok (.invokestatic 154, 3) := by decide +kernel
theorem dX3_operateIntWithImmediate_55 : decode cX3_operateIntWithImmediate 55 = .ok (.invokestatic 192, 3) := by decide +kernel
theorem dX3_operateIntWithImmediate_58 : decode cX3_operateIntWithImmediate 58 = .ok (.i2l, 1) := by decide +kernel
theorem dX3_operateIntWithImmediate_59 : decode cX3_operateIntWithImmediate 59 = .ok (.invokevirtual 55, 3) := by decide +kernel
theorem dX3_operateIntWithImmediate_62 : decode cX3_operateIntWithImmediate 62 = .ok (.ireturn, 1) := by decide +kernel
theorem dX3_operateIntWithImmediate_63 : decode cX3_operateIntWithImmediate 63 = .ok (.iload_n 2, 1) := by decide +kernel
theorem dX3_operateIntWithImmediate_64 : decode cX3_operateIntWithImmediate 64 = .ok (.iconst 1, 1) := by decide +kernel
theorem dX3_operateIntWithImmediate_65 : decode cX3_operateIntWithImmediate 65 = .ok (.if_icmp .eq 8, 3) := by decide +kernel
theorem dX3_operateIntWithImmediate_68 : decode cX3_operateIntWithImmediate 68 = .ok (.iload_n 2, 1) := by decide +kernel
theorem dX3_operateIntWithImmediate_69 : decode cX3_operateIntWithImmediate 69 = .ok (.iconst 5, 1) := by decide +kernel
theorem dX3_operateIntWithImmediate_70 : decode cX3_operateIntWithImmediate 70 = .ok (.if_icmp .ne 24, 3) := by decide +kernel
theorem dX3_operateIntWithImmediate_73 : decode cX3_operateIntWithImmediate 73 = .ok (.iload_n 3, 1) := by decide +kernel
theorem dX3_operateIntWithImmediate_74 : decode cX3_operateIntWithImmediate 74 = .ok (.ifCond .ne 20, 3) := by decide +kernel
theorem dX3_operateIntWithImmediate_77 : decode cX3_operateIntWithImmediate 77 = .ok (.aload_n 0, 1) := by decide +kernel
theorem dX3_operateIntWithImmediate_78 : decode cX3_operateIntWithImmediate 78 = .ok (.iload_n 1, 1) := by decide +kernel
theorem dX3_operateIntWithImmediate_79 : decode cX3_operateIntWithImmediate 79 = .ok (.iload_n 2, 1) := by decide +kernel
theorem dX3_operateIntWithImmediate_80 : decode cX3_operateIntWithImmediate 80 = .ok (.iload 4, 2) := by decide +kernel
theorem dX3_operateIntWithImmediate_82 : decode cX3_operateIntWithImmediate 82 = .ok (.iload_n 1, 1) := by decide +kernel
theorem dX3_operateIntWithImmediate_83 : decode cX3_operateIntWithImmediate 83 = .ok (.invokestatic 154, 3) := by decide +kernel
theorem dX3_operateIntWithImmediate_86 : decode cX3_operateIntWithImmediate 86 = .ok (.invokestatic 197, 3) := by decide +kernel
theorem dX3_operateIntWithImmediate_89 : decode cX3_operateIntWithImmediate 89 = .ok (.i2l, 1) := by decide +kernel
theorem dX3_operateIntWithImmediate_90 : decode cX3_operateIntWithImmediate 90 = .ok (.invokevirtual 55, 3) := by decide +kernel
theorem dX3_operateIntWithImmediate_93 : decode cX3_operateIntWithImmediate 93 = .ok (.ireturn, 1) := by decide +kernel
theorem dX3_operateIntWithImmediate_94 : decode cX3_operateIntWithImmediate 94 = .ok (.iconst (-1), 1) := by decide +kernel
theorem dX3_operateIntWithImmediate_95 : decode cX3_operateIntWithImmediate 95 = .ok (.ireturn, 1) := by decide +kernel
theorem dX3_operateInts_0 : decode cX3_operateInts 0 = .ok (.iload_n 1, 1) := by decide +kernel
theorem dX3_operateInts_1 : decode cX3_operateInts 1 = .ok (.invokestatic 157, 3) := by decide +kernel
theorem dX3_operateInts_4 : decode cX3_operateInts 4 = .ok (.istore_n 2, 1) := by decide +kernel
theorem dX3_operateInts_5 : decode cX3_operateInts 5 = .ok (.aload_n 0, 1) := by decide +kernel
theorem dX3_operateInts_6 : decode cX3_operateInts 6 = .ok (.iload_n 1, 1) := by decide +kernel
theorem dX3_operateInts_7 : decode cX3_operateInts 7 = .ok (.invokevirtual 101, 3) := by decide +kernel
theorem dX3_operateInts_10 : decode cX3_operateInts 10 = .ok (.l2i, 1) := by decide +kernel
theorem dX3_operateInts_11 : decode cX3_operateInts 11 = .ok (.istore_n 3, 1) := by decide +kernel
theorem dX3_operateInts_12 : decode cX3_operateInts 12 = .ok (.aload_n 0, 1) := by decide +kernel
theorem dX3_operateInts_13 : decode cX3_operateInts 13 = .ok (.iload_n 1, 1) := by decide +kernel
theorem dX3_operateInts_14 : decode cX3_operateInts 14 = .ok (.invokevirtual 163, 3) := by decide +kernel
theorem dX3_operateInts_17 : decode cX3_operateInts 17 = .ok (.l2i, 1) := by decide +kernel
theorem dX3_operateInts_18 : decode cX3_operateInts 18 = .ok (.istore 4, 2) := by decide +kernel
theorem dX3_operateInts_20 : decode cX3_operateInts 20 = .ok (.iload_n 1, 1) := by decide +kernel
theorem dX3_operateInts_21 : decode cX3_operateInts 21 = .ok (.invokestatic 186, 3) := by decide +kernel
theorem dX3_operateInts_24 : decode cX3_operateInts 24 = .ok (.lookupswitch 132 #[(0, 36), (1, 68), (32, 95)], 36) := by decide +kernel
theorem dX3_operateInts_60 : decode cX3_operateInts 60 = .ok (.iload_n 2, 1) := by decide +kernel
theorem dX3_operateInts_61 : decode cX3_operateInts 61 = .ok (.ifCond .eq 13, 3) := by decide +kernel
theorem dX3_operateInts_64 : decode cX3_operateInts 64 = .ok (.iload_n 2, 1) := by decide +kernel
theorem dX3_operateInts_65 : decode cX3_operateInts 65 = .ok (.iconst 1, 1) := by decide +kernel
theorem dX3_operateInts_66 : decode cX3_operateInts 66 = .ok (.if_icmp .eq 8, 3) := by decide +kernel
theorem dX3_operateInts_69 : decode cX3_operateInts 69 = .ok (.iload_n 2, 1) := by decide +kernel
theorem dX3_operateInts_70 : decode cX3_operateInts 70 = .ok (.iconst 5, 1) := by decide +kernel
theorem dX3_operateInts_71 : decode cX3_operateInts 71 = .ok (.if_icmp .ne 19, 3) := by decide +kernel
theorem dX3_operateInts_74 : decode cX3_operateInts 74 = .ok (.aload_n 0, 1) := by decide +kernel
theorem dX3_operateInts_75 : decode cX3_operateInts 75 = .ok (.iload_n 1, 1) := by decide +kernel
theorem dX3_operateInts_76 : decode cX3_operateInts 76 = .ok (.iload_n 2, 1) := by decide +kernel
theorem dX3_operateInts_77 : decode cX3_operateInts 77 = .ok (.iload_n 3, 1) := by decide +kernel
theorem dX3_operateInts_78 : decode cX3_operateInts 78 = .ok (.iload 4, 2) := by decide +kernel
theorem dX3_operateInts_80 : decode cX3_operateInts 80 = .ok (.invokestatic 197, 3) := by decide +kernel
theorem dX3_operateInts_83 : decode cX3_operateInts 83 = .ok (.i2l, 1) := by decide +kernel
theorem dX3_operateInts_84 : decode cX3_operateInts 84 = .ok (.invokevirtual 55, 3) := by decide +kernel
theorem dX3_operateInts_87 : decode cX3_operateInts 87 = .ok (.goto 4, 3) := by decide +kernel
theorem dX3_operateInts_90 : decode cX3_operateInts 90 = .ok (.iconst (-1), 1) := by decide +kernel
theorem dX3_operateInts_91 : decode cX3_operateInts 91 = .ok (.ireturn, 1) := by decide +kernel
theorem dX3_operateInts_92 : decode cX3_operateInts 92 = .ok (.iload_n 2, 1) := by decide +kernel
theorem dX3_operateInts_93 : decode cX3_operateInts 93 = .ok (.ifCond .eq 8, 3) := by decide +kernel
theorem dX3_operateInts_96 : decode cX3_operateInts 96 = .ok (.iload_n 2, 1) := by decide +kernel
theorem dX3_operateInts_97 : decode cX3_operateInts 97 = .ok (.iconst 4, 1) := by decide +kernel
theorem dX3_operateInts_98 : decode cX3_operateInts 98 = .ok (.if_icmp .lt 19, 3) := by decide +kernel
theorem dX3_operateInts_101 : decode cX3_operateInts 101 = .ok (.aload_n 0, 1) := by decide +kernel
theorem dX3_operateInts_102 : decode cX3_operateInts 102 = .ok (.iload_n 1, 1) := by decide +kernel
theorem dX3_operateInts_103 : decode cX3_operateInts 103 = .ok (.iload_n 2, 1) := by decide +kernel
theorem dX3_operateInts_104 : decode cX3_operateInts 104 = .ok (.iload_n 3, 1) := by decide +kernel
theorem dX3_operateInts_105 : decode cX3_operateInts 105 = .ok (.iload 4, 2) := by decide +kernel
theorem dX3_operateInts_107 : decode cX3_operateInts 107 = .ok (.invokestatic 200, 3) := by decide +kernel
theorem dX3_operateInts_110 : decode cX3_operateInts 110 = .ok (.i2l, 1) := by decide +kernel
theorem dX3_operateInts_111 : decode cX3_operateInts 111 = .ok (.invokevirtual 55, 3) := by decide +kernel
theorem dX3_operateInts_114 : decode cX3_operateInts 114 = .ok (.goto 4, 3) := by decide +kernel
theorem dX3_operateInts_117 : decode cX3_operateInts 117 = .ok (.iconst (-1), 1) := by decide +kernel
theorem dX3_operateInts_118 : decode cX3_operateInts 118 = .ok (.ireturn, 1) := by decide +kernel
theorem dX3_operateInts_119 : decode cX3_operateInts 119 = .ok (.iload_n 2, 1) := by decide +kernel
theorem dX3_operateInts_120 : decode cX3_operateInts 120 = .ok (.ifCond .ne 14, 3) := by decide +kernel
theorem dX3_operateInts_123 : decode cX3_operateInts 123 = .ok (.aload_n 0, 1) := by decide +kernel
theorem dX3_operateInts_124 : decode cX3_operateInts 124 = .ok (.iload_n 1, 1) := by decide +kernel
theorem dX3_operateInts_125 : decode cX3_operateInts 125 = .ok (.iload_n 3, 1) := by decide +kernel
theorem dX3_operateInts_126 : decode cX3_operateInts 126 = .ok (.iload 4, 2) := by decide +kernel
theorem dX3_operateInts_128 : decode cX3_operateInts 128 = .ok (.isub, 1) := by decide +kernel
theorem dX3_operateInts_129 : decode cX3_operateInts 129 = .ok (.i2l, 1) := by decide +kernel
theorem dX3_operateInts_130 : decode cX3_operateInts 130 = .ok (.invokevirtual 55, 3) := by decide +kernel
theorem dX3_operateInts_133 : decode cX3_operateInts 133 = .ok (.ireturn, 1) := by decide +kernel
theorem dX3_operateInts_134 : decode cX3_operateInts 134 = .ok (.iload_n 2, 1) := by decide +kernel
theorem dX3_operateInts_135 : decode cX3_operateInts 135 = .ok (.iconst 5, 1) := by decide +kernel
theorem dX3_operateInts_136 : decode cX3_operateInts 136 = .ok (.if_icmp .ne 18, 3) := by decide +kernel
theorem dX3_operateInts_139 : decode cX3_operateInts 139 = .ok (.aload_n 0, 1) := by decide +kernel
theorem dX3_operateInts_140 : decode cX3_operateInts 140 = .ok (.iload_n 1, 1) := by decide +kernel
theorem dX3_operateInts_141 : decode cX3_operateInts 141 = .ok (.iload_n 3, 1) := by decide +kernel
theorem dX3_operateInts_142 : decode cX3_operateInts 142 = .ok (.iload 4, 2) := by decide +kernel
theorem dX3_operateInts_144 : decode cX3_operateInts 144 = .ok (.invokestatic 192, 3) := by decide +kernel
theorem dX3_operateInts_147 : decode cX3_operateInts 147 = .ok (.i2l, 1) := by decide +kernel
theorem dX3_operateInts_148 : decode cX3_operateInts 148 = .ok (.invokevirtual 55, 3) := by decide +kernel
theorem dX3_operateInts_151 : decode cX3_operateInts 151 = .ok (.goto 4, 3) := by decide +kernel
theorem dX3_operateInts_154 : decode cX3_operateInts 154 = .ok (.iconst (-1), 1) := by decide +kernel
theorem dX3_operateInts_155 : decode cX3_operateInts 155 = .ok (.ireturn, 1) := by decide +kernel
theorem dX3_operateInts_156 : decode cX3_operateInts 156 = .ok (.iconst (-1), 1) := by decide +kernel
theorem dX3_operateInts_157 : decode cX3_operateInts 157 = .ok (.ireturn, 1) := by decide +kernel
theorem dX3_fence_0 : decode cX3_fence 0 = .ok (.iload_n 1, 1) := by decide +kernel
theorem dX3_fence_1 : decode cX3_fence 1 = .ok (.invokestatic 157, 3) := by decide +kernel
theorem dX3_fence_4 : decode cX3_fence 4 = .ok (.iconst 1, 1) := by decide +kernel
theorem dX3_fence_5 : decode cX3_fence 5 = .ok (.if_icmp .le 5, 3) := by decide +kernel
theorem dX3_fence_8 : decode cX3_fence 8 = .ok (.iconst (-1), 1) := by decide +kernel
theorem dX3_fence_9 : decode cX3_fence 9 = .ok (.ireturn, 1) := by decide +kernel
theorem dX3_fence_10 : decode cX3_fence 10 = .ok (.aload_n 0, 1) := by decide +kernel
theorem dX3_fence_11 : decode cX3_fence 11 = .ok (.aload_n 0, 1) := by decide +kernel
theorem dX3_fence_12 : decode cX3_fence 12 = .ok (.getfield 32, 3) := by decide +kernel
theorem dX3_fence_15 : decode cX3_fence 15 = .ok (.aload_n 0, 1) := by decide +kernel
theorem dX3_fence_16 : decode cX3_fence 16 = .ok (.getfield 43, 3) := by decide +kernel
theorem dX3_fence_19 : decode cX3_fence 19 = .ok (.i2l, 1) := by decide +kernel
theorem dX3_fence_20 : decode cX3_fence 20 = .ok (.ladd, 1) := by decide +kernel
theorem dX3_fence_21 : decode cX3_fence 21 = .ok (.invokevirtual 141, 3) := by decide +kernel
