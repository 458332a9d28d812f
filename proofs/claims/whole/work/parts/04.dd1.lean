theorem dX4_upper_89 : decode cX4_upper 89 = .ok (.goto (-79), 3) := by decide +kernel
theorem dX4_upper_92 : decode cX4_upper 92 = .ok (.lload 4, 2) := by decide +kernel
theorem dX4_upper_94 : decode cX4_upper 94 = .ok (.lreturn, 1) := by decide +kernel
theorem dX4_divide_0 : decode cX4_divide 0 = .ok (.aload_n 0, 1) := by decide +kernel
theorem dX4_divide_1 : decode cX4_divide 1 = .ok (.lconst 0, 1) := by decide +kernel
theorem dX4_divide_2 : decode cX4_divide 2 = .ok (.putfield 63, 3) := by decide +kernel
theorem dX4_divide_5 : decode cX4_divide 5 = .ok (.aload_n 0, 1) := by decide +kernel
theorem dX4_divide_6 : decode cX4_divide 6 = .ok (.lconst 0, 1) := by decide +kernel
theorem dX4_divide_7 : decode cX4_divide 7 = .ok (.putfield 66, 3) := by decide +kernel
theorem dX4_divide_10 : decode cX4_divide 10 = .ok (.bipush 63, 2) := by decide +kernel
theorem dX4_divide_12 : decode cX4_divide 12 = .ok (.istore 5, 2) := by decide +kernel
theorem dX4_divide_14 : decode cX4_divide 14 = .ok (.iload 5, 2) := by decide +kernel
theorem dX4_divide_16 : decode cX4_divide 16 = .ok (.ifCond .lt 92, 3) := by decide +kernel
theorem dX4_divide_19 : decode cX4_divide 19 = .ok (.aload_n 0, 1) := by decide +kernel
theorem dX4_divide_20 : decode cX4_divide 20 = .ok (.getfield 66, 3) := by decide +kernel
theorem dX4_divide_23 : decode cX4_divide 23 = .ok (.lconst 0, 1) := by decide +kernel
theorem dX4_divide_24 : decode cX4_divide 24 = .ok (.lcmp, 1) := by decide +kernel
theorem dX4_divide_25 : decode cX4_divide 25 = .ok (.ifCond .ge 7, 3) := by decide +kernel
theorem dX4_divide_28 : decode cX4_divide 28 = .ok (.iconst 1, 1) := by decide +kernel
theorem dX4_divide_29 : decode cX4_divide 29 = .ok (.goto 4, 3) := by decide +kernel
theorem dX4_divide_32 : decode cX4_divide 32 = .ok (.iconst 0, 1) := by decide +kernel
theorem dX4_divide_33 : decode cX4_divide 33 = .ok (.istore 6, 2) := by decide +kernel
theorem dX4_divide_35 : decode cX4_divide 35 = .ok (.aload_n 0, 1) := by decide +kernel
theorem dX4_divide_36 : decode cX4_divide 36 = .ok (.ldc2_w 57, 3) := by decide +kernel
theorem dX4_divide_39 : decode cX4_divide 39 = .ok (.aload_n 0, 1) := by decide +kernel
theorem dX4_divide_40 : decode cX4_divide 40 = .ok (.getfield 66, 3) := by decide +kernel
theorem dX4_divide_43 : decode cX4_divide 43 = .ok (.lmul, 1) := by decide +kernel
theorem dX4_divide_44 : decode cX4_divide 44 = .ok (.lload_n 1, 1) := by decide +kernel
theorem dX4_divide_45 : decode cX4_divide 45 = .ok (.iload 5, 2) := by decide +kernel
theorem dX4_divide_47 : decode cX4_divide 47 = .ok (.lshr, 1) := by decide +kernel
theorem dX4_divide_48 : decode cX4_divide 48 = .ok (.lconst 1, 1) := by decide +kernel
theorem dX4_divide_49 : decode cX4_divide 49 = .ok (.land, 1) := by decide +kernel
theorem dX4_divide_50 : decode cX4_divide 50 = .ok (.ladd, 1) := by decide +kernel
theorem dX4_divide_51 : decode cX4_divide 51 = .ok (.putfield 66, 3) := by decide +kernel
theorem dX4_divide_54 : decode cX4_divide 54 = .ok (.aload_n 0, 1) := by decide +kernel
theorem dX4_divide_55 : decode cX4_divide 55 = .ok (.ldc2_w 57, 3) := by decide +kernel
theorem dX4_divide_58 : decode cX4_divide 58 = .ok (.aload_n 0, 1) := by decide +kernel
theorem dX4_divide_59 : decode cX4_divide 59 = .ok (.getfield 63, 3) := by decide +kernel
theorem dX4_divide_62 : decode cX4_divide 62 = .ok (.lmul, 1) := by decide +kernel
theorem dX4_divide_63 : decode cX4_divide 63 = .ok (.putfield 63, 3) := by decide +kernel
theorem dX4_divide_66 : decode cX4_divide 66 = .ok (.iload 6, 2) := by decide +kernel
theorem dX4_divide_68 : decode cX4_divide 68 = .ok (.ifCond .ne 14, 3) := by decide +kernel
theorem dX4_divide_71 : decode cX4_divide 71 = .ok (.aload_n 0, 1) := by decide +kernel
theorem dX4_divide_72 : decode cX4_divide 72 = .ok (.getfield 66, 3) := by decide +kernel
theorem dX4_divide_75 : decode cX4_divide 75 = .ok (.lload_n 3, 1) := by decide +kernel
theorem dX4_divide_76 : decode cX4_divide 76 = .ok (.invokestatic 59, 3) := by decide +kernel
theorem dX4_divide_79 : decode cX4_divide 79 = .ok (.ifCond .ne 23, 3) := by decide +kernel
theorem dX4_divide_82 : decode cX4_divide 82 = .ok (.aload_n 0, 1) := by decide +kernel
theorem dX4_divide_83 : decode cX4_divide 83 = .ok (.aload_n 0, 1) := by decide +kernel
theorem dX4_divide_84 : decode cX4_divide 84 = .ok (.getfield 66, 3) := by decide +kernel
theorem dX4_divide_87 : decode cX4_divide 87 = .ok (.lload_n 3, 1) := by decide +kernel
theorem dX4_divide_88 : decode cX4_divide 88 = .ok (.lsub, 1) := by decide +kernel
theorem dX4_divide_89 : decode cX4_divide 89 = .ok (.putfield 66, 3) := by decide +kernel
theorem dX4_divide_92 : decode cX4_divide 92 = .ok (.aload_n 0, 1) := by decide +kernel
theorem dX4_divide_93 : decode cX4_divide 93 = .ok (.aload_n 0, 1) := by decide +kernel
theorem dX4_divide_94 : decode cX4_divide 94 = .ok (.getfield 63, 3) := by decide +kernel
theorem dX4_divide_97 : decode cX4_divide 97 = .ok (.lconst 1, 1) := by decide +kernel
theorem dX4_divide_98 : decode cX4_divide 98 = .ok (.ladd, 1) := by decide +kernel
theorem dX4_divide_99 : decode cX4_divide 99 = .ok (.putfield 63, 3) := by decide +kernel
theorem dX4_divide_102 : decode cX4_divide 102 = .ok (.iinc 5 (-1), 3) := by decide +kernel
theorem dX4_divide_105 : decode cX4_divide 105 = .ok (.goto (-91), 3) := by decide +kernel
theorem dX4_divide_108 : decode cX4_divide 108 = .ok (.return_, 1) := by decide +kernel
theorem dX4_divideAll_0 : decode cX4_divideAll 0 = .ok (.lload_n 3, 1) := by decide +kernel
theorem dX4_divideAll_1 : decode cX4_divideAll 1 = .ok (.lconst 0, 1) := by decide +kernel
theorem dX4_divideAll_2 : decode cX4_divideAll 2 = .ok (.lcmp, 1) := by decide +kernel
theorem dX4_divideAll_3 : decode cX4_divideAll 3 = .ok (.ifCond .ne 16, 3) := by decide +kernel
theorem dX4_divideAll_6 : decode cX4_divideAll 6 = .ok (.aload_n 0, 1) := by decide +kernel
theorem dX4_divideAll_7 : decode cX4_divideAll 7 = .ok (.ldc2_w 69, 3) := by decide +kernel
theorem dX4_divideAll_10 : decode cX4_divideAll 10 = .ok (.putfield 63, 3) := by decide +kernel
theorem dX4_divideAll_13 : decode cX4_divideAll 13 = .ok (.aload_n 0, 1) := by decide +kernel
theorem dX4_divideAll_14 : decode cX4_divideAll 14 = .ok (.lload_n 1, 1) := by decide +kernel
theorem dX4_divideAll_15 : decode cX4_divideAll 15 = .ok (.putfield 66, 3) := by decide +kernel
theorem dX4_divideAll_18 : decode cX4_divideAll 18 = .ok (.return_, 1) := by decide +kernel
theorem dX4_divideAll_19 : decode cX4_divideAll 19 = .ok (.iload 5, 2) := by decide +kernel
theorem dX4_divideAll_21 : decode cX4_divideAll 21 = .ok (.ifCond .eq 13, 3) := by decide +kernel
theorem dX4_divideAll_24 : decode cX4_divideAll 24 = .ok (.lload_n 1, 1) := by decide +kernel
theorem dX4_divideAll_25 : decode cX4_divideAll 25 = .ok (.lconst 0, 1) := by decide +kernel
theorem dX4_divideAll_26 : decode cX4_divideAll 26 = .ok (.lcmp, 1) := by decide +kernel
theorem dX4_divideAll_27 : decode cX4_divideAll 27 = .ok (.ifCond .ge 7, 3) := by decide +kernel
theorem dX4_divideAll_30 : decode cX4_divideAll 30 = .ok (.iconst 1, 1) := by decide +kernel
theorem dX4_divideAll_31 : decode cX4_divideAll 31 = .ok (.goto 4, 3) := by decide +kernel
theorem dX4_divideAll_34 : decode cX4_divideAll 34 = .ok (.iconst 0, 1) := by decide +kernel
theorem dX4_divideAll_35 : decode cX4_divideAll 35 = .ok (.istore 6, 2) := by decide +kernel
theorem dX4_divideAll_37 : decode cX4_divideAll 37 = .ok (.iload 5, 2) := by decide +kernel
theorem dX4_divideAll_39 : decode cX4_divideAll 39 = .ok (.ifCond .eq 13, 3) := by decide +kernel
theorem dX4_divideAll_42 : decode cX4_divideAll 42 = .ok (.lload_n 3, 1) := by decide +kernel
theorem dX4_divideAll_43 : decode cX4_divideAll 43 = .ok (.lconst 0, 1) := by decide +kernel
theorem dX4_divideAll_44 : decode cX4_divideAll 44 = .ok (.lcmp, 1) := by decide +kernel
theorem dX4_divideAll_45 : decode cX4_divideAll 45 = .ok (.ifCond .ge 7, 3) := by decide +kernel
theorem dX4_divideAll_48 : decode cX4_divideAll 48 = .ok (.iconst 1, 1) := by decide +kernel
theorem dX4_divideAll_49 : decode cX4_divideAll 49 = .ok (.goto 4, 3) := by decide +kernel
theorem dX4_divideAll_52 : decode cX4_divideAll 52 = .ok (.iconst 0, 1) := by decide +kernel
theorem dX4_divideAll_53 : decode cX4_divideAll 53 = .ok (.istore 7, 2) := by decide +kernel
theorem dX4_divideAll_55 : decode cX4_divideAll 55 = .ok (.aload_n 0, 1) := by decide +kernel
theorem dX4_divideAll_56 : decode cX4_divideAll 56 = .ok (.iload 6, 2) := by decide +kernel
theorem dX4_divideAll_58 : decode cX4_divideAll 58 = .ok (.ifCond .eq 8, 3) := by decide +kernel
theorem dX4_divideAll_61 : decode cX4_divideAll 61 = .ok (.lload_n 1, 1) := by decide +kernel
theorem dX4_divideAll_62 : decode cX4_divideAll 62 = .ok (.lneg, 1) := by decide +kernel
theorem dX4_divideAll_63 : decode cX4_divideAll 63 = .ok (.goto 4, 3) := by decide +kernel
theorem dX4_divideAll_66 : decode cX4_divideAll 66 = .ok (.lload_n 1, 1) := by decide +kernel
theorem dX4_divideAll_67 : decode cX4_divideAll 67 = .ok (.iload 7, 2) := by decide +kernel
theorem dX4_divideAll_69 : decode cX4_divideAll 69 = .ok (.ifCond .eq 8, 3) := by decide +kernel
theorem dX4_divideAll_72 : decode cX4_divideAll 72 = .ok (.lload_n 3, 1) := by decide +kernel
theorem dX4_divideAll_73 : decode cX4_divideAll 73 = .ok (.lneg, 1) := by decide +kernel
theorem dX4_divideAll_74 : decode cX4_divideAll 74 = .ok (.goto 4, 3) := by decide +kernel
theorem dX4_divideAll_77 : decode cX4_divideAll 77 = .ok (.lload_n 3, 1) := by decide +kernel
theorem dX4_divideAll_78 : decode cX4_divideAll 78 = .ok (.invokevirtual 71, 3) := by decide +kernel
theorem dX4_divideAll_81 : decode cX4_divideAll 81 = .ok (.aload_n 0, 1) := by decide +kernel
theorem dX4_divideAll_82 : decode cX4_divideAll 82 = .ok (.iload 6, 2) := by decide +kernel
theorem dX4_divideAll_84 : decode cX4_divideAll 84 = .ok (.iload 7, 2) := by decide +kernel
theorem dX4_divideAll_86 : decode cX4_divideAll 86 = .ok (.if_icmp .eq 11, 3) := by decide +kernel
theorem dX4_divideAll_89 : decode cX4_divideAll 89 = .ok (.aload_n 0, 1) := by decide +kernel
theorem dX4_divideAll_90 : decode cX4_divideAll 90 = .ok (.getfield 63, 3) := by decide +kernel
theorem dX4_divideAll_93 : decode cX4_divideAll 93 = .ok (.lneg, 1) := by decide +kernel
theorem dX4_divideAll_94 : decode cX4_divideAll 94 = .ok (.goto 7, 3) := by decide +kernel
theorem dX4_divideAll_97 : decode cX4_divideAll 97 = .ok (.aload_n 0, 1) := by decide +kernel
theorem dX4_divideAll_98 : decode cX4_divideAll 98 = .ok (.getfield 63, 3) := by decide +kernel
theorem dX4_divideAll_101 : decode cX4_divideAll 101 = .ok (.putfield 63, 3) := by decide +kernel
theorem dX4_divideAll_104 : decode cX4_divideAll 104 = .ok (.aload_n 0, 1) := by decide +kernel
theorem dX4_divideAll_105 : decode cX4_divideAll 105 = .ok (.iload 6, 2) := by decide +kernel
theorem dX4_divideAll_107 : decode cX4_divideAll 107 = .ok (.ifCond .eq 11, 3) := by decide +kernel
theorem dX4_divideAll_110 : decode cX4_divideAll 110 = .ok (.aload_n 0, 1) := by decide +kernel
theorem dX4_divideAll_111 : decode cX4_divideAll 111 = .ok (.getfield 66, 3) := by decide +kernel
theorem dX4_divideAll_114 : decode cX4_divideAll 114 = .ok (.lneg, 1) := by decide +kernel
theorem dX4_divideAll_115 : decode cX4_divideAll 115 = .ok (.goto 7, 3) := by decide +kernel
theorem dX4_divideAll_118 : decode cX4_divideAll 118 = .ok (.aload_n 0, 1) := by decide +kernel
theorem dX4_divideAll_119 : decode cX4_divideAll 119 = .ok (.getfield 66, 3) := by decide +kernel
theorem dX4_divideAll_122 : decode cX4_divideAll 122 = .ok (.putfield 66, 3) := by decide +kernel
theorem dX4_divideAll_125 : decode cX4_divideAll 125 = .ok (.return_, 1) := by decide +kernel
theorem dX4_done__0 : decode cX4_done_ 0 = .ok (.aload_n 0, 1) := by decide +kernel
theorem dX4_done__1 : decode cX4_done_ 1 = .ok (.iload_n 1, 1) := by decide +kernel
theorem dX4_done__2 : decode cX4_done_ 2 = .ok (.lload_n 2, 1) := by decide +kernel
theorem dX4_done__3 : decode cX4_done_ 3 = .ok (.invokevirtual 27, 3) := by decide +kernel
theorem dX4_done__6 : decode cX4_done_ 6 = .ok (.aload_n 0, 1) := by decide +kernel
theorem dX4_done__7 : decode cX4_done_ 7 = .ok (.aload_n 0, 1) := by decide +kernel
theorem dX4_done__8 : decode cX4_done_ 8 = .ok (.getfield 31, 3) := by decide +kernel
theorem dX4_done__11 : decode cX4_done_ 11 = .ok (.aload_n 0, 1) := by decide +kernel
theorem dX4_done__12 : decode cX4_done_ 12 = .ok (.getfield 75, 3) := by decide +kernel
theorem dX4_done__15 : decode cX4_done_ 15 = .ok (.i2l, 1) := by decide +kernel
theorem dX4_done__16 : decode cX4_done_ 16 = .ok (.ladd, 1) := by decide +kernel
theorem dX4_done__17 : decode cX4_done_ 17 = .ok (.putfield 31, 3) := by decide +kernel
theorem dX4_done__20 : decode cX4_done_ 20 = .ok (.aload_n 0, 1) := by decide +kernel
theorem dX4_done__21 : decode cX4_done_ 21 = .ok (.dup, 1) := by decide +kernel
theorem dX4_done__22 : decode cX4_done_ 22 = .ok (.getfield 35, 3) := by decide +kernel
theorem dX4_done__25 : decode cX4_done_ 25 = .ok (.lconst 1, 1) := by decide +kernel
theorem dX4_done__26 : decode cX4_done_ 26 = .ok (.ladd, 1) := by decide +kernel
theorem dX4_done__27 : decode cX4_done_ 27 = .ok (.putfield 35, 3) := by decide +kernel
theorem dX4_done__30 : decode cX4_done_ 30 = .ok (.iconst 0, 1) := by decide +kernel
theorem dX4_done__31 : decode cX4_done_ 31 = .ok (.ireturn, 1) := by decide +kernel
theorem dX4_go_0 : decode cX4_go 0 = .ok (.aload_n 0, 1) := by decide +kernel
theorem dX4_go_1 : decode cX4_go 1 = .ok (.lload_n 1, 1) := by decide +kernel
theorem dX4_go_2 : decode cX4_go 2 = .ok (.putfield 31, 3) := by decide +kernel
theorem dX4_go_5 : decode cX4_go 5 = .ok (.aload_n 0, 1) := by decide +kernel
theorem dX4_go_6 : decode cX4_go 6 = .ok (.dup, 1) := by decide +kernel
theorem dX4_go_7 : decode cX4_go 7 = .ok (.getfield 35, 3) := by decide +kernel
theorem dX4_go_10 : decode cX4_go 10 = .ok (.lconst 1, 1) := by decide +kernel
theorem dX4_go_11 : decode cX4_go 11 = .ok (.ladd, 1) := by decide +kernel
theorem dX4_go_12 : decode cX4_go 12 = .ok (.putfield 35, 3) := by decide +kernel
theorem dX4_go_15 : decode cX4_go 15 = .ok (.iconst 0, 1) := by decide +kernel
theorem dX4_go_16 : decode cX4_go 16 = .ok (.ireturn, 1) := by decide +kernel
theorem dX4_want_0 : decode cX4_want 0 = .ok (.aload_n 0, 1) := by decide +kernel
theorem dX4_want_1 : decode cX4_want 1 = .ok (.iload_n 1, 1) := by decide +kernel
theorem dX4_want_2 : decode cX4_want 2 = .ok (.putfield 13, 3) := by decide +kernel
theorem dX4_want_5 : decode cX4_want 5 = .ok (.aload_n 0, 1) := by decide +kernel
theorem dX4_want_6 : decode cX4_want 6 = .ok (.aload_n 0, 1) := by decide +kernel
theorem dX4_want_7 : decode cX4_want 7 = .ok (.getfield 75, 3) := by decide +kernel
theorem dX4_want_10 : decode cX4_want 10 = .ok (.putfield 78, 3) := by decide +kernel
theorem dX4_want_13 : decode cX4_want 13 = .ok (.aload_n 0, 1) := by decide +kernel
theorem dX4_want_14 : decode cX4_want 14 = .ok (.getfield 17, 3) := by decide +kernel
theorem dX4_want_17 : decode cX4_want 17 = .ok (.iconst 0, 1) := by decide +kernel
theorem dX4_want_18 : decode cX4_want 18 = .ok (.lload_n 2, 1) := by decide +kernel
theorem dX4_want_19 : decode cX4_want 19 = .ok (.lastore, 1) := by decide +kernel
theorem dX4_want_20 : decode cX4_want 20 = .ok (.aload_n 0, 1) := by decide +kernel
theorem dX4_want_21 : decode cX4_want 21 = .ok (.getfield 17, 3) := by decide +kernel
theorem dX4_want_24 : decode cX4_want 24 = .ok (.iconst 1, 1) := by decide +kernel
theorem dX4_want_25 : decode cX4_want 25 = .ok (.lload 4, 2) := by decide +kernel
theorem dX4_want_27 : decode cX4_want 27 = .ok (.lastore, 1) := by decide +kernel
theorem dX4_want_28 : decode cX4_want 28 = .ok (.aload_n 0, 1) := by decide +kernel
theorem dX4_want_29 : decode cX4_want 29 = .ok (.getfield 17, 3) := by decide +kernel
theorem dX4_want_32 : decode cX4_want 32 = .ok (.iconst 2, 1) := by decide +kernel
theorem dX4_want_33 : decode cX4_want 33 = .ok (.lload 6, 2) := by decide +kernel
theorem dX4_want_35 : decode cX4_want 35 = .ok (.lastore, 1) := by decide +kernel
theorem dX4_want_36 : decode cX4_want 36 = .ok (.aload_n 0, 1) := by decide +kernel
theorem dX4_want_37 : decode cX4_want 37 = .ok (.getfield 17, 3) := by decide +kernel
theorem dX4_want_40 : decode cX4_want 40 = .ok (.iconst 3, 1) := by decide +kernel
theorem dX4_want_41 : decode cX4_want 41 = .ok (.lload 8, 2) := by decide +kernel
theorem dX4_want_43 : decode cX4_want 43 = .ok (.lastore, 1) := by decide +kernel
theorem dX4_want_44 : decode cX4_want 44 = .ok (.aload_n 0, 1) := by decide +kernel
theorem dX4_want_45 : decode cX4_want 45 = .ok (.getfield 17, 3) := by decide +kernel
theorem dX4_want_48 : decode cX4_want 48 = .ok (.iconst 4, 1) := by decide +kernel
theorem dX4_want_49 : decode cX4_want 49 = .ok (.iload 10, 2) := by decide +kernel
theorem dX4_want_51 : decode cX4_want 51 = .ok (.i2l, 1) := by decide +kernel
theorem dX4_want_52 : decode cX4_want 52 = .ok (.lastore, 1) := by decide +kernel
theorem dX4_want_53 : decode cX4_want 53 = .ok (.iload_n 1, 1) := by decide +kernel
theorem dX4_want_54 : decode cX4_want 54 = .ok (.ireturn, 1) := by decide +kernel
theorem dX4_truth_0 : decode cX4_truth 0 = .ok (.iload_n 0, 1) := by decide +kernel
theorem dX4_truth_1 : decode cX4_truth 1 = .ok (.ifCond .eq 7, 3) := by decide +kernel
theorem dX4_truth_4 : decode cX4_truth 4 = .ok (.lconst 1, 1) := by decide +kernel
theorem dX4_truth_5 : decode cX4_truth 5 = .ok (.goto 4, 3) := by decide +kernel
theorem dX4_truth_8 : decode cX4_truth 8 = .ok (.lconst 0, 1) := by decide +kernel
theorem dX4_truth_9 : decode cX4_truth 9 = .ok (.lreturn, 1) := by decide +kernel
theorem dX4_branch_0 : decode cX4_branch 0 = .ok (.iload_n 1, 1) := by decide +kernel
theorem dX4_branch_1 : decode cX4_branch 1 = .ok (.iconst 2, 1) := by decide +kernel
theorem dX4_branch_2 : decode cX4_branch 2 = .ok (.if_icmp .eq 8, 3) := by decide +kernel
theorem dX4_branch_5 : decode cX4_branch 5 = .ok (.iload_n 1, 1) := by decide +kernel
theorem dX4_branch_6 : decode cX4_branch 6 = .ok (.iconst 3, 1) := by decide +kernel
theorem dX4_branch_7 : decode cX4_branch 7 = .ok (.if_icmp .ne 5, 3) := by decide +kernel
theorem dX4_branch_10 : decode cX4_branch 10 = .ok (.iconst (-1), 1) := by decide +kernel
theorem dX4_branch_11 : decode cX4_branch 11 = .ok (.ireturn, 1) := by decide +kernel
theorem dX4_branch_12 : decode cX4_branch 12 = .ok (.iload_n 1, 1) := by decide +kernel
theorem dX4_branch_13 : decode cX4_branch 13 = .ok (.iconst 2, 1) := by decide +kernel
theorem dX4_branch_14 : decode cX4_branch 14 = .ok (.if_icmp .ge 23, 3) := by decide +kernel
theorem dX4_branch_17 : decode cX4_branch 17 = .ok (.aload_n 0, 1) := by decide +kernel
theorem dX4_branch_18 : decode cX4_branch 18 = .ok (.getfield 81, 3) := by decide +kernel
theorem dX4_branch_21 : decode cX4_branch 21 = .ok (.aload_n 0, 1) := by decide +kernel
theorem dX4_branch_22 : decode cX4_branch 22 = .ok (.getfield 84, 3) := by decide +kernel
theorem dX4_branch_25 : decode cX4_branch 25 = .ok (.lcmp, 1) := by decide +kernel
theorem dX4_branch_26 : decode cX4_branch 26 = .ok (.ifCond .ne 7, 3) := by decide +kernel
theorem dX4_branch_29 : decode cX4_branch 29 = .ok (.iconst 1, 1) := by decide +kernel
theorem dX4_branch_30 : decode cX4_branch 30 = .ok (.goto 44, 3) := by decide +kernel
theorem dX4_branch_33 : decode cX4_branch 33 = .ok (.iconst 0, 1) := by decide +kernel
theorem dX4_branch_34 : decode cX4_branch 34 = .ok (.goto 40, 3) := by decide +kernel
theorem dX4_branch_37 : decode cX4_branch 37 = .ok (.iload_n 1, 1) := by decide +kernel
theorem dX4_branch_38 : decode cX4_branch 38 = .ok (.bipush 6, 2) := by decide +kernel
theorem dX4_branch_40 : decode cX4_branch 40 = .ok (.if_icmp .ge 23, 3) := by decide +kernel
theorem dX4_branch_43 : decode cX4_branch 43 = .ok (.aload_n 0, 1) := by decide +kernel
theorem dX4_branch_44 : decode cX4_branch 44 = .ok (.getfield 81, 3) := by decide +kernel
theorem dX4_branch_47 : decode cX4_branch 47 = .ok (.aload_n 0, 1) := by decide +kernel
theorem dX4_branch_48 : decode cX4_branch 48 = .ok (.getfield 84, 3) := by decide +kernel
theorem dX4_branch_51 : decode cX4_branch 51 = .ok (.lcmp, 1) := by decide +kernel
theorem dX4_branch_52 : decode cX4_branch 52 = .ok (.ifCond .ge 7, 3) := by decide +kernel
theorem dX4_branch_55 : decode cX4_branch 55 = .ok (.iconst 1, 1) := by decide +kernel
theorem dX4_branch_56 : decode cX4_branch 56 = .ok (.goto 18, 3) := by decide +kernel
theorem dX4_branch_59 : decode cX4_branch 59 = .ok (.iconst 0, 1) := by decide +kernel
theorem dX4_branch_60 : decode cX4_branch 60 = .ok (.goto 14, 3) := by decide +kernel
theorem dX4_branch_63 : decode cX4_branch 63 = .ok (.aload_n 0, 1) := by decide +kernel
theorem dX4_branch_64 : decode cX4_branch 64 = .ok (.getfield 81, 3) := by decide +kernel
theorem dX4_branch_67 : decode cX4_branch 67 = .ok (.aload_n 0, 1) := by decide +kernel
theorem dX4_branch_68 : decode cX4_branch 68 = .ok (.getfield 84, 3) := by decide +kernel
theorem dX4_branch_71 : decode cX4_branch 71 = .ok (.invokestatic 59, 3) := by decide +kernel
theorem dX4_branch_74 : decode cX4_branch 74 = .ok (.istore_n 2, 1) := by decide +kernel
theorem dX4_branch_75 : decode cX4_branch 75 = .ok (.iload_n 2, 1) := by decide +kernel
theorem dX4_branch_76 : decode cX4_branch 76 = .ok (.iload_n 1, 1) := by decide +kernel
theorem dX4_branch_77 : decode cX4_branch 77 = .ok (.ifCond .eq 14, 3) := by decide +kernel
theorem dX4_branch_80 : decode cX4_branch 80 = .ok (.iload_n 1, 1) := by decide +kernel
theorem dX4_branch_81 : decode cX4_branch 81 = .ok (.iconst 4, 1) := by decide +kernel
theorem dX4_branch_82 : decode cX4_branch 82 = .ok (.if_icmp .eq 9, 3) := by decide +kernel
theorem dX4_branch_85 : decode cX4_branch 85 = .ok (.iload_n 1, 1) := by decide +kernel
theorem dX4_branch_86 : decode cX4_branch 86 = .ok (.bipush 6, 2) := by decide +kernel
theorem dX4_branch_88 : decode cX4_branch 88 = .ok (.if_icmp .ne 7, 3) := by decide +kernel
theorem dX4_branch_91 : decode cX4_branch 91 = .ok (.iconst 1, 1) := by decide +kernel
theorem dX4_branch_92 : decode cX4_branch 92 = .ok (.goto 4, 3) := by decide +kernel
theorem dX4_branch_95 : decode cX4_branch 95 = .ok (.iconst 0, 1) := by decide +kernel
theorem dX4_branch_96 : decode cX4_branch 96 = .ok (.if_icmp .ne 7, 3) := by decide +kernel
theorem dX4_branch_99 : decode cX4_branch 99 = .ok (.iconst 1, 1) := by decide +kernel
theorem dX4_branch_100 : decode cX4_branch 100 = .ok (.goto 4, 3) := by decide +kernel
theorem dX4_branch_103 : decode cX4_branch 103 = .ok (.iconst 0, 1) := by decide +kernel
theorem dX4_branch_104 : decode cX4_branch 104 = .ok (.istore_n 3, 1) := by decide +kernel
theorem dX4_branch_105 : decode cX4_branch 105 = .ok (.aload_n 0, 1) := by decide +kernel
theorem dX4_branch_106 : decode cX4_branch 106 = .ok (.iload_n 3, 1) := by decide +kernel
theorem dX4_branch_107 : decode cX4_branch 107 = .ok (.ifCond .eq 15, 3) := by decide +kernel
theorem dX4_branch_110 : decode cX4_branch 110 = .ok (.aload_n 0, 1) := by decide +kernel
theorem dX4_branch_111 : decode cX4_branch 111 = .ok (.getfield 31, 3) := by decide +kernel
theorem dX4_branch_114 : decode cX4_branch 114 = .ok (.aload_n 0, 1) := by decide +kernel
theorem dX4_branch_115 : decode cX4_branch 115 = .ok (.invokevirtual 87, 3) := by decide +kernel
theorem dX4_branch_118 : decode cX4_branch 118 = .ok (.ladd, 1) := by decide +kernel
theorem dX4_branch_119 : decode cX4_branch 119 = .ok (.goto 13, 3) := by decide +kernel
theorem dX4_branch_122 : decode cX4_branch 122 = .ok (.aload_n 0, 1) := by decide +kernel
theorem dX4_branch_123 : decode cX4_branch 123 = .ok (.getfield 31, 3) := by decide +kernel
theorem dX4_branch_126 : decode cX4_branch 126 = .ok (.aload_n 0, 1) := by decide +kernel
theorem dX4_branch_127 : decode cX4_branch 127 = .ok (.getfield 75, 3) := by decide +kernel
theorem dX4_branch_130 : decode cX4_branch 130 = .ok (.i2l, 1) := by decide +kernel
theorem dX4_branch_131 : decode cX4_branch 131 = .ok (.ladd, 1) := by decide +kernel
theorem dX4_branch_132 : decode cX4_branch 132 = .ok (.invokevirtual 91, 3) := by decide +kernel
theorem dX4_branch_135 : decode cX4_branch 135 = .ok (.ireturn, 1) := by decide +kernel
theorem dX4_plain_0 : decode cX4_plain 0 = .ok (.iload_n 0, 1) := by decide +kernel
theorem dX4_plain_1 : decode cX4_plain 1 = .ok (.tableswitch 89 0 6 #[43, 47, 52, 67, 76, 80, 85], 43) := by decide +kernel
theorem dX4_plain_44 : decode cX4_plain 44 = .ok (.lload_n 1, 1) := by decide +kernel
theorem dX4_plain_45 : decode cX4_plain 45 = .ok (.lload_n 3, 1) := by decide +kernel
theorem dX4_plain_46 : decode cX4_plain 46 = .ok (.ladd, 1) := by decide +kernel
theorem dX4_plain_47 : decode cX4_plain 47 = .ok (.lreturn, 1) := by decide +kernel
theorem dX4_plain_48 : decode cX4_plain 48 = .ok (.lload_n 1, 1) := by decide +kernel
theorem dX4_plain_49 : decode cX4_plain 49 = .ok (.iload 5, 2) := by decide +kernel
theorem dX4_plain_51 : decode cX4_plain 51 = .ok (.lshl, 1) := by decide +kernel
theorem dX4_plain_52 : decode cX4_plain 52 = .ok (.lreturn, 1) := by decide +kernel
theorem dX4_plain_53 : decode cX4_plain 53 = .ok (.lload_n 1, 1) := by decide +kernel
theorem dX4_plain_54 : decode cX4_plain 54 = .ok (.lload_n 3, 1) := by decide +kernel
theorem dX4_plain_55 : decode cX4_plain 55 = .ok (.lcmp, 1) := by decide +kernel
theorem dX4_plain_56 : decode cX4_plain 56 = .ok (.ifCond .ge 7, 3) := by decide +kernel
theorem dX4_plain_59 : decode cX4_plain 59 = .ok (.iconst 1, 1) := by decide +kernel
theorem dX4_plain_60 : decode cX4_plain 60 = .ok (.goto 4, 3) := by decide +kernel
theorem dX4_plain_63 : decode cX4_plain 63 = .ok (.iconst 0, 1) := by decide +kernel
theorem dX4_plain_64 : decode cX4_plain 64 = .ok (.invokestatic 95, 3) := by decide +kernel
theorem dX4_plain_67 : decode cX4_plain 67 = .ok (.lreturn, 1) := by decide +kernel
theorem dX4_plain_68 : decode cX4_plain 68 = .ok (.lload_n 1, 1) := by decide +kernel
theorem dX4_plain_69 : decode cX4_plain 69 = .ok (.lload_n 3, 1) := by decide +kernel
theorem dX4_plain_70 : decode cX4_plain 70 = .ok (.invokestatic 59, 3) := by decide +kernel
theorem dX4_plain_73 : decode cX4_plain 73 = .ok (.invokestatic 95, 3) := by decide +kernel
theorem dX4_plain_76 : decode cX4_plain 76 = .ok (.lreturn, 1) := by decide +kernel
theorem dX4_plain_77 : decode cX4_plain 77 = .ok (.lload_n 1, 1) := by decide +kernel
