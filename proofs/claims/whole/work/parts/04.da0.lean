theorem dX0_plain_0 : decode cX0_plain 0 = .ok (.iload_n 0, 1) := by decide +kernel
theorem dX0_plain_1 : decode cX0_plain 1 = .ok (.lookupswitch 38 #[(0, 27), (1, 31)], 27) := by decide +kernel
theorem dX0_plain_28 : decode cX0_plain 28 = .ok (.iload_n 1, 1) := by decide +kernel
theorem dX0_plain_29 : decode cX0_plain 29 = .ok (.iload_n 2, 1) := by decide +kernel
theorem dX0_plain_30 : decode cX0_plain 30 = .ok (.iadd, 1) := by decide +kernel
theorem dX0_plain_31 : decode cX0_plain 31 = .ok (.ireturn, 1) := by decide +kernel
theorem dX0_plain_32 : decode cX0_plain 32 = .ok (.iload_n 1, 1) := by decide +kernel
theorem dX0_plain_33 : decode cX0_plain 33 = .ok (.iload_n 2, 1) := by decide +kernel
theorem dX0_plain_34 : decode cX0_plain 34 = .ok (.bipush 31, 2) := by decide +kernel
theorem dX0_plain_36 : decode cX0_plain 36 = .ok (.iand, 1) := by decide +kernel
theorem dX0_plain_37 : decode cX0_plain 37 = .ok (.ishl, 1) := by decide +kernel
theorem dX0_plain_38 : decode cX0_plain 38 = .ok (.ireturn, 1) := by decide +kernel
theorem dX0_plain_39 : decode cX0_plain 39 = .ok (.iload_n 1, 1) := by decide +kernel
theorem dX0_plain_40 : decode cX0_plain 40 = .ok (.iload_n 2, 1) := by decide +kernel
theorem dX0_plain_41 : decode cX0_plain 41 = .ok (.bipush 31, 2) := by decide +kernel
theorem dX0_plain_43 : decode cX0_plain 43 = .ok (.iand, 1) := by decide +kernel
theorem dX0_plain_44 : decode cX0_plain 44 = .ok (.iushr, 1) := by decide +kernel
theorem dX0_plain_45 : decode cX0_plain 45 = .ok (.ireturn, 1) := by decide +kernel
theorem dX0_shiftRightWithSign_0 : decode cX0_shiftRightWithSign 0 = .ok (.iload_n 0, 1) := by decide +kernel
theorem dX0_shiftRightWithSign_1 : decode cX0_shiftRightWithSign 1 = .ok (.iload_n 1, 1) := by decide +kernel
theorem dX0_shiftRightWithSign_2 : decode cX0_shiftRightWithSign 2 = .ok (.bipush 31, 2) := by decide +kernel
theorem dX0_shiftRightWithSign_4 : decode cX0_shiftRightWithSign 4 = .ok (.iand, 1) := by decide +kernel
theorem dX0_shiftRightWithSign_5 : decode cX0_shiftRightWithSign 5 = .ok (.ishr, 1) := by decide +kernel
theorem dX0_shiftRightWithSign_6 : decode cX0_shiftRightWithSign 6 = .ok (.ireturn, 1) := by decide +kernel
theorem dX0_product_0 : decode cX0_product 0 = .ok (.iload_n 0, 1) := by decide +kernel
theorem dX0_product_1 : decode cX0_product 1 = .ok (.tableswitch 85 0 6 #[43, 85, 85, 85, 47, 59, 73], 43) := by decide +kernel
theorem dX0_product_44 : decode cX0_product 44 = .ok (.iload_n 1, 1) := by decide +kernel
theorem dX0_product_45 : decode cX0_product 45 = .ok (.iload_n 2, 1) := by decide +kernel
theorem dX0_product_46 : decode cX0_product 46 = .ok (.imul, 1) := by decide +kernel
theorem dX0_product_47 : decode cX0_product 47 = .ok (.ireturn, 1) := by decide +kernel
theorem dX0_product_48 : decode cX0_product 48 = .ok (.iload_n 2, 1) := by decide +kernel
theorem dX0_product_49 : decode cX0_product 49 = .ok (.ifCond .ne 7, 3) := by decide +kernel
theorem dX0_product_52 : decode cX0_product 52 = .ok (.iconst (-1), 1) := by decide +kernel
theorem dX0_product_53 : decode cX0_product 53 = .ok (.goto 6, 3) := by decide +kernel
theorem dX0_product_56 : decode cX0_product 56 = .ok (.iload_n 1, 1) := by decide +kernel
theorem dX0_product_57 : decode cX0_product 57 = .ok (.iload_n 2, 1) := by decide +kernel
theorem dX0_product_58 : decode cX0_product 58 = .ok (.idiv, 1) := by decide +kernel
theorem dX0_product_59 : decode cX0_product 59 = .ok (.ireturn, 1) := by decide +kernel
theorem dX0_product_60 : decode cX0_product 60 = .ok (.iload_n 2, 1) := by decide +kernel
theorem dX0_product_61 : decode cX0_product 61 = .ok (.ifCond .ne 7, 3) := by decide +kernel
theorem dX0_product_64 : decode cX0_product 64 = .ok (.iconst (-1), 1) := by decide +kernel
theorem dX0_product_65 : decode cX0_product 65 = .ok (.goto 8, 3) := by decide +kernel
theorem dX0_product_68 : decode cX0_product 68 = .ok (.iload_n 1, 1) := by decide +kernel
theorem dX0_product_69 : decode cX0_product 69 = .ok (.iload_n 2, 1) := by decide +kernel
theorem dX0_product_70 : decode cX0_product 70 = .ok (.invokestatic 7, 3) := by decide +kernel
theorem dX0_product_73 : decode cX0_product 73 = .ok (.ireturn, 1) := by decide +kernel
theorem dX0_product_74 : decode cX0_product 74 = .ok (.iload_n 2, 1) := by decide +kernel
theorem dX0_product_75 : decode cX0_product 75 = .ok (.ifCond .ne 7, 3) := by decide +kernel
theorem dX0_product_78 : decode cX0_product 78 = .ok (.iload_n 1, 1) := by decide +kernel
theorem dX0_product_79 : decode cX0_product 79 = .ok (.goto 6, 3) := by decide +kernel
theorem dX0_product_82 : decode cX0_product 82 = .ok (.iload_n 1, 1) := by decide +kernel
theorem dX0_product_83 : decode cX0_product 83 = .ok (.iload_n 2, 1) := by decide +kernel
theorem dX0_product_84 : decode cX0_product 84 = .ok (.irem, 1) := by decide +kernel
theorem dX0_product_85 : decode cX0_product 85 = .ok (.ireturn, 1) := by decide +kernel
theorem dX0_product_86 : decode cX0_product 86 = .ok (.iload_n 2, 1) := by decide +kernel
theorem dX0_product_87 : decode cX0_product 87 = .ok (.ifCond .ne 7, 3) := by decide +kernel
theorem dX0_product_90 : decode cX0_product 90 = .ok (.iload_n 1, 1) := by decide +kernel
theorem dX0_product_91 : decode cX0_product 91 = .ok (.goto 8, 3) := by decide +kernel
theorem dX0_product_94 : decode cX0_product 94 = .ok (.iload_n 1, 1) := by decide +kernel
theorem dX0_product_95 : decode cX0_product 95 = .ok (.iload_n 2, 1) := by decide +kernel
theorem dX0_product_96 : decode cX0_product 96 = .ok (.invokestatic 13, 3) := by decide +kernel
theorem dX0_product_99 : decode cX0_product 99 = .ok (.ireturn, 1) := by decide +kernel
theorem dX1_compares_0 : decode cX1_compares 0 = .ok (.iload_n 0, 1) := by decide +kernel
theorem dX1_compares_1 : decode cX1_compares 1 = .ok (.tableswitch 115 0 7 #[47, 59, 115, 115, 71, 83, 95, 101], 47) := by decide +kernel
theorem dX1_compares_48 : decode cX1_compares 48 = .ok (.lload_n 1, 1) := by decide +kernel
theorem dX1_compares_49 : decode cX1_compares 49 = .ok (.lload_n 3, 1) := by decide +kernel
theorem dX1_compares_50 : decode cX1_compares 50 = .ok (.lcmp, 1) := by decide +kernel
theorem dX1_compares_51 : decode cX1_compares 51 = .ok (.ifCond .ne 7, 3) := by decide +kernel
theorem dX1_compares_54 : decode cX1_compares 54 = .ok (.iconst 1, 1) := by decide +kernel
theorem dX1_compares_55 : decode cX1_compares 55 = .ok (.goto 4, 3) := by decide +kernel
theorem dX1_compares_58 : decode cX1_compares 58 = .ok (.iconst 0, 1) := by decide +kernel
theorem dX1_compares_59 : decode cX1_compares 59 = .ok (.ireturn, 1) := by decide +kernel
theorem dX1_compares_60 : decode cX1_compares 60 = .ok (.lload_n 1, 1) := by decide +kernel
theorem dX1_compares_61 : decode cX1_compares 61 = .ok (.lload_n 3, 1) := by decide +kernel
theorem dX1_compares_62 : decode cX1_compares 62 = .ok (.lcmp, 1) := by decide +kernel
theorem dX1_compares_63 : decode cX1_compares 63 = .ok (.ifCond .eq 7, 3) := by decide +kernel
theorem dX1_compares_66 : decode cX1_compares 66 = .ok (.iconst 1, 1) := by decide +kernel
theorem dX1_compares_67 : decode cX1_compares 67 = .ok (.goto 4, 3) := by decide +kernel
theorem dX1_compares_70 : decode cX1_compares 70 = .ok (.iconst 0, 1) := by decide +kernel
theorem dX1_compares_71 : decode cX1_compares 71 = .ok (.ireturn, 1) := by decide +kernel
theorem dX1_compares_72 : decode cX1_compares 72 = .ok (.lload_n 1, 1) := by decide +kernel
theorem dX1_compares_73 : decode cX1_compares 73 = .ok (.lload_n 3, 1) := by decide +kernel
theorem dX1_compares_74 : decode cX1_compares 74 = .ok (.lcmp, 1) := by decide +kernel
theorem dX1_compares_75 : decode cX1_compares 75 = .ok (.ifCond .ge 7, 3) := by decide +kernel
theorem dX1_compares_78 : decode cX1_compares 78 = .ok (.iconst 1, 1) := by decide +kernel
theorem dX1_compares_79 : decode cX1_compares 79 = .ok (.goto 4, 3) := by decide +kernel
theorem dX1_compares_82 : decode cX1_compares 82 = .ok (.iconst 0, 1) := by decide +kernel
theorem dX1_compares_83 : decode cX1_compares 83 = .ok (.ireturn, 1) := by decide +kernel
theorem dX1_compares_84 : decode cX1_compares 84 = .ok (.lload_n 1, 1) := by decide +kernel
theorem dX1_compares_85 : decode cX1_compares 85 = .ok (.lload_n 3, 1) := by decide +kernel
theorem dX1_compares_86 : decode cX1_compares 86 = .ok (.lcmp, 1) := by decide +kernel
theorem dX1_compares_87 : decode cX1_compares 87 = .ok (.ifCond .lt 7, 3) := by decide +kernel
theorem dX1_compares_90 : decode cX1_compares 90 = .ok (.iconst 1, 1) := by decide +kernel
theorem dX1_compares_91 : decode cX1_compares 91 = .ok (.goto 4, 3) := by decide +kernel
theorem dX1_compares_94 : decode cX1_compares 94 = .ok (.iconst 0, 1) := by decide +kernel
theorem dX1_compares_95 : decode cX1_compares 95 = .ok (.ireturn, 1) := by decide +kernel
theorem dX1_compares_96 : decode cX1_compares 96 = .ok (.lload_n 1, 1) := by decide +kernel
theorem dX1_compares_97 : decode cX1_compares 97 = .ok (.lload_n 3, 1) := by decide +kernel
theorem dX1_compares_98 : decode cX1_compares 98 = .ok (.invokestatic 7, 3) := by decide +kernel
theorem dX1_compares_101 : decode cX1_compares 101 = .ok (.ireturn, 1) := by decide +kernel
theorem dX1_compares_102 : decode cX1_compares 102 = .ok (.lload_n 1, 1) := by decide +kernel
theorem dX1_compares_103 : decode cX1_compares 103 = .ok (.lload_n 3, 1) := by decide +kernel
theorem dX1_compares_104 : decode cX1_compares 104 = .ok (.invokestatic 7, 3) := by decide +kernel
theorem dX1_compares_107 : decode cX1_compares 107 = .ok (.ifCond .ne 7, 3) := by decide +kernel
theorem dX1_compares_110 : decode cX1_compares 110 = .ok (.iconst 1, 1) := by decide +kernel
theorem dX1_compares_111 : decode cX1_compares 111 = .ok (.goto 4, 3) := by decide +kernel
theorem dX1_compares_114 : decode cX1_compares 114 = .ok (.iconst 0, 1) := by decide +kernel
theorem dX1_compares_115 : decode cX1_compares 115 = .ok (.ireturn, 1) := by decide +kernel
theorem dX1_compares_116 : decode cX1_compares 116 = .ok (.iconst 0, 1) := by decide +kernel
theorem dX1_compares_117 : decode cX1_compares 117 = .ok (.ireturn, 1) := by decide +kernel
theorem dX1_plain_0 : decode cX1_plain 0 = .ok (.iload_n 0, 1) := by decide +kernel
theorem dX1_plain_1 : decode cX1_plain 1 = .ok (.tableswitch 99 0 6 #[43, 47, 56, 68, 82, 86, 95], 43) := by decide +kernel
theorem dX1_plain_44 : decode cX1_plain 44 = .ok (.lload_n 1, 1) := by decide +kernel
theorem dX1_plain_45 : decode cX1_plain 45 = .ok (.lload_n 3, 1) := by decide +kernel
theorem dX1_plain_46 : decode cX1_plain 46 = .ok (.ladd, 1) := by decide +kernel
theorem dX1_plain_47 : decode cX1_plain 47 = .ok (.lreturn, 1) := by decide +kernel
theorem dX1_plain_48 : decode cX1_plain 48 = .ok (.lload_n 1, 1) := by decide +kernel
theorem dX1_plain_49 : decode cX1_plain 49 = .ok (.lload_n 3, 1) := by decide +kernel
theorem dX1_plain_50 : decode cX1_plain 50 = .ok (.ldc2_w 13, 3) := by decide +kernel
theorem dX1_plain_53 : decode cX1_plain 53 = .ok (.land, 1) := by decide +kernel
theorem dX1_plain_54 : decode cX1_plain 54 = .ok (.l2i, 1) := by decide +kernel
theorem dX1_plain_55 : decode cX1_plain 55 = .ok (.lshl, 1) := by decide +kernel
theorem dX1_plain_56 : decode cX1_plain 56 = .ok (.lreturn, 1) := by decide +kernel
theorem dX1_plain_57 : decode cX1_plain 57 = .ok (.lload_n 1, 1) := by decide +kernel
theorem dX1_plain_58 : decode cX1_plain 58 = .ok (.lload_n 3, 1) := by decide +kernel
theorem dX1_plain_59 : decode cX1_plain 59 = .ok (.lcmp, 1) := by decide +kernel
theorem dX1_plain_60 : decode cX1_plain 60 = .ok (.ifCond .ge 7, 3) := by decide +kernel
theorem dX1_plain_63 : decode cX1_plain 63 = .ok (.lconst 1, 1) := by decide +kernel
theorem dX1_plain_64 : decode cX1_plain 64 = .ok (.goto 4, 3) := by decide +kernel
theorem dX1_plain_67 : decode cX1_plain 67 = .ok (.lconst 0, 1) := by decide +kernel
theorem dX1_plain_68 : decode cX1_plain 68 = .ok (.lreturn, 1) := by decide +kernel
theorem dX1_plain_69 : decode cX1_plain 69 = .ok (.lload_n 1, 1) := by decide +kernel
theorem dX1_plain_70 : decode cX1_plain 70 = .ok (.lload_n 3, 1) := by decide +kernel
theorem dX1_plain_71 : decode cX1_plain 71 = .ok (.invokestatic 7, 3) := by decide +kernel
theorem dX1_plain_74 : decode cX1_plain 74 = .ok (.ifCond .eq 7, 3) := by decide +kernel
theorem dX1_plain_77 : decode cX1_plain 77 = .ok (.lconst 1, 1) := by decide +kernel
theorem dX1_plain_78 : decode cX1_plain 78 = .ok (.goto 4, 3) := by decide +kernel
theorem dX1_plain_81 : decode cX1_plain 81 = .ok (.lconst 0, 1) := by decide +kernel
theorem dX1_plain_82 : decode cX1_plain 82 = .ok (.lreturn, 1) := by decide +kernel
theorem dX1_plain_83 : decode cX1_plain 83 = .ok (.lload_n 1, 1) := by decide +kernel
theorem dX1_plain_84 : decode cX1_plain 84 = .ok (.lload_n 3, 1) := by decide +kernel
theorem dX1_plain_85 : decode cX1_plain 85 = .ok (.lxor, 1) := by decide +kernel
theorem dX1_plain_86 : decode cX1_plain 86 = .ok (.lreturn, 1) := by decide +kernel
theorem dX1_plain_87 : decode cX1_plain 87 = .ok (.lload_n 1, 1) := by decide +kernel
theorem dX1_plain_88 : decode cX1_plain 88 = .ok (.lload_n 3, 1) := by decide +kernel
theorem dX1_plain_89 : decode cX1_plain 89 = .ok (.ldc2_w 13, 3) := by decide +kernel
theorem dX1_plain_92 : decode cX1_plain 92 = .ok (.land, 1) := by decide +kernel
theorem dX1_plain_93 : decode cX1_plain 93 = .ok (.l2i, 1) := by decide +kernel
theorem dX1_plain_94 : decode cX1_plain 94 = .ok (.lushr, 1) := by decide +kernel
theorem dX1_plain_95 : decode cX1_plain 95 = .ok (.lreturn, 1) := by decide +kernel
theorem dX1_plain_96 : decode cX1_plain 96 = .ok (.lload_n 1, 1) := by decide +kernel
theorem dX1_plain_97 : decode cX1_plain 97 = .ok (.lload_n 3, 1) := by decide +kernel
theorem dX1_plain_98 : decode cX1_plain 98 = .ok (.lor, 1) := by decide +kernel
theorem dX1_plain_99 : decode cX1_plain 99 = .ok (.lreturn, 1) := by decide +kernel
theorem dX1_plain_100 : decode cX1_plain 100 = .ok (.lload_n 1, 1) := by decide +kernel
theorem dX1_plain_101 : decode cX1_plain 101 = .ok (.lload_n 3, 1) := by decide +kernel
theorem dX1_plain_102 : decode cX1_plain 102 = .ok (.land, 1) := by decide +kernel
theorem dX1_plain_103 : decode cX1_plain 103 = .ok (.lreturn, 1) := by decide +kernel
theorem dX1_shiftRightWithSign_0 : decode cX1_shiftRightWithSign 0 = .ok (.lload_n 0, 1) := by decide +kernel
theorem dX1_shiftRightWithSign_1 : decode cX1_shiftRightWithSign 1 = .ok (.lload_n 2, 1) := by decide +kernel
theorem dX1_shiftRightWithSign_2 : decode cX1_shiftRightWithSign 2 = .ok (.ldc2_w 13, 3) := by decide +kernel
theorem dX1_shiftRightWithSign_5 : decode cX1_shiftRightWithSign 5 = .ok (.land, 1) := by decide +kernel
theorem dX1_shiftRightWithSign_6 : decode cX1_shiftRightWithSign 6 = .ok (.l2i, 1) := by decide +kernel
theorem dX1_shiftRightWithSign_7 : decode cX1_shiftRightWithSign 7 = .ok (.lshr, 1) := by decide +kernel
theorem dX1_shiftRightWithSign_8 : decode cX1_shiftRightWithSign 8 = .ok (.lreturn, 1) := by decide +kernel
theorem dX1_product_0 : decode cX1_product 0 = .ok (.iload_n 0, 1) := by decide +kernel
theorem dX1_product_1 : decode cX1_product 1 = .ok (.tableswitch 101 0 6 #[43, 47, 53, 59, 65, 81, 87], 43) := by decide +kernel
theorem dX1_product_44 : decode cX1_product 44 = .ok (.lload_n 1, 1) := by decide +kernel
theorem dX1_product_45 : decode cX1_product 45 = .ok (.lload_n 3, 1) := by decide +kernel
theorem dX1_product_46 : decode cX1_product 46 = .ok (.lmul, 1) := by decide +kernel
theorem dX1_product_47 : decode cX1_product 47 = .ok (.lreturn, 1) := by decide +kernel
theorem dX1_product_48 : decode cX1_product 48 = .ok (.lload_n 1, 1) := by decide +kernel
theorem dX1_product_49 : decode cX1_product 49 = .ok (.lload_n 3, 1) := by decide +kernel
theorem dX1_product_50 : decode cX1_product 50 = .ok (.invokestatic 15, 3) := by decide +kernel
theorem dX1_product_53 : decode cX1_product 53 = .ok (.lreturn, 1) := by decide +kernel
theorem dX1_product_54 : decode cX1_product 54 = .ok (.lload_n 1, 1) := by decide +kernel
theorem dX1_product_55 : decode cX1_product 55 = .ok (.lload_n 3, 1) := by decide +kernel
theorem dX1_product_56 : decode cX1_product 56 = .ok (.invokestatic 21, 3) := by decide +kernel
theorem dX1_product_59 : decode cX1_product 59 = .ok (.lreturn, 1) := by decide +kernel
theorem dX1_product_60 : decode cX1_product 60 = .ok (.lload_n 1, 1) := by decide +kernel
theorem dX1_product_61 : decode cX1_product 61 = .ok (.lload_n 3, 1) := by decide +kernel
theorem dX1_product_62 : decode cX1_product 62 = .ok (.invokestatic 24, 3) := by decide +kernel
theorem dX1_product_65 : decode cX1_product 65 = .ok (.lreturn, 1) := by decide +kernel
theorem dX1_product_66 : decode cX1_product 66 = .ok (.lload_n 3, 1) := by decide +kernel
theorem dX1_product_67 : decode cX1_product 67 = .ok (.lconst 0, 1) := by decide +kernel
theorem dX1_product_68 : decode cX1_product 68 = .ok (.lcmp, 1) := by decide +kernel
theorem dX1_product_69 : decode cX1_product 69 = .ok (.ifCond .ne 9, 3) := by decide +kernel
theorem dX1_product_72 : decode cX1_product 72 = .ok (.ldc2_w 27, 3) := by decide +kernel
theorem dX1_product_75 : decode cX1_product 75 = .ok (.goto 6, 3) := by decide +kernel
theorem dX1_product_78 : decode cX1_product 78 = .ok (.lload_n 1, 1) := by decide +kernel
theorem dX1_product_79 : decode cX1_product 79 = .ok (.lload_n 3, 1) := by decide +kernel
theorem dX1_product_80 : decode cX1_product 80 = .ok (.ldiv, 1) := by decide +kernel
theorem dX1_product_81 : decode cX1_product 81 = .ok (.lreturn, 1) := by decide +kernel
theorem dX1_product_82 : decode cX1_product 82 = .ok (.lload_n 1, 1) := by decide +kernel
theorem dX1_product_83 : decode cX1_product 83 = .ok (.lload_n 3, 1) := by decide +kernel
theorem dX1_product_84 : decode cX1_product 84 = .ok (.invokestatic 29, 3) := by decide +kernel
theorem dX1_product_87 : decode cX1_product 87 = .ok (.lreturn, 1) := by decide +kernel
theorem dX1_product_88 : decode cX1_product 88 = .ok (.lload_n 3, 1) := by decide +kernel
theorem dX1_product_89 : decode cX1_product 89 = .ok (.lconst 0, 1) := by decide +kernel
theorem dX1_product_90 : decode cX1_product 90 = .ok (.lcmp, 1) := by decide +kernel
theorem dX1_product_91 : decode cX1_product 91 = .ok (.ifCond .ne 7, 3) := by decide +kernel
theorem dX1_product_94 : decode cX1_product 94 = .ok (.lload_n 1, 1) := by decide +kernel
theorem dX1_product_95 : decode cX1_product 95 = .ok (.goto 6, 3) := by decide +kernel
theorem dX1_product_98 : decode cX1_product 98 = .ok (.lload_n 1, 1) := by decide +kernel
theorem dX1_product_99 : decode cX1_product 99 = .ok (.lload_n 3, 1) := by decide +kernel
theorem dX1_product_100 : decode cX1_product 100 = .ok (.lrem, 1) := by decide +kernel
theorem dX1_product_101 : decode cX1_product 101 = .ok (.lreturn, 1) := by decide +kernel
theorem dX1_product_102 : decode cX1_product 102 = .ok (.lload_n 1, 1) := by decide +kernel
theorem dX1_product_103 : decode cX1_product 103 = .ok (.lload_n 3, 1) := by decide +kernel
theorem dX1_product_104 : decode cX1_product 104 = .ok (.invokestatic 32, 3) := by decide +kernel
theorem dX1_product_107 : decode cX1_product 107 = .ok (.lreturn, 1) := by decide +kernel
theorem dX1_isBelow_0 : decode cX1_isBelow 0 = .ok (.lload_n 0, 1) := by decide +kernel
theorem dX1_isBelow_1 : decode cX1_isBelow 1 = .ok (.lload_n 2, 1) := by decide +kernel
theorem dX1_isBelow_2 : decode cX1_isBelow 2 = .ok (.invokestatic 35, 3) := by decide +kernel
theorem dX1_isBelow_5 : decode cX1_isBelow 5 = .ok (.ifCond .ge 7, 3) := by decide +kernel
theorem dX1_isBelow_8 : decode cX1_isBelow 8 = .ok (.iconst 1, 1) := by decide +kernel
theorem dX1_isBelow_9 : decode cX1_isBelow 9 = .ok (.goto 4, 3) := by decide +kernel
theorem dX1_isBelow_12 : decode cX1_isBelow 12 = .ok (.iconst 0, 1) := by decide +kernel
theorem dX1_isBelow_13 : decode cX1_isBelow 13 = .ok (.ireturn, 1) := by decide +kernel
theorem dX1_highWithUnsigned_0 : decode cX1_highWithUnsigned 0 = .ok (.lload_n 0, 1) := by decide +kernel
theorem dX1_highWithUnsigned_1 : decode cX1_highWithUnsigned 1 = .ok (.lload_n 2, 1) := by decide +kernel
theorem dX1_highWithUnsigned_2 : decode cX1_highWithUnsigned 2 = .ok (.invokestatic 15, 3) := by decide +kernel
theorem dX1_highWithUnsigned_5 : decode cX1_highWithUnsigned 5 = .ok (.lload_n 2, 1) := by decide +kernel
theorem dX1_highWithUnsigned_6 : decode cX1_highWithUnsigned 6 = .ok (.lconst 0, 1) := by decide +kernel
theorem dX1_highWithUnsigned_7 : decode cX1_highWithUnsigned 7 = .ok (.lcmp, 1) := by decide +kernel
theorem dX1_highWithUnsigned_8 : decode cX1_highWithUnsigned 8 = .ok (.ifCond .ge 7, 3) := by decide +kernel
theorem dX1_highWithUnsigned_11 : decode cX1_highWithUnsigned 11 = .ok (.lload_n 0, 1) := by decide +kernel
theorem dX1_highWithUnsigned_12 : decode cX1_highWithUnsigned 12 = .ok (.goto 4, 3) := by decide +kernel
theorem dX1_highWithUnsigned_15 : decode cX1_highWithUnsigned 15 = .ok (.lconst 0, 1) := by decide +kernel
theorem dX1_highWithUnsigned_16 : decode cX1_highWithUnsigned 16 = .ok (.ladd, 1) := by decide +kernel
theorem dX1_highWithUnsigned_17 : decode cX1_highWithUnsigned 17 = .ok (.lreturn, 1) := by decide +kernel
theorem dX1_highUnsigned_0 : decode cX1_highUnsigned 0 = .ok (.lload_n 0, 1) := by decide +kernel
theorem dX1_highUnsigned_1 : decode cX1_highUnsigned 1 = .ok (.lload_n 2, 1) := by decide +kernel
theorem dX1_highUnsigned_2 : decode cX1_highUnsigned 2 = .ok (.invokestatic 21, 3) := by decide +kernel
theorem dX1_highUnsigned_5 : decode cX1_highUnsigned 5 = .ok (.lload_n 0, 1) := by decide +kernel
theorem dX1_highUnsigned_6 : decode cX1_highUnsigned 6 = .ok (.lconst 0, 1) := by decide +kernel
theorem dX1_highUnsigned_7 : decode cX1_highUnsigned 7 = .ok (.lcmp, 1) := by decide +kernel
theorem dX1_highUnsigned_8 : decode cX1_highUnsigned 8 = .ok (.ifCond .ge 7, 3) := by decide +kernel
theorem dX1_highUnsigned_11 : decode cX1_highUnsigned 11 = .ok (.lload_n 2, 1) := by decide +kernel
theorem dX1_highUnsigned_12 : decode cX1_highUnsigned 12 = .ok (.goto 4, 3) := by decide +kernel
theorem dX1_highUnsigned_15 : decode cX1_highUnsigned 15 = .ok (.lconst 0, 1) := by decide +kernel
theorem dX1_highUnsigned_16 : decode cX1_highUnsigned 16 = .ok (.ladd, 1) := by decide +kernel
theorem dX1_highUnsigned_17 : decode cX1_highUnsigned 17 = .ok (.lreturn, 1) := by decide +kernel
theorem dX1_quotientUnsigned_0 : decode cX1_quotientUnsigned 0 = .ok (.lload_n 2, 1) := by decide +kernel
theorem dX1_quotientUnsigned_1 : decode cX1_quotientUnsigned 1 = .ok (.lconst 0, 1) := by decide +kernel
theorem dX1_quotientUnsigned_2 : decode cX1_quotientUnsigned 2 = .ok (.lcmp, 1) := by decide +kernel
theorem dX1_quotientUnsigned_3 : decode cX1_quotientUnsigned 3 = .ok (.ifCond .ne 7, 3) := by decide +kernel
theorem dX1_quotientUnsigned_6 : decode cX1_quotientUnsigned 6 = .ok (.ldc2_w 27, 3) := by decide +kernel
theorem dX1_quotientUnsigned_9 : decode cX1_quotientUnsigned 9 = .ok (.lreturn, 1) := by decide +kernel
theorem dX1_quotientUnsigned_10 : decode cX1_quotientUnsigned 10 = .ok (.lload_n 2, 1) := by decide +kernel
theorem dX1_quotientUnsigned_11 : decode cX1_quotientUnsigned 11 = .ok (.lconst 0, 1) := by decide +kernel
theorem dX1_quotientUnsigned_12 : decode cX1_quotientUnsigned 12 = .ok (.lcmp, 1) := by decide +kernel
theorem dX1_quotientUnsigned_13 : decode cX1_quotientUnsigned 13 = .ok (.ifCond .ge 17, 3) := by decide +kernel
theorem dX1_quotientUnsigned_16 : decode cX1_quotientUnsigned 16 = .ok (.lload_n 0, 1) := by decide +kernel
theorem dX1_quotientUnsigned_17 : decode cX1_quotientUnsigned 17 = .ok (.lload_n 2, 1) := by decide +kernel
theorem dX1_quotientUnsigned_18 : decode cX1_quotientUnsigned 18 = .ok (.invokestatic 7, 3) := by decide +kernel
theorem dX1_quotientUnsigned_21 : decode cX1_quotientUnsigned 21 = .ok (.ifCond .eq 7, 3) := by decide +kernel
theorem dX1_quotientUnsigned_24 : decode cX1_quotientUnsigned 24 = .ok (.lconst 0, 1) := by decide +kernel
theorem dX1_quotientUnsigned_25 : decode cX1_quotientUnsigned 25 = .ok (.goto 4, 3) := by decide +kernel
theorem dX1_quotientUnsigned_28 : decode cX1_quotientUnsigned 28 = .ok (.lconst 1, 1) := by decide +kernel
theorem dX1_quotientUnsigned_29 : decode cX1_quotientUnsigned 29 = .ok (.lreturn, 1) := by decide +kernel
theorem dX1_quotientUnsigned_30 : decode cX1_quotientUnsigned 30 = .ok (.lload_n 0, 1) := by decide +kernel
theorem dX1_quotientUnsigned_31 : decode cX1_quotientUnsigned 31 = .ok (.iconst 1, 1) := by decide +kernel
theorem dX1_quotientUnsigned_32 : decode cX1_quotientUnsigned 32 = .ok (.lushr, 1) := by decide +kernel
theorem dX1_quotientUnsigned_33 : decode cX1_quotientUnsigned 33 = .ok (.lload_n 2, 1) := by decide +kernel
theorem dX1_quotientUnsigned_34 : decode cX1_quotientUnsigned 34 = .ok (.ldiv, 1) := by decide +kernel
theorem dX1_quotientUnsigned_35 : decode cX1_quotientUnsigned 35 = .ok (.iconst 1, 1) := by decide +kernel
theorem dX1_quotientUnsigned_36 : decode cX1_quotientUnsigned 36 = .ok (.lshl, 1) := by decide +kernel
theorem dX1_quotientUnsigned_37 : decode cX1_quotientUnsigned 37 = .ok (.lstore 4, 2) := by decide +kernel
theorem dX1_quotientUnsigned_39 : decode cX1_quotientUnsigned 39 = .ok (.lload_n 0, 1) := by decide +kernel
theorem dX1_quotientUnsigned_40 : decode cX1_quotientUnsigned 40 = .ok (.lload 4, 2) := by decide +kernel
theorem dX1_quotientUnsigned_42 : decode cX1_quotientUnsigned 42 = .ok (.lload_n 2, 1) := by decide +kernel
theorem dX1_quotientUnsigned_43 : decode cX1_quotientUnsigned 43 = .ok (.lmul, 1) := by decide +kernel
theorem dX1_quotientUnsigned_44 : decode cX1_quotientUnsigned 44 = .ok (.lsub, 1) := by decide +kernel
theorem dX1_quotientUnsigned_45 : decode cX1_quotientUnsigned 45 = .ok (.lload_n 2, 1) := by decide +kernel
theorem dX1_quotientUnsigned_46 : decode cX1_quotientUnsigned 46 = .ok (.invokestatic 7, 3) := by decide +kernel
theorem dX1_quotientUnsigned_49 : decode cX1_quotientUnsigned 49 = .ok (.ifCond .eq 8, 3) := by decide +kernel
theorem dX1_quotientUnsigned_52 : decode cX1_quotientUnsigned 52 = .ok (.lload 4, 2) := by decide +kernel
theorem dX1_quotientUnsigned_54 : decode cX1_quotientUnsigned 54 = .ok (.goto 7, 3) := by decide +kernel
theorem dX1_quotientUnsigned_57 : decode cX1_quotientUnsigned 57 = .ok (.lload 4, 2) := by decide +kernel
theorem dX1_quotientUnsigned_59 : decode cX1_quotientUnsigned 59 = .ok (.lconst 1, 1) := by decide +kernel
theorem dX1_quotientUnsigned_60 : decode cX1_quotientUnsigned 60 = .ok (.ladd, 1) := by decide +kernel
theorem dX1_quotientUnsigned_61 : decode cX1_quotientUnsigned 61 = .ok (.lreturn, 1) := by decide +kernel
theorem dX1_restUnsigned_0 : decode cX1_restUnsigned 0 = .ok (.lload_n 0, 1) := by decide +kernel
theorem dX1_restUnsigned_1 : decode cX1_restUnsigned 1 = .ok (.lload_n 0, 1) := by decide +kernel
theorem dX1_restUnsigned_2 : decode cX1_restUnsigned 2 = .ok (.lload_n 2, 1) := by decide +kernel
theorem dX1_restUnsigned_3 : decode cX1_restUnsigned 3 = .ok (.invokestatic 29, 3) := by decide +kernel
theorem dX1_restUnsigned_6 : decode cX1_restUnsigned 6 = .ok (.lload_n 2, 1) := by decide +kernel
theorem dX1_restUnsigned_7 : decode cX1_restUnsigned 7 = .ok (.lmul, 1) := by decide +kernel
theorem dX1_restUnsigned_8 : decode cX1_restUnsigned 8 = .ok (.lsub, 1) := by decide +kernel
theorem dX1_restUnsigned_9 : decode cX1_restUnsigned 9 = .ok (.lreturn, 1) := by decide +kernel
theorem dX2_bits_0 : decode cX2_bits 0 = .ok (.iload_n 0, 1) := by decide +kernel
theorem dX2_bits_1 : decode cX2_bits 1 = .ok (.iload_n 2, 1) := by decide +kernel
theorem dX2_bits_2 : decode cX2_bits 2 = .ok (.iushr, 1) := by decide +kernel
theorem dX2_bits_3 : decode cX2_bits 3 = .ok (.iconst 1, 1) := by decide +kernel
theorem dX2_bits_4 : decode cX2_bits 4 = .ok (.iload_n 1, 1) := by decide +kernel
theorem dX2_bits_5 : decode cX2_bits 5 = .ok (.iload_n 2, 1) := by decide +kernel
theorem dX2_bits_6 : decode cX2_bits 6 = .ok (.isub, 1) := by decide +kernel
theorem dX2_bits_7 : decode cX2_bits 7 = .ok (.iconst 1, 1) := by decide +kernel
theorem dX2_bits_8 : decode cX2_bits 8 = .ok (.iadd, 1) := by decide +kernel
