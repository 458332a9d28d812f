theorem dX4_plain_78 : decode cX4_plain 78 = .ok (.lload_n 3, 1) := by decide +kernel
theorem dX4_plain_79 : decode cX4_plain 79 = .ok (.lxor, 1) := by decide +kernel
theorem dX4_plain_80 : decode cX4_plain 80 = .ok (.lreturn, 1) := by decide +kernel
theorem dX4_plain_81 : decode cX4_plain 81 = .ok (.lload_n 1, 1) := by decide +kernel
theorem dX4_plain_82 : decode cX4_plain 82 = .ok (.iload 5, 2) := by decide +kernel
theorem dX4_plain_84 : decode cX4_plain 84 = .ok (.lushr, 1) := by decide +kernel
theorem dX4_plain_85 : decode cX4_plain 85 = .ok (.lreturn, 1) := by decide +kernel
theorem dX4_plain_86 : decode cX4_plain 86 = .ok (.lload_n 1, 1) := by decide +kernel
theorem dX4_plain_87 : decode cX4_plain 87 = .ok (.lload_n 3, 1) := by decide +kernel
theorem dX4_plain_88 : decode cX4_plain 88 = .ok (.lor, 1) := by decide +kernel
theorem dX4_plain_89 : decode cX4_plain 89 = .ok (.lreturn, 1) := by decide +kernel
theorem dX4_plain_90 : decode cX4_plain 90 = .ok (.lload_n 1, 1) := by decide +kernel
theorem dX4_plain_91 : decode cX4_plain 91 = .ok (.lload_n 3, 1) := by decide +kernel
theorem dX4_plain_92 : decode cX4_plain 92 = .ok (.land, 1) := by decide +kernel
theorem dX4_plain_93 : decode cX4_plain 93 = .ok (.lreturn, 1) := by decide +kernel
theorem dX4_withImmediate_0 : decode cX4_withImmediate 0 = .ok (.aload_n 0, 1) := by decide +kernel
theorem dX4_withImmediate_1 : decode cX4_withImmediate 1 = .ok (.bipush 31, 2) := by decide +kernel
theorem dX4_withImmediate_3 : decode cX4_withImmediate 3 = .ok (.bipush 26, 2) := by decide +kernel
theorem dX4_withImmediate_5 : decode cX4_withImmediate 5 = .ok (.invokevirtual 47, 3) := by decide +kernel
theorem dX4_withImmediate_8 : decode cX4_withImmediate 8 = .ok (.istore_n 3, 1) := by decide +kernel
theorem dX4_withImmediate_9 : decode cX4_withImmediate 9 = .ok (.iload_n 2, 1) := by decide +kernel
theorem dX4_withImmediate_10 : decode cX4_withImmediate 10 = .ok (.iconst 1, 1) := by decide +kernel
theorem dX4_withImmediate_11 : decode cX4_withImmediate 11 = .ok (.if_icmp .ne 7, 3) := by decide +kernel
theorem dX4_withImmediate_14 : decode cX4_withImmediate 14 = .ok (.iload_n 3, 1) := by decide +kernel
theorem dX4_withImmediate_15 : decode cX4_withImmediate 15 = .ok (.ifCond .ne 18, 3) := by decide +kernel
theorem dX4_withImmediate_18 : decode cX4_withImmediate 18 = .ok (.iload_n 2, 1) := by decide +kernel
theorem dX4_withImmediate_19 : decode cX4_withImmediate 19 = .ok (.iconst 5, 1) := by decide +kernel
theorem dX4_withImmediate_20 : decode cX4_withImmediate 20 = .ok (.if_icmp .ne 15, 3) := by decide +kernel
theorem dX4_withImmediate_23 : decode cX4_withImmediate 23 = .ok (.iload_n 3, 1) := by decide +kernel
theorem dX4_withImmediate_24 : decode cX4_withImmediate 24 = .ok (.ifCond .eq 11, 3) := by decide +kernel
theorem dX4_withImmediate_27 : decode cX4_withImmediate 27 = .ok (.iload_n 3, 1) := by decide +kernel
theorem dX4_withImmediate_28 : decode cX4_withImmediate 28 = .ok (.bipush 16, 2) := by decide +kernel
theorem dX4_withImmediate_30 : decode cX4_withImmediate 30 = .ok (.if_icmp .eq 5, 3) := by decide +kernel
theorem dX4_withImmediate_33 : decode cX4_withImmediate 33 = .ok (.iconst (-1), 1) := by decide +kernel
theorem dX4_withImmediate_34 : decode cX4_withImmediate 34 = .ok (.ireturn, 1) := by decide +kernel
theorem dX4_withImmediate_35 : decode cX4_withImmediate 35 = .ok (.aload_n 0, 1) := by decide +kernel
theorem dX4_withImmediate_36 : decode cX4_withImmediate 36 = .ok (.bipush 25, 2) := by decide +kernel
theorem dX4_withImmediate_38 : decode cX4_withImmediate 38 = .ok (.bipush 20, 2) := by decide +kernel
theorem dX4_withImmediate_40 : decode cX4_withImmediate 40 = .ok (.invokevirtual 47, 3) := by decide +kernel
theorem dX4_withImmediate_43 : decode cX4_withImmediate 43 = .ok (.istore 4, 2) := by decide +kernel
theorem dX4_withImmediate_45 : decode cX4_withImmediate 45 = .ok (.aload_n 0, 1) := by decide +kernel
theorem dX4_withImmediate_46 : decode cX4_withImmediate 46 = .ok (.iload_n 1, 1) := by decide +kernel
theorem dX4_withImmediate_47 : decode cX4_withImmediate 47 = .ok (.iload_n 2, 1) := by decide +kernel
theorem dX4_withImmediate_48 : decode cX4_withImmediate 48 = .ok (.iconst 5, 1) := by decide +kernel
theorem dX4_withImmediate_49 : decode cX4_withImmediate 49 = .ok (.if_icmp .ne 19, 3) := by decide +kernel
theorem dX4_withImmediate_52 : decode cX4_withImmediate 52 = .ok (.iload_n 3, 1) := by decide +kernel
theorem dX4_withImmediate_53 : decode cX4_withImmediate 53 = .ok (.bipush 16, 2) := by decide +kernel
theorem dX4_withImmediate_55 : decode cX4_withImmediate 55 = .ok (.if_icmp .ne 13, 3) := by decide +kernel
theorem dX4_withImmediate_58 : decode cX4_withImmediate 58 = .ok (.aload_n 0, 1) := by decide +kernel
theorem dX4_withImmediate_59 : decode cX4_withImmediate 59 = .ok (.getfield 81, 3) := by decide +kernel
theorem dX4_withImmediate_62 : decode cX4_withImmediate 62 = .ok (.iload 4, 2) := by decide +kernel
theorem dX4_withImmediate_64 : decode cX4_withImmediate 64 = .ok (.lshr, 1) := by decide +kernel
theorem dX4_withImmediate_65 : decode cX4_withImmediate 65 = .ok (.goto 17, 3) := by decide +kernel
theorem dX4_withImmediate_68 : decode cX4_withImmediate 68 = .ok (.iload_n 2, 1) := by decide +kernel
theorem dX4_withImmediate_69 : decode cX4_withImmediate 69 = .ok (.aload_n 0, 1) := by decide +kernel
theorem dX4_withImmediate_70 : decode cX4_withImmediate 70 = .ok (.getfield 81, 3) := by decide +kernel
theorem dX4_withImmediate_73 : decode cX4_withImmediate 73 = .ok (.aload_n 0, 1) := by decide +kernel
theorem dX4_withImmediate_74 : decode cX4_withImmediate 74 = .ok (.invokevirtual 99, 3) := by decide +kernel
theorem dX4_withImmediate_77 : decode cX4_withImmediate 77 = .ok (.iload 4, 2) := by decide +kernel
theorem dX4_withImmediate_79 : decode cX4_withImmediate 79 = .ok (.invokestatic 102, 3) := by decide +kernel
theorem dX4_withImmediate_82 : decode cX4_withImmediate 82 = .ok (.invokevirtual 106, 3) := by decide +kernel
theorem dX4_withImmediate_85 : decode cX4_withImmediate 85 = .ok (.ireturn, 1) := by decide +kernel
theorem dX4_product_0 : decode cX4_product 0 = .ok (.iload_n 1, 1) := by decide +kernel
theorem dX4_product_1 : decode cX4_product 1 = .ok (.tableswitch 131 0 3 #[31, 41, 89, 119], 31) := by decide +kernel
theorem dX4_product_32 : decode cX4_product 32 = .ok (.aload_n 0, 1) := by decide +kernel
theorem dX4_product_33 : decode cX4_product 33 = .ok (.getfield 81, 3) := by decide +kernel
theorem dX4_product_36 : decode cX4_product 36 = .ok (.aload_n 0, 1) := by decide +kernel
theorem dX4_product_37 : decode cX4_product 37 = .ok (.getfield 84, 3) := by decide +kernel
theorem dX4_product_40 : decode cX4_product 40 = .ok (.lmul, 1) := by decide +kernel
theorem dX4_product_41 : decode cX4_product 41 = .ok (.lreturn, 1) := by decide +kernel
theorem dX4_product_42 : decode cX4_product 42 = .ok (.aload_n 0, 1) := by decide +kernel
theorem dX4_product_43 : decode cX4_product 43 = .ok (.getfield 81, 3) := by decide +kernel
theorem dX4_product_46 : decode cX4_product 46 = .ok (.aload_n 0, 1) := by decide +kernel
theorem dX4_product_47 : decode cX4_product 47 = .ok (.getfield 84, 3) := by decide +kernel
theorem dX4_product_50 : decode cX4_product 50 = .ok (.invokestatic 110, 3) := by decide +kernel
theorem dX4_product_53 : decode cX4_product 53 = .ok (.aload_n 0, 1) := by decide +kernel
theorem dX4_product_54 : decode cX4_product 54 = .ok (.getfield 81, 3) := by decide +kernel
theorem dX4_product_57 : decode cX4_product 57 = .ok (.lconst 0, 1) := by decide +kernel
theorem dX4_product_58 : decode cX4_product 58 = .ok (.lcmp, 1) := by decide +kernel
theorem dX4_product_59 : decode cX4_product 59 = .ok (.ifCond .ge 10, 3) := by decide +kernel
theorem dX4_product_62 : decode cX4_product 62 = .ok (.aload_n 0, 1) := by decide +kernel
theorem dX4_product_63 : decode cX4_product 63 = .ok (.getfield 84, 3) := by decide +kernel
theorem dX4_product_66 : decode cX4_product 66 = .ok (.goto 4, 3) := by decide +kernel
theorem dX4_product_69 : decode cX4_product 69 = .ok (.lconst 0, 1) := by decide +kernel
theorem dX4_product_70 : decode cX4_product 70 = .ok (.lsub, 1) := by decide +kernel
theorem dX4_product_71 : decode cX4_product 71 = .ok (.aload_n 0, 1) := by decide +kernel
theorem dX4_product_72 : decode cX4_product 72 = .ok (.getfield 84, 3) := by decide +kernel
theorem dX4_product_75 : decode cX4_product 75 = .ok (.lconst 0, 1) := by decide +kernel
theorem dX4_product_76 : decode cX4_product 76 = .ok (.lcmp, 1) := by decide +kernel
theorem dX4_product_77 : decode cX4_product 77 = .ok (.ifCond .ge 10, 3) := by decide +kernel
theorem dX4_product_80 : decode cX4_product 80 = .ok (.aload_n 0, 1) := by decide +kernel
theorem dX4_product_81 : decode cX4_product 81 = .ok (.getfield 81, 3) := by decide +kernel
theorem dX4_product_84 : decode cX4_product 84 = .ok (.goto 4, 3) := by decide +kernel
theorem dX4_product_87 : decode cX4_product 87 = .ok (.lconst 0, 1) := by decide +kernel
theorem dX4_product_88 : decode cX4_product 88 = .ok (.lsub, 1) := by decide +kernel
theorem dX4_product_89 : decode cX4_product 89 = .ok (.lreturn, 1) := by decide +kernel
theorem dX4_product_90 : decode cX4_product 90 = .ok (.aload_n 0, 1) := by decide +kernel
theorem dX4_product_91 : decode cX4_product 91 = .ok (.getfield 81, 3) := by decide +kernel
theorem dX4_product_94 : decode cX4_product 94 = .ok (.aload_n 0, 1) := by decide +kernel
theorem dX4_product_95 : decode cX4_product 95 = .ok (.getfield 84, 3) := by decide +kernel
theorem dX4_product_98 : decode cX4_product 98 = .ok (.invokestatic 110, 3) := by decide +kernel
theorem dX4_product_101 : decode cX4_product 101 = .ok (.aload_n 0, 1) := by decide +kernel
theorem dX4_product_102 : decode cX4_product 102 = .ok (.getfield 81, 3) := by decide +kernel
theorem dX4_product_105 : decode cX4_product 105 = .ok (.lconst 0, 1) := by decide +kernel
theorem dX4_product_106 : decode cX4_product 106 = .ok (.lcmp, 1) := by decide +kernel
theorem dX4_product_107 : decode cX4_product 107 = .ok (.ifCond .ge 10, 3) := by decide +kernel
theorem dX4_product_110 : decode cX4_product 110 = .ok (.aload_n 0, 1) := by decide +kernel
theorem dX4_product_111 : decode cX4_product 111 = .ok (.getfield 84, 3) := by decide +kernel
theorem dX4_product_114 : decode cX4_product 114 = .ok (.goto 4, 3) := by decide +kernel
theorem dX4_product_117 : decode cX4_product 117 = .ok (.lconst 0, 1) := by decide +kernel
theorem dX4_product_118 : decode cX4_product 118 = .ok (.lsub, 1) := by decide +kernel
theorem dX4_product_119 : decode cX4_product 119 = .ok (.lreturn, 1) := by decide +kernel
theorem dX4_product_120 : decode cX4_product 120 = .ok (.aload_n 0, 1) := by decide +kernel
theorem dX4_product_121 : decode cX4_product 121 = .ok (.getfield 81, 3) := by decide +kernel
theorem dX4_product_124 : decode cX4_product 124 = .ok (.aload_n 0, 1) := by decide +kernel
theorem dX4_product_125 : decode cX4_product 125 = .ok (.getfield 84, 3) := by decide +kernel
theorem dX4_product_128 : decode cX4_product 128 = .ok (.invokestatic 110, 3) := by decide +kernel
theorem dX4_product_131 : decode cX4_product 131 = .ok (.lreturn, 1) := by decide +kernel
theorem dX4_product_132 : decode cX4_product 132 = .ok (.aload_n 0, 1) := by decide +kernel
theorem dX4_product_133 : decode cX4_product 133 = .ok (.aload_n 0, 1) := by decide +kernel
theorem dX4_product_134 : decode cX4_product 134 = .ok (.getfield 81, 3) := by decide +kernel
theorem dX4_product_137 : decode cX4_product 137 = .ok (.aload_n 0, 1) := by decide +kernel
theorem dX4_product_138 : decode cX4_product 138 = .ok (.getfield 84, 3) := by decide +kernel
theorem dX4_product_141 : decode cX4_product 141 = .ok (.iload_n 1, 1) := by decide +kernel
theorem dX4_product_142 : decode cX4_product 142 = .ok (.iconst 4, 1) := by decide +kernel
theorem dX4_product_143 : decode cX4_product 143 = .ok (.if_icmp .eq 9, 3) := by decide +kernel
theorem dX4_product_146 : decode cX4_product 146 = .ok (.iload_n 1, 1) := by decide +kernel
theorem dX4_product_147 : decode cX4_product 147 = .ok (.bipush 6, 2) := by decide +kernel
theorem dX4_product_149 : decode cX4_product 149 = .ok (.if_icmp .ne 7, 3) := by decide +kernel
theorem dX4_product_152 : decode cX4_product 152 = .ok (.iconst 1, 1) := by decide +kernel
theorem dX4_product_153 : decode cX4_product 153 = .ok (.goto 4, 3) := by decide +kernel
theorem dX4_product_156 : decode cX4_product 156 = .ok (.iconst 0, 1) := by decide +kernel
theorem dX4_product_157 : decode cX4_product 157 = .ok (.invokevirtual 114, 3) := by decide +kernel
theorem dX4_product_160 : decode cX4_product 160 = .ok (.iload_n 1, 1) := by decide +kernel
theorem dX4_product_161 : decode cX4_product 161 = .ok (.bipush 6, 2) := by decide +kernel
theorem dX4_product_163 : decode cX4_product 163 = .ok (.if_icmp .ge 10, 3) := by decide +kernel
theorem dX4_product_166 : decode cX4_product 166 = .ok (.aload_n 0, 1) := by decide +kernel
theorem dX4_product_167 : decode cX4_product 167 = .ok (.getfield 63, 3) := by decide +kernel
theorem dX4_product_170 : decode cX4_product 170 = .ok (.goto 7, 3) := by decide +kernel
theorem dX4_product_173 : decode cX4_product 173 = .ok (.aload_n 0, 1) := by decide +kernel
theorem dX4_product_174 : decode cX4_product 174 = .ok (.getfield 66, 3) := by decide +kernel
theorem dX4_product_177 : decode cX4_product 177 = .ok (.lreturn, 1) := by decide +kernel
theorem dX4_withRegister_0 : decode cX4_withRegister 0 = .ok (.aload_n 0, 1) := by decide +kernel
theorem dX4_withRegister_1 : decode cX4_withRegister 1 = .ok (.getfield 84, 3) := by decide +kernel
theorem dX4_withRegister_4 : decode cX4_withRegister 4 = .ok (.ldc2_w 118, 3) := by decide +kernel
theorem dX4_withRegister_7 : decode cX4_withRegister 7 = .ok (.land, 1) := by decide +kernel
theorem dX4_withRegister_8 : decode cX4_withRegister 8 = .ok (.l2i, 1) := by decide +kernel
theorem dX4_withRegister_9 : decode cX4_withRegister 9 = .ok (.istore 4, 2) := by decide +kernel
theorem dX4_withRegister_11 : decode cX4_withRegister 11 = .ok (.iload_n 3, 1) := by decide +kernel
theorem dX4_withRegister_12 : decode cX4_withRegister 12 = .ok (.ifCond .ne 23, 3) := by decide +kernel
theorem dX4_withRegister_15 : decode cX4_withRegister 15 = .ok (.aload_n 0, 1) := by decide +kernel
theorem dX4_withRegister_16 : decode cX4_withRegister 16 = .ok (.iload_n 1, 1) := by decide +kernel
theorem dX4_withRegister_17 : decode cX4_withRegister 17 = .ok (.iload_n 2, 1) := by decide +kernel
theorem dX4_withRegister_18 : decode cX4_withRegister 18 = .ok (.aload_n 0, 1) := by decide +kernel
theorem dX4_withRegister_19 : decode cX4_withRegister 19 = .ok (.getfield 81, 3) := by decide +kernel
theorem dX4_withRegister_22 : decode cX4_withRegister 22 = .ok (.aload_n 0, 1) := by decide +kernel
theorem dX4_withRegister_23 : decode cX4_withRegister 23 = .ok (.getfield 84, 3) := by decide +kernel
theorem dX4_withRegister_26 : decode cX4_withRegister 26 = .ok (.iload 4, 2) := by decide +kernel
theorem dX4_withRegister_28 : decode cX4_withRegister 28 = .ok (.invokestatic 102, 3) := by decide +kernel
theorem dX4_withRegister_31 : decode cX4_withRegister 31 = .ok (.invokevirtual 106, 3) := by decide +kernel
theorem dX4_withRegister_34 : decode cX4_withRegister 34 = .ok (.ireturn, 1) := by decide +kernel
theorem dX4_withRegister_35 : decode cX4_withRegister 35 = .ok (.iload_n 3, 1) := by decide +kernel
theorem dX4_withRegister_36 : decode cX4_withRegister 36 = .ok (.bipush 32, 2) := by decide +kernel
theorem dX4_withRegister_38 : decode cX4_withRegister 38 = .ok (.if_icmp .ne 41, 3) := by decide +kernel
theorem dX4_withRegister_41 : decode cX4_withRegister 41 = .ok (.iload_n 2, 1) := by decide +kernel
theorem dX4_withRegister_42 : decode cX4_withRegister 42 = .ok (.ifCond .eq 8, 3) := by decide +kernel
theorem dX4_withRegister_45 : decode cX4_withRegister 45 = .ok (.iload_n 2, 1) := by decide +kernel
theorem dX4_withRegister_46 : decode cX4_withRegister 46 = .ok (.iconst 5, 1) := by decide +kernel
theorem dX4_withRegister_47 : decode cX4_withRegister 47 = .ok (.if_icmp .ne 32, 3) := by decide +kernel
theorem dX4_withRegister_50 : decode cX4_withRegister 50 = .ok (.aload_n 0, 1) := by decide +kernel
theorem dX4_withRegister_51 : decode cX4_withRegister 51 = .ok (.iload_n 1, 1) := by decide +kernel
theorem dX4_withRegister_52 : decode cX4_withRegister 52 = .ok (.iload_n 2, 1) := by decide +kernel
theorem dX4_withRegister_53 : decode cX4_withRegister 53 = .ok (.ifCond .ne 15, 3) := by decide +kernel
theorem dX4_withRegister_56 : decode cX4_withRegister 56 = .ok (.aload_n 0, 1) := by decide +kernel
theorem dX4_withRegister_57 : decode cX4_withRegister 57 = .ok (.getfield 81, 3) := by decide +kernel
theorem dX4_withRegister_60 : decode cX4_withRegister 60 = .ok (.aload_n 0, 1) := by decide +kernel
theorem dX4_withRegister_61 : decode cX4_withRegister 61 = .ok (.getfield 84, 3) := by decide +kernel
theorem dX4_withRegister_64 : decode cX4_withRegister 64 = .ok (.lsub, 1) := by decide +kernel
theorem dX4_withRegister_65 : decode cX4_withRegister 65 = .ok (.goto 10, 3) := by decide +kernel
theorem dX4_withRegister_68 : decode cX4_withRegister 68 = .ok (.aload_n 0, 1) := by decide +kernel
theorem dX4_withRegister_69 : decode cX4_withRegister 69 = .ok (.getfield 81, 3) := by decide +kernel
theorem dX4_withRegister_72 : decode cX4_withRegister 72 = .ok (.iload 4, 2) := by decide +kernel
theorem dX4_withRegister_74 : decode cX4_withRegister 74 = .ok (.lshr, 1) := by decide +kernel
theorem dX4_withRegister_75 : decode cX4_withRegister 75 = .ok (.invokevirtual 106, 3) := by decide +kernel
theorem dX4_withRegister_78 : decode cX4_withRegister 78 = .ok (.ireturn, 1) := by decide +kernel
theorem dX4_withRegister_79 : decode cX4_withRegister 79 = .ok (.iload_n 3, 1) := by decide +kernel
theorem dX4_withRegister_80 : decode cX4_withRegister 80 = .ok (.iconst 1, 1) := by decide +kernel
theorem dX4_withRegister_81 : decode cX4_withRegister 81 = .ok (.if_icmp .ne 16, 3) := by decide +kernel
theorem dX4_withRegister_84 : decode cX4_withRegister 84 = .ok (.aload_n 0, 1) := by decide +kernel
theorem dX4_withRegister_85 : decode cX4_withRegister 85 = .ok (.iload_n 1, 1) := by decide +kernel
theorem dX4_withRegister_86 : decode cX4_withRegister 86 = .ok (.aload_n 0, 1) := by decide +kernel
theorem dX4_withRegister_87 : decode cX4_withRegister 87 = .ok (.iload_n 2, 1) := by decide +kernel
theorem dX4_withRegister_88 : decode cX4_withRegister 88 = .ok (.invokevirtual 120, 3) := by decide +kernel
theorem dX4_withRegister_91 : decode cX4_withRegister 91 = .ok (.invokevirtual 106, 3) := by decide +kernel
theorem dX4_withRegister_94 : decode cX4_withRegister 94 = .ok (.goto 4, 3) := by decide +kernel
theorem dX4_withRegister_97 : decode cX4_withRegister 97 = .ok (.iconst (-1), 1) := by decide +kernel
theorem dX4_withRegister_98 : decode cX4_withRegister 98 = .ok (.ireturn, 1) := by decide +kernel
theorem dX4_intImmediate_0 : decode cX4_intImmediate 0 = .ok (.aload_n 0, 1) := by decide +kernel
theorem dX4_intImmediate_1 : decode cX4_intImmediate 1 = .ok (.bipush 24, 2) := by decide +kernel
theorem dX4_intImmediate_3 : decode cX4_intImmediate 3 = .ok (.bipush 20, 2) := by decide +kernel
theorem dX4_intImmediate_5 : decode cX4_intImmediate 5 = .ok (.invokevirtual 47, 3) := by decide +kernel
theorem dX4_intImmediate_8 : decode cX4_intImmediate 8 = .ok (.istore 4, 2) := by decide +kernel
theorem dX4_intImmediate_10 : decode cX4_intImmediate 10 = .ok (.iload_n 2, 1) := by decide +kernel
theorem dX4_intImmediate_11 : decode cX4_intImmediate 11 = .ok (.ifCond .ne 20, 3) := by decide +kernel
theorem dX4_intImmediate_14 : decode cX4_intImmediate 14 = .ok (.aload_n 0, 1) := by decide +kernel
theorem dX4_intImmediate_15 : decode cX4_intImmediate 15 = .ok (.iload_n 1, 1) := by decide +kernel
theorem dX4_intImmediate_16 : decode cX4_intImmediate 16 = .ok (.aload_n 0, 1) := by decide +kernel
theorem dX4_intImmediate_17 : decode cX4_intImmediate 17 = .ok (.getfield 81, 3) := by decide +kernel
theorem dX4_intImmediate_20 : decode cX4_intImmediate 20 = .ok (.aload_n 0, 1) := by decide +kernel
theorem dX4_intImmediate_21 : decode cX4_intImmediate 21 = .ok (.invokevirtual 99, 3) := by decide +kernel
theorem dX4_intImmediate_24 : decode cX4_intImmediate 24 = .ok (.ladd, 1) := by decide +kernel
theorem dX4_intImmediate_25 : decode cX4_intImmediate 25 = .ok (.l2i, 1) := by decide +kernel
theorem dX4_intImmediate_26 : decode cX4_intImmediate 26 = .ok (.i2l, 1) := by decide +kernel
theorem dX4_intImmediate_27 : decode cX4_intImmediate 27 = .ok (.invokevirtual 106, 3) := by decide +kernel
theorem dX4_intImmediate_30 : decode cX4_intImmediate 30 = .ok (.ireturn, 1) := by decide +kernel
theorem dX4_intImmediate_31 : decode cX4_intImmediate 31 = .ok (.iload_n 2, 1) := by decide +kernel
theorem dX4_intImmediate_32 : decode cX4_intImmediate 32 = .ok (.iconst 1, 1) := by decide +kernel
theorem dX4_intImmediate_33 : decode cX4_intImmediate 33 = .ok (.if_icmp .ne 22, 3) := by decide +kernel
theorem dX4_intImmediate_36 : decode cX4_intImmediate 36 = .ok (.iload_n 3, 1) := by decide +kernel
theorem dX4_intImmediate_37 : decode cX4_intImmediate 37 = .ok (.ifCond .ne 18, 3) := by decide +kernel
theorem dX4_intImmediate_40 : decode cX4_intImmediate 40 = .ok (.aload_n 0, 1) := by decide +kernel
theorem dX4_intImmediate_41 : decode cX4_intImmediate 41 = .ok (.iload_n 1, 1) := by decide +kernel
theorem dX4_intImmediate_42 : decode cX4_intImmediate 42 = .ok (.aload_n 0, 1) := by decide +kernel
theorem dX4_intImmediate_43 : decode cX4_intImmediate 43 = .ok (.getfield 81, 3) := by decide +kernel
theorem dX4_intImmediate_46 : decode cX4_intImmediate 46 = .ok (.iload 4, 2) := by decide +kernel
theorem dX4_intImmediate_48 : decode cX4_intImmediate 48 = .ok (.lshl, 1) := by decide +kernel
theorem dX4_intImmediate_49 : decode cX4_intImmediate 49 = .ok (.l2i, 1) := by decide +kernel
theorem dX4_intImmediate_50 : decode cX4_intImmediate 50 = .ok (.i2l, 1) := by decide +kernel
theorem dX4_intImmediate_51 : decode cX4_intImmediate 51 = .ok (.invokevirtual 106, 3) := by decide +kernel
theorem dX4_intImmediate_54 : decode cX4_intImmediate 54 = .ok (.ireturn, 1) := by decide +kernel
theorem dX4_intImmediate_55 : decode cX4_intImmediate 55 = .ok (.iload_n 2, 1) := by decide +kernel
theorem dX4_intImmediate_56 : decode cX4_intImmediate 56 = .ok (.iconst 5, 1) := by decide +kernel
theorem dX4_intImmediate_57 : decode cX4_intImmediate 57 = .ok (.if_icmp .ne 13, 3) := by decide +kernel
theorem dX4_intImmediate_60 : decode cX4_intImmediate 60 = .ok (.iload_n 3, 1) := by decide +kernel
theorem dX4_intImmediate_61 : decode cX4_intImmediate 61 = .ok (.ifCond .eq 11, 3) := by decide +kernel
theorem dX4_intImmediate_64 : decode cX4_intImmediate 64 = .ok (.iload_n 3, 1) := by decide +kernel
theorem dX4_intImmediate_65 : decode cX4_intImmediate 65 = .ok (.bipush 32, 2) := by decide +kernel
theorem dX4_intImmediate_67 : decode cX4_intImmediate 67 = .ok (.if_icmp .eq 5, 3) := by decide +kernel
theorem dX4_intImmediate_70 : decode cX4_intImmediate 70 = .ok (.iconst (-1), 1) := by decide +kernel
theorem dX4_intImmediate_71 : decode cX4_intImmediate 71 = .ok (.ireturn, 1) := by decide +kernel
theorem dX4_intImmediate_72 : decode cX4_intImmediate 72 = .ok (.aload_n 0, 1) := by decide +kernel
theorem dX4_intImmediate_73 : decode cX4_intImmediate 73 = .ok (.iload_n 1, 1) := by decide +kernel
theorem dX4_intImmediate_74 : decode cX4_intImmediate 74 = .ok (.iload_n 3, 1) := by decide +kernel
theorem dX4_intImmediate_75 : decode cX4_intImmediate 75 = .ok (.ifCond .ne 15, 3) := by decide +kernel
theorem dX4_intImmediate_78 : decode cX4_intImmediate 78 = .ok (.aload_n 0, 1) := by decide +kernel
theorem dX4_intImmediate_79 : decode cX4_intImmediate 79 = .ok (.getfield 81, 3) := by decide +kernel
theorem dX4_intImmediate_82 : decode cX4_intImmediate 82 = .ok (.l2i, 1) := by decide +kernel
theorem dX4_intImmediate_83 : decode cX4_intImmediate 83 = .ok (.iload 4, 2) := by decide +kernel
theorem dX4_intImmediate_85 : decode cX4_intImmediate 85 = .ok (.iushr, 1) := by decide +kernel
theorem dX4_intImmediate_86 : decode cX4_intImmediate 86 = .ok (.i2l, 1) := by decide +kernel
theorem dX4_intImmediate_87 : decode cX4_intImmediate 87 = .ok (.goto 12, 3) := by decide +kernel
theorem dX4_intImmediate_90 : decode cX4_intImmediate 90 = .ok (.aload_n 0, 1) := by decide +kernel
theorem dX4_intImmediate_91 : decode cX4_intImmediate 91 = .ok (.getfield 81, 3) := by decide +kernel
theorem dX4_intImmediate_94 : decode cX4_intImmediate 94 = .ok (.l2i, 1) := by decide +kernel
theorem dX4_intImmediate_95 : decode cX4_intImmediate 95 = .ok (.iload 4, 2) := by decide +kernel
theorem dX4_intImmediate_97 : decode cX4_intImmediate 97 = .ok (.ishr, 1) := by decide +kernel
theorem dX4_intImmediate_98 : decode cX4_intImmediate 98 = .ok (.i2l, 1) := by decide +kernel
theorem dX4_intImmediate_99 : decode cX4_intImmediate 99 = .ok (.invokevirtual 106, 3) := by decide +kernel
theorem dX4_intImmediate_102 : decode cX4_intImmediate 102 = .ok (.ireturn, 1) := by decide +kernel
theorem dX4_intProduct_0 : decode cX4_intProduct 0 = .ok (.iload_n 2, 1) := by decide +kernel
theorem dX4_intProduct_1 : decode cX4_intProduct 1 = .ok (.ifCond .ne 20, 3) := by decide +kernel
theorem dX4_intProduct_4 : decode cX4_intProduct 4 = .ok (.aload_n 0, 1) := by decide +kernel
theorem dX4_intProduct_5 : decode cX4_intProduct 5 = .ok (.iload_n 1, 1) := by decide +kernel
theorem dX4_intProduct_6 : decode cX4_intProduct 6 = .ok (.aload_n 0, 1) := by decide +kernel
theorem dX4_intProduct_7 : decode cX4_intProduct 7 = .ok (.getfield 81, 3) := by decide +kernel
theorem dX4_intProduct_10 : decode cX4_intProduct 10 = .ok (.aload_n 0, 1) := by decide +kernel
theorem dX4_intProduct_11 : decode cX4_intProduct 11 = .ok (.getfield 84, 3) := by decide +kernel
theorem dX4_intProduct_14 : decode cX4_intProduct 14 = .ok (.lmul, 1) := by decide +kernel
theorem dX4_intProduct_15 : decode cX4_intProduct 15 = .ok (.l2i, 1) := by decide +kernel
theorem dX4_intProduct_16 : decode cX4_intProduct 16 = .ok (.i2l, 1) := by decide +kernel
theorem dX4_intProduct_17 : decode cX4_intProduct 17 = .ok (.invokevirtual 106, 3) := by decide +kernel
theorem dX4_intProduct_20 : decode cX4_intProduct 20 = .ok (.ireturn, 1) := by decide +kernel
theorem dX4_intProduct_21 : decode cX4_intProduct 21 = .ok (.iload_n 2, 1) := by decide +kernel
theorem dX4_intProduct_22 : decode cX4_intProduct 22 = .ok (.iconst 4, 1) := by decide +kernel
theorem dX4_intProduct_23 : decode cX4_intProduct 23 = .ok (.if_icmp .ge 5, 3) := by decide +kernel
theorem dX4_intProduct_26 : decode cX4_intProduct 26 = .ok (.iconst (-1), 1) := by decide +kernel
theorem dX4_intProduct_27 : decode cX4_intProduct 27 = .ok (.ireturn, 1) := by decide +kernel
theorem dX4_intProduct_28 : decode cX4_intProduct 28 = .ok (.iload_n 2, 1) := by decide +kernel
theorem dX4_intProduct_29 : decode cX4_intProduct 29 = .ok (.iconst 4, 1) := by decide +kernel
theorem dX4_intProduct_30 : decode cX4_intProduct 30 = .ok (.if_icmp .eq 9, 3) := by decide +kernel
theorem dX4_intProduct_33 : decode cX4_intProduct 33 = .ok (.iload_n 2, 1) := by decide +kernel
theorem dX4_intProduct_34 : decode cX4_intProduct 34 = .ok (.bipush 6, 2) := by decide +kernel
theorem dX4_intProduct_36 : decode cX4_intProduct 36 = .ok (.if_icmp .ne 7, 3) := by decide +kernel
theorem dX4_intProduct_39 : decode cX4_intProduct 39 = .ok (.iconst 1, 1) := by decide +kernel
theorem dX4_intProduct_40 : decode cX4_intProduct 40 = .ok (.goto 4, 3) := by decide +kernel
theorem dX4_intProduct_43 : decode cX4_intProduct 43 = .ok (.iconst 0, 1) := by decide +kernel
theorem dX4_intProduct_44 : decode cX4_intProduct 44 = .ok (.istore_n 3, 1) := by decide +kernel
theorem dX4_intProduct_45 : decode cX4_intProduct 45 = .ok (.aload_n 0, 1) := by decide +kernel
theorem dX4_intProduct_46 : decode cX4_intProduct 46 = .ok (.iload_n 3, 1) := by decide +kernel
theorem dX4_intProduct_47 : decode cX4_intProduct 47 = .ok (.ifCond .eq 12, 3) := by decide +kernel
theorem dX4_intProduct_50 : decode cX4_intProduct 50 = .ok (.aload_n 0, 1) := by decide +kernel
theorem dX4_intProduct_51 : decode cX4_intProduct 51 = .ok (.getfield 81, 3) := by decide +kernel
theorem dX4_intProduct_54 : decode cX4_intProduct 54 = .ok (.l2i, 1) := by decide +kernel
theorem dX4_intProduct_55 : decode cX4_intProduct 55 = .ok (.i2l, 1) := by decide +kernel
theorem dX4_intProduct_56 : decode cX4_intProduct 56 = .ok (.goto 11, 3) := by decide +kernel
theorem dX4_intProduct_59 : decode cX4_intProduct 59 = .ok (.aload_n 0, 1) := by decide +kernel
theorem dX4_intProduct_60 : decode cX4_intProduct 60 = .ok (.getfield 81, 3) := by decide +kernel
theorem dX4_intProduct_63 : decode cX4_intProduct 63 = .ok (.ldc2_w 124, 3) := by decide +kernel
theorem dX4_intProduct_66 : decode cX4_intProduct 66 = .ok (.land, 1) := by decide +kernel
theorem dX4_intProduct_67 : decode cX4_intProduct 67 = .ok (.iload_n 3, 1) := by decide +kernel
