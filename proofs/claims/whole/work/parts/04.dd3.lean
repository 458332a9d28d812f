theorem dX4_intProduct_68 : decode cX4_intProduct 68 = .ok (.ifCond .eq 12, 3) := by decide +kernel
theorem dX4_intProduct_71 : decode cX4_intProduct 71 = .ok (.aload_n 0, 1) := by decide +kernel
theorem dX4_intProduct_72 : decode cX4_intProduct 72 = .ok (.getfield 84, 3) := by decide +kernel
theorem dX4_intProduct_75 : decode cX4_intProduct 75 = .ok (.l2i, 1) := by decide +kernel
theorem dX4_intProduct_76 : decode cX4_intProduct 76 = .ok (.i2l, 1) := by decide +kernel
theorem dX4_intProduct_77 : decode cX4_intProduct 77 = .ok (.goto 11, 3) := by decide +kernel
theorem dX4_intProduct_80 : decode cX4_intProduct 80 = .ok (.aload_n 0, 1) := by decide +kernel
theorem dX4_intProduct_81 : decode cX4_intProduct 81 = .ok (.getfield 84, 3) := by decide +kernel
theorem dX4_intProduct_84 : decode cX4_intProduct 84 = .ok (.ldc2_w 124, 3) := by decide +kernel
theorem dX4_intProduct_87 : decode cX4_intProduct 87 = .ok (.land, 1) := by decide +kernel
theorem dX4_intProduct_88 : decode cX4_intProduct 88 = .ok (.iload_n 3, 1) := by decide +kernel
theorem dX4_intProduct_89 : decode cX4_intProduct 89 = .ok (.invokevirtual 114, 3) := by decide +kernel
theorem dX4_intProduct_92 : decode cX4_intProduct 92 = .ok (.aload_n 0, 1) := by decide +kernel
theorem dX4_intProduct_93 : decode cX4_intProduct 93 = .ok (.iload_n 1, 1) := by decide +kernel
theorem dX4_intProduct_94 : decode cX4_intProduct 94 = .ok (.iload_n 2, 1) := by decide +kernel
theorem dX4_intProduct_95 : decode cX4_intProduct 95 = .ok (.bipush 6, 2) := by decide +kernel
theorem dX4_intProduct_97 : decode cX4_intProduct 97 = .ok (.if_icmp .ge 10, 3) := by decide +kernel
theorem dX4_intProduct_100 : decode cX4_intProduct 100 = .ok (.aload_n 0, 1) := by decide +kernel
theorem dX4_intProduct_101 : decode cX4_intProduct 101 = .ok (.getfield 63, 3) := by decide +kernel
theorem dX4_intProduct_104 : decode cX4_intProduct 104 = .ok (.goto 7, 3) := by decide +kernel
theorem dX4_intProduct_107 : decode cX4_intProduct 107 = .ok (.aload_n 0, 1) := by decide +kernel
theorem dX4_intProduct_108 : decode cX4_intProduct 108 = .ok (.getfield 66, 3) := by decide +kernel
theorem dX4_intProduct_111 : decode cX4_intProduct 111 = .ok (.l2i, 1) := by decide +kernel
theorem dX4_intProduct_112 : decode cX4_intProduct 112 = .ok (.i2l, 1) := by decide +kernel
theorem dX4_intProduct_113 : decode cX4_intProduct 113 = .ok (.invokevirtual 106, 3) := by decide +kernel
theorem dX4_intProduct_116 : decode cX4_intProduct 116 = .ok (.ireturn, 1) := by decide +kernel
theorem dX4_intRegister_0 : decode cX4_intRegister 0 = .ok (.aload_n 0, 1) := by decide +kernel
theorem dX4_intRegister_1 : decode cX4_intRegister 1 = .ok (.getfield 84, 3) := by decide +kernel
theorem dX4_intRegister_4 : decode cX4_intRegister 4 = .ok (.ldc2_w 126, 3) := by decide +kernel
theorem dX4_intRegister_7 : decode cX4_intRegister 7 = .ok (.land, 1) := by decide +kernel
theorem dX4_intRegister_8 : decode cX4_intRegister 8 = .ok (.l2i, 1) := by decide +kernel
theorem dX4_intRegister_9 : decode cX4_intRegister 9 = .ok (.istore 4, 2) := by decide +kernel
theorem dX4_intRegister_11 : decode cX4_intRegister 11 = .ok (.iload_n 3, 1) := by decide +kernel
theorem dX4_intRegister_12 : decode cX4_intRegister 12 = .ok (.iconst 1, 1) := by decide +kernel
theorem dX4_intRegister_13 : decode cX4_intRegister 13 = .ok (.if_icmp .ne 10, 3) := by decide +kernel
theorem dX4_intRegister_16 : decode cX4_intRegister 16 = .ok (.aload_n 0, 1) := by decide +kernel
theorem dX4_intRegister_17 : decode cX4_intRegister 17 = .ok (.iload_n 1, 1) := by decide +kernel
theorem dX4_intRegister_18 : decode cX4_intRegister 18 = .ok (.iload_n 2, 1) := by decide +kernel
theorem dX4_intRegister_19 : decode cX4_intRegister 19 = .ok (.invokevirtual 128, 3) := by decide +kernel
theorem dX4_intRegister_22 : decode cX4_intRegister 22 = .ok (.ireturn, 1) := by decide +kernel
theorem dX4_intRegister_23 : decode cX4_intRegister 23 = .ok (.iload_n 3, 1) := by decide +kernel
theorem dX4_intRegister_24 : decode cX4_intRegister 24 = .ok (.ifCond .ne 67, 3) := by decide +kernel
theorem dX4_intRegister_27 : decode cX4_intRegister 27 = .ok (.iload_n 2, 1) := by decide +kernel
theorem dX4_intRegister_28 : decode cX4_intRegister 28 = .ok (.ifCond .eq 13, 3) := by decide +kernel
theorem dX4_intRegister_31 : decode cX4_intRegister 31 = .ok (.iload_n 2, 1) := by decide +kernel
theorem dX4_intRegister_32 : decode cX4_intRegister 32 = .ok (.iconst 1, 1) := by decide +kernel
theorem dX4_intRegister_33 : decode cX4_intRegister 33 = .ok (.if_icmp .eq 8, 3) := by decide +kernel
theorem dX4_intRegister_36 : decode cX4_intRegister 36 = .ok (.iload_n 2, 1) := by decide +kernel
theorem dX4_intRegister_37 : decode cX4_intRegister 37 = .ok (.iconst 5, 1) := by decide +kernel
theorem dX4_intRegister_38 : decode cX4_intRegister 38 = .ok (.if_icmp .ne 53, 3) := by decide +kernel
theorem dX4_intRegister_41 : decode cX4_intRegister 41 = .ok (.aload_n 0, 1) := by decide +kernel
theorem dX4_intRegister_42 : decode cX4_intRegister 42 = .ok (.iload_n 1, 1) := by decide +kernel
theorem dX4_intRegister_43 : decode cX4_intRegister 43 = .ok (.iload_n 2, 1) := by decide +kernel
theorem dX4_intRegister_44 : decode cX4_intRegister 44 = .ok (.ifCond .ne 17, 3) := by decide +kernel
theorem dX4_intRegister_47 : decode cX4_intRegister 47 = .ok (.aload_n 0, 1) := by decide +kernel
theorem dX4_intRegister_48 : decode cX4_intRegister 48 = .ok (.getfield 81, 3) := by decide +kernel
theorem dX4_intRegister_51 : decode cX4_intRegister 51 = .ok (.aload_n 0, 1) := by decide +kernel
theorem dX4_intRegister_52 : decode cX4_intRegister 52 = .ok (.getfield 84, 3) := by decide +kernel
theorem dX4_intRegister_55 : decode cX4_intRegister 55 = .ok (.ladd, 1) := by decide +kernel
theorem dX4_intRegister_56 : decode cX4_intRegister 56 = .ok (.l2i, 1) := by decide +kernel
theorem dX4_intRegister_57 : decode cX4_intRegister 57 = .ok (.i2l, 1) := by decide +kernel
theorem dX4_intRegister_58 : decode cX4_intRegister 58 = .ok (.goto 29, 3) := by decide +kernel
theorem dX4_intRegister_61 : decode cX4_intRegister 61 = .ok (.iload_n 2, 1) := by decide +kernel
theorem dX4_intRegister_62 : decode cX4_intRegister 62 = .ok (.iconst 1, 1) := by decide +kernel
theorem dX4_intRegister_63 : decode cX4_intRegister 63 = .ok (.if_icmp .ne 15, 3) := by decide +kernel
theorem dX4_intRegister_66 : decode cX4_intRegister 66 = .ok (.aload_n 0, 1) := by decide +kernel
theorem dX4_intRegister_67 : decode cX4_intRegister 67 = .ok (.getfield 81, 3) := by decide +kernel
theorem dX4_intRegister_70 : decode cX4_intRegister 70 = .ok (.l2i, 1) := by decide +kernel
theorem dX4_intRegister_71 : decode cX4_intRegister 71 = .ok (.iload 4, 2) := by decide +kernel
theorem dX4_intRegister_73 : decode cX4_intRegister 73 = .ok (.ishl, 1) := by decide +kernel
theorem dX4_intRegister_74 : decode cX4_intRegister 74 = .ok (.i2l, 1) := by decide +kernel
theorem dX4_intRegister_75 : decode cX4_intRegister 75 = .ok (.goto 12, 3) := by decide +kernel
theorem dX4_intRegister_78 : decode cX4_intRegister 78 = .ok (.aload_n 0, 1) := by decide +kernel
theorem dX4_intRegister_79 : decode cX4_intRegister 79 = .ok (.getfield 81, 3) := by decide +kernel
theorem dX4_intRegister_82 : decode cX4_intRegister 82 = .ok (.l2i, 1) := by decide +kernel
theorem dX4_intRegister_83 : decode cX4_intRegister 83 = .ok (.iload 4, 2) := by decide +kernel
theorem dX4_intRegister_85 : decode cX4_intRegister 85 = .ok (.iushr, 1) := by decide +kernel
theorem dX4_intRegister_86 : decode cX4_intRegister 86 = .ok (.i2l, 1) := by decide +kernel
theorem dX4_intRegister_87 : decode cX4_intRegister 87 = .ok (.invokevirtual 106, 3) := by decide +kernel
theorem dX4_intRegister_90 : decode cX4_intRegister 90 = .ok (.ireturn, 1) := by decide +kernel
theorem dX4_intRegister_91 : decode cX4_intRegister 91 = .ok (.iload_n 3, 1) := by decide +kernel
theorem dX4_intRegister_92 : decode cX4_intRegister 92 = .ok (.bipush 32, 2) := by decide +kernel
theorem dX4_intRegister_94 : decode cX4_intRegister 94 = .ok (.if_icmp .ne 47, 3) := by decide +kernel
theorem dX4_intRegister_97 : decode cX4_intRegister 97 = .ok (.iload_n 2, 1) := by decide +kernel
theorem dX4_intRegister_98 : decode cX4_intRegister 98 = .ok (.ifCond .eq 8, 3) := by decide +kernel
theorem dX4_intRegister_101 : decode cX4_intRegister 101 = .ok (.iload_n 2, 1) := by decide +kernel
theorem dX4_intRegister_102 : decode cX4_intRegister 102 = .ok (.iconst 5, 1) := by decide +kernel
theorem dX4_intRegister_103 : decode cX4_intRegister 103 = .ok (.if_icmp .ne 38, 3) := by decide +kernel
theorem dX4_intRegister_106 : decode cX4_intRegister 106 = .ok (.aload_n 0, 1) := by decide +kernel
theorem dX4_intRegister_107 : decode cX4_intRegister 107 = .ok (.iload_n 1, 1) := by decide +kernel
theorem dX4_intRegister_108 : decode cX4_intRegister 108 = .ok (.iload_n 2, 1) := by decide +kernel
theorem dX4_intRegister_109 : decode cX4_intRegister 109 = .ok (.ifCond .ne 17, 3) := by decide +kernel
theorem dX4_intRegister_112 : decode cX4_intRegister 112 = .ok (.aload_n 0, 1) := by decide +kernel
theorem dX4_intRegister_113 : decode cX4_intRegister 113 = .ok (.getfield 81, 3) := by decide +kernel
theorem dX4_intRegister_116 : decode cX4_intRegister 116 = .ok (.aload_n 0, 1) := by decide +kernel
theorem dX4_intRegister_117 : decode cX4_intRegister 117 = .ok (.getfield 84, 3) := by decide +kernel
theorem dX4_intRegister_120 : decode cX4_intRegister 120 = .ok (.lsub, 1) := by decide +kernel
theorem dX4_intRegister_121 : decode cX4_intRegister 121 = .ok (.l2i, 1) := by decide +kernel
theorem dX4_intRegister_122 : decode cX4_intRegister 122 = .ok (.i2l, 1) := by decide +kernel
theorem dX4_intRegister_123 : decode cX4_intRegister 123 = .ok (.goto 12, 3) := by decide +kernel
theorem dX4_intRegister_126 : decode cX4_intRegister 126 = .ok (.aload_n 0, 1) := by decide +kernel
theorem dX4_intRegister_127 : decode cX4_intRegister 127 = .ok (.getfield 81, 3) := by decide +kernel
theorem dX4_intRegister_130 : decode cX4_intRegister 130 = .ok (.l2i, 1) := by decide +kernel
theorem dX4_intRegister_131 : decode cX4_intRegister 131 = .ok (.iload 4, 2) := by decide +kernel
theorem dX4_intRegister_133 : decode cX4_intRegister 133 = .ok (.ishr, 1) := by decide +kernel
theorem dX4_intRegister_134 : decode cX4_intRegister 134 = .ok (.i2l, 1) := by decide +kernel
theorem dX4_intRegister_135 : decode cX4_intRegister 135 = .ok (.invokevirtual 106, 3) := by decide +kernel
theorem dX4_intRegister_138 : decode cX4_intRegister 138 = .ok (.goto 4, 3) := by decide +kernel
theorem dX4_intRegister_141 : decode cX4_intRegister 141 = .ok (.iconst (-1), 1) := by decide +kernel
theorem dX4_intRegister_142 : decode cX4_intRegister 142 = .ok (.ireturn, 1) := by decide +kernel
theorem dX4_power_0 : decode cX4_power 0 = .ok (.iload_n 0, 1) := by decide +kernel
theorem dX4_power_1 : decode cX4_power 1 = .ok (.ifCond .ne 7, 3) := by decide +kernel
theorem dX4_power_4 : decode cX4_power 4 = .ok (.lconst 1, 1) := by decide +kernel
theorem dX4_power_5 : decode cX4_power 5 = .ok (.goto 28, 3) := by decide +kernel
theorem dX4_power_8 : decode cX4_power 8 = .ok (.iload_n 0, 1) := by decide +kernel
theorem dX4_power_9 : decode cX4_power 9 = .ok (.iconst 1, 1) := by decide +kernel
theorem dX4_power_10 : decode cX4_power 10 = .ok (.if_icmp .ne 9, 3) := by decide +kernel
theorem dX4_power_13 : decode cX4_power 13 = .ok (.ldc2_w 57, 3) := by decide +kernel
theorem dX4_power_16 : decode cX4_power 16 = .ok (.goto 17, 3) := by decide +kernel
theorem dX4_power_19 : decode cX4_power 19 = .ok (.iload_n 0, 1) := by decide +kernel
theorem dX4_power_20 : decode cX4_power 20 = .ok (.iconst 2, 1) := by decide +kernel
theorem dX4_power_21 : decode cX4_power 21 = .ok (.if_icmp .ne 9, 3) := by decide +kernel
theorem dX4_power_24 : decode cX4_power 24 = .ok (.ldc2_w 131, 3) := by decide +kernel
theorem dX4_power_27 : decode cX4_power 27 = .ok (.goto 6, 3) := by decide +kernel
theorem dX4_power_30 : decode cX4_power 30 = .ok (.ldc2_w 133, 3) := by decide +kernel
theorem dX4_power_33 : decode cX4_power 33 = .ok (.lreturn, 1) := by decide +kernel
theorem dX4_atomic_0 : decode cX4_atomic 0 = .ok (.aload_n 0, 1) := by decide +kernel
theorem dX4_atomic_1 : decode cX4_atomic 1 = .ok (.bipush 31, 2) := by decide +kernel
theorem dX4_atomic_3 : decode cX4_atomic 3 = .ok (.bipush 27, 2) := by decide +kernel
theorem dX4_atomic_5 : decode cX4_atomic 5 = .ok (.invokevirtual 47, 3) := by decide +kernel
theorem dX4_atomic_8 : decode cX4_atomic 8 = .ok (.istore_n 3, 1) := by decide +kernel
theorem dX4_atomic_9 : decode cX4_atomic 9 = .ok (.iload_n 3, 1) := by decide +kernel
theorem dX4_atomic_10 : decode cX4_atomic 10 = .ok (.iconst 5, 1) := by decide +kernel
theorem dX4_atomic_11 : decode cX4_atomic 11 = .ok (.if_icmp .ge 27, 3) := by decide +kernel
theorem dX4_atomic_14 : decode cX4_atomic 14 = .ok (.iload_n 3, 1) := by decide +kernel
theorem dX4_atomic_15 : decode cX4_atomic 15 = .ok (.iconst 2, 1) := by decide +kernel
theorem dX4_atomic_16 : decode cX4_atomic 16 = .ok (.if_icmp .ne 14, 3) := by decide +kernel
theorem dX4_atomic_19 : decode cX4_atomic 19 = .ok (.aload_n 0, 1) := by decide +kernel
theorem dX4_atomic_20 : decode cX4_atomic 20 = .ok (.bipush 24, 2) := by decide +kernel
theorem dX4_atomic_22 : decode cX4_atomic 22 = .ok (.bipush 20, 2) := by decide +kernel
theorem dX4_atomic_24 : decode cX4_atomic 24 = .ok (.invokevirtual 47, 3) := by decide +kernel
theorem dX4_atomic_27 : decode cX4_atomic 27 = .ok (.ifCond .ne 7, 3) := by decide +kernel
theorem dX4_atomic_30 : decode cX4_atomic 30 = .ok (.iconst 1, 1) := by decide +kernel
theorem dX4_atomic_31 : decode cX4_atomic 31 = .ok (.goto 24, 3) := by decide +kernel
theorem dX4_atomic_34 : decode cX4_atomic 34 = .ok (.iconst 0, 1) := by decide +kernel
theorem dX4_atomic_35 : decode cX4_atomic 35 = .ok (.goto 20, 3) := by decide +kernel
theorem dX4_atomic_38 : decode cX4_atomic 38 = .ok (.iload_n 3, 1) := by decide +kernel
theorem dX4_atomic_39 : decode cX4_atomic 39 = .ok (.iconst 4, 1) := by decide +kernel
theorem dX4_atomic_40 : decode cX4_atomic 40 = .ok (.irem, 1) := by decide +kernel
theorem dX4_atomic_41 : decode cX4_atomic 41 = .ok (.ifCond .ne 13, 3) := by decide +kernel
theorem dX4_atomic_44 : decode cX4_atomic 44 = .ok (.iload_n 3, 1) := by decide +kernel
theorem dX4_atomic_45 : decode cX4_atomic 45 = .ok (.bipush 29, 2) := by decide +kernel
theorem dX4_atomic_47 : decode cX4_atomic 47 = .ok (.if_icmp .ge 7, 3) := by decide +kernel
theorem dX4_atomic_50 : decode cX4_atomic 50 = .ok (.iconst 1, 1) := by decide +kernel
theorem dX4_atomic_51 : decode cX4_atomic 51 = .ok (.goto 4, 3) := by decide +kernel
theorem dX4_atomic_54 : decode cX4_atomic 54 = .ok (.iconst 0, 1) := by decide +kernel
theorem dX4_atomic_55 : decode cX4_atomic 55 = .ok (.istore 4, 2) := by decide +kernel
theorem dX4_atomic_57 : decode cX4_atomic 57 = .ok (.iload 4, 2) := by decide +kernel
theorem dX4_atomic_59 : decode cX4_atomic 59 = .ok (.ifCond .eq 36, 3) := by decide +kernel
theorem dX4_atomic_62 : decode cX4_atomic 62 = .ok (.iload_n 2, 1) := by decide +kernel
theorem dX4_atomic_63 : decode cX4_atomic 63 = .ok (.iconst 2, 1) := by decide +kernel
theorem dX4_atomic_64 : decode cX4_atomic 64 = .ok (.if_icmp .eq 8, 3) := by decide +kernel
theorem dX4_atomic_67 : decode cX4_atomic 67 = .ok (.iload_n 2, 1) := by decide +kernel
theorem dX4_atomic_68 : decode cX4_atomic 68 = .ok (.iconst 3, 1) := by decide +kernel
theorem dX4_atomic_69 : decode cX4_atomic 69 = .ok (.if_icmp .ne 26, 3) := by decide +kernel
theorem dX4_atomic_72 : decode cX4_atomic 72 = .ok (.aload_n 0, 1) := by decide +kernel
theorem dX4_atomic_73 : decode cX4_atomic 73 = .ok (.iconst 4, 1) := by decide +kernel
theorem dX4_atomic_74 : decode cX4_atomic 74 = .ok (.aload_n 0, 1) := by decide +kernel
theorem dX4_atomic_75 : decode cX4_atomic 75 = .ok (.getfield 81, 3) := by decide +kernel
theorem dX4_atomic_78 : decode cX4_atomic 78 = .ok (.iload_n 2, 1) := by decide +kernel
theorem dX4_atomic_79 : decode cX4_atomic 79 = .ok (.invokestatic 135, 3) := by decide +kernel
theorem dX4_atomic_82 : decode cX4_atomic 82 = .ok (.aload_n 0, 1) := by decide +kernel
theorem dX4_atomic_83 : decode cX4_atomic 83 = .ok (.getfield 84, 3) := by decide +kernel
theorem dX4_atomic_86 : decode cX4_atomic 86 = .ok (.iload_n 3, 1) := by decide +kernel
theorem dX4_atomic_87 : decode cX4_atomic 87 = .ok (.i2l, 1) := by decide +kernel
theorem dX4_atomic_88 : decode cX4_atomic 88 = .ok (.iload_n 1, 1) := by decide +kernel
theorem dX4_atomic_89 : decode cX4_atomic 89 = .ok (.invokevirtual 138, 3) := by decide +kernel
theorem dX4_atomic_92 : decode cX4_atomic 92 = .ok (.goto 4, 3) := by decide +kernel
theorem dX4_atomic_95 : decode cX4_atomic 95 = .ok (.iconst (-1), 1) := by decide +kernel
theorem dX4_atomic_96 : decode cX4_atomic 96 = .ok (.ireturn, 1) := by decide +kernel
theorem dX4_control_0 : decode cX4_control 0 = .ok (.iload_n 2, 1) := by decide +kernel
theorem dX4_control_1 : decode cX4_control 1 = .ok (.iconst 4, 1) := by decide +kernel
theorem dX4_control_2 : decode cX4_control 2 = .ok (.if_icmp .ne 5, 3) := by decide +kernel
theorem dX4_control_5 : decode cX4_control 5 = .ok (.iconst (-1), 1) := by decide +kernel
theorem dX4_control_6 : decode cX4_control 6 = .ok (.ireturn, 1) := by decide +kernel
theorem dX4_control_7 : decode cX4_control 7 = .ok (.aload_n 0, 1) := by decide +kernel
theorem dX4_control_8 : decode cX4_control 8 = .ok (.bipush 6, 2) := by decide +kernel
theorem dX4_control_10 : decode cX4_control 10 = .ok (.aload_n 0, 1) := by decide +kernel
theorem dX4_control_11 : decode cX4_control 11 = .ok (.bipush 31, 2) := by decide +kernel
theorem dX4_control_13 : decode cX4_control 13 = .ok (.bipush 20, 2) := by decide +kernel
theorem dX4_control_15 : decode cX4_control 15 = .ok (.invokevirtual 47, 3) := by decide +kernel
theorem dX4_control_18 : decode cX4_control 18 = .ok (.i2l, 1) := by decide +kernel
theorem dX4_control_19 : decode cX4_control 19 = .ok (.lconst 0, 1) := by decide +kernel
theorem dX4_control_20 : decode cX4_control 20 = .ok (.iload_n 2, 1) := by decide +kernel
theorem dX4_control_21 : decode cX4_control 21 = .ok (.iconst 4, 1) := by decide +kernel
theorem dX4_control_22 : decode cX4_control 22 = .ok (.if_icmp .le 15, 3) := by decide +kernel
theorem dX4_control_25 : decode cX4_control 25 = .ok (.aload_n 0, 1) := by decide +kernel
theorem dX4_control_26 : decode cX4_control 26 = .ok (.bipush 19, 2) := by decide +kernel
theorem dX4_control_28 : decode cX4_control 28 = .ok (.bipush 15, 2) := by decide +kernel
theorem dX4_control_30 : decode cX4_control 30 = .ok (.invokevirtual 47, 3) := by decide +kernel
theorem dX4_control_33 : decode cX4_control 33 = .ok (.i2l, 1) := by decide +kernel
theorem dX4_control_34 : decode cX4_control 34 = .ok (.goto 7, 3) := by decide +kernel
theorem dX4_control_37 : decode cX4_control 37 = .ok (.aload_n 0, 1) := by decide +kernel
theorem dX4_control_38 : decode cX4_control 38 = .ok (.getfield 81, 3) := by decide +kernel
theorem dX4_control_41 : decode cX4_control 41 = .ok (.iload_n 2, 1) := by decide +kernel
theorem dX4_control_42 : decode cX4_control 42 = .ok (.i2l, 1) := by decide +kernel
theorem dX4_control_43 : decode cX4_control 43 = .ok (.iload_n 1, 1) := by decide +kernel
theorem dX4_control_44 : decode cX4_control 44 = .ok (.invokevirtual 138, 3) := by decide +kernel
theorem dX4_control_47 : decode cX4_control 47 = .ok (.ireturn, 1) := by decide +kernel
theorem dX4_others_0 : decode cX4_others 0 = .ok (.iload_n 1, 1) := by decide +kernel
theorem dX4_others_1 : decode cX4_others 1 = .ok (.lookupswitch 307 #[(3, 125), (7, 209), (15, 107), (35, 168), (39, 247), (47, 202), (67, 285), (71, 285), (75, 285), (79, 285), (83, 285), (115, 300)], 107) := by decide +kernel
theorem dX4_others_108 : decode cX4_others 108 = .ok (.iload_n 3, 1) := by decide +kernel
theorem dX4_others_109 : decode cX4_others 109 = .ok (.iconst 2, 1) := by decide +kernel
theorem dX4_others_110 : decode cX4_others 110 = .ok (.if_icmp .ge 14, 3) := by decide +kernel
theorem dX4_others_113 : decode cX4_others 113 = .ok (.aload_n 0, 1) := by decide +kernel
theorem dX4_others_114 : decode cX4_others 114 = .ok (.iconst 0, 1) := by decide +kernel
theorem dX4_others_115 : decode cX4_others 115 = .ok (.lconst 0, 1) := by decide +kernel
theorem dX4_others_116 : decode cX4_others 116 = .ok (.invokevirtual 106, 3) := by decide +kernel
theorem dX4_others_119 : decode cX4_others 119 = .ok (.iconst 1, 1) := by decide +kernel
theorem dX4_others_120 : decode cX4_others 120 = .ok (.iadd, 1) := by decide +kernel
theorem dX4_others_121 : decode cX4_others 121 = .ok (.goto 4, 3) := by decide +kernel
theorem dX4_others_124 : decode cX4_others 124 = .ok (.iconst (-1), 1) := by decide +kernel
theorem dX4_others_125 : decode cX4_others 125 = .ok (.ireturn, 1) := by decide +kernel
theorem dX4_others_126 : decode cX4_others 126 = .ok (.iload_n 3, 1) := by decide +kernel
theorem dX4_others_127 : decode cX4_others 127 = .ok (.bipush 7, 2) := by decide +kernel
theorem dX4_others_129 : decode cX4_others 129 = .ok (.if_icmp .ge 38, 3) := by decide +kernel
theorem dX4_others_132 : decode cX4_others 132 = .ok (.aload_n 0, 1) := by decide +kernel
theorem dX4_others_133 : decode cX4_others 133 = .ok (.iconst 2, 1) := by decide +kernel
theorem dX4_others_134 : decode cX4_others 134 = .ok (.aload_n 0, 1) := by decide +kernel
theorem dX4_others_135 : decode cX4_others 135 = .ok (.getfield 81, 3) := by decide +kernel
theorem dX4_others_138 : decode cX4_others 138 = .ok (.aload_n 0, 1) := by decide +kernel
theorem dX4_others_139 : decode cX4_others 139 = .ok (.invokevirtual 99, 3) := by decide +kernel
theorem dX4_others_142 : decode cX4_others 142 = .ok (.ladd, 1) := by decide +kernel
theorem dX4_others_143 : decode cX4_others 143 = .ok (.iload_n 3, 1) := by decide +kernel
theorem dX4_others_144 : decode cX4_others 144 = .ok (.iconst 4, 1) := by decide +kernel
theorem dX4_others_145 : decode cX4_others 145 = .ok (.irem, 1) := by decide +kernel
theorem dX4_others_146 : decode cX4_others 146 = .ok (.invokestatic 135, 3) := by decide +kernel
theorem dX4_others_149 : decode cX4_others 149 = .ok (.lconst 0, 1) := by decide +kernel
theorem dX4_others_150 : decode cX4_others 150 = .ok (.iload_n 3, 1) := by decide +kernel
theorem dX4_others_151 : decode cX4_others 151 = .ok (.iconst 3, 1) := by decide +kernel
theorem dX4_others_152 : decode cX4_others 152 = .ok (.if_icmp .le 7, 3) := by decide +kernel
theorem dX4_others_155 : decode cX4_others 155 = .ok (.lconst 1, 1) := by decide +kernel
theorem dX4_others_156 : decode cX4_others 156 = .ok (.goto 4, 3) := by decide +kernel
theorem dX4_others_159 : decode cX4_others 159 = .ok (.lconst 0, 1) := by decide +kernel
theorem dX4_others_160 : decode cX4_others 160 = .ok (.iload_n 2, 1) := by decide +kernel
theorem dX4_others_161 : decode cX4_others 161 = .ok (.invokevirtual 138, 3) := by decide +kernel
theorem dX4_others_164 : decode cX4_others 164 = .ok (.goto 4, 3) := by decide +kernel
theorem dX4_others_167 : decode cX4_others 167 = .ok (.iconst (-1), 1) := by decide +kernel
theorem dX4_others_168 : decode cX4_others 168 = .ok (.ireturn, 1) := by decide +kernel
theorem dX4_others_169 : decode cX4_others 169 = .ok (.iload_n 3, 1) := by decide +kernel
theorem dX4_others_170 : decode cX4_others 170 = .ok (.iconst 4, 1) := by decide +kernel
theorem dX4_others_171 : decode cX4_others 171 = .ok (.if_icmp .ge 30, 3) := by decide +kernel
theorem dX4_others_174 : decode cX4_others 174 = .ok (.aload_n 0, 1) := by decide +kernel
theorem dX4_others_175 : decode cX4_others 175 = .ok (.iconst 3, 1) := by decide +kernel
theorem dX4_others_176 : decode cX4_others 176 = .ok (.aload_n 0, 1) := by decide +kernel
theorem dX4_others_177 : decode cX4_others 177 = .ok (.getfield 81, 3) := by decide +kernel
theorem dX4_others_180 : decode cX4_others 180 = .ok (.aload_n 0, 1) := by decide +kernel
theorem dX4_others_181 : decode cX4_others 181 = .ok (.invokevirtual 142, 3) := by decide +kernel
theorem dX4_others_184 : decode cX4_others 184 = .ok (.ladd, 1) := by decide +kernel
theorem dX4_others_185 : decode cX4_others 185 = .ok (.iload_n 3, 1) := by decide +kernel
theorem dX4_others_186 : decode cX4_others 186 = .ok (.invokestatic 135, 3) := by decide +kernel
theorem dX4_others_189 : decode cX4_others 189 = .ok (.aload_n 0, 1) := by decide +kernel
theorem dX4_others_190 : decode cX4_others 190 = .ok (.getfield 84, 3) := by decide +kernel
theorem dX4_others_193 : decode cX4_others 193 = .ok (.lconst 0, 1) := by decide +kernel
theorem dX4_others_194 : decode cX4_others 194 = .ok (.iconst 0, 1) := by decide +kernel
theorem dX4_others_195 : decode cX4_others 195 = .ok (.invokevirtual 138, 3) := by decide +kernel
theorem dX4_others_198 : decode cX4_others 198 = .ok (.goto 4, 3) := by decide +kernel
theorem dX4_others_201 : decode cX4_others 201 = .ok (.iconst (-1), 1) := by decide +kernel
theorem dX4_others_202 : decode cX4_others 202 = .ok (.ireturn, 1) := by decide +kernel
theorem dX4_others_203 : decode cX4_others 203 = .ok (.aload_n 0, 1) := by decide +kernel
theorem dX4_others_204 : decode cX4_others 204 = .ok (.iload_n 2, 1) := by decide +kernel
theorem dX4_others_205 : decode cX4_others 205 = .ok (.iload_n 3, 1) := by decide +kernel
theorem dX4_others_206 : decode cX4_others 206 = .ok (.invokevirtual 145, 3) := by decide +kernel
theorem dX4_others_209 : decode cX4_others 209 = .ok (.ireturn, 1) := by decide +kernel
theorem dX4_others_210 : decode cX4_others 210 = .ok (.iload_n 3, 1) := by decide +kernel
theorem dX4_others_211 : decode cX4_others 211 = .ok (.iconst 2, 1) := by decide +kernel
theorem dX4_others_212 : decode cX4_others 212 = .ok (.if_icmp .eq 8, 3) := by decide +kernel
theorem dX4_others_215 : decode cX4_others 215 = .ok (.iload_n 3, 1) := by decide +kernel
theorem dX4_others_216 : decode cX4_others 216 = .ok (.iconst 3, 1) := by decide +kernel
theorem dX4_others_217 : decode cX4_others 217 = .ok (.if_icmp .ne 29, 3) := by decide +kernel
theorem dX4_others_220 : decode cX4_others 220 = .ok (.aload_n 0, 1) := by decide +kernel
theorem dX4_others_221 : decode cX4_others 221 = .ok (.iconst 5, 1) := by decide +kernel
theorem dX4_others_222 : decode cX4_others 222 = .ok (.aload_n 0, 1) := by decide +kernel
theorem dX4_others_223 : decode cX4_others 223 = .ok (.getfield 81, 3) := by decide +kernel
theorem dX4_others_226 : decode cX4_others 226 = .ok (.aload_n 0, 1) := by decide +kernel
theorem dX4_others_227 : decode cX4_others 227 = .ok (.invokevirtual 99, 3) := by decide +kernel
theorem dX4_others_230 : decode cX4_others 230 = .ok (.ladd, 1) := by decide +kernel
theorem dX4_others_231 : decode cX4_others 231 = .ok (.iload_n 3, 1) := by decide +kernel
theorem dX4_others_232 : decode cX4_others 232 = .ok (.invokestatic 135, 3) := by decide +kernel
theorem dX4_others_235 : decode cX4_others 235 = .ok (.lconst 0, 1) := by decide +kernel
theorem dX4_others_236 : decode cX4_others 236 = .ok (.ldc2_w 148, 3) := by decide +kernel
theorem dX4_others_239 : decode cX4_others 239 = .ok (.iload_n 2, 1) := by decide +kernel
theorem dX4_others_240 : decode cX4_others 240 = .ok (.invokevirtual 138, 3) := by decide +kernel
theorem dX4_others_243 : decode cX4_others 243 = .ok (.goto 4, 3) := by decide +kernel
theorem dX4_others_246 : decode cX4_others 246 = .ok (.iconst (-1), 1) := by decide +kernel
theorem dX4_others_247 : decode cX4_others 247 = .ok (.ireturn, 1) := by decide +kernel
theorem dX4_others_248 : decode cX4_others 248 = .ok (.iload_n 3, 1) := by decide +kernel
theorem dX4_others_249 : decode cX4_others 249 = .ok (.iconst 2, 1) := by decide +kernel
theorem dX4_others_250 : decode cX4_others 250 = .ok (.if_icmp .eq 8, 3) := by decide +kernel
theorem dX4_others_253 : decode cX4_others 253 = .ok (.iload_n 3, 1) := by decide +kernel
