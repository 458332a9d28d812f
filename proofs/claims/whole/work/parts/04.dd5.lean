theorem dX4_finish_84 : decode cX4_finish 84 = .ok (.l2i, 1) := by decide +kernel
theorem dX4_finish_85 : decode cX4_finish 85 = .ok (.i2l, 1) := by decide +kernel
theorem dX4_finish_86 : decode cX4_finish 86 = .ok (.goto 4, 3) := by decide +kernel
theorem dX4_finish_89 : decode cX4_finish 89 = .ok (.lload_n 2, 1) := by decide +kernel
theorem dX4_finish_90 : decode cX4_finish 90 = .ok (.invokevirtual 27, 3) := by decide +kernel
theorem dX4_finish_93 : decode cX4_finish 93 = .ok (.aload_n 0, 1) := by decide +kernel
theorem dX4_finish_94 : decode cX4_finish 94 = .ok (.aload_n 0, 1) := by decide +kernel
theorem dX4_finish_95 : decode cX4_finish 95 = .ok (.getfield 31, 3) := by decide +kernel
theorem dX4_finish_98 : decode cX4_finish 98 = .ok (.aload_n 0, 1) := by decide +kernel
theorem dX4_finish_99 : decode cX4_finish 99 = .ok (.getfield 78, 3) := by decide +kernel
theorem dX4_finish_102 : decode cX4_finish 102 = .ok (.i2l, 1) := by decide +kernel
theorem dX4_finish_103 : decode cX4_finish 103 = .ok (.ladd, 1) := by decide +kernel
theorem dX4_finish_104 : decode cX4_finish 104 = .ok (.putfield 31, 3) := by decide +kernel
theorem dX4_finish_107 : decode cX4_finish 107 = .ok (.aload_n 0, 1) := by decide +kernel
theorem dX4_finish_108 : decode cX4_finish 108 = .ok (.dup, 1) := by decide +kernel
theorem dX4_finish_109 : decode cX4_finish 109 = .ok (.getfield 35, 3) := by decide +kernel
theorem dX4_finish_112 : decode cX4_finish 112 = .ok (.lconst 1, 1) := by decide +kernel
theorem dX4_finish_113 : decode cX4_finish 113 = .ok (.ladd, 1) := by decide +kernel
theorem dX4_finish_114 : decode cX4_finish 114 = .ok (.putfield 35, 3) := by decide +kernel
theorem dX4_finish_117 : decode cX4_finish 117 = .ok (.aload_n 0, 1) := by decide +kernel
theorem dX4_finish_118 : decode cX4_finish 118 = .ok (.iconst (-1), 1) := by decide +kernel
theorem dX4_finish_119 : decode cX4_finish 119 = .ok (.putfield 13, 3) := by decide +kernel
theorem dX4_finish_122 : decode cX4_finish 122 = .ok (.iload 4, 2) := by decide +kernel
theorem dX4_finish_124 : decode cX4_finish 124 = .ok (.ireturn, 1) := by decide +kernel
