theorem dL_get_0 : decode cL_get 0 = .ok (.aload_n 2, 1) := by decide +kernel
theorem dL_get_1 : decode cL_get 1 = .ok (.iconst 0, 1) := by decide +kernel
theorem dL_get_2 : decode cL_get 2 = .ok (.aload_n 0, 1) := by decide +kernel
theorem dL_get_3 : decode cL_get 3 = .ok (.iload_n 1, 1) := by decide +kernel
theorem dL_get_4 : decode cL_get 4 = .ok (.invokevirtual 7, 3) := by decide +kernel
theorem dL_get_7 : decode cL_get 7 = .ok (.lastore, 1) := by decide +kernel
theorem dL_get_8 : decode cL_get 8 = .ok (.goto 6, 3) := by decide +kernel
theorem dL_get_11 : decode cL_get 11 = .ok (.astore_n 3, 1) := by decide +kernel
theorem dL_get_12 : decode cL_get 12 = .ok (.iconst 1, 1) := by decide +kernel
theorem dL_get_13 : decode cL_get 13 = .ok (.ireturn, 1) := by decide +kernel
theorem dL_get_14 : decode cL_get 14 = .ok (.iconst 0, 1) := by decide +kernel
theorem dL_get_15 : decode cL_get 15 = .ok (.ireturn, 1) := by decide +kernel
theorem dL_set_0 : decode cL_set 0 = .ok (.aload_n 0, 1) := by decide +kernel
theorem dL_set_1 : decode cL_set 1 = .ok (.iload_n 1, 1) := by decide +kernel
theorem dL_set_2 : decode cL_set 2 = .ok (.lload_n 2, 1) := by decide +kernel
theorem dL_set_3 : decode cL_set 3 = .ok (.invokevirtual 15, 3) := by decide +kernel
theorem dL_set_6 : decode cL_set 6 = .ok (.goto 7, 3) := by decide +kernel
theorem dL_set_9 : decode cL_set 9 = .ok (.astore 4, 2) := by decide +kernel
theorem dL_set_11 : decode cL_set 11 = .ok (.iconst 1, 1) := by decide +kernel
theorem dL_set_12 : decode cL_set 12 = .ok (.ireturn, 1) := by decide +kernel
theorem dL_set_13 : decode cL_set 13 = .ok (.iconst 0, 1) := by decide +kernel
theorem dL_set_14 : decode cL_set 14 = .ok (.ireturn, 1) := by decide +kernel
theorem dL_run_0 : decode cL_run 0 = .ok (.aload_n 3, 1) := by decide +kernel
theorem dL_run_1 : decode cL_run 1 = .ok (.iconst 0, 1) := by decide +kernel
theorem dL_run_2 : decode cL_run 2 = .ok (.aload_n 0, 1) := by decide +kernel
theorem dL_run_3 : decode cL_run 3 = .ok (.iload_n 1, 1) := by decide +kernel
theorem dL_run_4 : decode cL_run 4 = .ok (.iload_n 2, 1) := by decide +kernel
theorem dL_run_5 : decode cL_run 5 = .ok (.invokevirtual 19, 3) := by decide +kernel
theorem dL_run_8 : decode cL_run 8 = .ok (.i2l, 1) := by decide +kernel
theorem dL_run_9 : decode cL_run 9 = .ok (.lastore, 1) := by decide +kernel
theorem dL_run_10 : decode cL_run 10 = .ok (.goto 7, 3) := by decide +kernel
theorem dL_run_13 : decode cL_run 13 = .ok (.astore 4, 2) := by decide +kernel
theorem dL_run_15 : decode cL_run 15 = .ok (.iconst 1, 1) := by decide +kernel
theorem dL_run_16 : decode cL_run 16 = .ok (.ireturn, 1) := by decide +kernel
theorem dL_run_17 : decode cL_run 17 = .ok (.iconst 0, 1) := by decide +kernel
theorem dL_run_18 : decode cL_run 18 = .ok (.ireturn, 1) := by decide +kernel
theorem dL_finish_0 : decode cL_finish 0 = .ok (.aload 4, 2) := by decide +kernel
theorem dL_finish_2 : decode cL_finish 2 = .ok (.iconst 0, 1) := by decide +kernel
theorem dL_finish_3 : decode cL_finish 3 = .ok (.aload_n 0, 1) := by decide +kernel
theorem dL_finish_4 : decode cL_finish 4 = .ok (.iload_n 1, 1) := by decide +kernel
theorem dL_finish_5 : decode cL_finish 5 = .ok (.lload_n 2, 1) := by decide +kernel
theorem dL_finish_6 : decode cL_finish 6 = .ok (.invokevirtual 25, 3) := by decide +kernel
theorem dL_finish_9 : decode cL_finish 9 = .ok (.i2l, 1) := by decide +kernel
theorem dL_finish_10 : decode cL_finish 10 = .ok (.lastore, 1) := by decide +kernel
theorem dL_finish_11 : decode cL_finish 11 = .ok (.goto 7, 3) := by decide +kernel
theorem dL_finish_14 : decode cL_finish 14 = .ok (.astore 5, 2) := by decide +kernel
theorem dL_finish_16 : decode cL_finish 16 = .ok (.iconst 1, 1) := by decide +kernel
theorem dL_finish_17 : decode cL_finish 17 = .ok (.ireturn, 1) := by decide +kernel
theorem dL_finish_18 : decode cL_finish 18 = .ok (.iconst 0, 1) := by decide +kernel
theorem dL_finish_19 : decode cL_finish 19 = .ok (.ireturn, 1) := by decide +kernel
