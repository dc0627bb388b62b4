theorem d_L_decode_0 : decode b_L_decode 0 = .ok (.aload_n 1, 1) := by decide +kernel
theorem d_L_decode_1 : decode b_L_decode 1 = .ok (.iconst 0, 1) := by decide +kernel
theorem d_L_decode_2 : decode b_L_decode 2 = .ok (.aload_n 0, 1) := by decide +kernel
theorem d_L_decode_3 : decode b_L_decode 3 = .ok (.invokevirtual 7, 3) := by decide +kernel
theorem d_L_decode_6 : decode b_L_decode 6 = .ok (.i2l, 1) := by decide +kernel
theorem d_L_decode_7 : decode b_L_decode 7 = .ok (.lastore, 1) := by decide +kernel
theorem d_L_decode_8 : decode b_L_decode 8 = .ok (.goto 6, 3) := by decide +kernel
theorem d_L_decode_11 : decode b_L_decode 11 = .ok (.astore_n 2, 1) := by decide +kernel
theorem d_L_decode_12 : decode b_L_decode 12 = .ok (.iconst 1, 1) := by decide +kernel
theorem d_L_decode_13 : decode b_L_decode 13 = .ok (.ireturn, 1) := by decide +kernel
theorem d_L_decode_14 : decode b_L_decode 14 = .ok (.iconst 0, 1) := by decide +kernel
theorem d_L_decode_15 : decode b_L_decode 15 = .ok (.ireturn, 1) := by decide +kernel
theorem d_L_commit_0 : decode b_L_commit 0 = .ok (.aload_n 2, 1) := by decide +kernel
theorem d_L_commit_1 : decode b_L_commit 1 = .ok (.iconst 0, 1) := by decide +kernel
theorem d_L_commit_2 : decode b_L_commit 2 = .ok (.aload_n 0, 1) := by decide +kernel
theorem d_L_commit_3 : decode b_L_commit 3 = .ok (.iload_n 1, 1) := by decide +kernel
theorem d_L_commit_4 : decode b_L_commit 4 = .ok (.invokevirtual 15, 3) := by decide +kernel
theorem d_L_commit_7 : decode b_L_commit 7 = .ok (.i2l, 1) := by decide +kernel
theorem d_L_commit_8 : decode b_L_commit 8 = .ok (.lastore, 1) := by decide +kernel
theorem d_L_commit_9 : decode b_L_commit 9 = .ok (.goto 6, 3) := by decide +kernel
theorem d_L_commit_12 : decode b_L_commit 12 = .ok (.astore_n 3, 1) := by decide +kernel
theorem d_L_commit_13 : decode b_L_commit 13 = .ok (.iconst 1, 1) := by decide +kernel
theorem d_L_commit_14 : decode b_L_commit 14 = .ok (.ireturn, 1) := by decide +kernel
theorem d_L_commit_15 : decode b_L_commit 15 = .ok (.iconst 0, 1) := by decide +kernel
theorem d_L_commit_16 : decode b_L_commit 16 = .ok (.ireturn, 1) := by decide +kernel
