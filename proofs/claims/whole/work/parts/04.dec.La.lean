theorem d_La_assemble_0 : decode c_La_assemble 0 = .ok (.aload_n 1, 1) := by decide +kernel
theorem d_La_assemble_1 : decode c_La_assemble 1 = .ok (.iconst 0, 1) := by decide +kernel
theorem d_La_assemble_2 : decode c_La_assemble 2 = .ok (.aload_n 0, 1) := by decide +kernel
theorem d_La_assemble_3 : decode c_La_assemble 3 = .ok (.invokevirtual 7, 3) := by decide +kernel
theorem d_La_assemble_6 : decode c_La_assemble 6 = .ok (.i2l, 1) := by decide +kernel
theorem d_La_assemble_7 : decode c_La_assemble 7 = .ok (.lastore, 1) := by decide +kernel
theorem d_La_assemble_8 : decode c_La_assemble 8 = .ok (.goto 6, 3) := by decide +kernel
theorem d_La_assemble_11 : decode c_La_assemble 11 = .ok (.astore_n 2, 1) := by decide +kernel
theorem d_La_assemble_12 : decode c_La_assemble 12 = .ok (.iconst 1, 1) := by decide +kernel
theorem d_La_assemble_13 : decode c_La_assemble 13 = .ok (.ireturn, 1) := by decide +kernel
theorem d_La_assemble_14 : decode c_La_assemble 14 = .ok (.iconst 0, 1) := by decide +kernel
theorem d_La_assemble_15 : decode c_La_assemble 15 = .ok (.ireturn, 1) := by decide +kernel
theorem d_La_run_0 : decode c_La_run 0 = .ok (.aload_n 2, 1) := by decide +kernel
theorem d_La_run_1 : decode c_La_run 1 = .ok (.iconst 0, 1) := by decide +kernel
theorem d_La_run_2 : decode c_La_run 2 = .ok (.aload_n 0, 1) := by decide +kernel
theorem d_La_run_3 : decode c_La_run 3 = .ok (.iload_n 1, 1) := by decide +kernel
theorem d_La_run_4 : decode c_La_run 4 = .ok (.invokevirtual 15, 3) := by decide +kernel
theorem d_La_run_7 : decode c_La_run 7 = .ok (.i2l, 1) := by decide +kernel
theorem d_La_run_8 : decode c_La_run 8 = .ok (.lastore, 1) := by decide +kernel
theorem d_La_run_9 : decode c_La_run 9 = .ok (.goto 6, 3) := by decide +kernel
theorem d_La_run_12 : decode c_La_run 12 = .ok (.astore_n 3, 1) := by decide +kernel
theorem d_La_run_13 : decode c_La_run 13 = .ok (.iconst 1, 1) := by decide +kernel
theorem d_La_run_14 : decode c_La_run 14 = .ok (.ireturn, 1) := by decide +kernel
theorem d_La_run_15 : decode c_La_run 15 = .ok (.iconst 0, 1) := by decide +kernel
theorem d_La_run_16 : decode c_La_run 16 = .ok (.ireturn, 1) := by decide +kernel
