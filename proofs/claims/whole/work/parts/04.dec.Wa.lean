theorem d_Wa_init_0 : decode c_Wa_init 0 = .ok (.aload_n 0, 1) := by decide +kernel
theorem d_Wa_init_1 : decode c_Wa_init 1 = .ok (.invokespecial 3, 3) := by decide +kernel
theorem d_Wa_init_4 : decode c_Wa_init 4 = .ok (.aload_n 0, 1) := by decide +kernel
theorem d_Wa_init_5 : decode c_Wa_init 5 = .ok (.iconst 3, 1) := by decide +kernel
theorem d_Wa_init_6 : decode c_Wa_init 6 = .ok (.newarray .int, 2) := by decide +kernel
theorem d_Wa_init_8 : decode c_Wa_init 8 = .ok (.putfield 11, 3) := by decide +kernel
theorem d_Wa_init_11 : decode c_Wa_init 11 = .ok (.aload_n 0, 1) := by decide +kernel
theorem d_Wa_init_12 : decode c_Wa_init 12 = .ok (.iconst 0, 1) := by decide +kernel
theorem d_Wa_init_13 : decode c_Wa_init 13 = .ok (.putfield 15, 3) := by decide +kernel
theorem d_Wa_init_16 : decode c_Wa_init 16 = .ok (.return_, 1) := by decide +kernel
theorem d_Wa_append_0 : decode c_Wa_append 0 = .ok (.iload_n 1, 1) := by decide +kernel
theorem d_Wa_append_1 : decode c_Wa_append 1 = .ok (.ifCond .lt 17, 3) := by decide +kernel
theorem d_Wa_append_4 : decode c_Wa_append 4 = .ok (.iload_n 1, 1) := by decide +kernel
theorem d_Wa_append_5 : decode c_Wa_append 5 = .ok (.bipush 16, 2) := by decide +kernel
theorem d_Wa_append_7 : decode c_Wa_append 7 = .ok (.if_icmp .ge 11, 3) := by decide +kernel
theorem d_Wa_append_10 : decode c_Wa_append 10 = .ok (.aload_n 0, 1) := by decide +kernel
theorem d_Wa_append_11 : decode c_Wa_append 11 = .ok (.getfield 15, 3) := by decide +kernel
theorem d_Wa_append_14 : decode c_Wa_append 14 = .ok (.iconst 3, 1) := by decide +kernel
theorem d_Wa_append_15 : decode c_Wa_append 15 = .ok (.if_icmp .lt 5, 3) := by decide +kernel
theorem d_Wa_append_18 : decode c_Wa_append 18 = .ok (.iconst 0, 1) := by decide +kernel
theorem d_Wa_append_19 : decode c_Wa_append 19 = .ok (.ireturn, 1) := by decide +kernel
theorem d_Wa_append_20 : decode c_Wa_append 20 = .ok (.aload_n 0, 1) := by decide +kernel
theorem d_Wa_append_21 : decode c_Wa_append 21 = .ok (.getfield 11, 3) := by decide +kernel
theorem d_Wa_append_24 : decode c_Wa_append 24 = .ok (.aload_n 0, 1) := by decide +kernel
theorem d_Wa_append_25 : decode c_Wa_append 25 = .ok (.getfield 15, 3) := by decide +kernel
theorem d_Wa_append_28 : decode c_Wa_append 28 = .ok (.iload_n 1, 1) := by decide +kernel
theorem d_Wa_append_29 : decode c_Wa_append 29 = .ok (.iastore, 1) := by decide +kernel
theorem d_Wa_append_30 : decode c_Wa_append 30 = .ok (.aload_n 0, 1) := by decide +kernel
theorem d_Wa_append_31 : decode c_Wa_append 31 = .ok (.dup, 1) := by decide +kernel
theorem d_Wa_append_32 : decode c_Wa_append 32 = .ok (.getfield 15, 3) := by decide +kernel
theorem d_Wa_append_35 : decode c_Wa_append 35 = .ok (.iconst 1, 1) := by decide +kernel
theorem d_Wa_append_36 : decode c_Wa_append 36 = .ok (.iadd, 1) := by decide +kernel
theorem d_Wa_append_37 : decode c_Wa_append 37 = .ok (.putfield 15, 3) := by decide +kernel
theorem d_Wa_append_40 : decode c_Wa_append 40 = .ok (.iconst 1, 1) := by decide +kernel
theorem d_Wa_append_41 : decode c_Wa_append 41 = .ok (.ireturn, 1) := by decide +kernel
theorem d_Wa_takeFirst_0 : decode c_Wa_takeFirst 0 = .ok (.aload_n 0, 1) := by decide +kernel
theorem d_Wa_takeFirst_1 : decode c_Wa_takeFirst 1 = .ok (.getfield 15, 3) := by decide +kernel
theorem d_Wa_takeFirst_4 : decode c_Wa_takeFirst 4 = .ok (.ifCond .ne 5, 3) := by decide +kernel
theorem d_Wa_takeFirst_7 : decode c_Wa_takeFirst 7 = .ok (.iconst (-1), 1) := by decide +kernel
theorem d_Wa_takeFirst_8 : decode c_Wa_takeFirst 8 = .ok (.ireturn, 1) := by decide +kernel
theorem d_Wa_takeFirst_9 : decode c_Wa_takeFirst 9 = .ok (.aload_n 0, 1) := by decide +kernel
theorem d_Wa_takeFirst_10 : decode c_Wa_takeFirst 10 = .ok (.getfield 11, 3) := by decide +kernel
theorem d_Wa_takeFirst_13 : decode c_Wa_takeFirst 13 = .ok (.iconst 0, 1) := by decide +kernel
theorem d_Wa_takeFirst_14 : decode c_Wa_takeFirst 14 = .ok (.iaload, 1) := by decide +kernel
theorem d_Wa_takeFirst_15 : decode c_Wa_takeFirst 15 = .ok (.istore_n 1, 1) := by decide +kernel
theorem d_Wa_takeFirst_16 : decode c_Wa_takeFirst 16 = .ok (.aload_n 0, 1) := by decide +kernel
theorem d_Wa_takeFirst_17 : decode c_Wa_takeFirst 17 = .ok (.dup, 1) := by decide +kernel
theorem d_Wa_takeFirst_18 : decode c_Wa_takeFirst 18 = .ok (.getfield 15, 3) := by decide +kernel
theorem d_Wa_takeFirst_21 : decode c_Wa_takeFirst 21 = .ok (.iconst 1, 1) := by decide +kernel
theorem d_Wa_takeFirst_22 : decode c_Wa_takeFirst 22 = .ok (.isub, 1) := by decide +kernel
theorem d_Wa_takeFirst_23 : decode c_Wa_takeFirst 23 = .ok (.putfield 15, 3) := by decide +kernel
theorem d_Wa_takeFirst_26 : decode c_Wa_takeFirst 26 = .ok (.iconst 0, 1) := by decide +kernel
theorem d_Wa_takeFirst_27 : decode c_Wa_takeFirst 27 = .ok (.istore_n 2, 1) := by decide +kernel
theorem d_Wa_takeFirst_28 : decode c_Wa_takeFirst 28 = .ok (.iload_n 2, 1) := by decide +kernel
theorem d_Wa_takeFirst_29 : decode c_Wa_takeFirst 29 = .ok (.aload_n 0, 1) := by decide +kernel
theorem d_Wa_takeFirst_30 : decode c_Wa_takeFirst 30 = .ok (.getfield 15, 3) := by decide +kernel
theorem d_Wa_takeFirst_33 : decode c_Wa_takeFirst 33 = .ok (.if_icmp .ge 23, 3) := by decide +kernel
theorem d_Wa_takeFirst_36 : decode c_Wa_takeFirst 36 = .ok (.aload_n 0, 1) := by decide +kernel
theorem d_Wa_takeFirst_37 : decode c_Wa_takeFirst 37 = .ok (.getfield 11, 3) := by decide +kernel
theorem d_Wa_takeFirst_40 : decode c_Wa_takeFirst 40 = .ok (.iload_n 2, 1) := by decide +kernel
theorem d_Wa_takeFirst_41 : decode c_Wa_takeFirst 41 = .ok (.aload_n 0, 1) := by decide +kernel
theorem d_Wa_takeFirst_42 : decode c_Wa_takeFirst 42 = .ok (.getfield 11, 3) := by decide +kernel
theorem d_Wa_takeFirst_45 : decode c_Wa_takeFirst 45 = .ok (.iload_n 2, 1) := by decide +kernel
theorem d_Wa_takeFirst_46 : decode c_Wa_takeFirst 46 = .ok (.iconst 1, 1) := by decide +kernel
theorem d_Wa_takeFirst_47 : decode c_Wa_takeFirst 47 = .ok (.iadd, 1) := by decide +kernel
theorem d_Wa_takeFirst_48 : decode c_Wa_takeFirst 48 = .ok (.iaload, 1) := by decide +kernel
theorem d_Wa_takeFirst_49 : decode c_Wa_takeFirst 49 = .ok (.iastore, 1) := by decide +kernel
theorem d_Wa_takeFirst_50 : decode c_Wa_takeFirst 50 = .ok (.iinc 2 1, 3) := by decide +kernel
theorem d_Wa_takeFirst_53 : decode c_Wa_takeFirst 53 = .ok (.goto (-25), 3) := by decide +kernel
theorem d_Wa_takeFirst_56 : decode c_Wa_takeFirst 56 = .ok (.iload_n 1, 1) := by decide +kernel
theorem d_Wa_takeFirst_57 : decode c_Wa_takeFirst 57 = .ok (.ireturn, 1) := by decide +kernel
