theorem d_As_init_0 : decode c_As_init 0 = .ok (.aload_n 0, 1) := by decide +kernel
theorem d_As_init_1 : decode c_As_init 1 = .ok (.invokespecial 3, 3) := by decide +kernel
theorem d_As_init_4 : decode c_As_init 4 = .ok (.aload_n 0, 1) := by decide +kernel
theorem d_As_init_5 : decode c_As_init 5 = .ok (.sipush 240, 3) := by decide +kernel
theorem d_As_init_8 : decode c_As_init 8 = .ok (.newarray .char, 2) := by decide +kernel
theorem d_As_init_10 : decode c_As_init 10 = .ok (.putfield 11, 3) := by decide +kernel
theorem d_As_init_13 : decode c_As_init 13 = .ok (.aload_n 0, 1) := by decide +kernel
theorem d_As_init_14 : decode c_As_init 14 = .ok (.iconst 0, 1) := by decide +kernel
theorem d_As_init_15 : decode c_As_init 15 = .ok (.putfield 15, 3) := by decide +kernel
theorem d_As_init_18 : decode c_As_init 18 = .ok (.aload_n 0, 1) := by decide +kernel
theorem d_As_init_19 : decode c_As_init 19 = .ok (.ldc 19, 2) := by decide +kernel
theorem d_As_init_21 : decode c_As_init 21 = .ok (.invokevirtual 21, 3) := by decide +kernel
theorem d_As_init_24 : decode c_As_init 24 = .ok (.newarray .int, 2) := by decide +kernel
theorem d_As_init_26 : decode c_As_init 26 = .ok (.putfield 26, 3) := by decide +kernel
theorem d_As_init_29 : decode c_As_init 29 = .ok (.aload_n 0, 1) := by decide +kernel
theorem d_As_init_30 : decode c_As_init 30 = .ok (.bipush 64, 2) := by decide +kernel
theorem d_As_init_32 : decode c_As_init 32 = .ok (.newarray .int, 2) := by decide +kernel
theorem d_As_init_34 : decode c_As_init 34 = .ok (.putfield 30, 3) := by decide +kernel
theorem d_As_init_37 : decode c_As_init 37 = .ok (.aload_n 0, 1) := by decide +kernel
theorem d_As_init_38 : decode c_As_init 38 = .ok (.iconst 0, 1) := by decide +kernel
theorem d_As_init_39 : decode c_As_init 39 = .ok (.putfield 33, 3) := by decide +kernel
theorem d_As_init_42 : decode c_As_init 42 = .ok (.aload_n 0, 1) := by decide +kernel
theorem d_As_init_43 : decode c_As_init 43 = .ok (.bipush 64, 2) := by decide +kernel
theorem d_As_init_45 : decode c_As_init 45 = .ok (.newarray .int, 2) := by decide +kernel
theorem d_As_init_47 : decode c_As_init 47 = .ok (.putfield 36, 3) := by decide +kernel
theorem d_As_init_50 : decode c_As_init 50 = .ok (.aload_n 0, 1) := by decide +kernel
theorem d_As_init_51 : decode c_As_init 51 = .ok (.iconst 0, 1) := by decide +kernel
theorem d_As_init_52 : decode c_As_init 52 = .ok (.putfield 39, 3) := by decide +kernel
theorem d_As_init_55 : decode c_As_init 55 = .ok (.aload_n 0, 1) := by decide +kernel
theorem d_As_init_56 : decode c_As_init 56 = .ok (.iconst (-1), 1) := by decide +kernel
theorem d_As_init_57 : decode c_As_init 57 = .ok (.putfield 42, 3) := by decide +kernel
theorem d_As_init_60 : decode c_As_init 60 = .ok (.return_, 1) := by decide +kernel
theorem d_As_append_0 : decode c_As_append 0 = .ok (.iload_n 1, 1) := by decide +kernel
theorem d_As_append_1 : decode c_As_append 1 = .ok (.bipush 32, 2) := by decide +kernel
theorem d_As_append_3 : decode c_As_append 3 = .ok (.if_icmp .lt 19, 3) := by decide +kernel
theorem d_As_append_6 : decode c_As_append 6 = .ok (.iload_n 1, 1) := by decide +kernel
theorem d_As_append_7 : decode c_As_append 7 = .ok (.bipush 126, 2) := by decide +kernel
theorem d_As_append_9 : decode c_As_append 9 = .ok (.if_icmp .gt 13, 3) := by decide +kernel
theorem d_As_append_12 : decode c_As_append 12 = .ok (.aload_n 0, 1) := by decide +kernel
theorem d_As_append_13 : decode c_As_append 13 = .ok (.getfield 15, 3) := by decide +kernel
theorem d_As_append_16 : decode c_As_append 16 = .ok (.sipush 240, 3) := by decide +kernel
theorem d_As_append_19 : decode c_As_append 19 = .ok (.if_icmp .lt 5, 3) := by decide +kernel
theorem d_As_append_22 : decode c_As_append 22 = .ok (.iconst 0, 1) := by decide +kernel
theorem d_As_append_23 : decode c_As_append 23 = .ok (.ireturn, 1) := by decide +kernel
theorem d_As_append_24 : decode c_As_append 24 = .ok (.aload_n 0, 1) := by decide +kernel
theorem d_As_append_25 : decode c_As_append 25 = .ok (.getfield 11, 3) := by decide +kernel
theorem d_As_append_28 : decode c_As_append 28 = .ok (.aload_n 0, 1) := by decide +kernel
theorem d_As_append_29 : decode c_As_append 29 = .ok (.getfield 15, 3) := by decide +kernel
theorem d_As_append_32 : decode c_As_append 32 = .ok (.iload_n 1, 1) := by decide +kernel
theorem d_As_append_33 : decode c_As_append 33 = .ok (.castore, 1) := by decide +kernel
theorem d_As_append_34 : decode c_As_append 34 = .ok (.aload_n 0, 1) := by decide +kernel
theorem d_As_append_35 : decode c_As_append 35 = .ok (.dup, 1) := by decide +kernel
theorem d_As_append_36 : decode c_As_append 36 = .ok (.getfield 15, 3) := by decide +kernel
theorem d_As_append_39 : decode c_As_append 39 = .ok (.iconst 1, 1) := by decide +kernel
theorem d_As_append_40 : decode c_As_append 40 = .ok (.iadd, 1) := by decide +kernel
theorem d_As_append_41 : decode c_As_append 41 = .ok (.putfield 15, 3) := by decide +kernel
theorem d_As_append_44 : decode c_As_append 44 = .ok (.iconst 1, 1) := by decide +kernel
theorem d_As_append_45 : decode c_As_append 45 = .ok (.ireturn, 1) := by decide +kernel
theorem d_As_takeText_0 : decode c_As_takeText 0 = .ok (.aload_n 0, 1) := by decide +kernel
theorem d_As_takeText_1 : decode c_As_takeText 1 = .ok (.iconst 0, 1) := by decide +kernel
theorem d_As_takeText_2 : decode c_As_takeText 2 = .ok (.putfield 39, 3) := by decide +kernel
theorem d_As_takeText_5 : decode c_As_takeText 5 = .ok (.aload_n 0, 1) := by decide +kernel
theorem d_As_takeText_6 : decode c_As_takeText 6 = .ok (.iconst (-1), 1) := by decide +kernel
theorem d_As_takeText_7 : decode c_As_takeText 7 = .ok (.putfield 42, 3) := by decide +kernel
theorem d_As_takeText_10 : decode c_As_takeText 10 = .ok (.aload_n 0, 1) := by decide +kernel
theorem d_As_takeText_11 : decode c_As_takeText 11 = .ok (.getfield 26, 3) := by decide +kernel
theorem d_As_takeText_14 : decode c_As_takeText 14 = .ok (.iconst (-1), 1) := by decide +kernel
theorem d_As_takeText_15 : decode c_As_takeText 15 = .ok (.invokestatic 45, 3) := by decide +kernel
theorem d_As_takeText_18 : decode c_As_takeText 18 = .ok (.iconst 0, 1) := by decide +kernel
theorem d_As_takeText_19 : decode c_As_takeText 19 = .ok (.istore_n 1, 1) := by decide +kernel
theorem d_As_takeText_20 : decode c_As_takeText 20 = .ok (.iload_n 1, 1) := by decide +kernel
theorem d_As_takeText_21 : decode c_As_takeText 21 = .ok (.aload_n 0, 1) := by decide +kernel
theorem d_As_takeText_22 : decode c_As_takeText 22 = .ok (.getfield 15, 3) := by decide +kernel
theorem d_As_takeText_25 : decode c_As_takeText 25 = .ok (.if_icmp .ge 43, 3) := by decide +kernel
theorem d_As_takeText_28 : decode c_As_takeText 28 = .ok (.aload_n 0, 1) := by decide +kernel
theorem d_As_takeText_29 : decode c_As_takeText 29 = .ok (.getfield 42, 3) := by decide +kernel
theorem d_As_takeText_32 : decode c_As_takeText 32 = .ok (.iconst (-1), 1) := by decide +kernel
theorem d_As_takeText_33 : decode c_As_takeText 33 = .ok (.if_icmp .ne 35, 3) := by decide +kernel
theorem d_As_takeText_36 : decode c_As_takeText 36 = .ok (.aload_n 0, 1) := by decide +kernel
theorem d_As_takeText_37 : decode c_As_takeText 37 = .ok (.iload_n 1, 1) := by decide +kernel
theorem d_As_takeText_38 : decode c_As_takeText 38 = .ok (.invokevirtual 51, 3) := by decide +kernel
theorem d_As_takeText_41 : decode c_As_takeText 41 = .ok (.ifCond .eq 21, 3) := by decide +kernel
theorem d_As_takeText_44 : decode c_As_takeText 44 = .ok (.aload_n 0, 1) := by decide +kernel
theorem d_As_takeText_45 : decode c_As_takeText 45 = .ok (.iload_n 1, 1) := by decide +kernel
theorem d_As_takeText_46 : decode c_As_takeText 46 = .ok (.aload_n 0, 1) := by decide +kernel
theorem d_As_takeText_47 : decode c_As_takeText 47 = .ok (.iload_n 1, 1) := by decide +kernel
theorem d_As_takeText_48 : decode c_As_takeText 48 = .ok (.invokevirtual 55, 3) := by decide +kernel
theorem d_As_takeText_51 : decode c_As_takeText 51 = .ok (.invokevirtual 59, 3) := by decide +kernel
theorem d_As_takeText_54 : decode c_As_takeText 54 = .ok (.ifCond .ne 8, 3) := by decide +kernel
theorem d_As_takeText_57 : decode c_As_takeText 57 = .ok (.aload_n 0, 1) := by decide +kernel
theorem d_As_takeText_58 : decode c_As_takeText 58 = .ok (.iload_n 1, 1) := by decide +kernel
theorem d_As_takeText_59 : decode c_As_takeText 59 = .ok (.putfield 42, 3) := by decide +kernel
theorem d_As_takeText_62 : decode c_As_takeText 62 = .ok (.iinc 1 1, 3) := by decide +kernel
theorem d_As_takeText_65 : decode c_As_takeText 65 = .ok (.goto (-45), 3) := by decide +kernel
theorem d_As_takeText_68 : decode c_As_takeText 68 = .ok (.aload_n 0, 1) := by decide +kernel
theorem d_As_takeText_69 : decode c_As_takeText 69 = .ok (.invokevirtual 63, 3) := by decide +kernel
theorem d_As_takeText_72 : decode c_As_takeText 72 = .ok (.aload_n 0, 1) := by decide +kernel
theorem d_As_takeText_73 : decode c_As_takeText 73 = .ok (.iconst 0, 1) := by decide +kernel
theorem d_As_takeText_74 : decode c_As_takeText 74 = .ok (.putfield 15, 3) := by decide +kernel
theorem d_As_takeText_77 : decode c_As_takeText 77 = .ok (.aload_n 0, 1) := by decide +kernel
theorem d_As_takeText_78 : decode c_As_takeText 78 = .ok (.getfield 42, 3) := by decide +kernel
theorem d_As_takeText_81 : decode c_As_takeText 81 = .ok (.iconst (-1), 1) := by decide +kernel
theorem d_As_takeText_82 : decode c_As_takeText 82 = .ok (.if_icmp .ne 7, 3) := by decide +kernel
theorem d_As_takeText_85 : decode c_As_takeText 85 = .ok (.iconst 1, 1) := by decide +kernel
theorem d_As_takeText_86 : decode c_As_takeText 86 = .ok (.goto 4, 3) := by decide +kernel
theorem d_As_takeText_89 : decode c_As_takeText 89 = .ok (.iconst 0, 1) := by decide +kernel
theorem d_As_takeText_90 : decode c_As_takeText 90 = .ok (.ireturn, 1) := by decide +kernel
theorem d_As_beginsName_0 : decode c_As_beginsName 0 = .ok (.aload_n 0, 1) := by decide +kernel
theorem d_As_beginsName_1 : decode c_As_beginsName 1 = .ok (.getfield 11, 3) := by decide +kernel
theorem d_As_beginsName_4 : decode c_As_beginsName 4 = .ok (.iload_n 1, 1) := by decide +kernel
theorem d_As_beginsName_5 : decode c_As_beginsName 5 = .ok (.caload, 1) := by decide +kernel
theorem d_As_beginsName_6 : decode c_As_beginsName 6 = .ok (.bipush 32, 2) := by decide +kernel
theorem d_As_beginsName_8 : decode c_As_beginsName 8 = .ok (.if_icmp .eq 24, 3) := by decide +kernel
theorem d_As_beginsName_11 : decode c_As_beginsName 11 = .ok (.iload_n 1, 1) := by decide +kernel
theorem d_As_beginsName_12 : decode c_As_beginsName 12 = .ok (.ifCond .eq 16, 3) := by decide +kernel
theorem d_As_beginsName_15 : decode c_As_beginsName 15 = .ok (.aload_n 0, 1) := by decide +kernel
theorem d_As_beginsName_16 : decode c_As_beginsName 16 = .ok (.getfield 11, 3) := by decide +kernel
theorem d_As_beginsName_19 : decode c_As_beginsName 19 = .ok (.iload_n 1, 1) := by decide +kernel
theorem d_As_beginsName_20 : decode c_As_beginsName 20 = .ok (.iconst 1, 1) := by decide +kernel
theorem d_As_beginsName_21 : decode c_As_beginsName 21 = .ok (.isub, 1) := by decide +kernel
theorem d_As_beginsName_22 : decode c_As_beginsName 22 = .ok (.caload, 1) := by decide +kernel
theorem d_As_beginsName_23 : decode c_As_beginsName 23 = .ok (.bipush 32, 2) := by decide +kernel
theorem d_As_beginsName_25 : decode c_As_beginsName 25 = .ok (.if_icmp .ne 7, 3) := by decide +kernel
theorem d_As_beginsName_28 : decode c_As_beginsName 28 = .ok (.iconst 1, 1) := by decide +kernel
theorem d_As_beginsName_29 : decode c_As_beginsName 29 = .ok (.goto 4, 3) := by decide +kernel
theorem d_As_beginsName_32 : decode c_As_beginsName 32 = .ok (.iconst 0, 1) := by decide +kernel
theorem d_As_beginsName_33 : decode c_As_beginsName 33 = .ok (.ireturn, 1) := by decide +kernel
theorem d_As_endOfName_0 : decode c_As_endOfName 0 = .ok (.iload_n 1, 1) := by decide +kernel
theorem d_As_endOfName_1 : decode c_As_endOfName 1 = .ok (.istore_n 2, 1) := by decide +kernel
theorem d_As_endOfName_2 : decode c_As_endOfName 2 = .ok (.iload_n 2, 1) := by decide +kernel
theorem d_As_endOfName_3 : decode c_As_endOfName 3 = .ok (.aload_n 0, 1) := by decide +kernel
theorem d_As_endOfName_4 : decode c_As_endOfName 4 = .ok (.getfield 15, 3) := by decide +kernel
theorem d_As_endOfName_7 : decode c_As_endOfName 7 = .ok (.if_icmp .ge 20, 3) := by decide +kernel
theorem d_As_endOfName_10 : decode c_As_endOfName 10 = .ok (.aload_n 0, 1) := by decide +kernel
theorem d_As_endOfName_11 : decode c_As_endOfName 11 = .ok (.getfield 11, 3) := by decide +kernel
theorem d_As_endOfName_14 : decode c_As_endOfName 14 = .ok (.iload_n 2, 1) := by decide +kernel
theorem d_As_endOfName_15 : decode c_As_endOfName 15 = .ok (.caload, 1) := by decide +kernel
theorem d_As_endOfName_16 : decode c_As_endOfName 16 = .ok (.bipush 32, 2) := by decide +kernel
theorem d_As_endOfName_18 : decode c_As_endOfName 18 = .ok (.if_icmp .eq 9, 3) := by decide +kernel
theorem d_As_endOfName_21 : decode c_As_endOfName 21 = .ok (.iinc 2 1, 3) := by decide +kernel
theorem d_As_endOfName_24 : decode c_As_endOfName 24 = .ok (.goto (-22), 3) := by decide +kernel
theorem d_As_endOfName_27 : decode c_As_endOfName 27 = .ok (.iload_n 2, 1) := by decide +kernel
theorem d_As_endOfName_28 : decode c_As_endOfName 28 = .ok (.ireturn, 1) := by decide +kernel
theorem d_As_takeName_0 : decode c_As_takeName 0 = .ok (.aload_n 0, 1) := by decide +kernel
theorem d_As_takeName_1 : decode c_As_takeName 1 = .ok (.ldc 66, 2) := by decide +kernel
theorem d_As_takeName_3 : decode c_As_takeName 3 = .ok (.iload_n 1, 1) := by decide +kernel
theorem d_As_takeName_4 : decode c_As_takeName 4 = .ok (.iload_n 2, 1) := by decide +kernel
theorem d_As_takeName_5 : decode c_As_takeName 5 = .ok (.invokevirtual 68, 3) := by decide +kernel
theorem d_As_takeName_8 : decode c_As_takeName 8 = .ok (.iconst (-1), 1) := by decide +kernel
theorem d_As_takeName_9 : decode c_As_takeName 9 = .ok (.if_icmp .eq 12, 3) := by decide +kernel
theorem d_As_takeName_12 : decode c_As_takeName 12 = .ok (.aload_n 0, 1) := by decide +kernel
theorem d_As_takeName_13 : decode c_As_takeName 13 = .ok (.aload_n 0, 1) := by decide +kernel
theorem d_As_takeName_14 : decode c_As_takeName 14 = .ok (.getfield 33, 3) := by decide +kernel
theorem d_As_takeName_17 : decode c_As_takeName 17 = .ok (.invokevirtual 72, 3) := by decide +kernel
theorem d_As_takeName_20 : decode c_As_takeName 20 = .ok (.ireturn, 1) := by decide +kernel
theorem d_As_takeName_21 : decode c_As_takeName 21 = .ok (.aload_n 0, 1) := by decide +kernel
theorem d_As_takeName_22 : decode c_As_takeName 22 = .ok (.iload_n 1, 1) := by decide +kernel
theorem d_As_takeName_23 : decode c_As_takeName 23 = .ok (.iload_n 2, 1) := by decide +kernel
theorem d_As_takeName_24 : decode c_As_takeName 24 = .ok (.invokevirtual 75, 3) := by decide +kernel
theorem d_As_takeName_27 : decode c_As_takeName 27 = .ok (.istore_n 3, 1) := by decide +kernel
theorem d_As_takeName_28 : decode c_As_takeName 28 = .ok (.iload_n 3, 1) := by decide +kernel
theorem d_As_takeName_29 : decode c_As_takeName 29 = .ok (.iconst (-1), 1) := by decide +kernel
theorem d_As_takeName_30 : decode c_As_takeName 30 = .ok (.if_icmp .eq 12, 3) := by decide +kernel
theorem d_As_takeName_33 : decode c_As_takeName 33 = .ok (.aload_n 0, 1) := by decide +kernel
theorem d_As_takeName_34 : decode c_As_takeName 34 = .ok (.getfield 39, 3) := by decide +kernel
theorem d_As_takeName_37 : decode c_As_takeName 37 = .ok (.bipush 64, 2) := by decide +kernel
theorem d_As_takeName_39 : decode c_As_takeName 39 = .ok (.if_icmp .lt 5, 3) := by decide +kernel
theorem d_As_takeName_42 : decode c_As_takeName 42 = .ok (.iconst 0, 1) := by decide +kernel
theorem d_As_takeName_43 : decode c_As_takeName 43 = .ok (.ireturn, 1) := by decide +kernel
theorem d_As_takeName_44 : decode c_As_takeName 44 = .ok (.aload_n 0, 1) := by decide +kernel
theorem d_As_takeName_45 : decode c_As_takeName 45 = .ok (.getfield 36, 3) := by decide +kernel
theorem d_As_takeName_48 : decode c_As_takeName 48 = .ok (.aload_n 0, 1) := by decide +kernel
theorem d_As_takeName_49 : decode c_As_takeName 49 = .ok (.getfield 39, 3) := by decide +kernel
theorem d_As_takeName_52 : decode c_As_takeName 52 = .ok (.iload_n 3, 1) := by decide +kernel
theorem d_As_takeName_53 : decode c_As_takeName 53 = .ok (.iastore, 1) := by decide +kernel
theorem d_As_takeName_54 : decode c_As_takeName 54 = .ok (.aload_n 0, 1) := by decide +kernel
theorem d_As_takeName_55 : decode c_As_takeName 55 = .ok (.getfield 30, 3) := by decide +kernel
theorem d_As_takeName_58 : decode c_As_takeName 58 = .ok (.aload_n 0, 1) := by decide +kernel
theorem d_As_takeName_59 : decode c_As_takeName 59 = .ok (.getfield 39, 3) := by decide +kernel
theorem d_As_takeName_62 : decode c_As_takeName 62 = .ok (.iload_n 1, 1) := by decide +kernel
theorem d_As_takeName_63 : decode c_As_takeName 63 = .ok (.iastore, 1) := by decide +kernel
theorem d_As_takeName_64 : decode c_As_takeName 64 = .ok (.aload_n 0, 1) := by decide +kernel
theorem d_As_takeName_65 : decode c_As_takeName 65 = .ok (.dup, 1) := by decide +kernel
theorem d_As_takeName_66 : decode c_As_takeName 66 = .ok (.getfield 39, 3) := by decide +kernel
theorem d_As_takeName_69 : decode c_As_takeName 69 = .ok (.iconst 1, 1) := by decide +kernel
theorem d_As_takeName_70 : decode c_As_takeName 70 = .ok (.iadd, 1) := by decide +kernel
theorem d_As_takeName_71 : decode c_As_takeName 71 = .ok (.putfield 39, 3) := by decide +kernel
theorem d_As_takeName_74 : decode c_As_takeName 74 = .ok (.iconst 1, 1) := by decide +kernel
theorem d_As_takeName_75 : decode c_As_takeName 75 = .ok (.ireturn, 1) := by decide +kernel
theorem d_As_findName_0 : decode c_As_findName 0 = .ok (.iconst 0, 1) := by decide +kernel
theorem d_As_findName_1 : decode c_As_findName 1 = .ok (.istore 4, 2) := by decide +kernel
theorem d_As_findName_3 : decode c_As_findName 3 = .ok (.iconst 0, 1) := by decide +kernel
theorem d_As_findName_4 : decode c_As_findName 4 = .ok (.istore 5, 2) := by decide +kernel
theorem d_As_findName_6 : decode c_As_findName 6 = .ok (.iload 5, 2) := by decide +kernel
theorem d_As_findName_8 : decode c_As_findName 8 = .ok (.aload_n 1, 1) := by decide +kernel
theorem d_As_findName_9 : decode c_As_findName 9 = .ok (.invokevirtual 21, 3) := by decide +kernel
theorem d_As_findName_12 : decode c_As_findName 12 = .ok (.if_icmp .ge 59, 3) := by decide +kernel
theorem d_As_findName_15 : decode c_As_findName 15 = .ok (.aload_n 1, 1) := by decide +kernel
theorem d_As_findName_16 : decode c_As_findName 16 = .ok (.iload 5, 2) := by decide +kernel
theorem d_As_findName_18 : decode c_As_findName 18 = .ok (.invokevirtual 85, 3) := by decide +kernel
theorem d_As_findName_21 : decode c_As_findName 21 = .ok (.bipush 32, 2) := by decide +kernel
theorem d_As_findName_23 : decode c_As_findName 23 = .ok (.if_icmp .ne 9, 3) := by decide +kernel
theorem d_As_findName_26 : decode c_As_findName 26 = .ok (.iinc 4 1, 3) := by decide +kernel
theorem d_As_findName_29 : decode c_As_findName 29 = .ok (.goto 36, 3) := by decide +kernel
theorem d_As_findName_32 : decode c_As_findName 32 = .ok (.iload 5, 2) := by decide +kernel
theorem d_As_findName_34 : decode c_As_findName 34 = .ok (.ifCond .eq 16, 3) := by decide +kernel
theorem d_As_findName_37 : decode c_As_findName 37 = .ok (.aload_n 1, 1) := by decide +kernel
theorem d_As_findName_38 : decode c_As_findName 38 = .ok (.iload 5, 2) := by decide +kernel
theorem d_As_findName_40 : decode c_As_findName 40 = .ok (.iconst 1, 1) := by decide +kernel
theorem d_As_findName_41 : decode c_As_findName 41 = .ok (.isub, 1) := by decide +kernel
theorem d_As_findName_42 : decode c_As_findName 42 = .ok (.invokevirtual 85, 3) := by decide +kernel
theorem d_As_findName_45 : decode c_As_findName 45 = .ok (.bipush 32, 2) := by decide +kernel
theorem d_As_findName_47 : decode c_As_findName 47 = .ok (.if_icmp .ne 18, 3) := by decide +kernel
theorem d_As_findName_50 : decode c_As_findName 50 = .ok (.aload_n 0, 1) := by decide +kernel
theorem d_As_findName_51 : decode c_As_findName 51 = .ok (.aload_n 1, 1) := by decide +kernel
theorem d_As_findName_52 : decode c_As_findName 52 = .ok (.iload 5, 2) := by decide +kernel
theorem d_As_findName_54 : decode c_As_findName 54 = .ok (.iload_n 2, 1) := by decide +kernel
theorem d_As_findName_55 : decode c_As_findName 55 = .ok (.iload_n 3, 1) := by decide +kernel
theorem d_As_findName_56 : decode c_As_findName 56 = .ok (.invokevirtual 89, 3) := by decide +kernel
theorem d_As_findName_59 : decode c_As_findName 59 = .ok (.ifCond .eq 6, 3) := by decide +kernel
theorem d_As_findName_62 : decode c_As_findName 62 = .ok (.iload 4, 2) := by decide +kernel
theorem d_As_findName_64 : decode c_As_findName 64 = .ok (.ireturn, 1) := by decide +kernel
theorem d_As_findName_65 : decode c_As_findName 65 = .ok (.iinc 5 1, 3) := by decide +kernel
theorem d_As_findName_68 : decode c_As_findName 68 = .ok (.goto (-62), 3) := by decide +kernel
theorem d_As_findName_71 : decode c_As_findName 71 = .ok (.iconst (-1), 1) := by decide +kernel
theorem d_As_findName_72 : decode c_As_findName 72 = .ok (.ireturn, 1) := by decide +kernel
theorem d_As_isName_0 : decode c_As_isName 0 = .ok (.iload_n 2, 1) := by decide +kernel
theorem d_As_isName_1 : decode c_As_isName 1 = .ok (.iload 4, 2) := by decide +kernel
theorem d_As_isName_3 : decode c_As_isName 3 = .ok (.iadd, 1) := by decide +kernel
theorem d_As_isName_4 : decode c_As_isName 4 = .ok (.iload_n 3, 1) := by decide +kernel
theorem d_As_isName_5 : decode c_As_isName 5 = .ok (.isub, 1) := by decide +kernel
theorem d_As_isName_6 : decode c_As_isName 6 = .ok (.istore 5, 2) := by decide +kernel
theorem d_As_isName_8 : decode c_As_isName 8 = .ok (.iload 5, 2) := by decide +kernel
theorem d_As_isName_10 : decode c_As_isName 10 = .ok (.aload_n 1, 1) := by decide +kernel
theorem d_As_isName_11 : decode c_As_isName 11 = .ok (.invokevirtual 21, 3) := by decide +kernel
theorem d_As_isName_14 : decode c_As_isName 14 = .ok (.if_icmp .gt 23, 3) := by decide +kernel
theorem d_As_isName_17 : decode c_As_isName 17 = .ok (.iload 5, 2) := by decide +kernel
theorem d_As_isName_19 : decode c_As_isName 19 = .ok (.aload_n 1, 1) := by decide +kernel
theorem d_As_isName_20 : decode c_As_isName 20 = .ok (.invokevirtual 21, 3) := by decide +kernel
theorem d_As_isName_23 : decode c_As_isName 23 = .ok (.if_icmp .ge 16, 3) := by decide +kernel
theorem d_As_isName_26 : decode c_As_isName 26 = .ok (.aload_n 1, 1) := by decide +kernel
theorem d_As_isName_27 : decode c_As_isName 27 = .ok (.iload 5, 2) := by decide +kernel
theorem d_As_isName_29 : decode c_As_isName 29 = .ok (.invokevirtual 85, 3) := by decide +kernel
theorem d_As_isName_32 : decode c_As_isName 32 = .ok (.bipush 32, 2) := by decide +kernel
theorem d_As_isName_34 : decode c_As_isName 34 = .ok (.if_icmp .eq 5, 3) := by decide +kernel
theorem d_As_isName_37 : decode c_As_isName 37 = .ok (.iconst 0, 1) := by decide +kernel
theorem d_As_isName_38 : decode c_As_isName 38 = .ok (.ireturn, 1) := by decide +kernel
theorem d_As_isName_39 : decode c_As_isName 39 = .ok (.aload_n 0, 1) := by decide +kernel
theorem d_As_isName_40 : decode c_As_isName 40 = .ok (.iconst 0, 1) := by decide +kernel
theorem d_As_isName_41 : decode c_As_isName 41 = .ok (.putfield 33, 3) := by decide +kernel
theorem d_As_isName_44 : decode c_As_isName 44 = .ok (.iload_n 3, 1) := by decide +kernel
theorem d_As_isName_45 : decode c_As_isName 45 = .ok (.istore 6, 2) := by decide +kernel
theorem d_As_isName_47 : decode c_As_isName 47 = .ok (.iload 6, 2) := by decide +kernel
theorem d_As_isName_49 : decode c_As_isName 49 = .ok (.iload 4, 2) := by decide +kernel
theorem d_As_isName_51 : decode c_As_isName 51 = .ok (.if_icmp .ge 122, 3) := by decide +kernel
theorem d_As_isName_54 : decode c_As_isName 54 = .ok (.aload_n 1, 1) := by decide +kernel
theorem d_As_isName_55 : decode c_As_isName 55 = .ok (.iload_n 2, 1) := by decide +kernel
theorem d_As_isName_56 : decode c_As_isName 56 = .ok (.iload 6, 2) := by decide +kernel
theorem d_As_isName_58 : decode c_As_isName 58 = .ok (.iadd, 1) := by decide +kernel
theorem d_As_isName_59 : decode c_As_isName 59 = .ok (.iload_n 3, 1) := by decide +kernel
theorem d_As_isName_60 : decode c_As_isName 60 = .ok (.isub, 1) := by decide +kernel
theorem d_As_isName_61 : decode c_As_isName 61 = .ok (.invokevirtual 85, 3) := by decide +kernel
theorem d_As_isName_64 : decode c_As_isName 64 = .ok (.istore 7, 2) := by decide +kernel
theorem d_As_isName_66 : decode c_As_isName 66 = .ok (.iload 7, 2) := by decide +kernel
theorem d_As_isName_68 : decode c_As_isName 68 = .ok (.bipush 78, 2) := by decide +kernel
theorem d_As_isName_70 : decode c_As_isName 70 = .ok (.if_icmp .ne 22, 3) := by decide +kernel
theorem d_As_isName_73 : decode c_As_isName 73 = .ok (.aload_n 0, 1) := by decide +kernel
theorem d_As_isName_74 : decode c_As_isName 74 = .ok (.ldc 93, 2) := by decide +kernel
theorem d_As_isName_76 : decode c_As_isName 76 = .ok (.aload_n 0, 1) := by decide +kernel
theorem d_As_isName_77 : decode c_As_isName 77 = .ok (.getfield 11, 3) := by decide +kernel
theorem d_As_isName_80 : decode c_As_isName 80 = .ok (.iload 6, 2) := by decide +kernel
theorem d_As_isName_82 : decode c_As_isName 82 = .ok (.caload, 1) := by decide +kernel
theorem d_As_isName_83 : decode c_As_isName 83 = .ok (.invokevirtual 95, 3) := by decide +kernel
theorem d_As_isName_86 : decode c_As_isName 86 = .ok (.putfield 33, 3) := by decide +kernel
theorem d_As_isName_89 : decode c_As_isName 89 = .ok (.goto 69, 3) := by decide +kernel
theorem d_As_isName_92 : decode c_As_isName 92 = .ok (.iload 7, 2) := by decide +kernel
theorem d_As_isName_94 : decode c_As_isName 94 = .ok (.bipush 70, 2) := by decide +kernel
theorem d_As_isName_96 : decode c_As_isName 96 = .ok (.if_icmp .ne 22, 3) := by decide +kernel
theorem d_As_isName_99 : decode c_As_isName 99 = .ok (.aload_n 0, 1) := by decide +kernel
theorem d_As_isName_100 : decode c_As_isName 100 = .ok (.ldc 98, 2) := by decide +kernel
theorem d_As_isName_102 : decode c_As_isName 102 = .ok (.aload_n 0, 1) := by decide +kernel
theorem d_As_isName_103 : decode c_As_isName 103 = .ok (.getfield 11, 3) := by decide +kernel
theorem d_As_isName_106 : decode c_As_isName 106 = .ok (.iload 6, 2) := by decide +kernel
theorem d_As_isName_108 : decode c_As_isName 108 = .ok (.caload, 1) := by decide +kernel
theorem d_As_isName_109 : decode c_As_isName 109 = .ok (.invokevirtual 95, 3) := by decide +kernel
theorem d_As_isName_112 : decode c_As_isName 112 = .ok (.putfield 33, 3) := by decide +kernel
theorem d_As_isName_115 : decode c_As_isName 115 = .ok (.goto 43, 3) := by decide +kernel
theorem d_As_isName_118 : decode c_As_isName 118 = .ok (.iload 7, 2) := by decide +kernel
theorem d_As_isName_120 : decode c_As_isName 120 = .ok (.bipush 76, 2) := by decide +kernel
theorem d_As_isName_122 : decode c_As_isName 122 = .ok (.if_icmp .ne 22, 3) := by decide +kernel
theorem d_As_isName_125 : decode c_As_isName 125 = .ok (.aload_n 0, 1) := by decide +kernel
theorem d_As_isName_126 : decode c_As_isName 126 = .ok (.ldc 19, 2) := by decide +kernel
theorem d_As_isName_128 : decode c_As_isName 128 = .ok (.aload_n 0, 1) := by decide +kernel
theorem d_As_isName_129 : decode c_As_isName 129 = .ok (.getfield 11, 3) := by decide +kernel
theorem d_As_isName_132 : decode c_As_isName 132 = .ok (.iload 6, 2) := by decide +kernel
theorem d_As_isName_134 : decode c_As_isName 134 = .ok (.caload, 1) := by decide +kernel
theorem d_As_isName_135 : decode c_As_isName 135 = .ok (.invokevirtual 95, 3) := by decide +kernel
theorem d_As_isName_138 : decode c_As_isName 138 = .ok (.putfield 33, 3) := by decide +kernel
theorem d_As_isName_141 : decode c_As_isName 141 = .ok (.goto 17, 3) := by decide +kernel
theorem d_As_isName_144 : decode c_As_isName 144 = .ok (.iload 7, 2) := by decide +kernel
theorem d_As_isName_146 : decode c_As_isName 146 = .ok (.aload_n 0, 1) := by decide +kernel
theorem d_As_isName_147 : decode c_As_isName 147 = .ok (.getfield 11, 3) := by decide +kernel
theorem d_As_isName_150 : decode c_As_isName 150 = .ok (.iload 6, 2) := by decide +kernel
theorem d_As_isName_152 : decode c_As_isName 152 = .ok (.caload, 1) := by decide +kernel
theorem d_As_isName_153 : decode c_As_isName 153 = .ok (.if_icmp .eq 5, 3) := by decide +kernel
theorem d_As_isName_156 : decode c_As_isName 156 = .ok (.iconst 0, 1) := by decide +kernel
theorem d_As_isName_157 : decode c_As_isName 157 = .ok (.ireturn, 1) := by decide +kernel
theorem d_As_isName_158 : decode c_As_isName 158 = .ok (.aload_n 0, 1) := by decide +kernel
theorem d_As_isName_159 : decode c_As_isName 159 = .ok (.getfield 33, 3) := by decide +kernel
theorem d_As_isName_162 : decode c_As_isName 162 = .ok (.ifCond .ge 5, 3) := by decide +kernel
theorem d_As_isName_165 : decode c_As_isName 165 = .ok (.iconst 0, 1) := by decide +kernel
theorem d_As_isName_166 : decode c_As_isName 166 = .ok (.ireturn, 1) := by decide +kernel
theorem d_As_isName_167 : decode c_As_isName 167 = .ok (.iinc 6 1, 3) := by decide +kernel
theorem d_As_isName_170 : decode c_As_isName 170 = .ok (.goto (-123), 3) := by decide +kernel
theorem d_As_isName_173 : decode c_As_isName 173 = .ok (.iconst 1, 1) := by decide +kernel
theorem d_As_isName_174 : decode c_As_isName 174 = .ok (.ireturn, 1) := by decide +kernel
theorem d_As_takeLabel_0 : decode c_As_takeLabel 0 = .ok (.aload_n 0, 1) := by decide +kernel
theorem d_As_takeLabel_1 : decode c_As_takeLabel 1 = .ok (.getfield 26, 3) := by decide +kernel
theorem d_As_takeLabel_4 : decode c_As_takeLabel 4 = .ok (.iload_n 1, 1) := by decide +kernel
theorem d_As_takeLabel_5 : decode c_As_takeLabel 5 = .ok (.iaload, 1) := by decide +kernel
theorem d_As_takeLabel_6 : decode c_As_takeLabel 6 = .ok (.iconst (-1), 1) := by decide +kernel
theorem d_As_takeLabel_7 : decode c_As_takeLabel 7 = .ok (.if_icmp .eq 5, 3) := by decide +kernel
theorem d_As_takeLabel_10 : decode c_As_takeLabel 10 = .ok (.iconst 0, 1) := by decide +kernel
theorem d_As_takeLabel_11 : decode c_As_takeLabel 11 = .ok (.ireturn, 1) := by decide +kernel
theorem d_As_takeLabel_12 : decode c_As_takeLabel 12 = .ok (.aload_n 0, 1) := by decide +kernel
theorem d_As_takeLabel_13 : decode c_As_takeLabel 13 = .ok (.getfield 26, 3) := by decide +kernel
theorem d_As_takeLabel_16 : decode c_As_takeLabel 16 = .ok (.iload_n 1, 1) := by decide +kernel
theorem d_As_takeLabel_17 : decode c_As_takeLabel 17 = .ok (.aload_n 0, 1) := by decide +kernel
theorem d_As_takeLabel_18 : decode c_As_takeLabel 18 = .ok (.getfield 39, 3) := by decide +kernel
theorem d_As_takeLabel_21 : decode c_As_takeLabel 21 = .ok (.bipush 64, 2) := by decide +kernel
theorem d_As_takeLabel_23 : decode c_As_takeLabel 23 = .ok (.irem, 1) := by decide +kernel
theorem d_As_takeLabel_24 : decode c_As_takeLabel 24 = .ok (.iastore, 1) := by decide +kernel
theorem d_As_takeLabel_25 : decode c_As_takeLabel 25 = .ok (.iconst 1, 1) := by decide +kernel
theorem d_As_takeLabel_26 : decode c_As_takeLabel 26 = .ok (.ireturn, 1) := by decide +kernel
theorem d_As_wordOfName_0 : decode c_As_wordOfName 0 = .ok (.aload_n 0, 1) := by decide +kernel
theorem d_As_wordOfName_1 : decode c_As_wordOfName 1 = .ok (.ldc 79, 2) := by decide +kernel
theorem d_As_wordOfName_3 : decode c_As_wordOfName 3 = .ok (.iload_n 1, 1) := by decide +kernel
theorem d_As_wordOfName_4 : decode c_As_wordOfName 4 = .ok (.iload_n 2, 1) := by decide +kernel
theorem d_As_wordOfName_5 : decode c_As_wordOfName 5 = .ok (.invokevirtual 68, 3) := by decide +kernel
theorem d_As_wordOfName_8 : decode c_As_wordOfName 8 = .ok (.istore_n 3, 1) := by decide +kernel
theorem d_As_wordOfName_9 : decode c_As_wordOfName 9 = .ok (.iload_n 3, 1) := by decide +kernel
theorem d_As_wordOfName_10 : decode c_As_wordOfName 10 = .ok (.iconst (-1), 1) := by decide +kernel
theorem d_As_wordOfName_11 : decode c_As_wordOfName 11 = .ok (.if_icmp .eq 15, 3) := by decide +kernel
theorem d_As_wordOfName_14 : decode c_As_wordOfName 14 = .ok (.aload_n 0, 1) := by decide +kernel
theorem d_As_wordOfName_15 : decode c_As_wordOfName 15 = .ok (.getfield 33, 3) := by decide +kernel
theorem d_As_wordOfName_18 : decode c_As_wordOfName 18 = .ok (.bipush 64, 2) := by decide +kernel
theorem d_As_wordOfName_20 : decode c_As_wordOfName 20 = .ok (.imul, 1) := by decide +kernel
theorem d_As_wordOfName_21 : decode c_As_wordOfName 21 = .ok (.iload_n 3, 1) := by decide +kernel
theorem d_As_wordOfName_22 : decode c_As_wordOfName 22 = .ok (.iconst 4, 1) := by decide +kernel
theorem d_As_wordOfName_23 : decode c_As_wordOfName 23 = .ok (.imul, 1) := by decide +kernel
theorem d_As_wordOfName_24 : decode c_As_wordOfName 24 = .ok (.iadd, 1) := by decide +kernel
theorem d_As_wordOfName_25 : decode c_As_wordOfName 25 = .ok (.ireturn, 1) := by decide +kernel
theorem d_As_wordOfName_26 : decode c_As_wordOfName 26 = .ok (.aload_n 0, 1) := by decide +kernel
theorem d_As_wordOfName_27 : decode c_As_wordOfName 27 = .ok (.ldc 81, 2) := by decide +kernel
theorem d_As_wordOfName_29 : decode c_As_wordOfName 29 = .ok (.iload_n 1, 1) := by decide +kernel
theorem d_As_wordOfName_30 : decode c_As_wordOfName 30 = .ok (.iload_n 2, 1) := by decide +kernel
theorem d_As_wordOfName_31 : decode c_As_wordOfName 31 = .ok (.invokevirtual 68, 3) := by decide +kernel
theorem d_As_wordOfName_34 : decode c_As_wordOfName 34 = .ok (.istore_n 3, 1) := by decide +kernel
theorem d_As_wordOfName_35 : decode c_As_wordOfName 35 = .ok (.iload_n 3, 1) := by decide +kernel
theorem d_As_wordOfName_36 : decode c_As_wordOfName 36 = .ok (.iconst (-1), 1) := by decide +kernel
theorem d_As_wordOfName_37 : decode c_As_wordOfName 37 = .ok (.if_icmp .eq 17, 3) := by decide +kernel
theorem d_As_wordOfName_40 : decode c_As_wordOfName 40 = .ok (.iload_n 3, 1) := by decide +kernel
theorem d_As_wordOfName_41 : decode c_As_wordOfName 41 = .ok (.bipush 32, 2) := by decide +kernel
theorem d_As_wordOfName_43 : decode c_As_wordOfName 43 = .ok (.imul, 1) := by decide +kernel
theorem d_As_wordOfName_44 : decode c_As_wordOfName 44 = .ok (.aload_n 0, 1) := by decide +kernel
theorem d_As_wordOfName_45 : decode c_As_wordOfName 45 = .ok (.getfield 33, 3) := by decide +kernel
theorem d_As_wordOfName_48 : decode c_As_wordOfName 48 = .ok (.iconst 4, 1) := by decide +kernel
theorem d_As_wordOfName_49 : decode c_As_wordOfName 49 = .ok (.imul, 1) := by decide +kernel
theorem d_As_wordOfName_50 : decode c_As_wordOfName 50 = .ok (.iadd, 1) := by decide +kernel
theorem d_As_wordOfName_51 : decode c_As_wordOfName 51 = .ok (.iconst 2, 1) := by decide +kernel
theorem d_As_wordOfName_52 : decode c_As_wordOfName 52 = .ok (.iadd, 1) := by decide +kernel
theorem d_As_wordOfName_53 : decode c_As_wordOfName 53 = .ok (.ireturn, 1) := by decide +kernel
theorem d_As_wordOfName_54 : decode c_As_wordOfName 54 = .ok (.aload_n 0, 1) := by decide +kernel
theorem d_As_wordOfName_55 : decode c_As_wordOfName 55 = .ok (.ldc 83, 2) := by decide +kernel
theorem d_As_wordOfName_57 : decode c_As_wordOfName 57 = .ok (.iload_n 1, 1) := by decide +kernel
theorem d_As_wordOfName_58 : decode c_As_wordOfName 58 = .ok (.iload_n 2, 1) := by decide +kernel
theorem d_As_wordOfName_59 : decode c_As_wordOfName 59 = .ok (.invokevirtual 68, 3) := by decide +kernel
theorem d_As_wordOfName_62 : decode c_As_wordOfName 62 = .ok (.istore_n 3, 1) := by decide +kernel
theorem d_As_wordOfName_63 : decode c_As_wordOfName 63 = .ok (.iload_n 3, 1) := by decide +kernel
theorem d_As_wordOfName_64 : decode c_As_wordOfName 64 = .ok (.iconst (-1), 1) := by decide +kernel
theorem d_As_wordOfName_65 : decode c_As_wordOfName 65 = .ok (.if_icmp .ne 7, 3) := by decide +kernel
theorem d_As_wordOfName_68 : decode c_As_wordOfName 68 = .ok (.iconst (-1), 1) := by decide +kernel
theorem d_As_wordOfName_69 : decode c_As_wordOfName 69 = .ok (.goto 15, 3) := by decide +kernel
theorem d_As_wordOfName_72 : decode c_As_wordOfName 72 = .ok (.aload_n 0, 1) := by decide +kernel
theorem d_As_wordOfName_73 : decode c_As_wordOfName 73 = .ok (.getfield 33, 3) := by decide +kernel
theorem d_As_wordOfName_76 : decode c_As_wordOfName 76 = .ok (.iconst 4, 1) := by decide +kernel
theorem d_As_wordOfName_77 : decode c_As_wordOfName 77 = .ok (.imul, 1) := by decide +kernel
theorem d_As_wordOfName_78 : decode c_As_wordOfName 78 = .ok (.iload_n 3, 1) := by decide +kernel
theorem d_As_wordOfName_79 : decode c_As_wordOfName 79 = .ok (.iconst 2, 1) := by decide +kernel
theorem d_As_wordOfName_80 : decode c_As_wordOfName 80 = .ok (.imul, 1) := by decide +kernel
theorem d_As_wordOfName_81 : decode c_As_wordOfName 81 = .ok (.iadd, 1) := by decide +kernel
theorem d_As_wordOfName_82 : decode c_As_wordOfName 82 = .ok (.iconst 1, 1) := by decide +kernel
theorem d_As_wordOfName_83 : decode c_As_wordOfName 83 = .ok (.iadd, 1) := by decide +kernel
theorem d_As_wordOfName_84 : decode c_As_wordOfName 84 = .ok (.ireturn, 1) := by decide +kernel
theorem d_As_fillInLabels_0 : decode c_As_fillInLabels 0 = .ok (.iconst 0, 1) := by decide +kernel
theorem d_As_fillInLabels_1 : decode c_As_fillInLabels 1 = .ok (.istore_n 1, 1) := by decide +kernel
theorem d_As_fillInLabels_2 : decode c_As_fillInLabels 2 = .ok (.iload_n 1, 1) := by decide +kernel
theorem d_As_fillInLabels_3 : decode c_As_fillInLabels 3 = .ok (.aload_n 0, 1) := by decide +kernel
theorem d_As_fillInLabels_4 : decode c_As_fillInLabels 4 = .ok (.getfield 39, 3) := by decide +kernel
theorem d_As_fillInLabels_7 : decode c_As_fillInLabels 7 = .ok (.if_icmp .ge 81, 3) := by decide +kernel
theorem d_As_fillInLabels_10 : decode c_As_fillInLabels 10 = .ok (.aload_n 0, 1) := by decide +kernel
theorem d_As_fillInLabels_11 : decode c_As_fillInLabels 11 = .ok (.getfield 42, 3) := by decide +kernel
theorem d_As_fillInLabels_14 : decode c_As_fillInLabels 14 = .ok (.iconst (-1), 1) := by decide +kernel
theorem d_As_fillInLabels_15 : decode c_As_fillInLabels 15 = .ok (.if_icmp .ne 73, 3) := by decide +kernel
theorem d_As_fillInLabels_18 : decode c_As_fillInLabels 18 = .ok (.aload_n 0, 1) := by decide +kernel
theorem d_As_fillInLabels_19 : decode c_As_fillInLabels 19 = .ok (.getfield 36, 3) := by decide +kernel
theorem d_As_fillInLabels_22 : decode c_As_fillInLabels 22 = .ok (.iload_n 1, 1) := by decide +kernel
theorem d_As_fillInLabels_23 : decode c_As_fillInLabels 23 = .ok (.iaload, 1) := by decide +kernel
theorem d_As_fillInLabels_24 : decode c_As_fillInLabels 24 = .ok (.iconst 2, 1) := by decide +kernel
theorem d_As_fillInLabels_25 : decode c_As_fillInLabels 25 = .ok (.irem, 1) := by decide +kernel
theorem d_As_fillInLabels_26 : decode c_As_fillInLabels 26 = .ok (.ifCond .ne 6, 3) := by decide +kernel
theorem d_As_fillInLabels_29 : decode c_As_fillInLabels 29 = .ok (.goto 53, 3) := by decide +kernel
theorem d_As_fillInLabels_32 : decode c_As_fillInLabels 32 = .ok (.aload_n 0, 1) := by decide +kernel
theorem d_As_fillInLabels_33 : decode c_As_fillInLabels 33 = .ok (.getfield 26, 3) := by decide +kernel
theorem d_As_fillInLabels_36 : decode c_As_fillInLabels 36 = .ok (.aload_n 0, 1) := by decide +kernel
theorem d_As_fillInLabels_37 : decode c_As_fillInLabels 37 = .ok (.getfield 36, 3) := by decide +kernel
theorem d_As_fillInLabels_40 : decode c_As_fillInLabels 40 = .ok (.iload_n 1, 1) := by decide +kernel
theorem d_As_fillInLabels_41 : decode c_As_fillInLabels 41 = .ok (.iaload, 1) := by decide +kernel
theorem d_As_fillInLabels_42 : decode c_As_fillInLabels 42 = .ok (.iconst 4, 1) := by decide +kernel
theorem d_As_fillInLabels_43 : decode c_As_fillInLabels 43 = .ok (.idiv, 1) := by decide +kernel
theorem d_As_fillInLabels_44 : decode c_As_fillInLabels 44 = .ok (.iaload, 1) := by decide +kernel
theorem d_As_fillInLabels_45 : decode c_As_fillInLabels 45 = .ok (.istore_n 2, 1) := by decide +kernel
theorem d_As_fillInLabels_46 : decode c_As_fillInLabels 46 = .ok (.iload_n 2, 1) := by decide +kernel
theorem d_As_fillInLabels_47 : decode c_As_fillInLabels 47 = .ok (.iconst (-1), 1) := by decide +kernel
theorem d_As_fillInLabels_48 : decode c_As_fillInLabels 48 = .ok (.if_icmp .ne 16, 3) := by decide +kernel
theorem d_As_fillInLabels_51 : decode c_As_fillInLabels 51 = .ok (.aload_n 0, 1) := by decide +kernel
theorem d_As_fillInLabels_52 : decode c_As_fillInLabels 52 = .ok (.aload_n 0, 1) := by decide +kernel
theorem d_As_fillInLabels_53 : decode c_As_fillInLabels 53 = .ok (.getfield 30, 3) := by decide +kernel
theorem d_As_fillInLabels_56 : decode c_As_fillInLabels 56 = .ok (.iload_n 1, 1) := by decide +kernel
theorem d_As_fillInLabels_57 : decode c_As_fillInLabels 57 = .ok (.iaload, 1) := by decide +kernel
theorem d_As_fillInLabels_58 : decode c_As_fillInLabels 58 = .ok (.putfield 42, 3) := by decide +kernel
theorem d_As_fillInLabels_61 : decode c_As_fillInLabels 61 = .ok (.goto 21, 3) := by decide +kernel
theorem d_As_fillInLabels_64 : decode c_As_fillInLabels 64 = .ok (.aload_n 0, 1) := by decide +kernel
theorem d_As_fillInLabels_65 : decode c_As_fillInLabels 65 = .ok (.getfield 36, 3) := by decide +kernel
theorem d_As_fillInLabels_68 : decode c_As_fillInLabels 68 = .ok (.iload_n 1, 1) := by decide +kernel
theorem d_As_fillInLabels_69 : decode c_As_fillInLabels 69 = .ok (.iload_n 2, 1) := by decide +kernel
theorem d_As_fillInLabels_70 : decode c_As_fillInLabels 70 = .ok (.iconst 4, 1) := by decide +kernel
theorem d_As_fillInLabels_71 : decode c_As_fillInLabels 71 = .ok (.imul, 1) := by decide +kernel
theorem d_As_fillInLabels_72 : decode c_As_fillInLabels 72 = .ok (.aload_n 0, 1) := by decide +kernel
theorem d_As_fillInLabels_73 : decode c_As_fillInLabels 73 = .ok (.getfield 36, 3) := by decide +kernel
theorem d_As_fillInLabels_76 : decode c_As_fillInLabels 76 = .ok (.iload_n 1, 1) := by decide +kernel
theorem d_As_fillInLabels_77 : decode c_As_fillInLabels 77 = .ok (.iaload, 1) := by decide +kernel
theorem d_As_fillInLabels_78 : decode c_As_fillInLabels 78 = .ok (.iconst 4, 1) := by decide +kernel
theorem d_As_fillInLabels_79 : decode c_As_fillInLabels 79 = .ok (.irem, 1) := by decide +kernel
theorem d_As_fillInLabels_80 : decode c_As_fillInLabels 80 = .ok (.iadd, 1) := by decide +kernel
theorem d_As_fillInLabels_81 : decode c_As_fillInLabels 81 = .ok (.iastore, 1) := by decide +kernel
theorem d_As_fillInLabels_82 : decode c_As_fillInLabels 82 = .ok (.iinc 1 1, 3) := by decide +kernel
theorem d_As_fillInLabels_85 : decode c_As_fillInLabels 85 = .ok (.goto (-83), 3) := by decide +kernel
theorem d_As_fillInLabels_88 : decode c_As_fillInLabels 88 = .ok (.return_, 1) := by decide +kernel
