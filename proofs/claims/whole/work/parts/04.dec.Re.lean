theorem d_Re_init_0 : decode c_Re_init 0 = .ok (.aload_n 0, 1) := by decide +kernel
theorem d_Re_init_1 : decode c_Re_init 1 = .ok (.invokespecial 3, 3) := by decide +kernel
theorem d_Re_init_4 : decode c_Re_init 4 = .ok (.aload_n 0, 1) := by decide +kernel
theorem d_Re_init_5 : decode c_Re_init 5 = .ok (.bipush 7, 2) := by decide +kernel
theorem d_Re_init_7 : decode c_Re_init 7 = .ok (.newarray .long, 2) := by decide +kernel
theorem d_Re_init_9 : decode c_Re_init 9 = .ok (.putfield 9, 3) := by decide +kernel
theorem d_Re_init_12 : decode c_Re_init 12 = .ok (.aload_n 0, 1) := by decide +kernel
theorem d_Re_init_13 : decode c_Re_init 13 = .ok (.lconst 1, 1) := by decide +kernel
theorem d_Re_init_14 : decode c_Re_init 14 = .ok (.putfield 15, 3) := by decide +kernel
theorem d_Re_init_17 : decode c_Re_init 17 = .ok (.aload_n 0, 1) := by decide +kernel
theorem d_Re_init_18 : decode c_Re_init 18 = .ok (.lconst 1, 1) := by decide +kernel
theorem d_Re_init_19 : decode c_Re_init 19 = .ok (.putfield 19, 3) := by decide +kernel
theorem d_Re_init_22 : decode c_Re_init 22 = .ok (.return_, 1) := by decide +kernel
theorem d_Re_digit_0 : decode c_Re_digit 0 = .ok (.aload_n 0, 1) := by decide +kernel
theorem d_Re_digit_1 : decode c_Re_digit 1 = .ok (.getfield 9, 3) := by decide +kernel
theorem d_Re_digit_4 : decode c_Re_digit 4 = .ok (.iload_n 1, 1) := by decide +kernel
theorem d_Re_digit_5 : decode c_Re_digit 5 = .ok (.laload, 1) := by decide +kernel
theorem d_Re_digit_6 : decode c_Re_digit 6 = .ok (.getstatic 22, 3) := by decide +kernel
theorem d_Re_digit_9 : decode c_Re_digit 9 = .ok (.iload_n 2, 1) := by decide +kernel
theorem d_Re_digit_10 : decode c_Re_digit 10 = .ok (.laload, 1) := by decide +kernel
theorem d_Re_digit_11 : decode c_Re_digit 11 = .ok (.ldiv, 1) := by decide +kernel
theorem d_Re_digit_12 : decode c_Re_digit 12 = .ok (.ldc2_w 25, 3) := by decide +kernel
theorem d_Re_digit_15 : decode c_Re_digit 15 = .ok (.lrem, 1) := by decide +kernel
theorem d_Re_digit_16 : decode c_Re_digit 16 = .ok (.l2i, 1) := by decide +kernel
theorem d_Re_digit_17 : decode c_Re_digit 17 = .ok (.ireturn, 1) := by decide +kernel
theorem d_Re_chooseField_0 : decode c_Re_chooseField 0 = .ok (.iload_n 1, 1) := by decide +kernel
theorem d_Re_chooseField_1 : decode c_Re_chooseField 1 = .ok (.tableswitch 110 0 6 #[43, 52, 61, 70, 79, 90, 100], 43) := by decide +kernel
theorem d_Re_chooseField_44 : decode c_Re_chooseField 44 = .ok (.aload_n 0, 1) := by decide +kernel
theorem d_Re_chooseField_45 : decode c_Re_chooseField 45 = .ok (.iload_n 2, 1) := by decide +kernel
theorem d_Re_chooseField_46 : decode c_Re_chooseField 46 = .ok (.iload_n 2, 1) := by decide +kernel
theorem d_Re_chooseField_47 : decode c_Re_chooseField 47 = .ok (.invokevirtual 27, 3) := by decide +kernel
theorem d_Re_chooseField_50 : decode c_Re_chooseField 50 = .ok (.goto 68, 3) := by decide +kernel
theorem d_Re_chooseField_53 : decode c_Re_chooseField 53 = .ok (.aload_n 0, 1) := by decide +kernel
theorem d_Re_chooseField_54 : decode c_Re_chooseField 54 = .ok (.iconst 0, 1) := by decide +kernel
theorem d_Re_chooseField_55 : decode c_Re_chooseField 55 = .ok (.iload_n 2, 1) := by decide +kernel
theorem d_Re_chooseField_56 : decode c_Re_chooseField 56 = .ok (.invokevirtual 27, 3) := by decide +kernel
theorem d_Re_chooseField_59 : decode c_Re_chooseField 59 = .ok (.goto 59, 3) := by decide +kernel
theorem d_Re_chooseField_62 : decode c_Re_chooseField 62 = .ok (.aload_n 0, 1) := by decide +kernel
theorem d_Re_chooseField_63 : decode c_Re_chooseField 63 = .ok (.iconst 2, 1) := by decide +kernel
theorem d_Re_chooseField_64 : decode c_Re_chooseField 64 = .ok (.iconst 2, 1) := by decide +kernel
theorem d_Re_chooseField_65 : decode c_Re_chooseField 65 = .ok (.invokevirtual 27, 3) := by decide +kernel
theorem d_Re_chooseField_68 : decode c_Re_chooseField 68 = .ok (.goto 50, 3) := by decide +kernel
theorem d_Re_chooseField_71 : decode c_Re_chooseField 71 = .ok (.aload_n 0, 1) := by decide +kernel
theorem d_Re_chooseField_72 : decode c_Re_chooseField 72 = .ok (.iconst 0, 1) := by decide +kernel
theorem d_Re_chooseField_73 : decode c_Re_chooseField 73 = .ok (.iconst 2, 1) := by decide +kernel
theorem d_Re_chooseField_74 : decode c_Re_chooseField 74 = .ok (.invokevirtual 27, 3) := by decide +kernel
theorem d_Re_chooseField_77 : decode c_Re_chooseField 77 = .ok (.goto 41, 3) := by decide +kernel
theorem d_Re_chooseField_80 : decode c_Re_chooseField 80 = .ok (.aload_n 0, 1) := by decide +kernel
theorem d_Re_chooseField_81 : decode c_Re_chooseField 81 = .ok (.bipush 13, 2) := by decide +kernel
theorem d_Re_chooseField_83 : decode c_Re_chooseField 83 = .ok (.bipush 13, 2) := by decide +kernel
theorem d_Re_chooseField_85 : decode c_Re_chooseField 85 = .ok (.invokevirtual 27, 3) := by decide +kernel
theorem d_Re_chooseField_88 : decode c_Re_chooseField 88 = .ok (.goto 30, 3) := by decide +kernel
theorem d_Re_chooseField_91 : decode c_Re_chooseField 91 = .ok (.aload_n 0, 1) := by decide +kernel
theorem d_Re_chooseField_92 : decode c_Re_chooseField 92 = .ok (.iconst 3, 1) := by decide +kernel
theorem d_Re_chooseField_93 : decode c_Re_chooseField 93 = .ok (.bipush 12, 2) := by decide +kernel
theorem d_Re_chooseField_95 : decode c_Re_chooseField 95 = .ok (.invokevirtual 27, 3) := by decide +kernel
theorem d_Re_chooseField_98 : decode c_Re_chooseField 98 = .ok (.goto 20, 3) := by decide +kernel
theorem d_Re_chooseField_101 : decode c_Re_chooseField 101 = .ok (.aload_n 0, 1) := by decide +kernel
theorem d_Re_chooseField_102 : decode c_Re_chooseField 102 = .ok (.iconst 3, 1) := by decide +kernel
theorem d_Re_chooseField_103 : decode c_Re_chooseField 103 = .ok (.bipush 13, 2) := by decide +kernel
theorem d_Re_chooseField_105 : decode c_Re_chooseField 105 = .ok (.invokevirtual 27, 3) := by decide +kernel
theorem d_Re_chooseField_108 : decode c_Re_chooseField 108 = .ok (.goto 10, 3) := by decide +kernel
theorem d_Re_chooseField_111 : decode c_Re_chooseField 111 = .ok (.aload_n 0, 1) := by decide +kernel
theorem d_Re_chooseField_112 : decode c_Re_chooseField 112 = .ok (.iconst 0, 1) := by decide +kernel
theorem d_Re_chooseField_113 : decode c_Re_chooseField 113 = .ok (.bipush 13, 2) := by decide +kernel
theorem d_Re_chooseField_115 : decode c_Re_chooseField 115 = .ok (.invokevirtual 27, 3) := by decide +kernel
theorem d_Re_chooseField_118 : decode c_Re_chooseField 118 = .ok (.return_, 1) := by decide +kernel
theorem d_Re_chooseDigits_0 : decode c_Re_chooseDigits 0 = .ok (.aload_n 0, 1) := by decide +kernel
theorem d_Re_chooseDigits_1 : decode c_Re_chooseDigits 1 = .ok (.getstatic 22, 3) := by decide +kernel
theorem d_Re_chooseDigits_4 : decode c_Re_chooseDigits 4 = .ok (.iload_n 1, 1) := by decide +kernel
theorem d_Re_chooseDigits_5 : decode c_Re_chooseDigits 5 = .ok (.laload, 1) := by decide +kernel
theorem d_Re_chooseDigits_6 : decode c_Re_chooseDigits 6 = .ok (.putfield 15, 3) := by decide +kernel
theorem d_Re_chooseDigits_9 : decode c_Re_chooseDigits 9 = .ok (.aload_n 0, 1) := by decide +kernel
theorem d_Re_chooseDigits_10 : decode c_Re_chooseDigits 10 = .ok (.getstatic 22, 3) := by decide +kernel
theorem d_Re_chooseDigits_13 : decode c_Re_chooseDigits 13 = .ok (.iload_n 2, 1) := by decide +kernel
theorem d_Re_chooseDigits_14 : decode c_Re_chooseDigits 14 = .ok (.iload_n 1, 1) := by decide +kernel
theorem d_Re_chooseDigits_15 : decode c_Re_chooseDigits 15 = .ok (.isub, 1) := by decide +kernel
theorem d_Re_chooseDigits_16 : decode c_Re_chooseDigits 16 = .ok (.iconst 1, 1) := by decide +kernel
theorem d_Re_chooseDigits_17 : decode c_Re_chooseDigits 17 = .ok (.iadd, 1) := by decide +kernel
theorem d_Re_chooseDigits_18 : decode c_Re_chooseDigits 18 = .ok (.laload, 1) := by decide +kernel
theorem d_Re_chooseDigits_19 : decode c_Re_chooseDigits 19 = .ok (.putfield 19, 3) := by decide +kernel
theorem d_Re_chooseDigits_22 : decode c_Re_chooseDigits 22 = .ok (.return_, 1) := by decide +kernel
theorem d_Re_putPart_0 : decode c_Re_putPart 0 = .ok (.aload_n 0, 1) := by decide +kernel
theorem d_Re_putPart_1 : decode c_Re_putPart 1 = .ok (.getfield 9, 3) := by decide +kernel
theorem d_Re_putPart_4 : decode c_Re_putPart 4 = .ok (.iload_n 1, 1) := by decide +kernel
theorem d_Re_putPart_5 : decode c_Re_putPart 5 = .ok (.dup2, 1) := by decide +kernel
theorem d_Re_putPart_6 : decode c_Re_putPart 6 = .ok (.laload, 1) := by decide +kernel
theorem d_Re_putPart_7 : decode c_Re_putPart 7 = .ok (.lload_n 2, 1) := by decide +kernel
theorem d_Re_putPart_8 : decode c_Re_putPart 8 = .ok (.aload_n 0, 1) := by decide +kernel
theorem d_Re_putPart_9 : decode c_Re_putPart 9 = .ok (.iload_n 1, 1) := by decide +kernel
theorem d_Re_putPart_10 : decode c_Re_putPart 10 = .ok (.invokevirtual 31, 3) := by decide +kernel
theorem d_Re_putPart_13 : decode c_Re_putPart 13 = .ok (.lsub, 1) := by decide +kernel
theorem d_Re_putPart_14 : decode c_Re_putPart 14 = .ok (.aload_n 0, 1) := by decide +kernel
theorem d_Re_putPart_15 : decode c_Re_putPart 15 = .ok (.getfield 15, 3) := by decide +kernel
theorem d_Re_putPart_18 : decode c_Re_putPart 18 = .ok (.lmul, 1) := by decide +kernel
theorem d_Re_putPart_19 : decode c_Re_putPart 19 = .ok (.ladd, 1) := by decide +kernel
theorem d_Re_putPart_20 : decode c_Re_putPart 20 = .ok (.lastore, 1) := by decide +kernel
theorem d_Re_putPart_21 : decode c_Re_putPart 21 = .ok (.return_, 1) := by decide +kernel
theorem d_Re_part_0 : decode c_Re_part 0 = .ok (.aload_n 0, 1) := by decide +kernel
theorem d_Re_part_1 : decode c_Re_part 1 = .ok (.getfield 9, 3) := by decide +kernel
theorem d_Re_part_4 : decode c_Re_part 4 = .ok (.iload_n 1, 1) := by decide +kernel
theorem d_Re_part_5 : decode c_Re_part 5 = .ok (.laload, 1) := by decide +kernel
theorem d_Re_part_6 : decode c_Re_part 6 = .ok (.aload_n 0, 1) := by decide +kernel
theorem d_Re_part_7 : decode c_Re_part 7 = .ok (.getfield 15, 3) := by decide +kernel
theorem d_Re_part_10 : decode c_Re_part 10 = .ok (.ldiv, 1) := by decide +kernel
theorem d_Re_part_11 : decode c_Re_part 11 = .ok (.aload_n 0, 1) := by decide +kernel
theorem d_Re_part_12 : decode c_Re_part 12 = .ok (.getfield 19, 3) := by decide +kernel
theorem d_Re_part_15 : decode c_Re_part 15 = .ok (.lrem, 1) := by decide +kernel
theorem d_Re_part_16 : decode c_Re_part 16 = .ok (.lreturn, 1) := by decide +kernel
