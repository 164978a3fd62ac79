theorem d_Ch_init_0 : decode c_Ch_init 0 = .ok (.aload_n 0, 1) := by decide +kernel
theorem d_Ch_init_1 : decode c_Ch_init 1 = .ok (.invokespecial 1, 3) := by decide +kernel
theorem d_Ch_init_4 : decode c_Ch_init 4 = .ok (.aload_n 0, 1) := by decide +kernel
theorem d_Ch_init_5 : decode c_Ch_init 5 = .ok (.new 7, 3) := by decide +kernel
theorem d_Ch_init_8 : decode c_Ch_init 8 = .ok (.dup, 1) := by decide +kernel
theorem d_Ch_init_9 : decode c_Ch_init 9 = .ok (.invokespecial 9, 3) := by decide +kernel
theorem d_Ch_init_12 : decode c_Ch_init 12 = .ok (.putfield 10, 3) := by decide +kernel
theorem d_Ch_init_15 : decode c_Ch_init 15 = .ok (.aload_n 0, 1) := by decide +kernel
theorem d_Ch_init_16 : decode c_Ch_init 16 = .ok (.new 16, 3) := by decide +kernel
theorem d_Ch_init_19 : decode c_Ch_init 19 = .ok (.dup, 1) := by decide +kernel
theorem d_Ch_init_20 : decode c_Ch_init 20 = .ok (.invokespecial 18, 3) := by decide +kernel
theorem d_Ch_init_23 : decode c_Ch_init 23 = .ok (.putfield 19, 3) := by decide +kernel
theorem d_Ch_init_26 : decode c_Ch_init 26 = .ok (.return_, 1) := by decide +kernel
theorem d_Ch_type_0 : decode c_Ch_type 0 = .ok (.aload_n 0, 1) := by decide +kernel
theorem d_Ch_type_1 : decode c_Ch_type 1 = .ok (.getfield 10, 3) := by decide +kernel
theorem d_Ch_type_4 : decode c_Ch_type 4 = .ok (.iload_n 1, 1) := by decide +kernel
theorem d_Ch_type_5 : decode c_Ch_type 5 = .ok (.invokevirtual 23, 3) := by decide +kernel
theorem d_Ch_type_8 : decode c_Ch_type 8 = .ok (.ireturn, 1) := by decide +kernel
theorem d_Ch_illAt_0 : decode c_Ch_illAt 0 = .ok (.aload_n 0, 1) := by decide +kernel
theorem d_Ch_illAt_1 : decode c_Ch_illAt 1 = .ok (.getfield 10, 3) := by decide +kernel
theorem d_Ch_illAt_4 : decode c_Ch_illAt 4 = .ok (.getfield 46, 3) := by decide +kernel
theorem d_Ch_illAt_7 : decode c_Ch_illAt 7 = .ok (.ireturn, 1) := by decide +kernel
theorem d_Ch_word_0 : decode c_Ch_word 0 = .ok (.iload_n 1, 1) := by decide +kernel
theorem d_Ch_word_1 : decode c_Ch_word 1 = .ok (.invokestatic 49, 3) := by decide +kernel
theorem d_Ch_word_4 : decode c_Ch_word 4 = .ok (.ifCond .eq 15, 3) := by decide +kernel
theorem d_Ch_word_7 : decode c_Ch_word 7 = .ok (.aload_n 0, 1) := by decide +kernel
theorem d_Ch_word_8 : decode c_Ch_word 8 = .ok (.getfield 19, 3) := by decide +kernel
theorem d_Ch_word_11 : decode c_Ch_word 11 = .ok (.getfield 53, 3) := by decide +kernel
theorem d_Ch_word_14 : decode c_Ch_word 14 = .ok (.iload_n 1, 1) := by decide +kernel
theorem d_Ch_word_15 : decode c_Ch_word 15 = .ok (.iaload, 1) := by decide +kernel
theorem d_Ch_word_16 : decode c_Ch_word 16 = .ok (.goto 4, 3) := by decide +kernel
theorem d_Ch_word_19 : decode c_Ch_word 19 = .ok (.iconst (-1), 1) := by decide +kernel
theorem d_Ch_word_20 : decode c_Ch_word 20 = .ok (.ireturn, 1) := by decide +kernel
theorem d_Ch_isPlace_0 : decode c_Ch_isPlace 0 = .ok (.iload_n 0, 1) := by decide +kernel
theorem d_Ch_isPlace_1 : decode c_Ch_isPlace 1 = .ok (.ifCond .lt 13, 3) := by decide +kernel
theorem d_Ch_isPlace_4 : decode c_Ch_isPlace 4 = .ok (.iload_n 0, 1) := by decide +kernel
theorem d_Ch_isPlace_5 : decode c_Ch_isPlace 5 = .ok (.bipush 64, 2) := by decide +kernel
theorem d_Ch_isPlace_7 : decode c_Ch_isPlace 7 = .ok (.if_icmp .ge 7, 3) := by decide +kernel
theorem d_Ch_isPlace_10 : decode c_Ch_isPlace 10 = .ok (.iconst 1, 1) := by decide +kernel
theorem d_Ch_isPlace_11 : decode c_Ch_isPlace 11 = .ok (.goto 4, 3) := by decide +kernel
theorem d_Ch_isPlace_14 : decode c_Ch_isPlace 14 = .ok (.iconst 0, 1) := by decide +kernel
theorem d_Ch_isPlace_15 : decode c_Ch_isPlace 15 = .ok (.ireturn, 1) := by decide +kernel
theorem d_Ch_poke_0 : decode c_Ch_poke 0 = .ok (.iload_n 1, 1) := by decide +kernel
theorem d_Ch_poke_1 : decode c_Ch_poke 1 = .ok (.invokestatic 49, 3) := by decide +kernel
theorem d_Ch_poke_4 : decode c_Ch_poke 4 = .ok (.ifCond .eq 14, 3) := by decide +kernel
theorem d_Ch_poke_7 : decode c_Ch_poke 7 = .ok (.iload_n 2, 1) := by decide +kernel
theorem d_Ch_poke_8 : decode c_Ch_poke 8 = .ok (.ifCond .lt 10, 3) := by decide +kernel
theorem d_Ch_poke_11 : decode c_Ch_poke 11 = .ok (.iload_n 2, 1) := by decide +kernel
theorem d_Ch_poke_12 : decode c_Ch_poke 12 = .ok (.sipush 1024, 3) := by decide +kernel
theorem d_Ch_poke_15 : decode c_Ch_poke 15 = .ok (.if_icmp .lt 5, 3) := by decide +kernel
theorem d_Ch_poke_18 : decode c_Ch_poke 18 = .ok (.iconst 0, 1) := by decide +kernel
theorem d_Ch_poke_19 : decode c_Ch_poke 19 = .ok (.ireturn, 1) := by decide +kernel
theorem d_Ch_poke_20 : decode c_Ch_poke 20 = .ok (.aload_n 0, 1) := by decide +kernel
theorem d_Ch_poke_21 : decode c_Ch_poke 21 = .ok (.getfield 19, 3) := by decide +kernel
theorem d_Ch_poke_24 : decode c_Ch_poke 24 = .ok (.getfield 53, 3) := by decide +kernel
theorem d_Ch_poke_27 : decode c_Ch_poke 27 = .ok (.iload_n 1, 1) := by decide +kernel
theorem d_Ch_poke_28 : decode c_Ch_poke 28 = .ok (.iload_n 2, 1) := by decide +kernel
theorem d_Ch_poke_29 : decode c_Ch_poke 29 = .ok (.iastore, 1) := by decide +kernel
theorem d_Ch_poke_30 : decode c_Ch_poke 30 = .ok (.iconst 1, 1) := by decide +kernel
theorem d_Ch_poke_31 : decode c_Ch_poke 31 = .ok (.ireturn, 1) := by decide +kernel
theorem d_Ch_key_0 : decode c_Ch_key 0 = .ok (.aload_n 0, 1) := by decide +kernel
theorem d_Ch_key_1 : decode c_Ch_key 1 = .ok (.getfield 19, 3) := by decide +kernel
theorem d_Ch_key_4 : decode c_Ch_key 4 = .ok (.getfield 56, 3) := by decide +kernel
theorem d_Ch_key_7 : decode c_Ch_key 7 = .ok (.iload_n 1, 1) := by decide +kernel
theorem d_Ch_key_8 : decode c_Ch_key 8 = .ok (.invokevirtual 60, 3) := by decide +kernel
theorem d_Ch_key_11 : decode c_Ch_key 11 = .ok (.ireturn, 1) := by decide +kernel
theorem d_Ch_keys_0 : decode c_Ch_keys 0 = .ok (.aload_n 0, 1) := by decide +kernel
theorem d_Ch_keys_1 : decode c_Ch_keys 1 = .ok (.getfield 19, 3) := by decide +kernel
theorem d_Ch_keys_4 : decode c_Ch_keys 4 = .ok (.getfield 56, 3) := by decide +kernel
theorem d_Ch_keys_7 : decode c_Ch_keys 7 = .ok (.getfield 64, 3) := by decide +kernel
theorem d_Ch_keys_10 : decode c_Ch_keys 10 = .ok (.ireturn, 1) := by decide +kernel
theorem d_Ch_value_0 : decode c_Ch_value 0 = .ok (.iload_n 1, 1) := by decide +kernel
theorem d_Ch_value_1 : decode c_Ch_value 1 = .ok (.invokestatic 69, 3) := by decide +kernel
theorem d_Ch_value_4 : decode c_Ch_value 4 = .ok (.ifCond .eq 18, 3) := by decide +kernel
theorem d_Ch_value_7 : decode c_Ch_value 7 = .ok (.aload_n 0, 1) := by decide +kernel
theorem d_Ch_value_8 : decode c_Ch_value 8 = .ok (.getfield 19, 3) := by decide +kernel
theorem d_Ch_value_11 : decode c_Ch_value 11 = .ok (.getfield 72, 3) := by decide +kernel
theorem d_Ch_value_14 : decode c_Ch_value 14 = .ok (.getfield 76, 3) := by decide +kernel
theorem d_Ch_value_17 : decode c_Ch_value 17 = .ok (.iload_n 1, 1) := by decide +kernel
theorem d_Ch_value_18 : decode c_Ch_value 18 = .ok (.laload, 1) := by decide +kernel
theorem d_Ch_value_19 : decode c_Ch_value 19 = .ok (.goto 6, 3) := by decide +kernel
theorem d_Ch_value_22 : decode c_Ch_value 22 = .ok (.ldc2_w 82, 3) := by decide +kernel
theorem d_Ch_value_25 : decode c_Ch_value 25 = .ok (.lreturn, 1) := by decide +kernel
theorem d_Ch_isRegister_0 : decode c_Ch_isRegister 0 = .ok (.iload_n 0, 1) := by decide +kernel
theorem d_Ch_isRegister_1 : decode c_Ch_isRegister 1 = .ok (.ifCond .lt 13, 3) := by decide +kernel
theorem d_Ch_isRegister_4 : decode c_Ch_isRegister 4 = .ok (.iload_n 0, 1) := by decide +kernel
theorem d_Ch_isRegister_5 : decode c_Ch_isRegister 5 = .ok (.bipush 7, 2) := by decide +kernel
theorem d_Ch_isRegister_7 : decode c_Ch_isRegister 7 = .ok (.if_icmp .ge 7, 3) := by decide +kernel
theorem d_Ch_isRegister_10 : decode c_Ch_isRegister 10 = .ok (.iconst 1, 1) := by decide +kernel
theorem d_Ch_isRegister_11 : decode c_Ch_isRegister 11 = .ok (.goto 4, 3) := by decide +kernel
theorem d_Ch_isRegister_14 : decode c_Ch_isRegister 14 = .ok (.iconst 0, 1) := by decide +kernel
theorem d_Ch_isRegister_15 : decode c_Ch_isRegister 15 = .ok (.ireturn, 1) := by decide +kernel
theorem d_Ch_set_0 : decode c_Ch_set 0 = .ok (.iload_n 1, 1) := by decide +kernel
theorem d_Ch_set_1 : decode c_Ch_set 1 = .ok (.invokestatic 69, 3) := by decide +kernel
theorem d_Ch_set_4 : decode c_Ch_set 4 = .ok (.ifCond .eq 9, 3) := by decide +kernel
theorem d_Ch_set_7 : decode c_Ch_set 7 = .ok (.lload_n 2, 1) := by decide +kernel
theorem d_Ch_set_8 : decode c_Ch_set 8 = .ok (.lconst 0, 1) := by decide +kernel
theorem d_Ch_set_9 : decode c_Ch_set 9 = .ok (.lcmp, 1) := by decide +kernel
theorem d_Ch_set_10 : decode c_Ch_set 10 = .ok (.ifCond .ge 5, 3) := by decide +kernel
theorem d_Ch_set_13 : decode c_Ch_set 13 = .ok (.iconst 0, 1) := by decide +kernel
theorem d_Ch_set_14 : decode c_Ch_set 14 = .ok (.ireturn, 1) := by decide +kernel
theorem d_Ch_set_15 : decode c_Ch_set 15 = .ok (.aload_n 0, 1) := by decide +kernel
theorem d_Ch_set_16 : decode c_Ch_set 16 = .ok (.getfield 19, 3) := by decide +kernel
theorem d_Ch_set_19 : decode c_Ch_set 19 = .ok (.getfield 72, 3) := by decide +kernel
theorem d_Ch_set_22 : decode c_Ch_set 22 = .ok (.getfield 76, 3) := by decide +kernel
theorem d_Ch_set_25 : decode c_Ch_set 25 = .ok (.iload_n 1, 1) := by decide +kernel
theorem d_Ch_set_26 : decode c_Ch_set 26 = .ok (.lload_n 2, 1) := by decide +kernel
theorem d_Ch_set_27 : decode c_Ch_set 27 = .ok (.getstatic 84, 3) := by decide +kernel
theorem d_Ch_set_30 : decode c_Ch_set 30 = .ok (.bipush 14, 2) := by decide +kernel
theorem d_Ch_set_32 : decode c_Ch_set 32 = .ok (.laload, 1) := by decide +kernel
theorem d_Ch_set_33 : decode c_Ch_set 33 = .ok (.lrem, 1) := by decide +kernel
theorem d_Ch_set_34 : decode c_Ch_set 34 = .ok (.lastore, 1) := by decide +kernel
theorem d_Ch_set_35 : decode c_Ch_set 35 = .ok (.iconst 1, 1) := by decide +kernel
theorem d_Ch_set_36 : decode c_Ch_set 36 = .ok (.ireturn, 1) := by decide +kernel
theorem d_Ch_state_0 : decode c_Ch_state 0 = .ok (.iload_n 1, 1) := by decide +kernel
theorem d_Ch_state_1 : decode c_Ch_state 1 = .ok (.tableswitch 83 0 4 #[35, 43, 51, 67, 75], 35) := by decide +kernel
theorem d_Ch_state_36 : decode c_Ch_state 36 = .ok (.aload_n 0, 1) := by decide +kernel
theorem d_Ch_state_37 : decode c_Ch_state 37 = .ok (.getfield 19, 3) := by decide +kernel
theorem d_Ch_state_40 : decode c_Ch_state 40 = .ok (.getfield 87, 3) := by decide +kernel
theorem d_Ch_state_43 : decode c_Ch_state 43 = .ok (.ireturn, 1) := by decide +kernel
theorem d_Ch_state_44 : decode c_Ch_state 44 = .ok (.aload_n 0, 1) := by decide +kernel
theorem d_Ch_state_45 : decode c_Ch_state 45 = .ok (.getfield 19, 3) := by decide +kernel
theorem d_Ch_state_48 : decode c_Ch_state 48 = .ok (.getfield 90, 3) := by decide +kernel
theorem d_Ch_state_51 : decode c_Ch_state 51 = .ok (.ireturn, 1) := by decide +kernel
theorem d_Ch_state_52 : decode c_Ch_state 52 = .ok (.aload_n 0, 1) := by decide +kernel
theorem d_Ch_state_53 : decode c_Ch_state 53 = .ok (.getfield 19, 3) := by decide +kernel
theorem d_Ch_state_56 : decode c_Ch_state 56 = .ok (.getfield 93, 3) := by decide +kernel
theorem d_Ch_state_59 : decode c_Ch_state 59 = .ok (.ifCond .eq 7, 3) := by decide +kernel
theorem d_Ch_state_62 : decode c_Ch_state 62 = .ok (.iconst 1, 1) := by decide +kernel
theorem d_Ch_state_63 : decode c_Ch_state 63 = .ok (.goto 4, 3) := by decide +kernel
theorem d_Ch_state_66 : decode c_Ch_state 66 = .ok (.iconst 0, 1) := by decide +kernel
theorem d_Ch_state_67 : decode c_Ch_state 67 = .ok (.ireturn, 1) := by decide +kernel
theorem d_Ch_state_68 : decode c_Ch_state 68 = .ok (.aload_n 0, 1) := by decide +kernel
theorem d_Ch_state_69 : decode c_Ch_state 69 = .ok (.getfield 19, 3) := by decide +kernel
theorem d_Ch_state_72 : decode c_Ch_state 72 = .ok (.getfield 97, 3) := by decide +kernel
theorem d_Ch_state_75 : decode c_Ch_state 75 = .ok (.ireturn, 1) := by decide +kernel
theorem d_Ch_state_76 : decode c_Ch_state 76 = .ok (.aload_n 0, 1) := by decide +kernel
theorem d_Ch_state_77 : decode c_Ch_state 77 = .ok (.getfield 19, 3) := by decide +kernel
theorem d_Ch_state_80 : decode c_Ch_state 80 = .ok (.getfield 100, 3) := by decide +kernel
theorem d_Ch_state_83 : decode c_Ch_state 83 = .ok (.ireturn, 1) := by decide +kernel
theorem d_Ch_state_84 : decode c_Ch_state 84 = .ok (.iconst (-1), 1) := by decide +kernel
theorem d_Ch_state_85 : decode c_Ch_state 85 = .ok (.ireturn, 1) := by decide +kernel
theorem d_Ch_go_0 : decode c_Ch_go 0 = .ok (.iload_n 1, 1) := by decide +kernel
theorem d_Ch_go_1 : decode c_Ch_go 1 = .ok (.invokestatic 49, 3) := by decide +kernel
theorem d_Ch_go_4 : decode c_Ch_go 4 = .ok (.ifCond .ne 5, 3) := by decide +kernel
theorem d_Ch_go_7 : decode c_Ch_go 7 = .ok (.iconst 0, 1) := by decide +kernel
theorem d_Ch_go_8 : decode c_Ch_go 8 = .ok (.ireturn, 1) := by decide +kernel
theorem d_Ch_go_9 : decode c_Ch_go 9 = .ok (.aload_n 0, 1) := by decide +kernel
theorem d_Ch_go_10 : decode c_Ch_go 10 = .ok (.getfield 19, 3) := by decide +kernel
theorem d_Ch_go_13 : decode c_Ch_go 13 = .ok (.iload_n 1, 1) := by decide +kernel
theorem d_Ch_go_14 : decode c_Ch_go 14 = .ok (.putfield 97, 3) := by decide +kernel
theorem d_Ch_go_17 : decode c_Ch_go 17 = .ok (.iconst 1, 1) := by decide +kernel
theorem d_Ch_go_18 : decode c_Ch_go 18 = .ok (.ireturn, 1) := by decide +kernel
theorem d_Ch_display_0 : decode c_Ch_display 0 = .ok (.iload_n 1, 1) := by decide +kernel
theorem d_Ch_display_1 : decode c_Ch_display 1 = .ok (.bipush 14, 2) := by decide +kernel
theorem d_Ch_display_3 : decode c_Ch_display 3 = .ok (.if_icmp .ne 8, 3) := by decide +kernel
theorem d_Ch_display_6 : decode c_Ch_display 6 = .ok (.aload_n 0, 1) := by decide +kernel
theorem d_Ch_display_7 : decode c_Ch_display 7 = .ok (.invokevirtual 103, 3) := by decide +kernel
theorem d_Ch_display_10 : decode c_Ch_display 10 = .ok (.ireturn, 1) := by decide +kernel
theorem d_Ch_display_11 : decode c_Ch_display 11 = .ok (.iload_n 1, 1) := by decide +kernel
theorem d_Ch_display_12 : decode c_Ch_display 12 = .ok (.ifCond .lt 20, 3) := by decide +kernel
theorem d_Ch_display_15 : decode c_Ch_display 15 = .ok (.iload_n 1, 1) := by decide +kernel
theorem d_Ch_display_16 : decode c_Ch_display 16 = .ok (.bipush 14, 2) := by decide +kernel
theorem d_Ch_display_18 : decode c_Ch_display 18 = .ok (.if_icmp .ge 14, 3) := by decide +kernel
theorem d_Ch_display_21 : decode c_Ch_display 21 = .ok (.aload_n 0, 1) := by decide +kernel
theorem d_Ch_display_22 : decode c_Ch_display 22 = .ok (.bipush 13, 2) := by decide +kernel
theorem d_Ch_display_24 : decode c_Ch_display 24 = .ok (.iload_n 1, 1) := by decide +kernel
theorem d_Ch_display_25 : decode c_Ch_display 25 = .ok (.isub, 1) := by decide +kernel
theorem d_Ch_display_26 : decode c_Ch_display 26 = .ok (.invokevirtual 107, 3) := by decide +kernel
theorem d_Ch_display_29 : decode c_Ch_display 29 = .ok (.goto 4, 3) := by decide +kernel
theorem d_Ch_display_32 : decode c_Ch_display 32 = .ok (.iconst (-1), 1) := by decide +kernel
theorem d_Ch_display_33 : decode c_Ch_display 33 = .ok (.ireturn, 1) := by decide +kernel
theorem d_Ch_digitBeforePoint_0 : decode c_Ch_digitBeforePoint 0 = .ok (.bipush 12, 2) := by decide +kernel
theorem d_Ch_digitBeforePoint_2 : decode c_Ch_digitBeforePoint 2 = .ok (.istore_n 1, 1) := by decide +kernel
theorem d_Ch_digitBeforePoint_3 : decode c_Ch_digitBeforePoint 3 = .ok (.iload_n 1, 1) := by decide +kernel
theorem d_Ch_digitBeforePoint_4 : decode c_Ch_digitBeforePoint 4 = .ok (.iconst 2, 1) := by decide +kernel
theorem d_Ch_digitBeforePoint_5 : decode c_Ch_digitBeforePoint 5 = .ok (.if_icmp .le 27, 3) := by decide +kernel
theorem d_Ch_digitBeforePoint_8 : decode c_Ch_digitBeforePoint 8 = .ok (.aload_n 0, 1) := by decide +kernel
theorem d_Ch_digitBeforePoint_9 : decode c_Ch_digitBeforePoint 9 = .ok (.getfield 19, 3) := by decide +kernel
theorem d_Ch_digitBeforePoint_12 : decode c_Ch_digitBeforePoint 12 = .ok (.getfield 72, 3) := by decide +kernel
theorem d_Ch_digitBeforePoint_15 : decode c_Ch_digitBeforePoint 15 = .ok (.iconst 1, 1) := by decide +kernel
theorem d_Ch_digitBeforePoint_16 : decode c_Ch_digitBeforePoint 16 = .ok (.iload_n 1, 1) := by decide +kernel
theorem d_Ch_digitBeforePoint_17 : decode c_Ch_digitBeforePoint 17 = .ok (.invokevirtual 110, 3) := by decide +kernel
theorem d_Ch_digitBeforePoint_20 : decode c_Ch_digitBeforePoint 20 = .ok (.iconst 2, 1) := by decide +kernel
theorem d_Ch_digitBeforePoint_21 : decode c_Ch_digitBeforePoint 21 = .ok (.if_icmp .ne 5, 3) := by decide +kernel
theorem d_Ch_digitBeforePoint_24 : decode c_Ch_digitBeforePoint 24 = .ok (.iload_n 1, 1) := by decide +kernel
theorem d_Ch_digitBeforePoint_25 : decode c_Ch_digitBeforePoint 25 = .ok (.ireturn, 1) := by decide +kernel
theorem d_Ch_digitBeforePoint_26 : decode c_Ch_digitBeforePoint 26 = .ok (.iinc 1 (-1), 3) := by decide +kernel
theorem d_Ch_digitBeforePoint_29 : decode c_Ch_digitBeforePoint 29 = .ok (.goto (-26), 3) := by decide +kernel
theorem d_Ch_digitBeforePoint_32 : decode c_Ch_digitBeforePoint 32 = .ok (.iconst (-1), 1) := by decide +kernel
theorem d_Ch_digitBeforePoint_33 : decode c_Ch_digitBeforePoint 33 = .ok (.ireturn, 1) := by decide +kernel
theorem d_Ch_codeOfDigit_0 : decode c_Ch_codeOfDigit 0 = .ok (.aload_n 0, 1) := by decide +kernel
theorem d_Ch_codeOfDigit_1 : decode c_Ch_codeOfDigit 1 = .ok (.getfield 19, 3) := by decide +kernel
theorem d_Ch_codeOfDigit_4 : decode c_Ch_codeOfDigit 4 = .ok (.getfield 72, 3) := by decide +kernel
theorem d_Ch_codeOfDigit_7 : decode c_Ch_codeOfDigit 7 = .ok (.iconst 1, 1) := by decide +kernel
theorem d_Ch_codeOfDigit_8 : decode c_Ch_codeOfDigit 8 = .ok (.iload_n 1, 1) := by decide +kernel
theorem d_Ch_codeOfDigit_9 : decode c_Ch_codeOfDigit 9 = .ok (.invokevirtual 110, 3) := by decide +kernel
theorem d_Ch_codeOfDigit_12 : decode c_Ch_codeOfDigit 12 = .ok (.bipush 9, 2) := by decide +kernel
theorem d_Ch_codeOfDigit_14 : decode c_Ch_codeOfDigit 14 = .ok (.if_icmp .ne 6, 3) := by decide +kernel
theorem d_Ch_codeOfDigit_17 : decode c_Ch_codeOfDigit 17 = .ok (.bipush 32, 2) := by decide +kernel
theorem d_Ch_codeOfDigit_19 : decode c_Ch_codeOfDigit 19 = .ok (.ireturn, 1) := by decide +kernel
theorem d_Ch_codeOfDigit_20 : decode c_Ch_codeOfDigit 20 = .ok (.aload_n 0, 1) := by decide +kernel
theorem d_Ch_codeOfDigit_21 : decode c_Ch_codeOfDigit 21 = .ok (.getfield 19, 3) := by decide +kernel
theorem d_Ch_codeOfDigit_24 : decode c_Ch_codeOfDigit 24 = .ok (.getfield 72, 3) := by decide +kernel
theorem d_Ch_codeOfDigit_27 : decode c_Ch_codeOfDigit 27 = .ok (.iconst 0, 1) := by decide +kernel
theorem d_Ch_codeOfDigit_28 : decode c_Ch_codeOfDigit 28 = .ok (.iload_n 1, 1) := by decide +kernel
theorem d_Ch_codeOfDigit_29 : decode c_Ch_codeOfDigit 29 = .ok (.invokevirtual 110, 3) := by decide +kernel
theorem d_Ch_codeOfDigit_32 : decode c_Ch_codeOfDigit 32 = .ok (.istore_n 2, 1) := by decide +kernel
theorem d_Ch_codeOfDigit_33 : decode c_Ch_codeOfDigit 33 = .ok (.iload_n 1, 1) := by decide +kernel
theorem d_Ch_codeOfDigit_34 : decode c_Ch_codeOfDigit 34 = .ok (.bipush 13, 2) := by decide +kernel
theorem d_Ch_codeOfDigit_36 : decode c_Ch_codeOfDigit 36 = .ok (.if_icmp .eq 8, 3) := by decide +kernel
theorem d_Ch_codeOfDigit_39 : decode c_Ch_codeOfDigit 39 = .ok (.iload_n 1, 1) := by decide +kernel
theorem d_Ch_codeOfDigit_40 : decode c_Ch_codeOfDigit 40 = .ok (.iconst 2, 1) := by decide +kernel
theorem d_Ch_codeOfDigit_41 : decode c_Ch_codeOfDigit 41 = .ok (.if_icmp .ne 17, 3) := by decide +kernel
theorem d_Ch_codeOfDigit_44 : decode c_Ch_codeOfDigit 44 = .ok (.iload_n 2, 1) := by decide +kernel
theorem d_Ch_codeOfDigit_45 : decode c_Ch_codeOfDigit 45 = .ok (.bipush 9, 2) := by decide +kernel
theorem d_Ch_codeOfDigit_47 : decode c_Ch_codeOfDigit 47 = .ok (.if_icmp .ne 8, 3) := by decide +kernel
theorem d_Ch_codeOfDigit_50 : decode c_Ch_codeOfDigit 50 = .ok (.bipush 45, 2) := by decide +kernel
theorem d_Ch_codeOfDigit_52 : decode c_Ch_codeOfDigit 52 = .ok (.goto 5, 3) := by decide +kernel
theorem d_Ch_codeOfDigit_55 : decode c_Ch_codeOfDigit 55 = .ok (.bipush 32, 2) := by decide +kernel
theorem d_Ch_codeOfDigit_57 : decode c_Ch_codeOfDigit 57 = .ok (.ireturn, 1) := by decide +kernel
theorem d_Ch_codeOfDigit_58 : decode c_Ch_codeOfDigit 58 = .ok (.bipush 48, 2) := by decide +kernel
theorem d_Ch_codeOfDigit_60 : decode c_Ch_codeOfDigit 60 = .ok (.iload_n 2, 1) := by decide +kernel
theorem d_Ch_codeOfDigit_61 : decode c_Ch_codeOfDigit 61 = .ok (.iadd, 1) := by decide +kernel
theorem d_Ch_codeOfDigit_62 : decode c_Ch_codeOfDigit 62 = .ok (.ireturn, 1) := by decide +kernel
theorem d_Ch_assemble_0 : decode c_Ch_assemble 0 = .ok (.aload_n 0, 1) := by decide +kernel
theorem d_Ch_assemble_1 : decode c_Ch_assemble 1 = .ok (.getfield 10, 3) := by decide +kernel
theorem d_Ch_assemble_4 : decode c_Ch_assemble 4 = .ok (.invokevirtual 27, 3) := by decide +kernel
theorem d_Ch_assemble_7 : decode c_Ch_assemble 7 = .ok (.ifCond .ne 11, 3) := by decide +kernel
theorem d_Ch_assemble_10 : decode c_Ch_assemble 10 = .ok (.new 31, 3) := by decide +kernel
theorem d_Ch_assemble_13 : decode c_Ch_assemble 13 = .ok (.dup, 1) := by decide +kernel
theorem d_Ch_assemble_14 : decode c_Ch_assemble 14 = .ok (.invokespecial 33, 3) := by decide +kernel
theorem d_Ch_assemble_17 : decode c_Ch_assemble 17 = .ok (.athrow, 1) := by decide +kernel
theorem d_Ch_assemble_18 : decode c_Ch_assemble 18 = .ok (.aload_n 0, 1) := by decide +kernel
theorem d_Ch_assemble_19 : decode c_Ch_assemble 19 = .ok (.getfield 19, 3) := by decide +kernel
theorem d_Ch_assemble_22 : decode c_Ch_assemble 22 = .ok (.aload_n 0, 1) := by decide +kernel
theorem d_Ch_assemble_23 : decode c_Ch_assemble 23 = .ok (.getfield 10, 3) := by decide +kernel
theorem d_Ch_assemble_26 : decode c_Ch_assemble 26 = .ok (.getfield 34, 3) := by decide +kernel
theorem d_Ch_assemble_29 : decode c_Ch_assemble 29 = .ok (.aload_n 0, 1) := by decide +kernel
theorem d_Ch_assemble_30 : decode c_Ch_assemble 30 = .ok (.getfield 10, 3) := by decide +kernel
theorem d_Ch_assemble_33 : decode c_Ch_assemble 33 = .ok (.getfield 38, 3) := by decide +kernel
theorem d_Ch_assemble_36 : decode c_Ch_assemble 36 = .ok (.invokevirtual 42, 3) := by decide +kernel
theorem d_Ch_assemble_39 : decode c_Ch_assemble 39 = .ok (.aload_n 0, 1) := by decide +kernel
theorem d_Ch_assemble_40 : decode c_Ch_assemble 40 = .ok (.getfield 10, 3) := by decide +kernel
theorem d_Ch_assemble_43 : decode c_Ch_assemble 43 = .ok (.getfield 38, 3) := by decide +kernel
theorem d_Ch_assemble_46 : decode c_Ch_assemble 46 = .ok (.ireturn, 1) := by decide +kernel
theorem d_Ch_run_0 : decode c_Ch_run 0 = .ok (.iload_n 1, 1) := by decide +kernel
theorem d_Ch_run_1 : decode c_Ch_run 1 = .ok (.ifCond .lt 10, 3) := by decide +kernel
theorem d_Ch_run_4 : decode c_Ch_run 4 = .ok (.iload_n 1, 1) := by decide +kernel
theorem d_Ch_run_5 : decode c_Ch_run 5 = .ok (.sipush 400, 3) := by decide +kernel
theorem d_Ch_run_8 : decode c_Ch_run 8 = .ok (.if_icmp .le 11, 3) := by decide +kernel
theorem d_Ch_run_11 : decode c_Ch_run 11 = .ok (.new 31, 3) := by decide +kernel
theorem d_Ch_run_14 : decode c_Ch_run 14 = .ok (.dup, 1) := by decide +kernel
theorem d_Ch_run_15 : decode c_Ch_run 15 = .ok (.invokespecial 33, 3) := by decide +kernel
theorem d_Ch_run_18 : decode c_Ch_run 18 = .ok (.athrow, 1) := by decide +kernel
theorem d_Ch_run_19 : decode c_Ch_run 19 = .ok (.aload_n 0, 1) := by decide +kernel
theorem d_Ch_run_20 : decode c_Ch_run 20 = .ok (.getfield 19, 3) := by decide +kernel
theorem d_Ch_run_23 : decode c_Ch_run 23 = .ok (.iload_n 1, 1) := by decide +kernel
theorem d_Ch_run_24 : decode c_Ch_run 24 = .ok (.invokevirtual 65, 3) := by decide +kernel
theorem d_Ch_run_27 : decode c_Ch_run 27 = .ok (.ireturn, 1) := by decide +kernel
