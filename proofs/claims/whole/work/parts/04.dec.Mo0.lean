theorem d_Mo_init_0 : decode c_Mo_init 0 = .ok (.aload_n 0, 1) := by decide +kernel
theorem d_Mo_init_1 : decode c_Mo_init 1 = .ok (.invokespecial 1, 3) := by decide +kernel
theorem d_Mo_init_4 : decode c_Mo_init 4 = .ok (.aload_n 0, 1) := by decide +kernel
theorem d_Mo_init_5 : decode c_Mo_init 5 = .ok (.bipush 15, 2) := by decide +kernel
theorem d_Mo_init_7 : decode c_Mo_init 7 = .ok (.newarray .long, 2) := by decide +kernel
theorem d_Mo_init_9 : decode c_Mo_init 9 = .ok (.putfield 7, 3) := by decide +kernel
theorem d_Mo_init_12 : decode c_Mo_init 12 = .ok (.aload_n 0, 1) := by decide +kernel
theorem d_Mo_init_13 : decode c_Mo_init 13 = .ok (.bipush 7, 2) := by decide +kernel
theorem d_Mo_init_15 : decode c_Mo_init 15 = .ok (.newarray .long, 2) := by decide +kernel
theorem d_Mo_init_17 : decode c_Mo_init 17 = .ok (.putfield 13, 3) := by decide +kernel
theorem d_Mo_init_20 : decode c_Mo_init 20 = .ok (.aload_n 0, 1) := by decide +kernel
theorem d_Mo_init_21 : decode c_Mo_init 21 = .ok (.bipush 64, 2) := by decide +kernel
theorem d_Mo_init_23 : decode c_Mo_init 23 = .ok (.newarray .int, 2) := by decide +kernel
theorem d_Mo_init_25 : decode c_Mo_init 25 = .ok (.putfield 16, 3) := by decide +kernel
theorem d_Mo_init_28 : decode c_Mo_init 28 = .ok (.aload_n 0, 1) := by decide +kernel
theorem d_Mo_init_29 : decode c_Mo_init 29 = .ok (.iconst 3, 1) := by decide +kernel
theorem d_Mo_init_30 : decode c_Mo_init 30 = .ok (.newarray .int, 2) := by decide +kernel
theorem d_Mo_init_32 : decode c_Mo_init 32 = .ok (.putfield 20, 3) := by decide +kernel
theorem d_Mo_init_35 : decode c_Mo_init 35 = .ok (.aload_n 0, 1) := by decide +kernel
theorem d_Mo_init_36 : decode c_Mo_init 36 = .ok (.sipush 240, 3) := by decide +kernel
theorem d_Mo_init_39 : decode c_Mo_init 39 = .ok (.newarray .char, 2) := by decide +kernel
theorem d_Mo_init_41 : decode c_Mo_init 41 = .ok (.putfield 23, 3) := by decide +kernel
theorem d_Mo_init_44 : decode c_Mo_init 44 = .ok (.aload_n 0, 1) := by decide +kernel
theorem d_Mo_init_45 : decode c_Mo_init 45 = .ok (.iconst (-1), 1) := by decide +kernel
theorem d_Mo_init_46 : decode c_Mo_init 46 = .ok (.putfield 27, 3) := by decide +kernel
theorem d_Mo_init_49 : decode c_Mo_init 49 = .ok (.aload_n 0, 1) := by decide +kernel
theorem d_Mo_init_50 : decode c_Mo_init 50 = .ok (.bipush 64, 2) := by decide +kernel
theorem d_Mo_init_52 : decode c_Mo_init 52 = .ok (.newarray .int, 2) := by decide +kernel
theorem d_Mo_init_54 : decode c_Mo_init 54 = .ok (.putfield 31, 3) := by decide +kernel
theorem d_Mo_init_57 : decode c_Mo_init 57 = .ok (.aload_n 0, 1) := by decide +kernel
theorem d_Mo_init_58 : decode c_Mo_init 58 = .ok (.bipush 26, 2) := by decide +kernel
theorem d_Mo_init_60 : decode c_Mo_init 60 = .ok (.newarray .int, 2) := by decide +kernel
theorem d_Mo_init_62 : decode c_Mo_init 62 = .ok (.putfield 34, 3) := by decide +kernel
theorem d_Mo_init_65 : decode c_Mo_init 65 = .ok (.aload_n 0, 1) := by decide +kernel
theorem d_Mo_init_66 : decode c_Mo_init 66 = .ok (.bipush 64, 2) := by decide +kernel
theorem d_Mo_init_68 : decode c_Mo_init 68 = .ok (.newarray .int, 2) := by decide +kernel
theorem d_Mo_init_70 : decode c_Mo_init 70 = .ok (.putfield 37, 3) := by decide +kernel
theorem d_Mo_init_73 : decode c_Mo_init 73 = .ok (.aload_n 0, 1) := by decide +kernel
theorem d_Mo_init_74 : decode c_Mo_init 74 = .ok (.getfield 7, 3) := by decide +kernel
theorem d_Mo_init_77 : decode c_Mo_init 77 = .ok (.iconst 0, 1) := by decide +kernel
theorem d_Mo_init_78 : decode c_Mo_init 78 = .ok (.lconst 1, 1) := by decide +kernel
theorem d_Mo_init_79 : decode c_Mo_init 79 = .ok (.lastore, 1) := by decide +kernel
theorem d_Mo_init_80 : decode c_Mo_init 80 = .ok (.iconst 1, 1) := by decide +kernel
theorem d_Mo_init_81 : decode c_Mo_init 81 = .ok (.istore_n 1, 1) := by decide +kernel
theorem d_Mo_init_82 : decode c_Mo_init 82 = .ok (.iload_n 1, 1) := by decide +kernel
theorem d_Mo_init_83 : decode c_Mo_init 83 = .ok (.bipush 15, 2) := by decide +kernel
theorem d_Mo_init_85 : decode c_Mo_init 85 = .ok (.if_icmp .ge 27, 3) := by decide +kernel
theorem d_Mo_init_88 : decode c_Mo_init 88 = .ok (.aload_n 0, 1) := by decide +kernel
theorem d_Mo_init_89 : decode c_Mo_init 89 = .ok (.getfield 7, 3) := by decide +kernel
theorem d_Mo_init_92 : decode c_Mo_init 92 = .ok (.iload_n 1, 1) := by decide +kernel
theorem d_Mo_init_93 : decode c_Mo_init 93 = .ok (.ldc2_w 40, 3) := by decide +kernel
theorem d_Mo_init_96 : decode c_Mo_init 96 = .ok (.aload_n 0, 1) := by decide +kernel
theorem d_Mo_init_97 : decode c_Mo_init 97 = .ok (.getfield 7, 3) := by decide +kernel
theorem d_Mo_init_100 : decode c_Mo_init 100 = .ok (.iload_n 1, 1) := by decide +kernel
theorem d_Mo_init_101 : decode c_Mo_init 101 = .ok (.iconst 1, 1) := by decide +kernel
theorem d_Mo_init_102 : decode c_Mo_init 102 = .ok (.isub, 1) := by decide +kernel
theorem d_Mo_init_103 : decode c_Mo_init 103 = .ok (.laload, 1) := by decide +kernel
theorem d_Mo_init_104 : decode c_Mo_init 104 = .ok (.lmul, 1) := by decide +kernel
theorem d_Mo_init_105 : decode c_Mo_init 105 = .ok (.lastore, 1) := by decide +kernel
theorem d_Mo_init_106 : decode c_Mo_init 106 = .ok (.iinc 1 1, 3) := by decide +kernel
theorem d_Mo_init_109 : decode c_Mo_init 109 = .ok (.goto (-27), 3) := by decide +kernel
theorem d_Mo_init_112 : decode c_Mo_init 112 = .ok (.return_, 1) := by decide +kernel
theorem d_Mo_thrown_0 : decode c_Mo_thrown 0 = .ok (.aload_n 0, 1) := by decide +kernel
theorem d_Mo_thrown_1 : decode c_Mo_thrown 1 = .ok (.getfield 42, 3) := by decide +kernel
theorem d_Mo_thrown_4 : decode c_Mo_thrown 4 = .ok (.ireturn, 1) := by decide +kernel
theorem d_Mo_run_0 : decode c_Mo_run 0 = .ok (.aload_n 0, 1) := by decide +kernel
theorem d_Mo_run_1 : decode c_Mo_run 1 = .ok (.iload_n 1, 1) := by decide +kernel
theorem d_Mo_run_2 : decode c_Mo_run 2 = .ok (.ifCond .lt 10, 3) := by decide +kernel
theorem d_Mo_run_5 : decode c_Mo_run 5 = .ok (.iload_n 1, 1) := by decide +kernel
theorem d_Mo_run_6 : decode c_Mo_run 6 = .ok (.sipush 400, 3) := by decide +kernel
theorem d_Mo_run_9 : decode c_Mo_run 9 = .ok (.if_icmp .le 7, 3) := by decide +kernel
theorem d_Mo_run_12 : decode c_Mo_run 12 = .ok (.iconst 1, 1) := by decide +kernel
theorem d_Mo_run_13 : decode c_Mo_run 13 = .ok (.goto 4, 3) := by decide +kernel
theorem d_Mo_run_16 : decode c_Mo_run 16 = .ok (.iconst 0, 1) := by decide +kernel
theorem d_Mo_run_17 : decode c_Mo_run 17 = .ok (.putfield 42, 3) := by decide +kernel
theorem d_Mo_run_20 : decode c_Mo_run 20 = .ok (.aload_n 0, 1) := by decide +kernel
theorem d_Mo_run_21 : decode c_Mo_run 21 = .ok (.getfield 42, 3) := by decide +kernel
theorem d_Mo_run_24 : decode c_Mo_run 24 = .ok (.ifCond .eq 5, 3) := by decide +kernel
theorem d_Mo_run_27 : decode c_Mo_run 27 = .ok (.iconst 0, 1) := by decide +kernel
theorem d_Mo_run_28 : decode c_Mo_run 28 = .ok (.ireturn, 1) := by decide +kernel
theorem d_Mo_run_29 : decode c_Mo_run 29 = .ok (.aload_n 0, 1) := by decide +kernel
theorem d_Mo_run_30 : decode c_Mo_run 30 = .ok (.iconst 0, 1) := by decide +kernel
theorem d_Mo_run_31 : decode c_Mo_run 31 = .ok (.putfield 90, 3) := by decide +kernel
theorem d_Mo_run_34 : decode c_Mo_run 34 = .ok (.iconst 0, 1) := by decide +kernel
theorem d_Mo_run_35 : decode c_Mo_run 35 = .ok (.istore_n 2, 1) := by decide +kernel
theorem d_Mo_run_36 : decode c_Mo_run 36 = .ok (.iload_n 2, 1) := by decide +kernel
theorem d_Mo_run_37 : decode c_Mo_run 37 = .ok (.iload_n 1, 1) := by decide +kernel
theorem d_Mo_run_38 : decode c_Mo_run 38 = .ok (.if_icmp .ge 20, 3) := by decide +kernel
theorem d_Mo_run_41 : decode c_Mo_run 41 = .ok (.aload_n 0, 1) := by decide +kernel
theorem d_Mo_run_42 : decode c_Mo_run 42 = .ok (.getfield 90, 3) := by decide +kernel
theorem d_Mo_run_45 : decode c_Mo_run 45 = .ok (.ifCond .ne 13, 3) := by decide +kernel
theorem d_Mo_run_48 : decode c_Mo_run 48 = .ok (.aload_n 0, 1) := by decide +kernel
theorem d_Mo_run_49 : decode c_Mo_run 49 = .ok (.invokevirtual 108, 3) := by decide +kernel
theorem d_Mo_run_52 : decode c_Mo_run 52 = .ok (.iinc 2 1, 3) := by decide +kernel
theorem d_Mo_run_55 : decode c_Mo_run 55 = .ok (.goto (-19), 3) := by decide +kernel
theorem d_Mo_run_58 : decode c_Mo_run 58 = .ok (.iload_n 2, 1) := by decide +kernel
theorem d_Mo_run_59 : decode c_Mo_run 59 = .ok (.ireturn, 1) := by decide +kernel
theorem d_Mo_step_0 : decode c_Mo_step 0 = .ok (.aload_n 0, 1) := by decide +kernel
theorem d_Mo_step_1 : decode c_Mo_step 1 = .ok (.getfield 16, 3) := by decide +kernel
theorem d_Mo_step_4 : decode c_Mo_step 4 = .ok (.aload_n 0, 1) := by decide +kernel
theorem d_Mo_step_5 : decode c_Mo_step 5 = .ok (.getfield 84, 3) := by decide +kernel
theorem d_Mo_step_8 : decode c_Mo_step 8 = .ok (.iaload, 1) := by decide +kernel
theorem d_Mo_step_9 : decode c_Mo_step 9 = .ok (.istore_n 1, 1) := by decide +kernel
theorem d_Mo_step_10 : decode c_Mo_step 10 = .ok (.aload_n 0, 1) := by decide +kernel
theorem d_Mo_step_11 : decode c_Mo_step 11 = .ok (.getfield 84, 3) := by decide +kernel
theorem d_Mo_step_14 : decode c_Mo_step 14 = .ok (.istore_n 2, 1) := by decide +kernel
theorem d_Mo_step_15 : decode c_Mo_step 15 = .ok (.aload_n 0, 1) := by decide +kernel
theorem d_Mo_step_16 : decode c_Mo_step 16 = .ok (.getfield 59, 3) := by decide +kernel
theorem d_Mo_step_19 : decode c_Mo_step 19 = .ok (.istore_n 3, 1) := by decide +kernel
theorem d_Mo_step_20 : decode c_Mo_step 20 = .ok (.aload_n 0, 1) := by decide +kernel
theorem d_Mo_step_21 : decode c_Mo_step 21 = .ok (.aload_n 0, 1) := by decide +kernel
theorem d_Mo_step_22 : decode c_Mo_step 22 = .ok (.getfield 84, 3) := by decide +kernel
theorem d_Mo_step_25 : decode c_Mo_step 25 = .ok (.bipush 63, 2) := by decide +kernel
theorem d_Mo_step_27 : decode c_Mo_step 27 = .ok (.if_icmp .ne 7, 3) := by decide +kernel
theorem d_Mo_step_30 : decode c_Mo_step 30 = .ok (.iconst 0, 1) := by decide +kernel
theorem d_Mo_step_31 : decode c_Mo_step 31 = .ok (.goto 9, 3) := by decide +kernel
theorem d_Mo_step_34 : decode c_Mo_step 34 = .ok (.aload_n 0, 1) := by decide +kernel
theorem d_Mo_step_35 : decode c_Mo_step 35 = .ok (.getfield 84, 3) := by decide +kernel
theorem d_Mo_step_38 : decode c_Mo_step 38 = .ok (.iconst 1, 1) := by decide +kernel
theorem d_Mo_step_39 : decode c_Mo_step 39 = .ok (.iadd, 1) := by decide +kernel
theorem d_Mo_step_40 : decode c_Mo_step 40 = .ok (.putfield 84, 3) := by decide +kernel
theorem d_Mo_step_43 : decode c_Mo_step 43 = .ok (.aload_n 0, 1) := by decide +kernel
theorem d_Mo_step_44 : decode c_Mo_step 44 = .ok (.iconst 0, 1) := by decide +kernel
theorem d_Mo_step_45 : decode c_Mo_step 45 = .ok (.putfield 59, 3) := by decide +kernel
theorem d_Mo_step_48 : decode c_Mo_step 48 = .ok (.iload_n 1, 1) := by decide +kernel
theorem d_Mo_step_49 : decode c_Mo_step 49 = .ok (.iconst 4, 1) := by decide +kernel
theorem d_Mo_step_50 : decode c_Mo_step 50 = .ok (.irem, 1) := by decide +kernel
theorem d_Mo_step_51 : decode c_Mo_step 51 = .ok (.istore 4, 2) := by decide +kernel
theorem d_Mo_step_53 : decode c_Mo_step 53 = .ok (.iload_n 1, 1) := by decide +kernel
theorem d_Mo_step_54 : decode c_Mo_step 54 = .ok (.iconst 4, 1) := by decide +kernel
theorem d_Mo_step_55 : decode c_Mo_step 55 = .ok (.idiv, 1) := by decide +kernel
theorem d_Mo_step_56 : decode c_Mo_step 56 = .ok (.bipush 64, 2) := by decide +kernel
theorem d_Mo_step_58 : decode c_Mo_step 58 = .ok (.irem, 1) := by decide +kernel
theorem d_Mo_step_59 : decode c_Mo_step 59 = .ok (.istore 5, 2) := by decide +kernel
theorem d_Mo_step_61 : decode c_Mo_step 61 = .ok (.iload 4, 2) := by decide +kernel
theorem d_Mo_step_63 : decode c_Mo_step 63 = .ok (.iconst 1, 1) := by decide +kernel
theorem d_Mo_step_64 : decode c_Mo_step 64 = .ok (.if_icmp .ne 20, 3) := by decide +kernel
theorem d_Mo_step_67 : decode c_Mo_step 67 = .ok (.aload_n 0, 1) := by decide +kernel
theorem d_Mo_step_68 : decode c_Mo_step 68 = .ok (.aload_n 0, 1) := by decide +kernel
theorem d_Mo_step_69 : decode c_Mo_step 69 = .ok (.getfield 84, 3) := by decide +kernel
theorem d_Mo_step_72 : decode c_Mo_step 72 = .ok (.putfield 81, 3) := by decide +kernel
theorem d_Mo_step_75 : decode c_Mo_step 75 = .ok (.aload_n 0, 1) := by decide +kernel
theorem d_Mo_step_76 : decode c_Mo_step 76 = .ok (.iload 5, 2) := by decide +kernel
theorem d_Mo_step_78 : decode c_Mo_step 78 = .ok (.putfield 84, 3) := by decide +kernel
theorem d_Mo_step_81 : decode c_Mo_step 81 = .ok (.goto 125, 3) := by decide +kernel
theorem d_Mo_step_84 : decode c_Mo_step 84 = .ok (.iload 4, 2) := by decide +kernel
theorem d_Mo_step_86 : decode c_Mo_step 86 = .ok (.iconst 3, 1) := by decide +kernel
theorem d_Mo_step_87 : decode c_Mo_step 87 = .ok (.if_icmp .ne 16, 3) := by decide +kernel
theorem d_Mo_step_90 : decode c_Mo_step 90 = .ok (.iload_n 3, 1) := by decide +kernel
theorem d_Mo_step_91 : decode c_Mo_step 91 = .ok (.ifCond .ne 115, 3) := by decide +kernel
theorem d_Mo_step_94 : decode c_Mo_step 94 = .ok (.aload_n 0, 1) := by decide +kernel
theorem d_Mo_step_95 : decode c_Mo_step 95 = .ok (.iload 5, 2) := by decide +kernel
theorem d_Mo_step_97 : decode c_Mo_step 97 = .ok (.putfield 84, 3) := by decide +kernel
theorem d_Mo_step_100 : decode c_Mo_step 100 = .ok (.goto 106, 3) := by decide +kernel
theorem d_Mo_step_103 : decode c_Mo_step 103 = .ok (.iload 4, 2) := by decide +kernel
theorem d_Mo_step_105 : decode c_Mo_step 105 = .ok (.iconst 2, 1) := by decide +kernel
theorem d_Mo_step_106 : decode c_Mo_step 106 = .ok (.if_icmp .ne 65, 3) := by decide +kernel
theorem d_Mo_step_109 : decode c_Mo_step 109 = .ok (.aload_n 0, 1) := by decide +kernel
theorem d_Mo_step_110 : decode c_Mo_step 110 = .ok (.iload_n 1, 1) := by decide +kernel
theorem d_Mo_step_111 : decode c_Mo_step 111 = .ok (.iconst 4, 1) := by decide +kernel
theorem d_Mo_step_112 : decode c_Mo_step 112 = .ok (.idiv, 1) := by decide +kernel
theorem d_Mo_step_113 : decode c_Mo_step 113 = .ok (.bipush 8, 2) := by decide +kernel
theorem d_Mo_step_115 : decode c_Mo_step 115 = .ok (.irem, 1) := by decide +kernel
theorem d_Mo_step_116 : decode c_Mo_step 116 = .ok (.invokevirtual 77, 3) := by decide +kernel
theorem d_Mo_step_119 : decode c_Mo_step 119 = .ok (.iload_n 1, 1) := by decide +kernel
theorem d_Mo_step_120 : decode c_Mo_step 120 = .ok (.bipush 32, 2) := by decide +kernel
theorem d_Mo_step_122 : decode c_Mo_step 122 = .ok (.idiv, 1) := by decide +kernel
theorem d_Mo_step_123 : decode c_Mo_step 123 = .ok (.istore 6, 2) := by decide +kernel
theorem d_Mo_step_125 : decode c_Mo_step 125 = .ok (.iload 6, 2) := by decide +kernel
theorem d_Mo_step_127 : decode c_Mo_step 127 = .ok (.bipush 8, 2) := by decide +kernel
theorem d_Mo_step_129 : decode c_Mo_step 129 = .ok (.if_icmp .lt 24, 3) := by decide +kernel
theorem d_Mo_step_132 : decode c_Mo_step 132 = .ok (.iload 6, 2) := by decide +kernel
theorem d_Mo_step_134 : decode c_Mo_step 134 = .ok (.bipush 19, 2) := by decide +kernel
theorem d_Mo_step_136 : decode c_Mo_step 136 = .ok (.if_icmp .le 10, 3) := by decide +kernel
theorem d_Mo_step_139 : decode c_Mo_step 139 = .ok (.iload 6, 2) := by decide +kernel
theorem d_Mo_step_141 : decode c_Mo_step 141 = .ok (.bipush 24, 2) := by decide +kernel
theorem d_Mo_step_143 : decode c_Mo_step 143 = .ok (.if_icmp .lt 10, 3) := by decide +kernel
theorem d_Mo_step_146 : decode c_Mo_step 146 = .ok (.iload 6, 2) := by decide +kernel
theorem d_Mo_step_148 : decode c_Mo_step 148 = .ok (.bipush 31, 2) := by decide +kernel
theorem d_Mo_step_150 : decode c_Mo_step 150 = .ok (.if_icmp .ne 12, 3) := by decide +kernel
theorem d_Mo_step_153 : decode c_Mo_step 153 = .ok (.aload_n 0, 1) := by decide +kernel
theorem d_Mo_step_154 : decode c_Mo_step 154 = .ok (.iload 6, 2) := by decide +kernel
theorem d_Mo_step_156 : decode c_Mo_step 156 = .ok (.invokevirtual 96, 3) := by decide +kernel
theorem d_Mo_step_159 : decode c_Mo_step 159 = .ok (.goto 9, 3) := by decide +kernel
theorem d_Mo_step_162 : decode c_Mo_step 162 = .ok (.aload_n 0, 1) := by decide +kernel
theorem d_Mo_step_163 : decode c_Mo_step 163 = .ok (.iload 6, 2) := by decide +kernel
theorem d_Mo_step_165 : decode c_Mo_step 165 = .ok (.invokevirtual 99, 3) := by decide +kernel
theorem d_Mo_step_168 : decode c_Mo_step 168 = .ok (.goto 38, 3) := by decide +kernel
theorem d_Mo_step_171 : decode c_Mo_step 171 = .ok (.iload_n 1, 1) := by decide +kernel
theorem d_Mo_step_172 : decode c_Mo_step 172 = .ok (.iconst 4, 1) := by decide +kernel
theorem d_Mo_step_173 : decode c_Mo_step 173 = .ok (.idiv, 1) := by decide +kernel
theorem d_Mo_step_174 : decode c_Mo_step 174 = .ok (.bipush 16, 2) := by decide +kernel
theorem d_Mo_step_176 : decode c_Mo_step 176 = .ok (.irem, 1) := by decide +kernel
theorem d_Mo_step_177 : decode c_Mo_step 177 = .ok (.istore 6, 2) := by decide +kernel
theorem d_Mo_step_179 : decode c_Mo_step 179 = .ok (.iload 6, 2) := by decide +kernel
theorem d_Mo_step_181 : decode c_Mo_step 181 = .ok (.bipush 9, 2) := by decide +kernel
theorem d_Mo_step_183 : decode c_Mo_step 183 = .ok (.if_icmp .ge 16, 3) := by decide +kernel
theorem d_Mo_step_186 : decode c_Mo_step 186 = .ok (.aload_n 0, 1) := by decide +kernel
theorem d_Mo_step_187 : decode c_Mo_step 187 = .ok (.iload 6, 2) := by decide +kernel
theorem d_Mo_step_189 : decode c_Mo_step 189 = .ok (.iload_n 1, 1) := by decide +kernel
theorem d_Mo_step_190 : decode c_Mo_step 190 = .ok (.bipush 64, 2) := by decide +kernel
theorem d_Mo_step_192 : decode c_Mo_step 192 = .ok (.idiv, 1) := by decide +kernel
theorem d_Mo_step_193 : decode c_Mo_step 193 = .ok (.invokevirtual 102, 3) := by decide +kernel
theorem d_Mo_step_196 : decode c_Mo_step 196 = .ok (.goto 10, 3) := by decide +kernel
theorem d_Mo_step_199 : decode c_Mo_step 199 = .ok (.aload_n 0, 1) := by decide +kernel
theorem d_Mo_step_200 : decode c_Mo_step 200 = .ok (.iload 6, 2) := by decide +kernel
theorem d_Mo_step_202 : decode c_Mo_step 202 = .ok (.iload_n 2, 1) := by decide +kernel
theorem d_Mo_step_203 : decode c_Mo_step 203 = .ok (.invokevirtual 105, 3) := by decide +kernel
theorem d_Mo_step_206 : decode c_Mo_step 206 = .ok (.return_, 1) := by decide +kernel
theorem d_Mo_field_0 : decode c_Mo_field 0 = .ok (.iload_n 1, 1) := by decide +kernel
theorem d_Mo_field_1 : decode c_Mo_field 1 = .ok (.ifCond .ne 10, 3) := by decide +kernel
theorem d_Mo_field_4 : decode c_Mo_field 4 = .ok (.aload_n 0, 1) := by decide +kernel
theorem d_Mo_field_5 : decode c_Mo_field 5 = .ok (.getfield 45, 3) := by decide +kernel
theorem d_Mo_field_8 : decode c_Mo_field 8 = .ok (.goto 38, 3) := by decide +kernel
theorem d_Mo_field_11 : decode c_Mo_field 11 = .ok (.iload_n 1, 1) := by decide +kernel
theorem d_Mo_field_12 : decode c_Mo_field 12 = .ok (.iconst 2, 1) := by decide +kernel
theorem d_Mo_field_13 : decode c_Mo_field 13 = .ok (.if_icmp .ne 7, 3) := by decide +kernel
theorem d_Mo_field_16 : decode c_Mo_field 16 = .ok (.iconst 2, 1) := by decide +kernel
theorem d_Mo_field_17 : decode c_Mo_field 17 = .ok (.goto 29, 3) := by decide +kernel
theorem d_Mo_field_20 : decode c_Mo_field 20 = .ok (.iload_n 1, 1) := by decide +kernel
theorem d_Mo_field_21 : decode c_Mo_field 21 = .ok (.iconst 4, 1) := by decide +kernel
theorem d_Mo_field_22 : decode c_Mo_field 22 = .ok (.if_icmp .ne 8, 3) := by decide +kernel
theorem d_Mo_field_25 : decode c_Mo_field 25 = .ok (.bipush 13, 2) := by decide +kernel
theorem d_Mo_field_27 : decode c_Mo_field 27 = .ok (.goto 19, 3) := by decide +kernel
theorem d_Mo_field_30 : decode c_Mo_field 30 = .ok (.iload_n 1, 1) := by decide +kernel
theorem d_Mo_field_31 : decode c_Mo_field 31 = .ok (.iconst 5, 1) := by decide +kernel
theorem d_Mo_field_32 : decode c_Mo_field 32 = .ok (.if_icmp .eq 9, 3) := by decide +kernel
theorem d_Mo_field_35 : decode c_Mo_field 35 = .ok (.iload_n 1, 1) := by decide +kernel
theorem d_Mo_field_36 : decode c_Mo_field 36 = .ok (.bipush 6, 2) := by decide +kernel
theorem d_Mo_field_38 : decode c_Mo_field 38 = .ok (.if_icmp .ne 7, 3) := by decide +kernel
theorem d_Mo_field_41 : decode c_Mo_field 41 = .ok (.iconst 3, 1) := by decide +kernel
theorem d_Mo_field_42 : decode c_Mo_field 42 = .ok (.goto 4, 3) := by decide +kernel
theorem d_Mo_field_45 : decode c_Mo_field 45 = .ok (.iconst 0, 1) := by decide +kernel
theorem d_Mo_field_46 : decode c_Mo_field 46 = .ok (.istore_n 2, 1) := by decide +kernel
theorem d_Mo_field_47 : decode c_Mo_field 47 = .ok (.iload_n 1, 1) := by decide +kernel
theorem d_Mo_field_48 : decode c_Mo_field 48 = .ok (.ifCond .eq 8, 3) := by decide +kernel
theorem d_Mo_field_51 : decode c_Mo_field 51 = .ok (.iload_n 1, 1) := by decide +kernel
theorem d_Mo_field_52 : decode c_Mo_field 52 = .ok (.iconst 1, 1) := by decide +kernel
theorem d_Mo_field_53 : decode c_Mo_field 53 = .ok (.if_icmp .ne 10, 3) := by decide +kernel
theorem d_Mo_field_56 : decode c_Mo_field 56 = .ok (.aload_n 0, 1) := by decide +kernel
theorem d_Mo_field_57 : decode c_Mo_field 57 = .ok (.getfield 45, 3) := by decide +kernel
theorem d_Mo_field_60 : decode c_Mo_field 60 = .ok (.goto 29, 3) := by decide +kernel
theorem d_Mo_field_63 : decode c_Mo_field 63 = .ok (.iload_n 1, 1) := by decide +kernel
theorem d_Mo_field_64 : decode c_Mo_field 64 = .ok (.iconst 2, 1) := by decide +kernel
theorem d_Mo_field_65 : decode c_Mo_field 65 = .ok (.if_icmp .eq 8, 3) := by decide +kernel
theorem d_Mo_field_68 : decode c_Mo_field 68 = .ok (.iload_n 1, 1) := by decide +kernel
theorem d_Mo_field_69 : decode c_Mo_field 69 = .ok (.iconst 3, 1) := by decide +kernel
theorem d_Mo_field_70 : decode c_Mo_field 70 = .ok (.if_icmp .ne 7, 3) := by decide +kernel
theorem d_Mo_field_73 : decode c_Mo_field 73 = .ok (.iconst 2, 1) := by decide +kernel
theorem d_Mo_field_74 : decode c_Mo_field 74 = .ok (.goto 15, 3) := by decide +kernel
theorem d_Mo_field_77 : decode c_Mo_field 77 = .ok (.iload_n 1, 1) := by decide +kernel
theorem d_Mo_field_78 : decode c_Mo_field 78 = .ok (.iconst 5, 1) := by decide +kernel
theorem d_Mo_field_79 : decode c_Mo_field 79 = .ok (.if_icmp .ne 8, 3) := by decide +kernel
theorem d_Mo_field_82 : decode c_Mo_field 82 = .ok (.bipush 12, 2) := by decide +kernel
theorem d_Mo_field_84 : decode c_Mo_field 84 = .ok (.goto 5, 3) := by decide +kernel
theorem d_Mo_field_87 : decode c_Mo_field 87 = .ok (.bipush 13, 2) := by decide +kernel
theorem d_Mo_field_89 : decode c_Mo_field 89 = .ok (.istore_n 3, 1) := by decide +kernel
theorem d_Mo_field_90 : decode c_Mo_field 90 = .ok (.aload_n 0, 1) := by decide +kernel
theorem d_Mo_field_91 : decode c_Mo_field 91 = .ok (.aload_n 0, 1) := by decide +kernel
theorem d_Mo_field_92 : decode c_Mo_field 92 = .ok (.getfield 7, 3) := by decide +kernel
theorem d_Mo_field_95 : decode c_Mo_field 95 = .ok (.iload_n 2, 1) := by decide +kernel
theorem d_Mo_field_96 : decode c_Mo_field 96 = .ok (.laload, 1) := by decide +kernel
theorem d_Mo_field_97 : decode c_Mo_field 97 = .ok (.putfield 48, 3) := by decide +kernel
theorem d_Mo_field_100 : decode c_Mo_field 100 = .ok (.aload_n 0, 1) := by decide +kernel
theorem d_Mo_field_101 : decode c_Mo_field 101 = .ok (.aload_n 0, 1) := by decide +kernel
theorem d_Mo_field_102 : decode c_Mo_field 102 = .ok (.getfield 7, 3) := by decide +kernel
theorem d_Mo_field_105 : decode c_Mo_field 105 = .ok (.iload_n 3, 1) := by decide +kernel
theorem d_Mo_field_106 : decode c_Mo_field 106 = .ok (.iload_n 2, 1) := by decide +kernel
theorem d_Mo_field_107 : decode c_Mo_field 107 = .ok (.isub, 1) := by decide +kernel
theorem d_Mo_field_108 : decode c_Mo_field 108 = .ok (.iconst 1, 1) := by decide +kernel
theorem d_Mo_field_109 : decode c_Mo_field 109 = .ok (.iadd, 1) := by decide +kernel
theorem d_Mo_field_110 : decode c_Mo_field 110 = .ok (.laload, 1) := by decide +kernel
theorem d_Mo_field_111 : decode c_Mo_field 111 = .ok (.putfield 52, 3) := by decide +kernel
theorem d_Mo_field_114 : decode c_Mo_field 114 = .ok (.return_, 1) := by decide +kernel
theorem d_Mo_move_0 : decode c_Mo_move 0 = .ok (.iload_n 1, 1) := by decide +kernel
theorem d_Mo_move_1 : decode c_Mo_move 1 = .ok (.tableswitch 218 0 23 #[111, 111, 111, 120, 129, 142, 151, 164, 218, 218, 218, 218, 218, 218, 218, 218, 218, 218, 218, 218, 173, 195, 195, 195], 111) := by decide +kernel
theorem d_Mo_move_112 : decode c_Mo_move 112 = .ok (.aload_n 0, 1) := by decide +kernel
theorem d_Mo_move_113 : decode c_Mo_move 113 = .ok (.iload_n 1, 1) := by decide +kernel
theorem d_Mo_move_114 : decode c_Mo_move 114 = .ok (.lconst 0, 1) := by decide +kernel
theorem d_Mo_move_115 : decode c_Mo_move 115 = .ok (.invokevirtual 63, 3) := by decide +kernel
theorem d_Mo_move_118 : decode c_Mo_move 118 = .ok (.goto 111, 3) := by decide +kernel
theorem d_Mo_move_121 : decode c_Mo_move 121 = .ok (.aload_n 0, 1) := by decide +kernel
theorem d_Mo_move_122 : decode c_Mo_move 122 = .ok (.iconst 0, 1) := by decide +kernel
theorem d_Mo_move_123 : decode c_Mo_move 123 = .ok (.iconst 1, 1) := by decide +kernel
theorem d_Mo_move_124 : decode c_Mo_move 124 = .ok (.invokevirtual 67, 3) := by decide +kernel
theorem d_Mo_move_127 : decode c_Mo_move 127 = .ok (.goto 102, 3) := by decide +kernel
theorem d_Mo_move_130 : decode c_Mo_move 130 = .ok (.aload_n 0, 1) := by decide +kernel
theorem d_Mo_move_131 : decode c_Mo_move 131 = .ok (.iconst 1, 1) := by decide +kernel
theorem d_Mo_move_132 : decode c_Mo_move 132 = .ok (.aload_n 0, 1) := by decide +kernel
theorem d_Mo_move_133 : decode c_Mo_move 133 = .ok (.iconst 0, 1) := by decide +kernel
theorem d_Mo_move_134 : decode c_Mo_move 134 = .ok (.invokevirtual 55, 3) := by decide +kernel
theorem d_Mo_move_137 : decode c_Mo_move 137 = .ok (.invokevirtual 63, 3) := by decide +kernel
theorem d_Mo_move_140 : decode c_Mo_move 140 = .ok (.goto 89, 3) := by decide +kernel
theorem d_Mo_move_143 : decode c_Mo_move 143 = .ok (.aload_n 0, 1) := by decide +kernel
theorem d_Mo_move_144 : decode c_Mo_move 144 = .ok (.iconst 0, 1) := by decide +kernel
theorem d_Mo_move_145 : decode c_Mo_move 145 = .ok (.iconst 2, 1) := by decide +kernel
theorem d_Mo_move_146 : decode c_Mo_move 146 = .ok (.invokevirtual 67, 3) := by decide +kernel
theorem d_Mo_move_149 : decode c_Mo_move 149 = .ok (.goto 80, 3) := by decide +kernel
theorem d_Mo_move_152 : decode c_Mo_move 152 = .ok (.aload_n 0, 1) := by decide +kernel
theorem d_Mo_move_153 : decode c_Mo_move 153 = .ok (.iconst 2, 1) := by decide +kernel
theorem d_Mo_move_154 : decode c_Mo_move 154 = .ok (.aload_n 0, 1) := by decide +kernel
theorem d_Mo_move_155 : decode c_Mo_move 155 = .ok (.iconst 1, 1) := by decide +kernel
theorem d_Mo_move_156 : decode c_Mo_move 156 = .ok (.invokevirtual 55, 3) := by decide +kernel
theorem d_Mo_move_159 : decode c_Mo_move 159 = .ok (.invokevirtual 63, 3) := by decide +kernel
theorem d_Mo_move_162 : decode c_Mo_move 162 = .ok (.goto 67, 3) := by decide +kernel
theorem d_Mo_move_165 : decode c_Mo_move 165 = .ok (.aload_n 0, 1) := by decide +kernel
theorem d_Mo_move_166 : decode c_Mo_move 166 = .ok (.iconst 1, 1) := by decide +kernel
theorem d_Mo_move_167 : decode c_Mo_move 167 = .ok (.iconst 2, 1) := by decide +kernel
theorem d_Mo_move_168 : decode c_Mo_move 168 = .ok (.invokevirtual 67, 3) := by decide +kernel
theorem d_Mo_move_171 : decode c_Mo_move 171 = .ok (.goto 58, 3) := by decide +kernel
theorem d_Mo_move_174 : decode c_Mo_move 174 = .ok (.aload_n 0, 1) := by decide +kernel
theorem d_Mo_move_175 : decode c_Mo_move 175 = .ok (.iconst 0, 1) := by decide +kernel
theorem d_Mo_move_176 : decode c_Mo_move 176 = .ok (.aload_n 0, 1) := by decide +kernel
theorem d_Mo_move_177 : decode c_Mo_move 177 = .ok (.iconst 0, 1) := by decide +kernel
theorem d_Mo_move_178 : decode c_Mo_move 178 = .ok (.invokevirtual 55, 3) := by decide +kernel
theorem d_Mo_move_181 : decode c_Mo_move 181 = .ok (.ldc2_w 40, 3) := by decide +kernel
theorem d_Mo_move_184 : decode c_Mo_move 184 = .ok (.lmul, 1) := by decide +kernel
theorem d_Mo_move_185 : decode c_Mo_move 185 = .ok (.aload_n 0, 1) := by decide +kernel
theorem d_Mo_move_186 : decode c_Mo_move 186 = .ok (.getfield 52, 3) := by decide +kernel
theorem d_Mo_move_189 : decode c_Mo_move 189 = .ok (.lrem, 1) := by decide +kernel
theorem d_Mo_move_190 : decode c_Mo_move 190 = .ok (.invokevirtual 63, 3) := by decide +kernel
theorem d_Mo_move_193 : decode c_Mo_move 193 = .ok (.goto 36, 3) := by decide +kernel
theorem d_Mo_move_196 : decode c_Mo_move 196 = .ok (.aload_n 0, 1) := by decide +kernel
theorem d_Mo_move_197 : decode c_Mo_move 197 = .ok (.iload_n 1, 1) := by decide +kernel
theorem d_Mo_move_198 : decode c_Mo_move 198 = .ok (.bipush 21, 2) := by decide +kernel
theorem d_Mo_move_200 : decode c_Mo_move 200 = .ok (.isub, 1) := by decide +kernel
theorem d_Mo_move_201 : decode c_Mo_move 201 = .ok (.aload_n 0, 1) := by decide +kernel
theorem d_Mo_move_202 : decode c_Mo_move 202 = .ok (.iload_n 1, 1) := by decide +kernel
theorem d_Mo_move_203 : decode c_Mo_move 203 = .ok (.bipush 21, 2) := by decide +kernel
theorem d_Mo_move_205 : decode c_Mo_move 205 = .ok (.isub, 1) := by decide +kernel
theorem d_Mo_move_206 : decode c_Mo_move 206 = .ok (.invokevirtual 55, 3) := by decide +kernel
theorem d_Mo_move_209 : decode c_Mo_move 209 = .ok (.ldc2_w 40, 3) := by decide +kernel
theorem d_Mo_move_212 : decode c_Mo_move 212 = .ok (.ldiv, 1) := by decide +kernel
theorem d_Mo_move_213 : decode c_Mo_move 213 = .ok (.invokevirtual 63, 3) := by decide +kernel
theorem d_Mo_move_216 : decode c_Mo_move 216 = .ok (.goto 13, 3) := by decide +kernel
theorem d_Mo_move_219 : decode c_Mo_move 219 = .ok (.aload_n 0, 1) := by decide +kernel
theorem d_Mo_move_220 : decode c_Mo_move 220 = .ok (.iconst 0, 1) := by decide +kernel
theorem d_Mo_move_221 : decode c_Mo_move 221 = .ok (.aload_n 0, 1) := by decide +kernel
theorem d_Mo_move_222 : decode c_Mo_move 222 = .ok (.iconst 2, 1) := by decide +kernel
theorem d_Mo_move_223 : decode c_Mo_move 223 = .ok (.invokevirtual 55, 3) := by decide +kernel
theorem d_Mo_move_226 : decode c_Mo_move 226 = .ok (.invokevirtual 63, 3) := by decide +kernel
theorem d_Mo_move_229 : decode c_Mo_move 229 = .ok (.return_, 1) := by decide +kernel
theorem d_Mo_write_0 : decode c_Mo_write 0 = .ok (.aload_n 0, 1) := by decide +kernel
theorem d_Mo_write_1 : decode c_Mo_write 1 = .ok (.getfield 13, 3) := by decide +kernel
theorem d_Mo_write_4 : decode c_Mo_write 4 = .ok (.iload_n 1, 1) := by decide +kernel
theorem d_Mo_write_5 : decode c_Mo_write 5 = .ok (.aload_n 0, 1) := by decide +kernel
theorem d_Mo_write_6 : decode c_Mo_write 6 = .ok (.getfield 13, 3) := by decide +kernel
theorem d_Mo_write_9 : decode c_Mo_write 9 = .ok (.iload_n 1, 1) := by decide +kernel
theorem d_Mo_write_10 : decode c_Mo_write 10 = .ok (.laload, 1) := by decide +kernel
theorem d_Mo_write_11 : decode c_Mo_write 11 = .ok (.lload_n 2, 1) := by decide +kernel
theorem d_Mo_write_12 : decode c_Mo_write 12 = .ok (.aload_n 0, 1) := by decide +kernel
theorem d_Mo_write_13 : decode c_Mo_write 13 = .ok (.iload_n 1, 1) := by decide +kernel
theorem d_Mo_write_14 : decode c_Mo_write 14 = .ok (.invokevirtual 55, 3) := by decide +kernel
theorem d_Mo_write_17 : decode c_Mo_write 17 = .ok (.lsub, 1) := by decide +kernel
theorem d_Mo_write_18 : decode c_Mo_write 18 = .ok (.aload_n 0, 1) := by decide +kernel
theorem d_Mo_write_19 : decode c_Mo_write 19 = .ok (.getfield 48, 3) := by decide +kernel
theorem d_Mo_write_22 : decode c_Mo_write 22 = .ok (.lmul, 1) := by decide +kernel
theorem d_Mo_write_23 : decode c_Mo_write 23 = .ok (.ladd, 1) := by decide +kernel
theorem d_Mo_write_24 : decode c_Mo_write 24 = .ok (.lastore, 1) := by decide +kernel
theorem d_Mo_write_25 : decode c_Mo_write 25 = .ok (.return_, 1) := by decide +kernel
theorem d_Mo_part_0 : decode c_Mo_part 0 = .ok (.aload_n 0, 1) := by decide +kernel
theorem d_Mo_part_1 : decode c_Mo_part 1 = .ok (.getfield 13, 3) := by decide +kernel
theorem d_Mo_part_4 : decode c_Mo_part 4 = .ok (.iload_n 1, 1) := by decide +kernel
theorem d_Mo_part_5 : decode c_Mo_part 5 = .ok (.laload, 1) := by decide +kernel
theorem d_Mo_part_6 : decode c_Mo_part 6 = .ok (.aload_n 0, 1) := by decide +kernel
theorem d_Mo_part_7 : decode c_Mo_part 7 = .ok (.getfield 48, 3) := by decide +kernel
theorem d_Mo_part_10 : decode c_Mo_part 10 = .ok (.ldiv, 1) := by decide +kernel
theorem d_Mo_part_11 : decode c_Mo_part 11 = .ok (.aload_n 0, 1) := by decide +kernel
theorem d_Mo_part_12 : decode c_Mo_part 12 = .ok (.getfield 52, 3) := by decide +kernel
theorem d_Mo_part_15 : decode c_Mo_part 15 = .ok (.lrem, 1) := by decide +kernel
theorem d_Mo_part_16 : decode c_Mo_part 16 = .ok (.lreturn, 1) := by decide +kernel
theorem d_Mo_change_0 : decode c_Mo_change 0 = .ok (.aload_n 0, 1) := by decide +kernel
theorem d_Mo_change_1 : decode c_Mo_change 1 = .ok (.iload_n 1, 1) := by decide +kernel
theorem d_Mo_change_2 : decode c_Mo_change 2 = .ok (.invokevirtual 55, 3) := by decide +kernel
theorem d_Mo_change_5 : decode c_Mo_change 5 = .ok (.lstore_n 3, 1) := by decide +kernel
theorem d_Mo_change_6 : decode c_Mo_change 6 = .ok (.aload_n 0, 1) := by decide +kernel
theorem d_Mo_change_7 : decode c_Mo_change 7 = .ok (.iload_n 1, 1) := by decide +kernel
theorem d_Mo_change_8 : decode c_Mo_change 8 = .ok (.aload_n 0, 1) := by decide +kernel
theorem d_Mo_change_9 : decode c_Mo_change 9 = .ok (.iload_n 2, 1) := by decide +kernel
theorem d_Mo_change_10 : decode c_Mo_change 10 = .ok (.invokevirtual 55, 3) := by decide +kernel
theorem d_Mo_change_13 : decode c_Mo_change 13 = .ok (.invokevirtual 63, 3) := by decide +kernel
theorem d_Mo_change_16 : decode c_Mo_change 16 = .ok (.aload_n 0, 1) := by decide +kernel
theorem d_Mo_change_17 : decode c_Mo_change 17 = .ok (.iload_n 2, 1) := by decide +kernel
theorem d_Mo_change_18 : decode c_Mo_change 18 = .ok (.lload_n 3, 1) := by decide +kernel
theorem d_Mo_change_19 : decode c_Mo_change 19 = .ok (.invokevirtual 63, 3) := by decide +kernel
theorem d_Mo_change_22 : decode c_Mo_change 22 = .ok (.return_, 1) := by decide +kernel
theorem d_Mo_reckon_0 : decode c_Mo_reckon 0 = .ok (.aload_n 0, 1) := by decide +kernel
theorem d_Mo_reckon_1 : decode c_Mo_reckon 1 = .ok (.iconst 0, 1) := by decide +kernel
theorem d_Mo_reckon_2 : decode c_Mo_reckon 2 = .ok (.invokevirtual 55, 3) := by decide +kernel
theorem d_Mo_reckon_5 : decode c_Mo_reckon 5 = .ok (.lstore_n 2, 1) := by decide +kernel
theorem d_Mo_reckon_6 : decode c_Mo_reckon 6 = .ok (.aload_n 0, 1) := by decide +kernel
theorem d_Mo_reckon_7 : decode c_Mo_reckon 7 = .ok (.iconst 1, 1) := by decide +kernel
theorem d_Mo_reckon_8 : decode c_Mo_reckon 8 = .ok (.invokevirtual 55, 3) := by decide +kernel
theorem d_Mo_reckon_11 : decode c_Mo_reckon 11 = .ok (.lstore 4, 2) := by decide +kernel
theorem d_Mo_reckon_13 : decode c_Mo_reckon 13 = .ok (.aload_n 0, 1) := by decide +kernel
theorem d_Mo_reckon_14 : decode c_Mo_reckon 14 = .ok (.iconst 2, 1) := by decide +kernel
theorem d_Mo_reckon_15 : decode c_Mo_reckon 15 = .ok (.invokevirtual 55, 3) := by decide +kernel
theorem d_Mo_reckon_18 : decode c_Mo_reckon 18 = .ok (.lstore 6, 2) := by decide +kernel
theorem d_Mo_reckon_20 : decode c_Mo_reckon 20 = .ok (.iload_n 1, 1) := by decide +kernel
theorem d_Mo_reckon_21 : decode c_Mo_reckon 21 = .ok (.tableswitch 358 8 29 #[103, 115, 127, 139, 150, 162, 174, 186, 198, 209, 221, 232, 358, 358, 358, 358, 245, 264, 283, 302, 321, 339], 103) := by decide +kernel
theorem d_Mo_reckon_124 : decode c_Mo_reckon 124 = .ok (.aload_n 0, 1) := by decide +kernel
theorem d_Mo_reckon_125 : decode c_Mo_reckon 125 = .ok (.iconst 0, 1) := by decide +kernel
theorem d_Mo_reckon_126 : decode c_Mo_reckon 126 = .ok (.lload_n 2, 1) := by decide +kernel
theorem d_Mo_reckon_127 : decode c_Mo_reckon 127 = .ok (.lload 4, 2) := by decide +kernel
theorem d_Mo_reckon_129 : decode c_Mo_reckon 129 = .ok (.ladd, 1) := by decide +kernel
theorem d_Mo_reckon_130 : decode c_Mo_reckon 130 = .ok (.invokevirtual 71, 3) := by decide +kernel
theorem d_Mo_reckon_133 : decode c_Mo_reckon 133 = .ok (.goto 256, 3) := by decide +kernel
theorem d_Mo_reckon_136 : decode c_Mo_reckon 136 = .ok (.aload_n 0, 1) := by decide +kernel
theorem d_Mo_reckon_137 : decode c_Mo_reckon 137 = .ok (.iconst 0, 1) := by decide +kernel
theorem d_Mo_reckon_138 : decode c_Mo_reckon 138 = .ok (.lload_n 2, 1) := by decide +kernel
theorem d_Mo_reckon_139 : decode c_Mo_reckon 139 = .ok (.lload 6, 2) := by decide +kernel
theorem d_Mo_reckon_141 : decode c_Mo_reckon 141 = .ok (.ladd, 1) := by decide +kernel
theorem d_Mo_reckon_142 : decode c_Mo_reckon 142 = .ok (.invokevirtual 71, 3) := by decide +kernel
theorem d_Mo_reckon_145 : decode c_Mo_reckon 145 = .ok (.goto 244, 3) := by decide +kernel
theorem d_Mo_reckon_148 : decode c_Mo_reckon 148 = .ok (.aload_n 0, 1) := by decide +kernel
theorem d_Mo_reckon_149 : decode c_Mo_reckon 149 = .ok (.iconst 2, 1) := by decide +kernel
theorem d_Mo_reckon_150 : decode c_Mo_reckon 150 = .ok (.lload_n 2, 1) := by decide +kernel
theorem d_Mo_reckon_151 : decode c_Mo_reckon 151 = .ok (.lload 6, 2) := by decide +kernel
theorem d_Mo_reckon_153 : decode c_Mo_reckon 153 = .ok (.ladd, 1) := by decide +kernel
theorem d_Mo_reckon_154 : decode c_Mo_reckon 154 = .ok (.invokevirtual 71, 3) := by decide +kernel
theorem d_Mo_reckon_157 : decode c_Mo_reckon 157 = .ok (.goto 232, 3) := by decide +kernel
theorem d_Mo_reckon_160 : decode c_Mo_reckon 160 = .ok (.aload_n 0, 1) := by decide +kernel
theorem d_Mo_reckon_161 : decode c_Mo_reckon 161 = .ok (.iconst 0, 1) := by decide +kernel
theorem d_Mo_reckon_162 : decode c_Mo_reckon 162 = .ok (.lload_n 2, 1) := by decide +kernel
theorem d_Mo_reckon_163 : decode c_Mo_reckon 163 = .ok (.lconst 1, 1) := by decide +kernel
theorem d_Mo_reckon_164 : decode c_Mo_reckon 164 = .ok (.ladd, 1) := by decide +kernel
theorem d_Mo_reckon_165 : decode c_Mo_reckon 165 = .ok (.invokevirtual 71, 3) := by decide +kernel
theorem d_Mo_reckon_168 : decode c_Mo_reckon 168 = .ok (.goto 221, 3) := by decide +kernel
theorem d_Mo_reckon_171 : decode c_Mo_reckon 171 = .ok (.aload_n 0, 1) := by decide +kernel
theorem d_Mo_reckon_172 : decode c_Mo_reckon 172 = .ok (.iconst 2, 1) := by decide +kernel
theorem d_Mo_reckon_173 : decode c_Mo_reckon 173 = .ok (.lload 6, 2) := by decide +kernel
theorem d_Mo_reckon_175 : decode c_Mo_reckon 175 = .ok (.lconst 1, 1) := by decide +kernel
theorem d_Mo_reckon_176 : decode c_Mo_reckon 176 = .ok (.ladd, 1) := by decide +kernel
theorem d_Mo_reckon_177 : decode c_Mo_reckon 177 = .ok (.invokevirtual 71, 3) := by decide +kernel
theorem d_Mo_reckon_180 : decode c_Mo_reckon 180 = .ok (.goto 209, 3) := by decide +kernel
theorem d_Mo_reckon_183 : decode c_Mo_reckon 183 = .ok (.aload_n 0, 1) := by decide +kernel
theorem d_Mo_reckon_184 : decode c_Mo_reckon 184 = .ok (.iconst 0, 1) := by decide +kernel
theorem d_Mo_reckon_185 : decode c_Mo_reckon 185 = .ok (.lload_n 2, 1) := by decide +kernel
theorem d_Mo_reckon_186 : decode c_Mo_reckon 186 = .ok (.lload 4, 2) := by decide +kernel
theorem d_Mo_reckon_188 : decode c_Mo_reckon 188 = .ok (.lsub, 1) := by decide +kernel
theorem d_Mo_reckon_189 : decode c_Mo_reckon 189 = .ok (.invokevirtual 71, 3) := by decide +kernel
theorem d_Mo_reckon_192 : decode c_Mo_reckon 192 = .ok (.goto 197, 3) := by decide +kernel
theorem d_Mo_reckon_195 : decode c_Mo_reckon 195 = .ok (.aload_n 0, 1) := by decide +kernel
theorem d_Mo_reckon_196 : decode c_Mo_reckon 196 = .ok (.iconst 0, 1) := by decide +kernel
theorem d_Mo_reckon_197 : decode c_Mo_reckon 197 = .ok (.lload_n 2, 1) := by decide +kernel
theorem d_Mo_reckon_198 : decode c_Mo_reckon 198 = .ok (.lload 6, 2) := by decide +kernel
theorem d_Mo_reckon_200 : decode c_Mo_reckon 200 = .ok (.lsub, 1) := by decide +kernel
theorem d_Mo_reckon_201 : decode c_Mo_reckon 201 = .ok (.invokevirtual 71, 3) := by decide +kernel
theorem d_Mo_reckon_204 : decode c_Mo_reckon 204 = .ok (.goto 185, 3) := by decide +kernel
theorem d_Mo_reckon_207 : decode c_Mo_reckon 207 = .ok (.aload_n 0, 1) := by decide +kernel
