theorem d_Mo_digit_34 : decode c_Mo_digit 34 = .ok (.isub, 1) := by decide +kernel
theorem d_Mo_digit_35 : decode c_Mo_digit 35 = .ok (.bipush 10, 2) := by decide +kernel
theorem d_Mo_digit_37 : decode c_Mo_digit 37 = .ok (.iadd, 1) := by decide +kernel
theorem d_Mo_digit_38 : decode c_Mo_digit 38 = .ok (.goto 4, 3) := by decide +kernel
theorem d_Mo_digit_41 : decode c_Mo_digit 41 = .ok (.iconst (-1), 1) := by decide +kernel
theorem d_Mo_digit_42 : decode c_Mo_digit 42 = .ok (.ireturn, 1) := by decide +kernel
theorem d_Mo_fieldOf_0 : decode c_Mo_fieldOf 0 = .ok (.iload_n 0, 1) := by decide +kernel
theorem d_Mo_fieldOf_1 : decode c_Mo_fieldOf 1 = .ok (.tableswitch 113 101 120 #[99, 113, 113, 113, 113, 113, 113, 113, 105, 107, 113, 95, 97, 113, 103, 113, 113, 113, 110, 101], 95) := by decide +kernel
theorem d_Mo_fieldOf_96 : decode c_Mo_fieldOf 96 = .ok (.iconst 0, 1) := by decide +kernel
theorem d_Mo_fieldOf_97 : decode c_Mo_fieldOf 97 = .ok (.ireturn, 1) := by decide +kernel
theorem d_Mo_fieldOf_98 : decode c_Mo_fieldOf 98 = .ok (.iconst 1, 1) := by decide +kernel
theorem d_Mo_fieldOf_99 : decode c_Mo_fieldOf 99 = .ok (.ireturn, 1) := by decide +kernel
theorem d_Mo_fieldOf_100 : decode c_Mo_fieldOf 100 = .ok (.iconst 2, 1) := by decide +kernel
theorem d_Mo_fieldOf_101 : decode c_Mo_fieldOf 101 = .ok (.ireturn, 1) := by decide +kernel
theorem d_Mo_fieldOf_102 : decode c_Mo_fieldOf 102 = .ok (.iconst 3, 1) := by decide +kernel
theorem d_Mo_fieldOf_103 : decode c_Mo_fieldOf 103 = .ok (.ireturn, 1) := by decide +kernel
theorem d_Mo_fieldOf_104 : decode c_Mo_fieldOf 104 = .ok (.iconst 4, 1) := by decide +kernel
theorem d_Mo_fieldOf_105 : decode c_Mo_fieldOf 105 = .ok (.ireturn, 1) := by decide +kernel
theorem d_Mo_fieldOf_106 : decode c_Mo_fieldOf 106 = .ok (.iconst 5, 1) := by decide +kernel
theorem d_Mo_fieldOf_107 : decode c_Mo_fieldOf 107 = .ok (.ireturn, 1) := by decide +kernel
theorem d_Mo_fieldOf_108 : decode c_Mo_fieldOf 108 = .ok (.bipush 6, 2) := by decide +kernel
theorem d_Mo_fieldOf_110 : decode c_Mo_fieldOf 110 = .ok (.ireturn, 1) := by decide +kernel
theorem d_Mo_fieldOf_111 : decode c_Mo_fieldOf 111 = .ok (.bipush 7, 2) := by decide +kernel
theorem d_Mo_fieldOf_113 : decode c_Mo_fieldOf 113 = .ok (.ireturn, 1) := by decide +kernel
theorem d_Mo_fieldOf_114 : decode c_Mo_fieldOf 114 = .ok (.iconst (-1), 1) := by decide +kernel
theorem d_Mo_fieldOf_115 : decode c_Mo_fieldOf 115 = .ok (.ireturn, 1) := by decide +kernel
theorem d_Mo_sum_0 : decode c_Mo_sum 0 = .ok (.iload_n 0, 1) := by decide +kernel
theorem d_Mo_sum_1 : decode c_Mo_sum 1 = .ok (.tableswitch 263 0 30 #[139, 143, 147, 151, 155, 159, 163, 167, 171, 175, 179, 183, 187, 191, 195, 199, 203, 207, 211, 215, 219, 223, 227, 231, 235, 239, 243, 247, 251, 255, 259], 139) := by decide +kernel
theorem d_Mo_sum_140 : decode c_Mo_sum 140 = .ok (.ldc2_w 143, 3) := by decide +kernel
theorem d_Mo_sum_143 : decode c_Mo_sum 143 = .ok (.lreturn, 1) := by decide +kernel
theorem d_Mo_sum_144 : decode c_Mo_sum 144 = .ok (.ldc2_w 145, 3) := by decide +kernel
theorem d_Mo_sum_147 : decode c_Mo_sum 147 = .ok (.lreturn, 1) := by decide +kernel
theorem d_Mo_sum_148 : decode c_Mo_sum 148 = .ok (.ldc2_w 147, 3) := by decide +kernel
theorem d_Mo_sum_151 : decode c_Mo_sum 151 = .ok (.lreturn, 1) := by decide +kernel
theorem d_Mo_sum_152 : decode c_Mo_sum 152 = .ok (.ldc2_w 149, 3) := by decide +kernel
theorem d_Mo_sum_155 : decode c_Mo_sum 155 = .ok (.lreturn, 1) := by decide +kernel
theorem d_Mo_sum_156 : decode c_Mo_sum 156 = .ok (.ldc2_w 151, 3) := by decide +kernel
theorem d_Mo_sum_159 : decode c_Mo_sum 159 = .ok (.lreturn, 1) := by decide +kernel
theorem d_Mo_sum_160 : decode c_Mo_sum 160 = .ok (.ldc2_w 153, 3) := by decide +kernel
theorem d_Mo_sum_163 : decode c_Mo_sum 163 = .ok (.lreturn, 1) := by decide +kernel
theorem d_Mo_sum_164 : decode c_Mo_sum 164 = .ok (.ldc2_w 155, 3) := by decide +kernel
theorem d_Mo_sum_167 : decode c_Mo_sum 167 = .ok (.lreturn, 1) := by decide +kernel
theorem d_Mo_sum_168 : decode c_Mo_sum 168 = .ok (.ldc2_w 157, 3) := by decide +kernel
theorem d_Mo_sum_171 : decode c_Mo_sum 171 = .ok (.lreturn, 1) := by decide +kernel
theorem d_Mo_sum_172 : decode c_Mo_sum 172 = .ok (.ldc2_w 159, 3) := by decide +kernel
theorem d_Mo_sum_175 : decode c_Mo_sum 175 = .ok (.lreturn, 1) := by decide +kernel
theorem d_Mo_sum_176 : decode c_Mo_sum 176 = .ok (.ldc2_w 161, 3) := by decide +kernel
theorem d_Mo_sum_179 : decode c_Mo_sum 179 = .ok (.lreturn, 1) := by decide +kernel
theorem d_Mo_sum_180 : decode c_Mo_sum 180 = .ok (.ldc2_w 163, 3) := by decide +kernel
theorem d_Mo_sum_183 : decode c_Mo_sum 183 = .ok (.lreturn, 1) := by decide +kernel
theorem d_Mo_sum_184 : decode c_Mo_sum 184 = .ok (.ldc2_w 165, 3) := by decide +kernel
theorem d_Mo_sum_187 : decode c_Mo_sum 187 = .ok (.lreturn, 1) := by decide +kernel
theorem d_Mo_sum_188 : decode c_Mo_sum 188 = .ok (.ldc2_w 167, 3) := by decide +kernel
theorem d_Mo_sum_191 : decode c_Mo_sum 191 = .ok (.lreturn, 1) := by decide +kernel
theorem d_Mo_sum_192 : decode c_Mo_sum 192 = .ok (.ldc2_w 169, 3) := by decide +kernel
theorem d_Mo_sum_195 : decode c_Mo_sum 195 = .ok (.lreturn, 1) := by decide +kernel
theorem d_Mo_sum_196 : decode c_Mo_sum 196 = .ok (.ldc2_w 171, 3) := by decide +kernel
theorem d_Mo_sum_199 : decode c_Mo_sum 199 = .ok (.lreturn, 1) := by decide +kernel
theorem d_Mo_sum_200 : decode c_Mo_sum 200 = .ok (.ldc2_w 173, 3) := by decide +kernel
theorem d_Mo_sum_203 : decode c_Mo_sum 203 = .ok (.lreturn, 1) := by decide +kernel
theorem d_Mo_sum_204 : decode c_Mo_sum 204 = .ok (.ldc2_w 175, 3) := by decide +kernel
theorem d_Mo_sum_207 : decode c_Mo_sum 207 = .ok (.lreturn, 1) := by decide +kernel
theorem d_Mo_sum_208 : decode c_Mo_sum 208 = .ok (.ldc2_w 177, 3) := by decide +kernel
theorem d_Mo_sum_211 : decode c_Mo_sum 211 = .ok (.lreturn, 1) := by decide +kernel
theorem d_Mo_sum_212 : decode c_Mo_sum 212 = .ok (.ldc2_w 179, 3) := by decide +kernel
theorem d_Mo_sum_215 : decode c_Mo_sum 215 = .ok (.lreturn, 1) := by decide +kernel
theorem d_Mo_sum_216 : decode c_Mo_sum 216 = .ok (.ldc2_w 181, 3) := by decide +kernel
theorem d_Mo_sum_219 : decode c_Mo_sum 219 = .ok (.lreturn, 1) := by decide +kernel
theorem d_Mo_sum_220 : decode c_Mo_sum 220 = .ok (.ldc2_w 183, 3) := by decide +kernel
theorem d_Mo_sum_223 : decode c_Mo_sum 223 = .ok (.lreturn, 1) := by decide +kernel
theorem d_Mo_sum_224 : decode c_Mo_sum 224 = .ok (.ldc2_w 185, 3) := by decide +kernel
theorem d_Mo_sum_227 : decode c_Mo_sum 227 = .ok (.lreturn, 1) := by decide +kernel
theorem d_Mo_sum_228 : decode c_Mo_sum 228 = .ok (.ldc2_w 187, 3) := by decide +kernel
theorem d_Mo_sum_231 : decode c_Mo_sum 231 = .ok (.lreturn, 1) := by decide +kernel
theorem d_Mo_sum_232 : decode c_Mo_sum 232 = .ok (.ldc2_w 189, 3) := by decide +kernel
theorem d_Mo_sum_235 : decode c_Mo_sum 235 = .ok (.lreturn, 1) := by decide +kernel
theorem d_Mo_sum_236 : decode c_Mo_sum 236 = .ok (.ldc2_w 191, 3) := by decide +kernel
theorem d_Mo_sum_239 : decode c_Mo_sum 239 = .ok (.lreturn, 1) := by decide +kernel
theorem d_Mo_sum_240 : decode c_Mo_sum 240 = .ok (.ldc2_w 193, 3) := by decide +kernel
theorem d_Mo_sum_243 : decode c_Mo_sum 243 = .ok (.lreturn, 1) := by decide +kernel
theorem d_Mo_sum_244 : decode c_Mo_sum 244 = .ok (.ldc2_w 195, 3) := by decide +kernel
theorem d_Mo_sum_247 : decode c_Mo_sum 247 = .ok (.lreturn, 1) := by decide +kernel
theorem d_Mo_sum_248 : decode c_Mo_sum 248 = .ok (.ldc2_w 197, 3) := by decide +kernel
theorem d_Mo_sum_251 : decode c_Mo_sum 251 = .ok (.lreturn, 1) := by decide +kernel
theorem d_Mo_sum_252 : decode c_Mo_sum 252 = .ok (.ldc2_w 199, 3) := by decide +kernel
theorem d_Mo_sum_255 : decode c_Mo_sum 255 = .ok (.lreturn, 1) := by decide +kernel
theorem d_Mo_sum_256 : decode c_Mo_sum 256 = .ok (.ldc2_w 201, 3) := by decide +kernel
theorem d_Mo_sum_259 : decode c_Mo_sum 259 = .ok (.lreturn, 1) := by decide +kernel
theorem d_Mo_sum_260 : decode c_Mo_sum 260 = .ok (.ldc2_w 203, 3) := by decide +kernel
theorem d_Mo_sum_263 : decode c_Mo_sum 263 = .ok (.lreturn, 1) := by decide +kernel
theorem d_Mo_sum_264 : decode c_Mo_sum 264 = .ok (.ldc2_w 205, 3) := by decide +kernel
theorem d_Mo_sum_267 : decode c_Mo_sum 267 = .ok (.lreturn, 1) := by decide +kernel
theorem d_Mo_illAt_0 : decode c_Mo_illAt 0 = .ok (.aload_n 0, 1) := by decide +kernel
theorem d_Mo_illAt_1 : decode c_Mo_illAt 1 = .ok (.iconst 0, 1) := by decide +kernel
theorem d_Mo_illAt_2 : decode c_Mo_illAt 2 = .ok (.putfield 42, 3) := by decide +kernel
theorem d_Mo_illAt_5 : decode c_Mo_illAt 5 = .ok (.aload_n 0, 1) := by decide +kernel
theorem d_Mo_illAt_6 : decode c_Mo_illAt 6 = .ok (.getfield 27, 3) := by decide +kernel
theorem d_Mo_illAt_9 : decode c_Mo_illAt 9 = .ok (.ireturn, 1) := by decide +kernel
theorem d_Mo_word_0 : decode c_Mo_word 0 = .ok (.aload_n 0, 1) := by decide +kernel
theorem d_Mo_word_1 : decode c_Mo_word 1 = .ok (.iconst 0, 1) := by decide +kernel
theorem d_Mo_word_2 : decode c_Mo_word 2 = .ok (.putfield 42, 3) := by decide +kernel
theorem d_Mo_word_5 : decode c_Mo_word 5 = .ok (.iload_n 1, 1) := by decide +kernel
theorem d_Mo_word_6 : decode c_Mo_word 6 = .ok (.ifCond .lt 18, 3) := by decide +kernel
theorem d_Mo_word_9 : decode c_Mo_word 9 = .ok (.iload_n 1, 1) := by decide +kernel
theorem d_Mo_word_10 : decode c_Mo_word 10 = .ok (.bipush 64, 2) := by decide +kernel
theorem d_Mo_word_12 : decode c_Mo_word 12 = .ok (.if_icmp .ge 12, 3) := by decide +kernel
theorem d_Mo_word_15 : decode c_Mo_word 15 = .ok (.aload_n 0, 1) := by decide +kernel
theorem d_Mo_word_16 : decode c_Mo_word 16 = .ok (.getfield 16, 3) := by decide +kernel
theorem d_Mo_word_19 : decode c_Mo_word 19 = .ok (.iload_n 1, 1) := by decide +kernel
theorem d_Mo_word_20 : decode c_Mo_word 20 = .ok (.iaload, 1) := by decide +kernel
theorem d_Mo_word_21 : decode c_Mo_word 21 = .ok (.goto 4, 3) := by decide +kernel
theorem d_Mo_word_24 : decode c_Mo_word 24 = .ok (.iconst (-1), 1) := by decide +kernel
theorem d_Mo_word_25 : decode c_Mo_word 25 = .ok (.ireturn, 1) := by decide +kernel
theorem d_Mo_poke_0 : decode c_Mo_poke 0 = .ok (.aload_n 0, 1) := by decide +kernel
theorem d_Mo_poke_1 : decode c_Mo_poke 1 = .ok (.iconst 0, 1) := by decide +kernel
theorem d_Mo_poke_2 : decode c_Mo_poke 2 = .ok (.putfield 42, 3) := by decide +kernel
theorem d_Mo_poke_5 : decode c_Mo_poke 5 = .ok (.iload_n 1, 1) := by decide +kernel
theorem d_Mo_poke_6 : decode c_Mo_poke 6 = .ok (.ifCond .lt 20, 3) := by decide +kernel
theorem d_Mo_poke_9 : decode c_Mo_poke 9 = .ok (.iload_n 1, 1) := by decide +kernel
theorem d_Mo_poke_10 : decode c_Mo_poke 10 = .ok (.bipush 63, 2) := by decide +kernel
theorem d_Mo_poke_12 : decode c_Mo_poke 12 = .ok (.if_icmp .gt 14, 3) := by decide +kernel
theorem d_Mo_poke_15 : decode c_Mo_poke 15 = .ok (.iload_n 2, 1) := by decide +kernel
theorem d_Mo_poke_16 : decode c_Mo_poke 16 = .ok (.ifCond .lt 10, 3) := by decide +kernel
theorem d_Mo_poke_19 : decode c_Mo_poke 19 = .ok (.iload_n 2, 1) := by decide +kernel
theorem d_Mo_poke_20 : decode c_Mo_poke 20 = .ok (.sipush 1023, 3) := by decide +kernel
theorem d_Mo_poke_23 : decode c_Mo_poke 23 = .ok (.if_icmp .le 5, 3) := by decide +kernel
theorem d_Mo_poke_26 : decode c_Mo_poke 26 = .ok (.iconst 0, 1) := by decide +kernel
theorem d_Mo_poke_27 : decode c_Mo_poke 27 = .ok (.ireturn, 1) := by decide +kernel
theorem d_Mo_poke_28 : decode c_Mo_poke 28 = .ok (.aload_n 0, 1) := by decide +kernel
theorem d_Mo_poke_29 : decode c_Mo_poke 29 = .ok (.getfield 16, 3) := by decide +kernel
theorem d_Mo_poke_32 : decode c_Mo_poke 32 = .ok (.iload_n 1, 1) := by decide +kernel
theorem d_Mo_poke_33 : decode c_Mo_poke 33 = .ok (.iload_n 2, 1) := by decide +kernel
theorem d_Mo_poke_34 : decode c_Mo_poke 34 = .ok (.iastore, 1) := by decide +kernel
theorem d_Mo_poke_35 : decode c_Mo_poke 35 = .ok (.iconst 1, 1) := by decide +kernel
theorem d_Mo_poke_36 : decode c_Mo_poke 36 = .ok (.ireturn, 1) := by decide +kernel
theorem d_Mo_key_0 : decode c_Mo_key 0 = .ok (.aload_n 0, 1) := by decide +kernel
theorem d_Mo_key_1 : decode c_Mo_key 1 = .ok (.iconst 0, 1) := by decide +kernel
theorem d_Mo_key_2 : decode c_Mo_key 2 = .ok (.putfield 42, 3) := by decide +kernel
theorem d_Mo_key_5 : decode c_Mo_key 5 = .ok (.iload_n 1, 1) := by decide +kernel
theorem d_Mo_key_6 : decode c_Mo_key 6 = .ok (.ifCond .lt 17, 3) := by decide +kernel
theorem d_Mo_key_9 : decode c_Mo_key 9 = .ok (.iload_n 1, 1) := by decide +kernel
theorem d_Mo_key_10 : decode c_Mo_key 10 = .ok (.bipush 15, 2) := by decide +kernel
theorem d_Mo_key_12 : decode c_Mo_key 12 = .ok (.if_icmp .gt 11, 3) := by decide +kernel
theorem d_Mo_key_15 : decode c_Mo_key 15 = .ok (.aload_n 0, 1) := by decide +kernel
theorem d_Mo_key_16 : decode c_Mo_key 16 = .ok (.getfield 93, 3) := by decide +kernel
theorem d_Mo_key_19 : decode c_Mo_key 19 = .ok (.iconst 3, 1) := by decide +kernel
theorem d_Mo_key_20 : decode c_Mo_key 20 = .ok (.if_icmp .ne 5, 3) := by decide +kernel
theorem d_Mo_key_23 : decode c_Mo_key 23 = .ok (.iconst 0, 1) := by decide +kernel
theorem d_Mo_key_24 : decode c_Mo_key 24 = .ok (.ireturn, 1) := by decide +kernel
theorem d_Mo_key_25 : decode c_Mo_key 25 = .ok (.aload_n 0, 1) := by decide +kernel
theorem d_Mo_key_26 : decode c_Mo_key 26 = .ok (.getfield 20, 3) := by decide +kernel
theorem d_Mo_key_29 : decode c_Mo_key 29 = .ok (.aload_n 0, 1) := by decide +kernel
theorem d_Mo_key_30 : decode c_Mo_key 30 = .ok (.getfield 93, 3) := by decide +kernel
theorem d_Mo_key_33 : decode c_Mo_key 33 = .ok (.iload_n 1, 1) := by decide +kernel
theorem d_Mo_key_34 : decode c_Mo_key 34 = .ok (.iastore, 1) := by decide +kernel
theorem d_Mo_key_35 : decode c_Mo_key 35 = .ok (.aload_n 0, 1) := by decide +kernel
theorem d_Mo_key_36 : decode c_Mo_key 36 = .ok (.dup, 1) := by decide +kernel
theorem d_Mo_key_37 : decode c_Mo_key 37 = .ok (.getfield 93, 3) := by decide +kernel
theorem d_Mo_key_40 : decode c_Mo_key 40 = .ok (.iconst 1, 1) := by decide +kernel
theorem d_Mo_key_41 : decode c_Mo_key 41 = .ok (.iadd, 1) := by decide +kernel
theorem d_Mo_key_42 : decode c_Mo_key 42 = .ok (.putfield 93, 3) := by decide +kernel
theorem d_Mo_key_45 : decode c_Mo_key 45 = .ok (.iconst 1, 1) := by decide +kernel
theorem d_Mo_key_46 : decode c_Mo_key 46 = .ok (.ireturn, 1) := by decide +kernel
theorem d_Mo_keys_0 : decode c_Mo_keys 0 = .ok (.aload_n 0, 1) := by decide +kernel
theorem d_Mo_keys_1 : decode c_Mo_keys 1 = .ok (.iconst 0, 1) := by decide +kernel
theorem d_Mo_keys_2 : decode c_Mo_keys 2 = .ok (.putfield 42, 3) := by decide +kernel
theorem d_Mo_keys_5 : decode c_Mo_keys 5 = .ok (.aload_n 0, 1) := by decide +kernel
theorem d_Mo_keys_6 : decode c_Mo_keys 6 = .ok (.getfield 93, 3) := by decide +kernel
theorem d_Mo_keys_9 : decode c_Mo_keys 9 = .ok (.ireturn, 1) := by decide +kernel
theorem d_Mo_value_0 : decode c_Mo_value 0 = .ok (.aload_n 0, 1) := by decide +kernel
theorem d_Mo_value_1 : decode c_Mo_value 1 = .ok (.iconst 0, 1) := by decide +kernel
theorem d_Mo_value_2 : decode c_Mo_value 2 = .ok (.putfield 42, 3) := by decide +kernel
theorem d_Mo_value_5 : decode c_Mo_value 5 = .ok (.iload_n 1, 1) := by decide +kernel
theorem d_Mo_value_6 : decode c_Mo_value 6 = .ok (.ifCond .lt 18, 3) := by decide +kernel
theorem d_Mo_value_9 : decode c_Mo_value 9 = .ok (.iload_n 1, 1) := by decide +kernel
theorem d_Mo_value_10 : decode c_Mo_value 10 = .ok (.bipush 7, 2) := by decide +kernel
theorem d_Mo_value_12 : decode c_Mo_value 12 = .ok (.if_icmp .ge 12, 3) := by decide +kernel
theorem d_Mo_value_15 : decode c_Mo_value 15 = .ok (.aload_n 0, 1) := by decide +kernel
theorem d_Mo_value_16 : decode c_Mo_value 16 = .ok (.getfield 13, 3) := by decide +kernel
theorem d_Mo_value_19 : decode c_Mo_value 19 = .ok (.iload_n 1, 1) := by decide +kernel
theorem d_Mo_value_20 : decode c_Mo_value 20 = .ok (.laload, 1) := by decide +kernel
theorem d_Mo_value_21 : decode c_Mo_value 21 = .ok (.goto 6, 3) := by decide +kernel
theorem d_Mo_value_24 : decode c_Mo_value 24 = .ok (.ldc2_w 246, 3) := by decide +kernel
theorem d_Mo_value_27 : decode c_Mo_value 27 = .ok (.lreturn, 1) := by decide +kernel
theorem d_Mo_set_0 : decode c_Mo_set 0 = .ok (.aload_n 0, 1) := by decide +kernel
theorem d_Mo_set_1 : decode c_Mo_set 1 = .ok (.iconst 0, 1) := by decide +kernel
theorem d_Mo_set_2 : decode c_Mo_set 2 = .ok (.putfield 42, 3) := by decide +kernel
theorem d_Mo_set_5 : decode c_Mo_set 5 = .ok (.iload_n 1, 1) := by decide +kernel
theorem d_Mo_set_6 : decode c_Mo_set 6 = .ok (.ifCond .lt 15, 3) := by decide +kernel
theorem d_Mo_set_9 : decode c_Mo_set 9 = .ok (.iload_n 1, 1) := by decide +kernel
theorem d_Mo_set_10 : decode c_Mo_set 10 = .ok (.bipush 6, 2) := by decide +kernel
theorem d_Mo_set_12 : decode c_Mo_set 12 = .ok (.if_icmp .gt 9, 3) := by decide +kernel
theorem d_Mo_set_15 : decode c_Mo_set 15 = .ok (.lload_n 2, 1) := by decide +kernel
theorem d_Mo_set_16 : decode c_Mo_set 16 = .ok (.lconst 0, 1) := by decide +kernel
theorem d_Mo_set_17 : decode c_Mo_set 17 = .ok (.lcmp, 1) := by decide +kernel
theorem d_Mo_set_18 : decode c_Mo_set 18 = .ok (.ifCond .ge 5, 3) := by decide +kernel
theorem d_Mo_set_21 : decode c_Mo_set 21 = .ok (.iconst 0, 1) := by decide +kernel
theorem d_Mo_set_22 : decode c_Mo_set 22 = .ok (.ireturn, 1) := by decide +kernel
theorem d_Mo_set_23 : decode c_Mo_set 23 = .ok (.aload_n 0, 1) := by decide +kernel
theorem d_Mo_set_24 : decode c_Mo_set 24 = .ok (.getfield 13, 3) := by decide +kernel
theorem d_Mo_set_27 : decode c_Mo_set 27 = .ok (.iload_n 1, 1) := by decide +kernel
theorem d_Mo_set_28 : decode c_Mo_set 28 = .ok (.lload_n 2, 1) := by decide +kernel
theorem d_Mo_set_29 : decode c_Mo_set 29 = .ok (.aload_n 0, 1) := by decide +kernel
theorem d_Mo_set_30 : decode c_Mo_set 30 = .ok (.getfield 7, 3) := by decide +kernel
theorem d_Mo_set_33 : decode c_Mo_set 33 = .ok (.bipush 14, 2) := by decide +kernel
theorem d_Mo_set_35 : decode c_Mo_set 35 = .ok (.laload, 1) := by decide +kernel
theorem d_Mo_set_36 : decode c_Mo_set 36 = .ok (.lrem, 1) := by decide +kernel
theorem d_Mo_set_37 : decode c_Mo_set 37 = .ok (.lastore, 1) := by decide +kernel
theorem d_Mo_set_38 : decode c_Mo_set 38 = .ok (.iconst 1, 1) := by decide +kernel
theorem d_Mo_set_39 : decode c_Mo_set 39 = .ok (.ireturn, 1) := by decide +kernel
theorem d_Mo_state_0 : decode c_Mo_state 0 = .ok (.aload_n 0, 1) := by decide +kernel
theorem d_Mo_state_1 : decode c_Mo_state 1 = .ok (.iconst 0, 1) := by decide +kernel
theorem d_Mo_state_2 : decode c_Mo_state 2 = .ok (.putfield 42, 3) := by decide +kernel
theorem d_Mo_state_5 : decode c_Mo_state 5 = .ok (.iload_n 1, 1) := by decide +kernel
theorem d_Mo_state_6 : decode c_Mo_state 6 = .ok (.ifCond .ne 10, 3) := by decide +kernel
theorem d_Mo_state_9 : decode c_Mo_state 9 = .ok (.aload_n 0, 1) := by decide +kernel
theorem d_Mo_state_10 : decode c_Mo_state 10 = .ok (.getfield 45, 3) := by decide +kernel
theorem d_Mo_state_13 : decode c_Mo_state 13 = .ok (.goto 60, 3) := by decide +kernel
theorem d_Mo_state_16 : decode c_Mo_state 16 = .ok (.iload_n 1, 1) := by decide +kernel
theorem d_Mo_state_17 : decode c_Mo_state 17 = .ok (.iconst 1, 1) := by decide +kernel
theorem d_Mo_state_18 : decode c_Mo_state 18 = .ok (.if_icmp .ne 10, 3) := by decide +kernel
theorem d_Mo_state_21 : decode c_Mo_state 21 = .ok (.aload_n 0, 1) := by decide +kernel
theorem d_Mo_state_22 : decode c_Mo_state 22 = .ok (.getfield 74, 3) := by decide +kernel
theorem d_Mo_state_25 : decode c_Mo_state 25 = .ok (.goto 48, 3) := by decide +kernel
theorem d_Mo_state_28 : decode c_Mo_state 28 = .ok (.iload_n 1, 1) := by decide +kernel
theorem d_Mo_state_29 : decode c_Mo_state 29 = .ok (.iconst 2, 1) := by decide +kernel
theorem d_Mo_state_30 : decode c_Mo_state 30 = .ok (.if_icmp .ne 18, 3) := by decide +kernel
theorem d_Mo_state_33 : decode c_Mo_state 33 = .ok (.aload_n 0, 1) := by decide +kernel
theorem d_Mo_state_34 : decode c_Mo_state 34 = .ok (.getfield 59, 3) := by decide +kernel
theorem d_Mo_state_37 : decode c_Mo_state 37 = .ok (.ifCond .eq 7, 3) := by decide +kernel
theorem d_Mo_state_40 : decode c_Mo_state 40 = .ok (.iconst 1, 1) := by decide +kernel
theorem d_Mo_state_41 : decode c_Mo_state 41 = .ok (.goto 32, 3) := by decide +kernel
theorem d_Mo_state_44 : decode c_Mo_state 44 = .ok (.iconst 0, 1) := by decide +kernel
theorem d_Mo_state_45 : decode c_Mo_state 45 = .ok (.goto 28, 3) := by decide +kernel
theorem d_Mo_state_48 : decode c_Mo_state 48 = .ok (.iload_n 1, 1) := by decide +kernel
theorem d_Mo_state_49 : decode c_Mo_state 49 = .ok (.iconst 3, 1) := by decide +kernel
theorem d_Mo_state_50 : decode c_Mo_state 50 = .ok (.if_icmp .ne 10, 3) := by decide +kernel
theorem d_Mo_state_53 : decode c_Mo_state 53 = .ok (.aload_n 0, 1) := by decide +kernel
theorem d_Mo_state_54 : decode c_Mo_state 54 = .ok (.getfield 84, 3) := by decide +kernel
theorem d_Mo_state_57 : decode c_Mo_state 57 = .ok (.goto 16, 3) := by decide +kernel
theorem d_Mo_state_60 : decode c_Mo_state 60 = .ok (.iload_n 1, 1) := by decide +kernel
theorem d_Mo_state_61 : decode c_Mo_state 61 = .ok (.iconst 4, 1) := by decide +kernel
theorem d_Mo_state_62 : decode c_Mo_state 62 = .ok (.if_icmp .ne 10, 3) := by decide +kernel
theorem d_Mo_state_65 : decode c_Mo_state 65 = .ok (.aload_n 0, 1) := by decide +kernel
theorem d_Mo_state_66 : decode c_Mo_state 66 = .ok (.getfield 81, 3) := by decide +kernel
theorem d_Mo_state_69 : decode c_Mo_state 69 = .ok (.goto 4, 3) := by decide +kernel
theorem d_Mo_state_72 : decode c_Mo_state 72 = .ok (.iconst (-1), 1) := by decide +kernel
theorem d_Mo_state_73 : decode c_Mo_state 73 = .ok (.ireturn, 1) := by decide +kernel
theorem d_Mo_go_0 : decode c_Mo_go 0 = .ok (.aload_n 0, 1) := by decide +kernel
theorem d_Mo_go_1 : decode c_Mo_go 1 = .ok (.iconst 0, 1) := by decide +kernel
theorem d_Mo_go_2 : decode c_Mo_go 2 = .ok (.putfield 42, 3) := by decide +kernel
theorem d_Mo_go_5 : decode c_Mo_go 5 = .ok (.iload_n 1, 1) := by decide +kernel
theorem d_Mo_go_6 : decode c_Mo_go 6 = .ok (.ifCond .lt 9, 3) := by decide +kernel
theorem d_Mo_go_9 : decode c_Mo_go 9 = .ok (.iload_n 1, 1) := by decide +kernel
theorem d_Mo_go_10 : decode c_Mo_go 10 = .ok (.bipush 63, 2) := by decide +kernel
theorem d_Mo_go_12 : decode c_Mo_go 12 = .ok (.if_icmp .le 5, 3) := by decide +kernel
theorem d_Mo_go_15 : decode c_Mo_go 15 = .ok (.iconst 0, 1) := by decide +kernel
theorem d_Mo_go_16 : decode c_Mo_go 16 = .ok (.ireturn, 1) := by decide +kernel
theorem d_Mo_go_17 : decode c_Mo_go 17 = .ok (.aload_n 0, 1) := by decide +kernel
theorem d_Mo_go_18 : decode c_Mo_go 18 = .ok (.iload_n 1, 1) := by decide +kernel
theorem d_Mo_go_19 : decode c_Mo_go 19 = .ok (.putfield 84, 3) := by decide +kernel
theorem d_Mo_go_22 : decode c_Mo_go 22 = .ok (.iconst 1, 1) := by decide +kernel
theorem d_Mo_go_23 : decode c_Mo_go 23 = .ok (.ireturn, 1) := by decide +kernel
theorem d_Mo_display_0 : decode c_Mo_display 0 = .ok (.aload_n 0, 1) := by decide +kernel
theorem d_Mo_display_1 : decode c_Mo_display 1 = .ok (.iconst 0, 1) := by decide +kernel
theorem d_Mo_display_2 : decode c_Mo_display 2 = .ok (.putfield 42, 3) := by decide +kernel
theorem d_Mo_display_5 : decode c_Mo_display 5 = .ok (.iload_n 1, 1) := by decide +kernel
theorem d_Mo_display_6 : decode c_Mo_display 6 = .ok (.ifCond .lt 9, 3) := by decide +kernel
theorem d_Mo_display_9 : decode c_Mo_display 9 = .ok (.iload_n 1, 1) := by decide +kernel
theorem d_Mo_display_10 : decode c_Mo_display 10 = .ok (.bipush 14, 2) := by decide +kernel
theorem d_Mo_display_12 : decode c_Mo_display 12 = .ok (.if_icmp .le 5, 3) := by decide +kernel
theorem d_Mo_display_15 : decode c_Mo_display 15 = .ok (.iconst (-1), 1) := by decide +kernel
theorem d_Mo_display_16 : decode c_Mo_display 16 = .ok (.ireturn, 1) := by decide +kernel
theorem d_Mo_display_17 : decode c_Mo_display 17 = .ok (.iload_n 1, 1) := by decide +kernel
theorem d_Mo_display_18 : decode c_Mo_display 18 = .ok (.bipush 14, 2) := by decide +kernel
theorem d_Mo_display_20 : decode c_Mo_display 20 = .ok (.if_icmp .ne 31, 3) := by decide +kernel
theorem d_Mo_display_23 : decode c_Mo_display 23 = .ok (.bipush 12, 2) := by decide +kernel
theorem d_Mo_display_25 : decode c_Mo_display 25 = .ok (.istore_n 2, 1) := by decide +kernel
theorem d_Mo_display_26 : decode c_Mo_display 26 = .ok (.iload_n 2, 1) := by decide +kernel
theorem d_Mo_display_27 : decode c_Mo_display 27 = .ok (.iconst 2, 1) := by decide +kernel
theorem d_Mo_display_28 : decode c_Mo_display 28 = .ok (.if_icmp .le 21, 3) := by decide +kernel
theorem d_Mo_display_31 : decode c_Mo_display 31 = .ok (.aload_n 0, 1) := by decide +kernel
theorem d_Mo_display_32 : decode c_Mo_display 32 = .ok (.iconst 1, 1) := by decide +kernel
theorem d_Mo_display_33 : decode c_Mo_display 33 = .ok (.iload_n 2, 1) := by decide +kernel
theorem d_Mo_display_34 : decode c_Mo_display 34 = .ok (.invokevirtual 248, 3) := by decide +kernel
theorem d_Mo_display_37 : decode c_Mo_display 37 = .ok (.iconst 2, 1) := by decide +kernel
theorem d_Mo_display_38 : decode c_Mo_display 38 = .ok (.if_icmp .ne 5, 3) := by decide +kernel
theorem d_Mo_display_41 : decode c_Mo_display 41 = .ok (.iload_n 2, 1) := by decide +kernel
theorem d_Mo_display_42 : decode c_Mo_display 42 = .ok (.ireturn, 1) := by decide +kernel
theorem d_Mo_display_43 : decode c_Mo_display 43 = .ok (.iinc 2 (-1), 3) := by decide +kernel
theorem d_Mo_display_46 : decode c_Mo_display 46 = .ok (.goto (-20), 3) := by decide +kernel
theorem d_Mo_display_49 : decode c_Mo_display 49 = .ok (.iconst (-1), 1) := by decide +kernel
theorem d_Mo_display_50 : decode c_Mo_display 50 = .ok (.ireturn, 1) := by decide +kernel
theorem d_Mo_display_51 : decode c_Mo_display 51 = .ok (.bipush 13, 2) := by decide +kernel
theorem d_Mo_display_53 : decode c_Mo_display 53 = .ok (.iload_n 1, 1) := by decide +kernel
theorem d_Mo_display_54 : decode c_Mo_display 54 = .ok (.isub, 1) := by decide +kernel
theorem d_Mo_display_55 : decode c_Mo_display 55 = .ok (.istore_n 2, 1) := by decide +kernel
theorem d_Mo_display_56 : decode c_Mo_display 56 = .ok (.aload_n 0, 1) := by decide +kernel
theorem d_Mo_display_57 : decode c_Mo_display 57 = .ok (.iconst 1, 1) := by decide +kernel
theorem d_Mo_display_58 : decode c_Mo_display 58 = .ok (.iload_n 2, 1) := by decide +kernel
theorem d_Mo_display_59 : decode c_Mo_display 59 = .ok (.invokevirtual 248, 3) := by decide +kernel
theorem d_Mo_display_62 : decode c_Mo_display 62 = .ok (.bipush 9, 2) := by decide +kernel
theorem d_Mo_display_64 : decode c_Mo_display 64 = .ok (.if_icmp .ne 6, 3) := by decide +kernel
theorem d_Mo_display_67 : decode c_Mo_display 67 = .ok (.bipush 32, 2) := by decide +kernel
theorem d_Mo_display_69 : decode c_Mo_display 69 = .ok (.ireturn, 1) := by decide +kernel
theorem d_Mo_display_70 : decode c_Mo_display 70 = .ok (.aload_n 0, 1) := by decide +kernel
theorem d_Mo_display_71 : decode c_Mo_display 71 = .ok (.iconst 0, 1) := by decide +kernel
theorem d_Mo_display_72 : decode c_Mo_display 72 = .ok (.iload_n 2, 1) := by decide +kernel
theorem d_Mo_display_73 : decode c_Mo_display 73 = .ok (.invokevirtual 248, 3) := by decide +kernel
theorem d_Mo_display_76 : decode c_Mo_display 76 = .ok (.istore_n 3, 1) := by decide +kernel
theorem d_Mo_display_77 : decode c_Mo_display 77 = .ok (.iload_n 2, 1) := by decide +kernel
theorem d_Mo_display_78 : decode c_Mo_display 78 = .ok (.bipush 13, 2) := by decide +kernel
theorem d_Mo_display_80 : decode c_Mo_display 80 = .ok (.if_icmp .eq 8, 3) := by decide +kernel
theorem d_Mo_display_83 : decode c_Mo_display 83 = .ok (.iload_n 2, 1) := by decide +kernel
theorem d_Mo_display_84 : decode c_Mo_display 84 = .ok (.iconst 2, 1) := by decide +kernel
theorem d_Mo_display_85 : decode c_Mo_display 85 = .ok (.if_icmp .ne 17, 3) := by decide +kernel
theorem d_Mo_display_88 : decode c_Mo_display 88 = .ok (.iload_n 3, 1) := by decide +kernel
theorem d_Mo_display_89 : decode c_Mo_display 89 = .ok (.bipush 9, 2) := by decide +kernel
theorem d_Mo_display_91 : decode c_Mo_display 91 = .ok (.if_icmp .ne 8, 3) := by decide +kernel
theorem d_Mo_display_94 : decode c_Mo_display 94 = .ok (.bipush 45, 2) := by decide +kernel
theorem d_Mo_display_96 : decode c_Mo_display 96 = .ok (.goto 5, 3) := by decide +kernel
theorem d_Mo_display_99 : decode c_Mo_display 99 = .ok (.bipush 32, 2) := by decide +kernel
theorem d_Mo_display_101 : decode c_Mo_display 101 = .ok (.ireturn, 1) := by decide +kernel
theorem d_Mo_display_102 : decode c_Mo_display 102 = .ok (.bipush 48, 2) := by decide +kernel
theorem d_Mo_display_104 : decode c_Mo_display 104 = .ok (.iload_n 3, 1) := by decide +kernel
theorem d_Mo_display_105 : decode c_Mo_display 105 = .ok (.iadd, 1) := by decide +kernel
theorem d_Mo_display_106 : decode c_Mo_display 106 = .ok (.ireturn, 1) := by decide +kernel
theorem d_Mo_digitOf_0 : decode c_Mo_digitOf 0 = .ok (.aload_n 0, 1) := by decide +kernel
theorem d_Mo_digitOf_1 : decode c_Mo_digitOf 1 = .ok (.getfield 13, 3) := by decide +kernel
theorem d_Mo_digitOf_4 : decode c_Mo_digitOf 4 = .ok (.iload_n 1, 1) := by decide +kernel
theorem d_Mo_digitOf_5 : decode c_Mo_digitOf 5 = .ok (.laload, 1) := by decide +kernel
theorem d_Mo_digitOf_6 : decode c_Mo_digitOf 6 = .ok (.aload_n 0, 1) := by decide +kernel
theorem d_Mo_digitOf_7 : decode c_Mo_digitOf 7 = .ok (.getfield 7, 3) := by decide +kernel
theorem d_Mo_digitOf_10 : decode c_Mo_digitOf 10 = .ok (.iload_n 2, 1) := by decide +kernel
theorem d_Mo_digitOf_11 : decode c_Mo_digitOf 11 = .ok (.laload, 1) := by decide +kernel
theorem d_Mo_digitOf_12 : decode c_Mo_digitOf 12 = .ok (.ldiv, 1) := by decide +kernel
theorem d_Mo_digitOf_13 : decode c_Mo_digitOf 13 = .ok (.ldc2_w 40, 3) := by decide +kernel
theorem d_Mo_digitOf_16 : decode c_Mo_digitOf 16 = .ok (.lrem, 1) := by decide +kernel
theorem d_Mo_digitOf_17 : decode c_Mo_digitOf 17 = .ok (.l2i, 1) := by decide +kernel
theorem d_Mo_digitOf_18 : decode c_Mo_digitOf 18 = .ok (.ireturn, 1) := by decide +kernel
