theorem d_Mo_assemble_78 : decode c_Mo_assemble 78 = .ok (.putfield 84, 3) := by decide +kernel
theorem d_Mo_assemble_81 : decode c_Mo_assemble 81 = .ok (.aload_n 0, 1) := by decide +kernel
theorem d_Mo_assemble_82 : decode c_Mo_assemble 82 = .ok (.getfield 228, 3) := by decide +kernel
theorem d_Mo_assemble_85 : decode c_Mo_assemble 85 = .ok (.ireturn, 1) := by decide +kernel
theorem d_Mo_read_0 : decode c_Mo_read 0 = .ok (.aload_n 0, 1) := by decide +kernel
theorem d_Mo_read_1 : decode c_Mo_read 1 = .ok (.iconst 0, 1) := by decide +kernel
theorem d_Mo_read_2 : decode c_Mo_read 2 = .ok (.putfield 228, 3) := by decide +kernel
theorem d_Mo_read_5 : decode c_Mo_read 5 = .ok (.iconst 0, 1) := by decide +kernel
theorem d_Mo_read_6 : decode c_Mo_read 6 = .ok (.istore_n 1, 1) := by decide +kernel
theorem d_Mo_read_7 : decode c_Mo_read 7 = .ok (.iload_n 1, 1) := by decide +kernel
theorem d_Mo_read_8 : decode c_Mo_read 8 = .ok (.bipush 26, 2) := by decide +kernel
theorem d_Mo_read_10 : decode c_Mo_read 10 = .ok (.if_icmp .ge 16, 3) := by decide +kernel
theorem d_Mo_read_13 : decode c_Mo_read 13 = .ok (.aload_n 0, 1) := by decide +kernel
theorem d_Mo_read_14 : decode c_Mo_read 14 = .ok (.getfield 34, 3) := by decide +kernel
theorem d_Mo_read_17 : decode c_Mo_read 17 = .ok (.iload_n 1, 1) := by decide +kernel
theorem d_Mo_read_18 : decode c_Mo_read 18 = .ok (.iconst (-1), 1) := by decide +kernel
theorem d_Mo_read_19 : decode c_Mo_read 19 = .ok (.iastore, 1) := by decide +kernel
theorem d_Mo_read_20 : decode c_Mo_read 20 = .ok (.iinc 1 1, 3) := by decide +kernel
theorem d_Mo_read_23 : decode c_Mo_read 23 = .ok (.goto (-16), 3) := by decide +kernel
theorem d_Mo_read_26 : decode c_Mo_read 26 = .ok (.iconst 0, 1) := by decide +kernel
theorem d_Mo_read_27 : decode c_Mo_read 27 = .ok (.istore_n 1, 1) := by decide +kernel
theorem d_Mo_read_28 : decode c_Mo_read 28 = .ok (.iload_n 1, 1) := by decide +kernel
theorem d_Mo_read_29 : decode c_Mo_read 29 = .ok (.aload_n 0, 1) := by decide +kernel
theorem d_Mo_read_30 : decode c_Mo_read 30 = .ok (.getfield 235, 3) := by decide +kernel
theorem d_Mo_read_33 : decode c_Mo_read 33 = .ok (.if_icmp .ge 62, 3) := by decide +kernel
theorem d_Mo_read_36 : decode c_Mo_read 36 = .ok (.iload_n 1, 1) := by decide +kernel
theorem d_Mo_read_37 : decode c_Mo_read 37 = .ok (.istore_n 2, 1) := by decide +kernel
theorem d_Mo_read_38 : decode c_Mo_read 38 = .ok (.iload_n 2, 1) := by decide +kernel
theorem d_Mo_read_39 : decode c_Mo_read 39 = .ok (.aload_n 0, 1) := by decide +kernel
theorem d_Mo_read_40 : decode c_Mo_read 40 = .ok (.getfield 235, 3) := by decide +kernel
theorem d_Mo_read_43 : decode c_Mo_read 43 = .ok (.if_icmp .ge 20, 3) := by decide +kernel
theorem d_Mo_read_46 : decode c_Mo_read 46 = .ok (.aload_n 0, 1) := by decide +kernel
theorem d_Mo_read_47 : decode c_Mo_read 47 = .ok (.getfield 23, 3) := by decide +kernel
theorem d_Mo_read_50 : decode c_Mo_read 50 = .ok (.iload_n 2, 1) := by decide +kernel
theorem d_Mo_read_51 : decode c_Mo_read 51 = .ok (.caload, 1) := by decide +kernel
theorem d_Mo_read_52 : decode c_Mo_read 52 = .ok (.bipush 32, 2) := by decide +kernel
theorem d_Mo_read_54 : decode c_Mo_read 54 = .ok (.if_icmp .eq 9, 3) := by decide +kernel
theorem d_Mo_read_57 : decode c_Mo_read 57 = .ok (.iinc 2 1, 3) := by decide +kernel
theorem d_Mo_read_60 : decode c_Mo_read 60 = .ok (.goto (-22), 3) := by decide +kernel
theorem d_Mo_read_63 : decode c_Mo_read 63 = .ok (.iload_n 2, 1) := by decide +kernel
theorem d_Mo_read_64 : decode c_Mo_read 64 = .ok (.iload_n 1, 1) := by decide +kernel
theorem d_Mo_read_65 : decode c_Mo_read 65 = .ok (.if_icmp .le 14, 3) := by decide +kernel
theorem d_Mo_read_68 : decode c_Mo_read 68 = .ok (.aload_n 0, 1) := by decide +kernel
theorem d_Mo_read_69 : decode c_Mo_read 69 = .ok (.iload_n 1, 1) := by decide +kernel
theorem d_Mo_read_70 : decode c_Mo_read 70 = .ok (.iload_n 2, 1) := by decide +kernel
theorem d_Mo_read_71 : decode c_Mo_read 71 = .ok (.invokevirtual 238, 3) := by decide +kernel
theorem d_Mo_read_74 : decode c_Mo_read 74 = .ok (.ifCond .ne 5, 3) := by decide +kernel
theorem d_Mo_read_77 : decode c_Mo_read 77 = .ok (.iload_n 1, 1) := by decide +kernel
theorem d_Mo_read_78 : decode c_Mo_read 78 = .ok (.ireturn, 1) := by decide +kernel
theorem d_Mo_read_79 : decode c_Mo_read 79 = .ok (.iload_n 2, 1) := by decide +kernel
theorem d_Mo_read_80 : decode c_Mo_read 80 = .ok (.iload_n 1, 1) := by decide +kernel
theorem d_Mo_read_81 : decode c_Mo_read 81 = .ok (.if_icmp .le 7, 3) := by decide +kernel
theorem d_Mo_read_84 : decode c_Mo_read 84 = .ok (.iload_n 2, 1) := by decide +kernel
theorem d_Mo_read_85 : decode c_Mo_read 85 = .ok (.goto 6, 3) := by decide +kernel
theorem d_Mo_read_88 : decode c_Mo_read 88 = .ok (.iload_n 1, 1) := by decide +kernel
theorem d_Mo_read_89 : decode c_Mo_read 89 = .ok (.iconst 1, 1) := by decide +kernel
theorem d_Mo_read_90 : decode c_Mo_read 90 = .ok (.iadd, 1) := by decide +kernel
theorem d_Mo_read_91 : decode c_Mo_read 91 = .ok (.istore_n 1, 1) := by decide +kernel
theorem d_Mo_read_92 : decode c_Mo_read 92 = .ok (.goto (-64), 3) := by decide +kernel
theorem d_Mo_read_95 : decode c_Mo_read 95 = .ok (.iconst 0, 1) := by decide +kernel
theorem d_Mo_read_96 : decode c_Mo_read 96 = .ok (.istore_n 2, 1) := by decide +kernel
theorem d_Mo_read_97 : decode c_Mo_read 97 = .ok (.iload_n 2, 1) := by decide +kernel
theorem d_Mo_read_98 : decode c_Mo_read 98 = .ok (.aload_n 0, 1) := by decide +kernel
theorem d_Mo_read_99 : decode c_Mo_read 99 = .ok (.getfield 228, 3) := by decide +kernel
theorem d_Mo_read_102 : decode c_Mo_read 102 = .ok (.if_icmp .ge 73, 3) := by decide +kernel
theorem d_Mo_read_105 : decode c_Mo_read 105 = .ok (.aload_n 0, 1) := by decide +kernel
theorem d_Mo_read_106 : decode c_Mo_read 106 = .ok (.getfield 37, 3) := by decide +kernel
theorem d_Mo_read_109 : decode c_Mo_read 109 = .ok (.iload_n 2, 1) := by decide +kernel
theorem d_Mo_read_110 : decode c_Mo_read 110 = .ok (.iaload, 1) := by decide +kernel
theorem d_Mo_read_111 : decode c_Mo_read 111 = .ok (.ifCond .ge 6, 3) := by decide +kernel
theorem d_Mo_read_114 : decode c_Mo_read 114 = .ok (.goto 55, 3) := by decide +kernel
theorem d_Mo_read_117 : decode c_Mo_read 117 = .ok (.aload_n 0, 1) := by decide +kernel
theorem d_Mo_read_118 : decode c_Mo_read 118 = .ok (.getfield 34, 3) := by decide +kernel
theorem d_Mo_read_121 : decode c_Mo_read 121 = .ok (.aload_n 0, 1) := by decide +kernel
theorem d_Mo_read_122 : decode c_Mo_read 122 = .ok (.getfield 23, 3) := by decide +kernel
theorem d_Mo_read_125 : decode c_Mo_read 125 = .ok (.aload_n 0, 1) := by decide +kernel
theorem d_Mo_read_126 : decode c_Mo_read 126 = .ok (.getfield 37, 3) := by decide +kernel
theorem d_Mo_read_129 : decode c_Mo_read 129 = .ok (.iload_n 2, 1) := by decide +kernel
theorem d_Mo_read_130 : decode c_Mo_read 130 = .ok (.iaload, 1) := by decide +kernel
theorem d_Mo_read_131 : decode c_Mo_read 131 = .ok (.iconst 1, 1) := by decide +kernel
theorem d_Mo_read_132 : decode c_Mo_read 132 = .ok (.iadd, 1) := by decide +kernel
theorem d_Mo_read_133 : decode c_Mo_read 133 = .ok (.caload, 1) := by decide +kernel
theorem d_Mo_read_134 : decode c_Mo_read 134 = .ok (.bipush 97, 2) := by decide +kernel
theorem d_Mo_read_136 : decode c_Mo_read 136 = .ok (.isub, 1) := by decide +kernel
theorem d_Mo_read_137 : decode c_Mo_read 137 = .ok (.iaload, 1) := by decide +kernel
theorem d_Mo_read_138 : decode c_Mo_read 138 = .ok (.istore_n 3, 1) := by decide +kernel
theorem d_Mo_read_139 : decode c_Mo_read 139 = .ok (.iload_n 3, 1) := by decide +kernel
theorem d_Mo_read_140 : decode c_Mo_read 140 = .ok (.ifCond .ge 10, 3) := by decide +kernel
theorem d_Mo_read_143 : decode c_Mo_read 143 = .ok (.aload_n 0, 1) := by decide +kernel
theorem d_Mo_read_144 : decode c_Mo_read 144 = .ok (.getfield 37, 3) := by decide +kernel
theorem d_Mo_read_147 : decode c_Mo_read 147 = .ok (.iload_n 2, 1) := by decide +kernel
theorem d_Mo_read_148 : decode c_Mo_read 148 = .ok (.iaload, 1) := by decide +kernel
theorem d_Mo_read_149 : decode c_Mo_read 149 = .ok (.ireturn, 1) := by decide +kernel
theorem d_Mo_read_150 : decode c_Mo_read 150 = .ok (.aload_n 0, 1) := by decide +kernel
theorem d_Mo_read_151 : decode c_Mo_read 151 = .ok (.getfield 31, 3) := by decide +kernel
theorem d_Mo_read_154 : decode c_Mo_read 154 = .ok (.iload_n 2, 1) := by decide +kernel
theorem d_Mo_read_155 : decode c_Mo_read 155 = .ok (.aload_n 0, 1) := by decide +kernel
theorem d_Mo_read_156 : decode c_Mo_read 156 = .ok (.getfield 31, 3) := by decide +kernel
theorem d_Mo_read_159 : decode c_Mo_read 159 = .ok (.iload_n 2, 1) := by decide +kernel
theorem d_Mo_read_160 : decode c_Mo_read 160 = .ok (.iaload, 1) := by decide +kernel
theorem d_Mo_read_161 : decode c_Mo_read 161 = .ok (.iconst 4, 1) := by decide +kernel
theorem d_Mo_read_162 : decode c_Mo_read 162 = .ok (.iload_n 3, 1) := by decide +kernel
theorem d_Mo_read_163 : decode c_Mo_read 163 = .ok (.bipush 64, 2) := by decide +kernel
theorem d_Mo_read_165 : decode c_Mo_read 165 = .ok (.irem, 1) := by decide +kernel
theorem d_Mo_read_166 : decode c_Mo_read 166 = .ok (.imul, 1) := by decide +kernel
theorem d_Mo_read_167 : decode c_Mo_read 167 = .ok (.iadd, 1) := by decide +kernel
theorem d_Mo_read_168 : decode c_Mo_read 168 = .ok (.iastore, 1) := by decide +kernel
theorem d_Mo_read_169 : decode c_Mo_read 169 = .ok (.iinc 2 1, 3) := by decide +kernel
theorem d_Mo_read_172 : decode c_Mo_read 172 = .ok (.goto (-75), 3) := by decide +kernel
theorem d_Mo_read_175 : decode c_Mo_read 175 = .ok (.iconst (-1), 1) := by decide +kernel
theorem d_Mo_read_176 : decode c_Mo_read 176 = .ok (.ireturn, 1) := by decide +kernel
theorem d_Mo_take_0 : decode c_Mo_take 0 = .ok (.iload_n 2, 1) := by decide +kernel
theorem d_Mo_take_1 : decode c_Mo_take 1 = .ok (.iload_n 1, 1) := by decide +kernel
theorem d_Mo_take_2 : decode c_Mo_take 2 = .ok (.isub, 1) := by decide +kernel
theorem d_Mo_take_3 : decode c_Mo_take 3 = .ok (.iconst 2, 1) := by decide +kernel
theorem d_Mo_take_4 : decode c_Mo_take 4 = .ok (.if_icmp .ne 43, 3) := by decide +kernel
theorem d_Mo_take_7 : decode c_Mo_take 7 = .ok (.aload_n 0, 1) := by decide +kernel
theorem d_Mo_take_8 : decode c_Mo_take 8 = .ok (.getfield 23, 3) := by decide +kernel
theorem d_Mo_take_11 : decode c_Mo_take 11 = .ok (.iload_n 1, 1) := by decide +kernel
theorem d_Mo_take_12 : decode c_Mo_take 12 = .ok (.iconst 1, 1) := by decide +kernel
theorem d_Mo_take_13 : decode c_Mo_take 13 = .ok (.iadd, 1) := by decide +kernel
theorem d_Mo_take_14 : decode c_Mo_take 14 = .ok (.caload, 1) := by decide +kernel
theorem d_Mo_take_15 : decode c_Mo_take 15 = .ok (.bipush 97, 2) := by decide +kernel
theorem d_Mo_take_17 : decode c_Mo_take 17 = .ok (.if_icmp .lt 30, 3) := by decide +kernel
theorem d_Mo_take_20 : decode c_Mo_take 20 = .ok (.aload_n 0, 1) := by decide +kernel
theorem d_Mo_take_21 : decode c_Mo_take 21 = .ok (.getfield 23, 3) := by decide +kernel
theorem d_Mo_take_24 : decode c_Mo_take 24 = .ok (.iload_n 1, 1) := by decide +kernel
theorem d_Mo_take_25 : decode c_Mo_take 25 = .ok (.iconst 1, 1) := by decide +kernel
theorem d_Mo_take_26 : decode c_Mo_take 26 = .ok (.iadd, 1) := by decide +kernel
theorem d_Mo_take_27 : decode c_Mo_take 27 = .ok (.caload, 1) := by decide +kernel
theorem d_Mo_take_28 : decode c_Mo_take 28 = .ok (.bipush 122, 2) := by decide +kernel
theorem d_Mo_take_30 : decode c_Mo_take 30 = .ok (.if_icmp .gt 17, 3) := by decide +kernel
theorem d_Mo_take_33 : decode c_Mo_take 33 = .ok (.aload_n 0, 1) := by decide +kernel
theorem d_Mo_take_34 : decode c_Mo_take 34 = .ok (.getfield 23, 3) := by decide +kernel
theorem d_Mo_take_37 : decode c_Mo_take 37 = .ok (.iload_n 1, 1) := by decide +kernel
theorem d_Mo_take_38 : decode c_Mo_take 38 = .ok (.iconst 1, 1) := by decide +kernel
theorem d_Mo_take_39 : decode c_Mo_take 39 = .ok (.iadd, 1) := by decide +kernel
theorem d_Mo_take_40 : decode c_Mo_take 40 = .ok (.caload, 1) := by decide +kernel
theorem d_Mo_take_41 : decode c_Mo_take 41 = .ok (.bipush 97, 2) := by decide +kernel
theorem d_Mo_take_43 : decode c_Mo_take 43 = .ok (.isub, 1) := by decide +kernel
theorem d_Mo_take_44 : decode c_Mo_take 44 = .ok (.goto 4, 3) := by decide +kernel
theorem d_Mo_take_47 : decode c_Mo_take 47 = .ok (.iconst (-1), 1) := by decide +kernel
theorem d_Mo_take_48 : decode c_Mo_take 48 = .ok (.istore_n 3, 1) := by decide +kernel
theorem d_Mo_take_49 : decode c_Mo_take 49 = .ok (.iload_n 3, 1) := by decide +kernel
theorem d_Mo_take_50 : decode c_Mo_take 50 = .ok (.ifCond .lt 37, 3) := by decide +kernel
theorem d_Mo_take_53 : decode c_Mo_take 53 = .ok (.aload_n 0, 1) := by decide +kernel
theorem d_Mo_take_54 : decode c_Mo_take 54 = .ok (.getfield 23, 3) := by decide +kernel
theorem d_Mo_take_57 : decode c_Mo_take 57 = .ok (.iload_n 1, 1) := by decide +kernel
theorem d_Mo_take_58 : decode c_Mo_take 58 = .ok (.caload, 1) := by decide +kernel
theorem d_Mo_take_59 : decode c_Mo_take 59 = .ok (.bipush 58, 2) := by decide +kernel
theorem d_Mo_take_61 : decode c_Mo_take 61 = .ok (.if_icmp .ne 26, 3) := by decide +kernel
theorem d_Mo_take_64 : decode c_Mo_take 64 = .ok (.aload_n 0, 1) := by decide +kernel
theorem d_Mo_take_65 : decode c_Mo_take 65 = .ok (.getfield 34, 3) := by decide +kernel
theorem d_Mo_take_68 : decode c_Mo_take 68 = .ok (.iload_n 3, 1) := by decide +kernel
theorem d_Mo_take_69 : decode c_Mo_take 69 = .ok (.iaload, 1) := by decide +kernel
theorem d_Mo_take_70 : decode c_Mo_take 70 = .ok (.ifCond .lt 5, 3) := by decide +kernel
theorem d_Mo_take_73 : decode c_Mo_take 73 = .ok (.iconst 0, 1) := by decide +kernel
theorem d_Mo_take_74 : decode c_Mo_take 74 = .ok (.ireturn, 1) := by decide +kernel
theorem d_Mo_take_75 : decode c_Mo_take 75 = .ok (.aload_n 0, 1) := by decide +kernel
theorem d_Mo_take_76 : decode c_Mo_take 76 = .ok (.getfield 34, 3) := by decide +kernel
theorem d_Mo_take_79 : decode c_Mo_take 79 = .ok (.iload_n 3, 1) := by decide +kernel
theorem d_Mo_take_80 : decode c_Mo_take 80 = .ok (.aload_n 0, 1) := by decide +kernel
theorem d_Mo_take_81 : decode c_Mo_take 81 = .ok (.getfield 228, 3) := by decide +kernel
theorem d_Mo_take_84 : decode c_Mo_take 84 = .ok (.iastore, 1) := by decide +kernel
theorem d_Mo_take_85 : decode c_Mo_take 85 = .ok (.iconst 1, 1) := by decide +kernel
theorem d_Mo_take_86 : decode c_Mo_take 86 = .ok (.ireturn, 1) := by decide +kernel
theorem d_Mo_take_87 : decode c_Mo_take 87 = .ok (.iload_n 3, 1) := by decide +kernel
theorem d_Mo_take_88 : decode c_Mo_take 88 = .ok (.ifCond .lt 29, 3) := by decide +kernel
theorem d_Mo_take_91 : decode c_Mo_take 91 = .ok (.aload_n 0, 1) := by decide +kernel
theorem d_Mo_take_92 : decode c_Mo_take 92 = .ok (.getfield 23, 3) := by decide +kernel
theorem d_Mo_take_95 : decode c_Mo_take 95 = .ok (.iload_n 1, 1) := by decide +kernel
theorem d_Mo_take_96 : decode c_Mo_take 96 = .ok (.caload, 1) := by decide +kernel
theorem d_Mo_take_97 : decode c_Mo_take 97 = .ok (.bipush 62, 2) := by decide +kernel
theorem d_Mo_take_99 : decode c_Mo_take 99 = .ok (.if_icmp .eq 14, 3) := by decide +kernel
theorem d_Mo_take_102 : decode c_Mo_take 102 = .ok (.aload_n 0, 1) := by decide +kernel
theorem d_Mo_take_103 : decode c_Mo_take 103 = .ok (.getfield 23, 3) := by decide +kernel
theorem d_Mo_take_106 : decode c_Mo_take 106 = .ok (.iload_n 1, 1) := by decide +kernel
theorem d_Mo_take_107 : decode c_Mo_take 107 = .ok (.caload, 1) := by decide +kernel
theorem d_Mo_take_108 : decode c_Mo_take 108 = .ok (.bipush 64, 2) := by decide +kernel
theorem d_Mo_take_110 : decode c_Mo_take 110 = .ok (.if_icmp .ne 7, 3) := by decide +kernel
theorem d_Mo_take_113 : decode c_Mo_take 113 = .ok (.iconst 1, 1) := by decide +kernel
theorem d_Mo_take_114 : decode c_Mo_take 114 = .ok (.goto 4, 3) := by decide +kernel
theorem d_Mo_take_117 : decode c_Mo_take 117 = .ok (.iconst 0, 1) := by decide +kernel
theorem d_Mo_take_118 : decode c_Mo_take 118 = .ok (.istore 4, 2) := by decide +kernel
theorem d_Mo_take_120 : decode c_Mo_take 120 = .ok (.iload 4, 2) := by decide +kernel
theorem d_Mo_take_122 : decode c_Mo_take 122 = .ok (.ifCond .ne 12, 3) := by decide +kernel
theorem d_Mo_take_125 : decode c_Mo_take 125 = .ok (.aload_n 0, 1) := by decide +kernel
theorem d_Mo_take_126 : decode c_Mo_take 126 = .ok (.iload_n 1, 1) := by decide +kernel
theorem d_Mo_take_127 : decode c_Mo_take 127 = .ok (.iload_n 2, 1) := by decide +kernel
theorem d_Mo_take_128 : decode c_Mo_take 128 = .ok (.invokevirtual 231, 3) := by decide +kernel
theorem d_Mo_take_131 : decode c_Mo_take 131 = .ok (.goto 19, 3) := by decide +kernel
theorem d_Mo_take_134 : decode c_Mo_take 134 = .ok (.aload_n 0, 1) := by decide +kernel
theorem d_Mo_take_135 : decode c_Mo_take 135 = .ok (.getfield 23, 3) := by decide +kernel
theorem d_Mo_take_138 : decode c_Mo_take 138 = .ok (.iload_n 1, 1) := by decide +kernel
theorem d_Mo_take_139 : decode c_Mo_take 139 = .ok (.caload, 1) := by decide +kernel
theorem d_Mo_take_140 : decode c_Mo_take 140 = .ok (.bipush 62, 2) := by decide +kernel
theorem d_Mo_take_142 : decode c_Mo_take 142 = .ok (.if_icmp .ne 7, 3) := by decide +kernel
theorem d_Mo_take_145 : decode c_Mo_take 145 = .ok (.iconst 3, 1) := by decide +kernel
theorem d_Mo_take_146 : decode c_Mo_take 146 = .ok (.goto 4, 3) := by decide +kernel
theorem d_Mo_take_149 : decode c_Mo_take 149 = .ok (.iconst 1, 1) := by decide +kernel
theorem d_Mo_take_150 : decode c_Mo_take 150 = .ok (.istore 5, 2) := by decide +kernel
theorem d_Mo_take_152 : decode c_Mo_take 152 = .ok (.iload 5, 2) := by decide +kernel
theorem d_Mo_take_154 : decode c_Mo_take 154 = .ok (.ifCond .lt 12, 3) := by decide +kernel
theorem d_Mo_take_157 : decode c_Mo_take 157 = .ok (.aload_n 0, 1) := by decide +kernel
theorem d_Mo_take_158 : decode c_Mo_take 158 = .ok (.getfield 228, 3) := by decide +kernel
theorem d_Mo_take_161 : decode c_Mo_take 161 = .ok (.bipush 64, 2) := by decide +kernel
theorem d_Mo_take_163 : decode c_Mo_take 163 = .ok (.if_icmp .ne 5, 3) := by decide +kernel
theorem d_Mo_take_166 : decode c_Mo_take 166 = .ok (.iconst 0, 1) := by decide +kernel
theorem d_Mo_take_167 : decode c_Mo_take 167 = .ok (.ireturn, 1) := by decide +kernel
theorem d_Mo_take_168 : decode c_Mo_take 168 = .ok (.aload_n 0, 1) := by decide +kernel
theorem d_Mo_take_169 : decode c_Mo_take 169 = .ok (.getfield 37, 3) := by decide +kernel
theorem d_Mo_take_172 : decode c_Mo_take 172 = .ok (.aload_n 0, 1) := by decide +kernel
theorem d_Mo_take_173 : decode c_Mo_take 173 = .ok (.getfield 228, 3) := by decide +kernel
theorem d_Mo_take_176 : decode c_Mo_take 176 = .ok (.iload 4, 2) := by decide +kernel
theorem d_Mo_take_178 : decode c_Mo_take 178 = .ok (.ifCond .eq 7, 3) := by decide +kernel
theorem d_Mo_take_181 : decode c_Mo_take 181 = .ok (.iload_n 1, 1) := by decide +kernel
theorem d_Mo_take_182 : decode c_Mo_take 182 = .ok (.goto 4, 3) := by decide +kernel
theorem d_Mo_take_185 : decode c_Mo_take 185 = .ok (.iconst (-1), 1) := by decide +kernel
theorem d_Mo_take_186 : decode c_Mo_take 186 = .ok (.iastore, 1) := by decide +kernel
theorem d_Mo_take_187 : decode c_Mo_take 187 = .ok (.aload_n 0, 1) := by decide +kernel
theorem d_Mo_take_188 : decode c_Mo_take 188 = .ok (.getfield 31, 3) := by decide +kernel
theorem d_Mo_take_191 : decode c_Mo_take 191 = .ok (.aload_n 0, 1) := by decide +kernel
theorem d_Mo_take_192 : decode c_Mo_take 192 = .ok (.getfield 228, 3) := by decide +kernel
theorem d_Mo_take_195 : decode c_Mo_take 195 = .ok (.iload 5, 2) := by decide +kernel
theorem d_Mo_take_197 : decode c_Mo_take 197 = .ok (.iastore, 1) := by decide +kernel
theorem d_Mo_take_198 : decode c_Mo_take 198 = .ok (.aload_n 0, 1) := by decide +kernel
theorem d_Mo_take_199 : decode c_Mo_take 199 = .ok (.dup, 1) := by decide +kernel
theorem d_Mo_take_200 : decode c_Mo_take 200 = .ok (.getfield 228, 3) := by decide +kernel
theorem d_Mo_take_203 : decode c_Mo_take 203 = .ok (.iconst 1, 1) := by decide +kernel
theorem d_Mo_take_204 : decode c_Mo_take 204 = .ok (.iadd, 1) := by decide +kernel
theorem d_Mo_take_205 : decode c_Mo_take 205 = .ok (.putfield 228, 3) := by decide +kernel
theorem d_Mo_take_208 : decode c_Mo_take 208 = .ok (.iconst 1, 1) := by decide +kernel
theorem d_Mo_take_209 : decode c_Mo_take 209 = .ok (.ireturn, 1) := by decide +kernel
theorem d_Mo_wordOf_0 : decode c_Mo_wordOf 0 = .ok (.iconst 0, 1) := by decide +kernel
theorem d_Mo_wordOf_1 : decode c_Mo_wordOf 1 = .ok (.istore_n 3, 1) := by decide +kernel
theorem d_Mo_wordOf_2 : decode c_Mo_wordOf 2 = .ok (.iload_n 3, 1) := by decide +kernel
theorem d_Mo_wordOf_3 : decode c_Mo_wordOf 3 = .ok (.bipush 16, 2) := by decide +kernel
theorem d_Mo_wordOf_5 : decode c_Mo_wordOf 5 = .ok (.if_icmp .ge 80, 3) := by decide +kernel
theorem d_Mo_wordOf_8 : decode c_Mo_wordOf 8 = .ok (.iload_n 3, 1) := by decide +kernel
theorem d_Mo_wordOf_9 : decode c_Mo_wordOf 9 = .ok (.invokestatic 207, 3) := by decide +kernel
theorem d_Mo_wordOf_12 : decode c_Mo_wordOf 12 = .ok (.istore 4, 2) := by decide +kernel
theorem d_Mo_wordOf_14 : decode c_Mo_wordOf 14 = .ok (.iload 4, 2) := by decide +kernel
theorem d_Mo_wordOf_16 : decode c_Mo_wordOf 16 = .ok (.iload_n 2, 1) := by decide +kernel
theorem d_Mo_wordOf_17 : decode c_Mo_wordOf 17 = .ok (.iload_n 1, 1) := by decide +kernel
theorem d_Mo_wordOf_18 : decode c_Mo_wordOf 18 = .ok (.isub, 1) := by decide +kernel
theorem d_Mo_wordOf_19 : decode c_Mo_wordOf 19 = .ok (.if_icmp .ge 60, 3) := by decide +kernel
theorem d_Mo_wordOf_22 : decode c_Mo_wordOf 22 = .ok (.aload_n 0, 1) := by decide +kernel
theorem d_Mo_wordOf_23 : decode c_Mo_wordOf 23 = .ok (.iload_n 1, 1) := by decide +kernel
theorem d_Mo_wordOf_24 : decode c_Mo_wordOf 24 = .ok (.iload_n 2, 1) := by decide +kernel
theorem d_Mo_wordOf_25 : decode c_Mo_wordOf 25 = .ok (.iload 4, 2) := by decide +kernel
theorem d_Mo_wordOf_27 : decode c_Mo_wordOf 27 = .ok (.invokevirtual 211, 3) := by decide +kernel
theorem d_Mo_wordOf_30 : decode c_Mo_wordOf 30 = .ok (.iload_n 3, 1) := by decide +kernel
theorem d_Mo_wordOf_31 : decode c_Mo_wordOf 31 = .ok (.invokestatic 215, 3) := by decide +kernel
theorem d_Mo_wordOf_34 : decode c_Mo_wordOf 34 = .ok (.lcmp, 1) := by decide +kernel
theorem d_Mo_wordOf_35 : decode c_Mo_wordOf 35 = .ok (.ifCond .eq 6, 3) := by decide +kernel
theorem d_Mo_wordOf_38 : decode c_Mo_wordOf 38 = .ok (.goto 41, 3) := by decide +kernel
theorem d_Mo_wordOf_41 : decode c_Mo_wordOf 41 = .ok (.iload 4, 2) := by decide +kernel
theorem d_Mo_wordOf_43 : decode c_Mo_wordOf 43 = .ok (.ifCond .ge 7, 3) := by decide +kernel
theorem d_Mo_wordOf_46 : decode c_Mo_wordOf 46 = .ok (.iconst 0, 1) := by decide +kernel
theorem d_Mo_wordOf_47 : decode c_Mo_wordOf 47 = .ok (.goto 15, 3) := by decide +kernel
theorem d_Mo_wordOf_50 : decode c_Mo_wordOf 50 = .ok (.aload_n 0, 1) := by decide +kernel
theorem d_Mo_wordOf_51 : decode c_Mo_wordOf 51 = .ok (.getfield 23, 3) := by decide +kernel
theorem d_Mo_wordOf_54 : decode c_Mo_wordOf 54 = .ok (.iload_n 1, 1) := by decide +kernel
theorem d_Mo_wordOf_55 : decode c_Mo_wordOf 55 = .ok (.iload 4, 2) := by decide +kernel
theorem d_Mo_wordOf_57 : decode c_Mo_wordOf 57 = .ok (.iadd, 1) := by decide +kernel
theorem d_Mo_wordOf_58 : decode c_Mo_wordOf 58 = .ok (.caload, 1) := by decide +kernel
theorem d_Mo_wordOf_59 : decode c_Mo_wordOf 59 = .ok (.invokestatic 218, 3) := by decide +kernel
theorem d_Mo_wordOf_62 : decode c_Mo_wordOf 62 = .ok (.istore 5, 2) := by decide +kernel
theorem d_Mo_wordOf_64 : decode c_Mo_wordOf 64 = .ok (.iload 5, 2) := by decide +kernel
theorem d_Mo_wordOf_66 : decode c_Mo_wordOf 66 = .ok (.ifCond .lt 13, 3) := by decide +kernel
theorem d_Mo_wordOf_69 : decode c_Mo_wordOf 69 = .ok (.bipush 64, 2) := by decide +kernel
theorem d_Mo_wordOf_71 : decode c_Mo_wordOf 71 = .ok (.iload 5, 2) := by decide +kernel
theorem d_Mo_wordOf_73 : decode c_Mo_wordOf 73 = .ok (.imul, 1) := by decide +kernel
theorem d_Mo_wordOf_74 : decode c_Mo_wordOf 74 = .ok (.iconst 4, 1) := by decide +kernel
theorem d_Mo_wordOf_75 : decode c_Mo_wordOf 75 = .ok (.iload_n 3, 1) := by decide +kernel
theorem d_Mo_wordOf_76 : decode c_Mo_wordOf 76 = .ok (.imul, 1) := by decide +kernel
theorem d_Mo_wordOf_77 : decode c_Mo_wordOf 77 = .ok (.iadd, 1) := by decide +kernel
theorem d_Mo_wordOf_78 : decode c_Mo_wordOf 78 = .ok (.ireturn, 1) := by decide +kernel
theorem d_Mo_wordOf_79 : decode c_Mo_wordOf 79 = .ok (.iinc 3 1, 3) := by decide +kernel
theorem d_Mo_wordOf_82 : decode c_Mo_wordOf 82 = .ok (.goto (-80), 3) := by decide +kernel
theorem d_Mo_wordOf_85 : decode c_Mo_wordOf 85 = .ok (.iload_n 2, 1) := by decide +kernel
theorem d_Mo_wordOf_86 : decode c_Mo_wordOf 86 = .ok (.iload_n 1, 1) := by decide +kernel
theorem d_Mo_wordOf_87 : decode c_Mo_wordOf 87 = .ok (.isub, 1) := by decide +kernel
theorem d_Mo_wordOf_88 : decode c_Mo_wordOf 88 = .ok (.iconst 3, 1) := by decide +kernel
theorem d_Mo_wordOf_89 : decode c_Mo_wordOf 89 = .ok (.if_icmp .lt 16, 3) := by decide +kernel
theorem d_Mo_wordOf_92 : decode c_Mo_wordOf 92 = .ok (.aload_n 0, 1) := by decide +kernel
theorem d_Mo_wordOf_93 : decode c_Mo_wordOf 93 = .ok (.getfield 23, 3) := by decide +kernel
theorem d_Mo_wordOf_96 : decode c_Mo_wordOf 96 = .ok (.iload_n 2, 1) := by decide +kernel
theorem d_Mo_wordOf_97 : decode c_Mo_wordOf 97 = .ok (.iconst 2, 1) := by decide +kernel
theorem d_Mo_wordOf_98 : decode c_Mo_wordOf 98 = .ok (.isub, 1) := by decide +kernel
theorem d_Mo_wordOf_99 : decode c_Mo_wordOf 99 = .ok (.caload, 1) := by decide +kernel
theorem d_Mo_wordOf_100 : decode c_Mo_wordOf 100 = .ok (.bipush 46, 2) := by decide +kernel
theorem d_Mo_wordOf_102 : decode c_Mo_wordOf 102 = .ok (.if_icmp .eq 5, 3) := by decide +kernel
theorem d_Mo_wordOf_105 : decode c_Mo_wordOf 105 = .ok (.iconst (-1), 1) := by decide +kernel
theorem d_Mo_wordOf_106 : decode c_Mo_wordOf 106 = .ok (.ireturn, 1) := by decide +kernel
theorem d_Mo_wordOf_107 : decode c_Mo_wordOf 107 = .ok (.aload_n 0, 1) := by decide +kernel
theorem d_Mo_wordOf_108 : decode c_Mo_wordOf 108 = .ok (.getfield 23, 3) := by decide +kernel
theorem d_Mo_wordOf_111 : decode c_Mo_wordOf 111 = .ok (.iload_n 2, 1) := by decide +kernel
theorem d_Mo_wordOf_112 : decode c_Mo_wordOf 112 = .ok (.iconst 1, 1) := by decide +kernel
theorem d_Mo_wordOf_113 : decode c_Mo_wordOf 113 = .ok (.isub, 1) := by decide +kernel
theorem d_Mo_wordOf_114 : decode c_Mo_wordOf 114 = .ok (.caload, 1) := by decide +kernel
theorem d_Mo_wordOf_115 : decode c_Mo_wordOf 115 = .ok (.invokestatic 222, 3) := by decide +kernel
theorem d_Mo_wordOf_118 : decode c_Mo_wordOf 118 = .ok (.istore_n 3, 1) := by decide +kernel
theorem d_Mo_wordOf_119 : decode c_Mo_wordOf 119 = .ok (.aload_n 0, 1) := by decide +kernel
theorem d_Mo_wordOf_120 : decode c_Mo_wordOf 120 = .ok (.iload_n 1, 1) := by decide +kernel
theorem d_Mo_wordOf_121 : decode c_Mo_wordOf 121 = .ok (.iload_n 2, 1) := by decide +kernel
theorem d_Mo_wordOf_122 : decode c_Mo_wordOf 122 = .ok (.iconst 2, 1) := by decide +kernel
theorem d_Mo_wordOf_123 : decode c_Mo_wordOf 123 = .ok (.isub, 1) := by decide +kernel
theorem d_Mo_wordOf_124 : decode c_Mo_wordOf 124 = .ok (.iconst (-1), 1) := by decide +kernel
theorem d_Mo_wordOf_125 : decode c_Mo_wordOf 125 = .ok (.invokevirtual 211, 3) := by decide +kernel
theorem d_Mo_wordOf_128 : decode c_Mo_wordOf 128 = .ok (.lstore 4, 2) := by decide +kernel
theorem d_Mo_wordOf_130 : decode c_Mo_wordOf 130 = .ok (.iconst 0, 1) := by decide +kernel
theorem d_Mo_wordOf_131 : decode c_Mo_wordOf 131 = .ok (.istore 6, 2) := by decide +kernel
theorem d_Mo_wordOf_133 : decode c_Mo_wordOf 133 = .ok (.iload 6, 2) := by decide +kernel
theorem d_Mo_wordOf_135 : decode c_Mo_wordOf 135 = .ok (.bipush 32, 2) := by decide +kernel
theorem d_Mo_wordOf_137 : decode c_Mo_wordOf 137 = .ok (.if_icmp .ge 36, 3) := by decide +kernel
theorem d_Mo_wordOf_140 : decode c_Mo_wordOf 140 = .ok (.iload_n 3, 1) := by decide +kernel
theorem d_Mo_wordOf_141 : decode c_Mo_wordOf 141 = .ok (.ifCond .lt 32, 3) := by decide +kernel
theorem d_Mo_wordOf_144 : decode c_Mo_wordOf 144 = .ok (.lload 4, 2) := by decide +kernel
theorem d_Mo_wordOf_146 : decode c_Mo_wordOf 146 = .ok (.iload 6, 2) := by decide +kernel
theorem d_Mo_wordOf_148 : decode c_Mo_wordOf 148 = .ok (.invokestatic 225, 3) := by decide +kernel
theorem d_Mo_wordOf_151 : decode c_Mo_wordOf 151 = .ok (.lcmp, 1) := by decide +kernel
theorem d_Mo_wordOf_152 : decode c_Mo_wordOf 152 = .ok (.ifCond .ne 15, 3) := by decide +kernel
theorem d_Mo_wordOf_155 : decode c_Mo_wordOf 155 = .ok (.bipush 32, 2) := by decide +kernel
theorem d_Mo_wordOf_157 : decode c_Mo_wordOf 157 = .ok (.iload 6, 2) := by decide +kernel
theorem d_Mo_wordOf_159 : decode c_Mo_wordOf 159 = .ok (.imul, 1) := by decide +kernel
theorem d_Mo_wordOf_160 : decode c_Mo_wordOf 160 = .ok (.iconst 4, 1) := by decide +kernel
theorem d_Mo_wordOf_161 : decode c_Mo_wordOf 161 = .ok (.iload_n 3, 1) := by decide +kernel
theorem d_Mo_wordOf_162 : decode c_Mo_wordOf 162 = .ok (.imul, 1) := by decide +kernel
theorem d_Mo_wordOf_163 : decode c_Mo_wordOf 163 = .ok (.iadd, 1) := by decide +kernel
theorem d_Mo_wordOf_164 : decode c_Mo_wordOf 164 = .ok (.iconst 2, 1) := by decide +kernel
theorem d_Mo_wordOf_165 : decode c_Mo_wordOf 165 = .ok (.iadd, 1) := by decide +kernel
theorem d_Mo_wordOf_166 : decode c_Mo_wordOf 166 = .ok (.ireturn, 1) := by decide +kernel
theorem d_Mo_wordOf_167 : decode c_Mo_wordOf 167 = .ok (.iinc 6 1, 3) := by decide +kernel
theorem d_Mo_wordOf_170 : decode c_Mo_wordOf 170 = .ok (.goto (-37), 3) := by decide +kernel
theorem d_Mo_wordOf_173 : decode c_Mo_wordOf 173 = .ok (.iconst (-1), 1) := by decide +kernel
theorem d_Mo_wordOf_174 : decode c_Mo_wordOf 174 = .ok (.ireturn, 1) := by decide +kernel
theorem d_Mo_numberAt_0 : decode c_Mo_numberAt 0 = .ok (.iload_n 0, 1) := by decide +kernel
theorem d_Mo_numberAt_1 : decode c_Mo_numberAt 1 = .ok (.iconst 2, 1) := by decide +kernel
theorem d_Mo_numberAt_2 : decode c_Mo_numberAt 2 = .ok (.if_icmp .ne 7, 3) := by decide +kernel
theorem d_Mo_numberAt_5 : decode c_Mo_numberAt 5 = .ok (.iconst 3, 1) := by decide +kernel
theorem d_Mo_numberAt_6 : decode c_Mo_numberAt 6 = .ok (.goto 38, 3) := by decide +kernel
theorem d_Mo_numberAt_9 : decode c_Mo_numberAt 9 = .ok (.iload_n 0, 1) := by decide +kernel
theorem d_Mo_numberAt_10 : decode c_Mo_numberAt 10 = .ok (.iconst 1, 1) := by decide +kernel
theorem d_Mo_numberAt_11 : decode c_Mo_numberAt 11 = .ok (.if_icmp .eq 8, 3) := by decide +kernel
theorem d_Mo_numberAt_14 : decode c_Mo_numberAt 14 = .ok (.iload_n 0, 1) := by decide +kernel
theorem d_Mo_numberAt_15 : decode c_Mo_numberAt 15 = .ok (.iconst 5, 1) := by decide +kernel
theorem d_Mo_numberAt_16 : decode c_Mo_numberAt 16 = .ok (.if_icmp .ne 7, 3) := by decide +kernel
theorem d_Mo_numberAt_19 : decode c_Mo_numberAt 19 = .ok (.iconst 2, 1) := by decide +kernel
theorem d_Mo_numberAt_20 : decode c_Mo_numberAt 20 = .ok (.goto 24, 3) := by decide +kernel
theorem d_Mo_numberAt_23 : decode c_Mo_numberAt 23 = .ok (.iload_n 0, 1) := by decide +kernel
theorem d_Mo_numberAt_24 : decode c_Mo_numberAt 24 = .ok (.iconst 3, 1) := by decide +kernel
theorem d_Mo_numberAt_25 : decode c_Mo_numberAt 25 = .ok (.if_icmp .eq 14, 3) := by decide +kernel
theorem d_Mo_numberAt_28 : decode c_Mo_numberAt 28 = .ok (.iload_n 0, 1) := by decide +kernel
theorem d_Mo_numberAt_29 : decode c_Mo_numberAt 29 = .ok (.iconst 4, 1) := by decide +kernel
theorem d_Mo_numberAt_30 : decode c_Mo_numberAt 30 = .ok (.if_icmp .eq 9, 3) := by decide +kernel
theorem d_Mo_numberAt_33 : decode c_Mo_numberAt 33 = .ok (.iload_n 0, 1) := by decide +kernel
theorem d_Mo_numberAt_34 : decode c_Mo_numberAt 34 = .ok (.bipush 6, 2) := by decide +kernel
theorem d_Mo_numberAt_36 : decode c_Mo_numberAt 36 = .ok (.if_icmp .ne 7, 3) := by decide +kernel
theorem d_Mo_numberAt_39 : decode c_Mo_numberAt 39 = .ok (.iconst 1, 1) := by decide +kernel
theorem d_Mo_numberAt_40 : decode c_Mo_numberAt 40 = .ok (.goto 4, 3) := by decide +kernel
theorem d_Mo_numberAt_43 : decode c_Mo_numberAt 43 = .ok (.iconst (-1), 1) := by decide +kernel
theorem d_Mo_numberAt_44 : decode c_Mo_numberAt 44 = .ok (.ireturn, 1) := by decide +kernel
theorem d_Mo_name_0 : decode c_Mo_name 0 = .ok (.iload_n 2, 1) := by decide +kernel
theorem d_Mo_name_1 : decode c_Mo_name 1 = .ok (.iload_n 1, 1) := by decide +kernel
theorem d_Mo_name_2 : decode c_Mo_name 2 = .ok (.isub, 1) := by decide +kernel
theorem d_Mo_name_3 : decode c_Mo_name 3 = .ok (.bipush 6, 2) := by decide +kernel
theorem d_Mo_name_5 : decode c_Mo_name 5 = .ok (.if_icmp .le 5, 3) := by decide +kernel
theorem d_Mo_name_8 : decode c_Mo_name 8 = .ok (.lconst 0, 1) := by decide +kernel
theorem d_Mo_name_9 : decode c_Mo_name 9 = .ok (.lreturn, 1) := by decide +kernel
theorem d_Mo_name_10 : decode c_Mo_name 10 = .ok (.lconst 0, 1) := by decide +kernel
theorem d_Mo_name_11 : decode c_Mo_name 11 = .ok (.lstore 4, 2) := by decide +kernel
theorem d_Mo_name_13 : decode c_Mo_name 13 = .ok (.iload_n 1, 1) := by decide +kernel
theorem d_Mo_name_14 : decode c_Mo_name 14 = .ok (.istore 6, 2) := by decide +kernel
theorem d_Mo_name_16 : decode c_Mo_name 16 = .ok (.iload 6, 2) := by decide +kernel
theorem d_Mo_name_18 : decode c_Mo_name 18 = .ok (.iload_n 2, 1) := by decide +kernel
theorem d_Mo_name_19 : decode c_Mo_name 19 = .ok (.if_icmp .ge 38, 3) := by decide +kernel
theorem d_Mo_name_22 : decode c_Mo_name 22 = .ok (.lload 4, 2) := by decide +kernel
theorem d_Mo_name_24 : decode c_Mo_name 24 = .ok (.bipush 8, 2) := by decide +kernel
theorem d_Mo_name_26 : decode c_Mo_name 26 = .ok (.lshl, 1) := by decide +kernel
theorem d_Mo_name_27 : decode c_Mo_name 27 = .ok (.iload 6, 2) := by decide +kernel
theorem d_Mo_name_29 : decode c_Mo_name 29 = .ok (.iload_n 1, 1) := by decide +kernel
theorem d_Mo_name_30 : decode c_Mo_name 30 = .ok (.isub, 1) := by decide +kernel
theorem d_Mo_name_31 : decode c_Mo_name 31 = .ok (.iload_n 3, 1) := by decide +kernel
theorem d_Mo_name_32 : decode c_Mo_name 32 = .ok (.if_icmp .ne 8, 3) := by decide +kernel
theorem d_Mo_name_35 : decode c_Mo_name 35 = .ok (.bipush 35, 2) := by decide +kernel
theorem d_Mo_name_37 : decode c_Mo_name 37 = .ok (.goto 10, 3) := by decide +kernel
theorem d_Mo_name_40 : decode c_Mo_name 40 = .ok (.aload_n 0, 1) := by decide +kernel
theorem d_Mo_name_41 : decode c_Mo_name 41 = .ok (.getfield 23, 3) := by decide +kernel
theorem d_Mo_name_44 : decode c_Mo_name 44 = .ok (.iload 6, 2) := by decide +kernel
theorem d_Mo_name_46 : decode c_Mo_name 46 = .ok (.caload, 1) := by decide +kernel
theorem d_Mo_name_47 : decode c_Mo_name 47 = .ok (.i2l, 1) := by decide +kernel
theorem d_Mo_name_48 : decode c_Mo_name 48 = .ok (.lor, 1) := by decide +kernel
theorem d_Mo_name_49 : decode c_Mo_name 49 = .ok (.lstore 4, 2) := by decide +kernel
theorem d_Mo_name_51 : decode c_Mo_name 51 = .ok (.iinc 6 1, 3) := by decide +kernel
theorem d_Mo_name_54 : decode c_Mo_name 54 = .ok (.goto (-38), 3) := by decide +kernel
theorem d_Mo_name_57 : decode c_Mo_name 57 = .ok (.lload 4, 2) := by decide +kernel
theorem d_Mo_name_59 : decode c_Mo_name 59 = .ok (.lreturn, 1) := by decide +kernel
theorem d_Mo_control_0 : decode c_Mo_control 0 = .ok (.iload_n 0, 1) := by decide +kernel
theorem d_Mo_control_1 : decode c_Mo_control 1 = .ok (.tableswitch 135 0 14 #[75, 79, 83, 87, 91, 95, 99, 103, 107, 111, 115, 119, 123, 127, 131], 75) := by decide +kernel
theorem d_Mo_control_76 : decode c_Mo_control 76 = .ok (.ldc2_w 111, 3) := by decide +kernel
theorem d_Mo_control_79 : decode c_Mo_control 79 = .ok (.lreturn, 1) := by decide +kernel
theorem d_Mo_control_80 : decode c_Mo_control 80 = .ok (.ldc2_w 113, 3) := by decide +kernel
theorem d_Mo_control_83 : decode c_Mo_control 83 = .ok (.lreturn, 1) := by decide +kernel
theorem d_Mo_control_84 : decode c_Mo_control 84 = .ok (.ldc2_w 115, 3) := by decide +kernel
theorem d_Mo_control_87 : decode c_Mo_control 87 = .ok (.lreturn, 1) := by decide +kernel
theorem d_Mo_control_88 : decode c_Mo_control 88 = .ok (.ldc2_w 117, 3) := by decide +kernel
theorem d_Mo_control_91 : decode c_Mo_control 91 = .ok (.lreturn, 1) := by decide +kernel
theorem d_Mo_control_92 : decode c_Mo_control 92 = .ok (.ldc2_w 119, 3) := by decide +kernel
theorem d_Mo_control_95 : decode c_Mo_control 95 = .ok (.lreturn, 1) := by decide +kernel
theorem d_Mo_control_96 : decode c_Mo_control 96 = .ok (.ldc2_w 121, 3) := by decide +kernel
theorem d_Mo_control_99 : decode c_Mo_control 99 = .ok (.lreturn, 1) := by decide +kernel
theorem d_Mo_control_100 : decode c_Mo_control 100 = .ok (.ldc2_w 123, 3) := by decide +kernel
theorem d_Mo_control_103 : decode c_Mo_control 103 = .ok (.lreturn, 1) := by decide +kernel
theorem d_Mo_control_104 : decode c_Mo_control 104 = .ok (.ldc2_w 125, 3) := by decide +kernel
theorem d_Mo_control_107 : decode c_Mo_control 107 = .ok (.lreturn, 1) := by decide +kernel
theorem d_Mo_control_108 : decode c_Mo_control 108 = .ok (.ldc2_w 127, 3) := by decide +kernel
theorem d_Mo_control_111 : decode c_Mo_control 111 = .ok (.lreturn, 1) := by decide +kernel
theorem d_Mo_control_112 : decode c_Mo_control 112 = .ok (.ldc2_w 129, 3) := by decide +kernel
theorem d_Mo_control_115 : decode c_Mo_control 115 = .ok (.lreturn, 1) := by decide +kernel
theorem d_Mo_control_116 : decode c_Mo_control 116 = .ok (.ldc2_w 131, 3) := by decide +kernel
theorem d_Mo_control_119 : decode c_Mo_control 119 = .ok (.lreturn, 1) := by decide +kernel
theorem d_Mo_control_120 : decode c_Mo_control 120 = .ok (.ldc2_w 133, 3) := by decide +kernel
theorem d_Mo_control_123 : decode c_Mo_control 123 = .ok (.lreturn, 1) := by decide +kernel
theorem d_Mo_control_124 : decode c_Mo_control 124 = .ok (.ldc2_w 135, 3) := by decide +kernel
theorem d_Mo_control_127 : decode c_Mo_control 127 = .ok (.lreturn, 1) := by decide +kernel
theorem d_Mo_control_128 : decode c_Mo_control 128 = .ok (.ldc2_w 137, 3) := by decide +kernel
theorem d_Mo_control_131 : decode c_Mo_control 131 = .ok (.lreturn, 1) := by decide +kernel
theorem d_Mo_control_132 : decode c_Mo_control 132 = .ok (.ldc2_w 139, 3) := by decide +kernel
theorem d_Mo_control_135 : decode c_Mo_control 135 = .ok (.lreturn, 1) := by decide +kernel
theorem d_Mo_control_136 : decode c_Mo_control 136 = .ok (.ldc2_w 141, 3) := by decide +kernel
theorem d_Mo_control_139 : decode c_Mo_control 139 = .ok (.lreturn, 1) := by decide +kernel
theorem d_Mo_digit_0 : decode c_Mo_digit 0 = .ok (.iload_n 0, 1) := by decide +kernel
theorem d_Mo_digit_1 : decode c_Mo_digit 1 = .ok (.bipush 48, 2) := by decide +kernel
theorem d_Mo_digit_3 : decode c_Mo_digit 3 = .ok (.if_icmp .lt 16, 3) := by decide +kernel
theorem d_Mo_digit_6 : decode c_Mo_digit 6 = .ok (.iload_n 0, 1) := by decide +kernel
theorem d_Mo_digit_7 : decode c_Mo_digit 7 = .ok (.bipush 57, 2) := by decide +kernel
theorem d_Mo_digit_9 : decode c_Mo_digit 9 = .ok (.if_icmp .gt 10, 3) := by decide +kernel
theorem d_Mo_digit_12 : decode c_Mo_digit 12 = .ok (.iload_n 0, 1) := by decide +kernel
theorem d_Mo_digit_13 : decode c_Mo_digit 13 = .ok (.bipush 48, 2) := by decide +kernel
theorem d_Mo_digit_15 : decode c_Mo_digit 15 = .ok (.isub, 1) := by decide +kernel
theorem d_Mo_digit_16 : decode c_Mo_digit 16 = .ok (.goto 26, 3) := by decide +kernel
theorem d_Mo_digit_19 : decode c_Mo_digit 19 = .ok (.iload_n 0, 1) := by decide +kernel
theorem d_Mo_digit_20 : decode c_Mo_digit 20 = .ok (.bipush 97, 2) := by decide +kernel
theorem d_Mo_digit_22 : decode c_Mo_digit 22 = .ok (.if_icmp .lt 19, 3) := by decide +kernel
theorem d_Mo_digit_25 : decode c_Mo_digit 25 = .ok (.iload_n 0, 1) := by decide +kernel
theorem d_Mo_digit_26 : decode c_Mo_digit 26 = .ok (.bipush 102, 2) := by decide +kernel
theorem d_Mo_digit_28 : decode c_Mo_digit 28 = .ok (.if_icmp .gt 13, 3) := by decide +kernel
theorem d_Mo_digit_31 : decode c_Mo_digit 31 = .ok (.iload_n 0, 1) := by decide +kernel
theorem d_Mo_digit_32 : decode c_Mo_digit 32 = .ok (.bipush 97, 2) := by decide +kernel
