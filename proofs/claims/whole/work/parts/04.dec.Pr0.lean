theorem d_Pr_init_0 : decode c_Pr_init 0 = .ok (.aload_n 0, 1) := by decide +kernel
theorem d_Pr_init_1 : decode c_Pr_init 1 = .ok (.invokespecial 3, 3) := by decide +kernel
theorem d_Pr_init_4 : decode c_Pr_init 4 = .ok (.aload_n 0, 1) := by decide +kernel
theorem d_Pr_init_5 : decode c_Pr_init 5 = .ok (.bipush 64, 2) := by decide +kernel
theorem d_Pr_init_7 : decode c_Pr_init 7 = .ok (.newarray .int, 2) := by decide +kernel
theorem d_Pr_init_9 : decode c_Pr_init 9 = .ok (.putfield 9, 3) := by decide +kernel
theorem d_Pr_init_12 : decode c_Pr_init 12 = .ok (.aload_n 0, 1) := by decide +kernel
theorem d_Pr_init_13 : decode c_Pr_init 13 = .ok (.new 15, 3) := by decide +kernel
theorem d_Pr_init_16 : decode c_Pr_init 16 = .ok (.dup, 1) := by decide +kernel
theorem d_Pr_init_17 : decode c_Pr_init 17 = .ok (.invokespecial 17, 3) := by decide +kernel
theorem d_Pr_init_20 : decode c_Pr_init 20 = .ok (.putfield 18, 3) := by decide +kernel
theorem d_Pr_init_23 : decode c_Pr_init 23 = .ok (.aload_n 0, 1) := by decide +kernel
theorem d_Pr_init_24 : decode c_Pr_init 24 = .ok (.new 22, 3) := by decide +kernel
theorem d_Pr_init_27 : decode c_Pr_init 27 = .ok (.dup, 1) := by decide +kernel
theorem d_Pr_init_28 : decode c_Pr_init 28 = .ok (.invokespecial 24, 3) := by decide +kernel
theorem d_Pr_init_31 : decode c_Pr_init 31 = .ok (.putfield 25, 3) := by decide +kernel
theorem d_Pr_init_34 : decode c_Pr_init 34 = .ok (.aload_n 0, 1) := by decide +kernel
theorem d_Pr_init_35 : decode c_Pr_init 35 = .ok (.iconst 0, 1) := by decide +kernel
theorem d_Pr_init_36 : decode c_Pr_init 36 = .ok (.putfield 29, 3) := by decide +kernel
theorem d_Pr_init_39 : decode c_Pr_init 39 = .ok (.aload_n 0, 1) := by decide +kernel
theorem d_Pr_init_40 : decode c_Pr_init 40 = .ok (.iconst 0, 1) := by decide +kernel
theorem d_Pr_init_41 : decode c_Pr_init 41 = .ok (.putfield 33, 3) := by decide +kernel
theorem d_Pr_init_44 : decode c_Pr_init 44 = .ok (.aload_n 0, 1) := by decide +kernel
theorem d_Pr_init_45 : decode c_Pr_init 45 = .ok (.iconst 0, 1) := by decide +kernel
theorem d_Pr_init_46 : decode c_Pr_init 46 = .ok (.putfield 36, 3) := by decide +kernel
theorem d_Pr_init_49 : decode c_Pr_init 49 = .ok (.aload_n 0, 1) := by decide +kernel
theorem d_Pr_init_50 : decode c_Pr_init 50 = .ok (.iconst 0, 1) := by decide +kernel
theorem d_Pr_init_51 : decode c_Pr_init 51 = .ok (.putfield 40, 3) := by decide +kernel
theorem d_Pr_init_54 : decode c_Pr_init 54 = .ok (.aload_n 0, 1) := by decide +kernel
theorem d_Pr_init_55 : decode c_Pr_init 55 = .ok (.iconst 0, 1) := by decide +kernel
theorem d_Pr_init_56 : decode c_Pr_init 56 = .ok (.putfield 43, 3) := by decide +kernel
theorem d_Pr_init_59 : decode c_Pr_init 59 = .ok (.aload_n 0, 1) := by decide +kernel
theorem d_Pr_init_60 : decode c_Pr_init 60 = .ok (.iconst 0, 1) := by decide +kernel
theorem d_Pr_init_61 : decode c_Pr_init 61 = .ok (.putfield 46, 3) := by decide +kernel
theorem d_Pr_init_64 : decode c_Pr_init 64 = .ok (.return_, 1) := by decide +kernel
theorem d_Pr_load_0 : decode c_Pr_load 0 = .ok (.iconst 0, 1) := by decide +kernel
theorem d_Pr_load_1 : decode c_Pr_load 1 = .ok (.istore_n 3, 1) := by decide +kernel
theorem d_Pr_load_2 : decode c_Pr_load 2 = .ok (.iload_n 3, 1) := by decide +kernel
theorem d_Pr_load_3 : decode c_Pr_load 3 = .ok (.bipush 64, 2) := by decide +kernel
theorem d_Pr_load_5 : decode c_Pr_load 5 = .ok (.if_icmp .ge 27, 3) := by decide +kernel
theorem d_Pr_load_8 : decode c_Pr_load 8 = .ok (.aload_n 0, 1) := by decide +kernel
theorem d_Pr_load_9 : decode c_Pr_load 9 = .ok (.getfield 9, 3) := by decide +kernel
theorem d_Pr_load_12 : decode c_Pr_load 12 = .ok (.iload_n 3, 1) := by decide +kernel
theorem d_Pr_load_13 : decode c_Pr_load 13 = .ok (.iload_n 3, 1) := by decide +kernel
theorem d_Pr_load_14 : decode c_Pr_load 14 = .ok (.iload_n 2, 1) := by decide +kernel
theorem d_Pr_load_15 : decode c_Pr_load 15 = .ok (.if_icmp .ge 9, 3) := by decide +kernel
theorem d_Pr_load_18 : decode c_Pr_load 18 = .ok (.aload_n 1, 1) := by decide +kernel
theorem d_Pr_load_19 : decode c_Pr_load 19 = .ok (.iload_n 3, 1) := by decide +kernel
theorem d_Pr_load_20 : decode c_Pr_load 20 = .ok (.iaload, 1) := by decide +kernel
theorem d_Pr_load_21 : decode c_Pr_load 21 = .ok (.goto 4, 3) := by decide +kernel
theorem d_Pr_load_24 : decode c_Pr_load 24 = .ok (.iconst 0, 1) := by decide +kernel
theorem d_Pr_load_25 : decode c_Pr_load 25 = .ok (.iastore, 1) := by decide +kernel
theorem d_Pr_load_26 : decode c_Pr_load 26 = .ok (.iinc 3 1, 3) := by decide +kernel
theorem d_Pr_load_29 : decode c_Pr_load 29 = .ok (.goto (-27), 3) := by decide +kernel
theorem d_Pr_load_32 : decode c_Pr_load 32 = .ok (.aload_n 0, 1) := by decide +kernel
theorem d_Pr_load_33 : decode c_Pr_load 33 = .ok (.iconst 0, 1) := by decide +kernel
theorem d_Pr_load_34 : decode c_Pr_load 34 = .ok (.putfield 40, 3) := by decide +kernel
theorem d_Pr_load_37 : decode c_Pr_load 37 = .ok (.return_, 1) := by decide +kernel
theorem d_Pr_doWords_0 : decode c_Pr_doWords 0 = .ok (.aload_n 0, 1) := by decide +kernel
theorem d_Pr_doWords_1 : decode c_Pr_doWords 1 = .ok (.iconst 0, 1) := by decide +kernel
theorem d_Pr_doWords_2 : decode c_Pr_doWords 2 = .ok (.putfield 46, 3) := by decide +kernel
theorem d_Pr_doWords_5 : decode c_Pr_doWords 5 = .ok (.iconst 0, 1) := by decide +kernel
theorem d_Pr_doWords_6 : decode c_Pr_doWords 6 = .ok (.istore_n 2, 1) := by decide +kernel
theorem d_Pr_doWords_7 : decode c_Pr_doWords 7 = .ok (.iload_n 2, 1) := by decide +kernel
theorem d_Pr_doWords_8 : decode c_Pr_doWords 8 = .ok (.iload_n 1, 1) := by decide +kernel
theorem d_Pr_doWords_9 : decode c_Pr_doWords 9 = .ok (.if_icmp .ge 29, 3) := by decide +kernel
theorem d_Pr_doWords_12 : decode c_Pr_doWords 12 = .ok (.aload_n 0, 1) := by decide +kernel
theorem d_Pr_doWords_13 : decode c_Pr_doWords 13 = .ok (.getfield 46, 3) := by decide +kernel
theorem d_Pr_doWords_16 : decode c_Pr_doWords 16 = .ok (.ifCond .ne 22, 3) := by decide +kernel
theorem d_Pr_doWords_19 : decode c_Pr_doWords 19 = .ok (.aload_n 0, 1) := by decide +kernel
theorem d_Pr_doWords_20 : decode c_Pr_doWords 20 = .ok (.aload_n 0, 1) := by decide +kernel
theorem d_Pr_doWords_21 : decode c_Pr_doWords 21 = .ok (.getfield 9, 3) := by decide +kernel
theorem d_Pr_doWords_24 : decode c_Pr_doWords 24 = .ok (.aload_n 0, 1) := by decide +kernel
theorem d_Pr_doWords_25 : decode c_Pr_doWords 25 = .ok (.getfield 40, 3) := by decide +kernel
theorem d_Pr_doWords_28 : decode c_Pr_doWords 28 = .ok (.iaload, 1) := by decide +kernel
theorem d_Pr_doWords_29 : decode c_Pr_doWords 29 = .ok (.invokevirtual 49, 3) := by decide +kernel
theorem d_Pr_doWords_32 : decode c_Pr_doWords 32 = .ok (.iinc 2 1, 3) := by decide +kernel
theorem d_Pr_doWords_35 : decode c_Pr_doWords 35 = .ok (.goto (-28), 3) := by decide +kernel
theorem d_Pr_doWords_38 : decode c_Pr_doWords 38 = .ok (.iload_n 2, 1) := by decide +kernel
theorem d_Pr_doWords_39 : decode c_Pr_doWords 39 = .ok (.ireturn, 1) := by decide +kernel
theorem d_Pr_doWord_0 : decode c_Pr_doWord 0 = .ok (.aload_n 0, 1) := by decide +kernel
theorem d_Pr_doWord_1 : decode c_Pr_doWord 1 = .ok (.getfield 36, 3) := by decide +kernel
theorem d_Pr_doWord_4 : decode c_Pr_doWord 4 = .ok (.istore_n 2, 1) := by decide +kernel
theorem d_Pr_doWord_5 : decode c_Pr_doWord 5 = .ok (.aload_n 0, 1) := by decide +kernel
theorem d_Pr_doWord_6 : decode c_Pr_doWord 6 = .ok (.iconst 0, 1) := by decide +kernel
theorem d_Pr_doWord_7 : decode c_Pr_doWord 7 = .ok (.putfield 36, 3) := by decide +kernel
theorem d_Pr_doWord_10 : decode c_Pr_doWord 10 = .ok (.aload_n 0, 1) := by decide +kernel
theorem d_Pr_doWord_11 : decode c_Pr_doWord 11 = .ok (.aload_n 0, 1) := by decide +kernel
theorem d_Pr_doWord_12 : decode c_Pr_doWord 12 = .ok (.getfield 40, 3) := by decide +kernel
theorem d_Pr_doWord_15 : decode c_Pr_doWord 15 = .ok (.iconst 1, 1) := by decide +kernel
theorem d_Pr_doWord_16 : decode c_Pr_doWord 16 = .ok (.iadd, 1) := by decide +kernel
theorem d_Pr_doWord_17 : decode c_Pr_doWord 17 = .ok (.bipush 64, 2) := by decide +kernel
theorem d_Pr_doWord_19 : decode c_Pr_doWord 19 = .ok (.irem, 1) := by decide +kernel
theorem d_Pr_doWord_20 : decode c_Pr_doWord 20 = .ok (.putfield 40, 3) := by decide +kernel
theorem d_Pr_doWord_23 : decode c_Pr_doWord 23 = .ok (.iload_n 1, 1) := by decide +kernel
theorem d_Pr_doWord_24 : decode c_Pr_doWord 24 = .ok (.iconst 4, 1) := by decide +kernel
theorem d_Pr_doWord_25 : decode c_Pr_doWord 25 = .ok (.idiv, 1) := by decide +kernel
theorem d_Pr_doWord_26 : decode c_Pr_doWord 26 = .ok (.bipush 64, 2) := by decide +kernel
theorem d_Pr_doWord_28 : decode c_Pr_doWord 28 = .ok (.irem, 1) := by decide +kernel
theorem d_Pr_doWord_29 : decode c_Pr_doWord 29 = .ok (.istore_n 3, 1) := by decide +kernel
theorem d_Pr_doWord_30 : decode c_Pr_doWord 30 = .ok (.iload_n 1, 1) := by decide +kernel
theorem d_Pr_doWord_31 : decode c_Pr_doWord 31 = .ok (.iconst 4, 1) := by decide +kernel
theorem d_Pr_doWord_32 : decode c_Pr_doWord 32 = .ok (.irem, 1) := by decide +kernel
theorem d_Pr_doWord_33 : decode c_Pr_doWord 33 = .ok (.tableswitch 112 0 2 #[27, 44, 60], 27) := by decide +kernel
theorem d_Pr_doWord_60 : decode c_Pr_doWord 60 = .ok (.aload_n 0, 1) := by decide +kernel
theorem d_Pr_doWord_61 : decode c_Pr_doWord 61 = .ok (.iload_n 1, 1) := by decide +kernel
theorem d_Pr_doWord_62 : decode c_Pr_doWord 62 = .ok (.iconst 4, 1) := by decide +kernel
theorem d_Pr_doWord_63 : decode c_Pr_doWord 63 = .ok (.idiv, 1) := by decide +kernel
theorem d_Pr_doWord_64 : decode c_Pr_doWord 64 = .ok (.bipush 16, 2) := by decide +kernel
theorem d_Pr_doWord_66 : decode c_Pr_doWord 66 = .ok (.irem, 1) := by decide +kernel
theorem d_Pr_doWord_67 : decode c_Pr_doWord 67 = .ok (.iload_n 1, 1) := by decide +kernel
theorem d_Pr_doWord_68 : decode c_Pr_doWord 68 = .ok (.bipush 64, 2) := by decide +kernel
theorem d_Pr_doWord_70 : decode c_Pr_doWord 70 = .ok (.idiv, 1) := by decide +kernel
theorem d_Pr_doWord_71 : decode c_Pr_doWord 71 = .ok (.invokevirtual 53, 3) := by decide +kernel
theorem d_Pr_doWord_74 : decode c_Pr_doWord 74 = .ok (.goto 80, 3) := by decide +kernel
theorem d_Pr_doWord_77 : decode c_Pr_doWord 77 = .ok (.aload_n 0, 1) := by decide +kernel
theorem d_Pr_doWord_78 : decode c_Pr_doWord 78 = .ok (.aload_n 0, 1) := by decide +kernel
theorem d_Pr_doWord_79 : decode c_Pr_doWord 79 = .ok (.getfield 40, 3) := by decide +kernel
theorem d_Pr_doWord_82 : decode c_Pr_doWord 82 = .ok (.putfield 43, 3) := by decide +kernel
theorem d_Pr_doWord_85 : decode c_Pr_doWord 85 = .ok (.aload_n 0, 1) := by decide +kernel
theorem d_Pr_doWord_86 : decode c_Pr_doWord 86 = .ok (.iload_n 3, 1) := by decide +kernel
theorem d_Pr_doWord_87 : decode c_Pr_doWord 87 = .ok (.putfield 40, 3) := by decide +kernel
theorem d_Pr_doWord_90 : decode c_Pr_doWord 90 = .ok (.goto 64, 3) := by decide +kernel
theorem d_Pr_doWord_93 : decode c_Pr_doWord 93 = .ok (.aload_n 0, 1) := by decide +kernel
theorem d_Pr_doWord_94 : decode c_Pr_doWord 94 = .ok (.getfield 18, 3) := by decide +kernel
theorem d_Pr_doWord_97 : decode c_Pr_doWord 97 = .ok (.iload_n 1, 1) := by decide +kernel
theorem d_Pr_doWord_98 : decode c_Pr_doWord 98 = .ok (.iconst 4, 1) := by decide +kernel
theorem d_Pr_doWord_99 : decode c_Pr_doWord 99 = .ok (.idiv, 1) := by decide +kernel
theorem d_Pr_doWord_100 : decode c_Pr_doWord 100 = .ok (.bipush 8, 2) := by decide +kernel
theorem d_Pr_doWord_102 : decode c_Pr_doWord 102 = .ok (.irem, 1) := by decide +kernel
theorem d_Pr_doWord_103 : decode c_Pr_doWord 103 = .ok (.aload_n 0, 1) := by decide +kernel
theorem d_Pr_doWord_104 : decode c_Pr_doWord 104 = .ok (.getfield 29, 3) := by decide +kernel
theorem d_Pr_doWord_107 : decode c_Pr_doWord 107 = .ok (.invokevirtual 57, 3) := by decide +kernel
theorem d_Pr_doWord_110 : decode c_Pr_doWord 110 = .ok (.aload_n 0, 1) := by decide +kernel
theorem d_Pr_doWord_111 : decode c_Pr_doWord 111 = .ok (.iload_n 1, 1) := by decide +kernel
theorem d_Pr_doWord_112 : decode c_Pr_doWord 112 = .ok (.bipush 32, 2) := by decide +kernel
theorem d_Pr_doWord_114 : decode c_Pr_doWord 114 = .ok (.idiv, 1) := by decide +kernel
theorem d_Pr_doWord_115 : decode c_Pr_doWord 115 = .ok (.aload_n 0, 1) := by decide +kernel
theorem d_Pr_doWord_116 : decode c_Pr_doWord 116 = .ok (.getfield 18, 3) := by decide +kernel
theorem d_Pr_doWord_119 : decode c_Pr_doWord 119 = .ok (.iconst 0, 1) := by decide +kernel
theorem d_Pr_doWord_120 : decode c_Pr_doWord 120 = .ok (.invokevirtual 60, 3) := by decide +kernel
theorem d_Pr_doWord_123 : decode c_Pr_doWord 123 = .ok (.aload_n 0, 1) := by decide +kernel
theorem d_Pr_doWord_124 : decode c_Pr_doWord 124 = .ok (.getfield 18, 3) := by decide +kernel
theorem d_Pr_doWord_127 : decode c_Pr_doWord 127 = .ok (.iconst 1, 1) := by decide +kernel
theorem d_Pr_doWord_128 : decode c_Pr_doWord 128 = .ok (.invokevirtual 60, 3) := by decide +kernel
theorem d_Pr_doWord_131 : decode c_Pr_doWord 131 = .ok (.aload_n 0, 1) := by decide +kernel
theorem d_Pr_doWord_132 : decode c_Pr_doWord 132 = .ok (.getfield 18, 3) := by decide +kernel
theorem d_Pr_doWord_135 : decode c_Pr_doWord 135 = .ok (.iconst 2, 1) := by decide +kernel
theorem d_Pr_doWord_136 : decode c_Pr_doWord 136 = .ok (.invokevirtual 60, 3) := by decide +kernel
theorem d_Pr_doWord_139 : decode c_Pr_doWord 139 = .ok (.invokevirtual 64, 3) := by decide +kernel
theorem d_Pr_doWord_142 : decode c_Pr_doWord 142 = .ok (.goto 12, 3) := by decide +kernel
theorem d_Pr_doWord_145 : decode c_Pr_doWord 145 = .ok (.iload_n 2, 1) := by decide +kernel
theorem d_Pr_doWord_146 : decode c_Pr_doWord 146 = .ok (.ifCond .ne 8, 3) := by decide +kernel
theorem d_Pr_doWord_149 : decode c_Pr_doWord 149 = .ok (.aload_n 0, 1) := by decide +kernel
theorem d_Pr_doWord_150 : decode c_Pr_doWord 150 = .ok (.iload_n 3, 1) := by decide +kernel
theorem d_Pr_doWord_151 : decode c_Pr_doWord 151 = .ok (.putfield 40, 3) := by decide +kernel
theorem d_Pr_doWord_154 : decode c_Pr_doWord 154 = .ok (.return_, 1) := by decide +kernel
theorem d_Pr_doPlain_0 : decode c_Pr_doPlain 0 = .ok (.iload_n 1, 1) := by decide +kernel
theorem d_Pr_doPlain_1 : decode c_Pr_doPlain 1 = .ok (.tableswitch 240 1 15 #[75, 86, 106, 114, 122, 134, 145, 161, 168, 175, 188, 199, 206, 214, 221], 75) := by decide +kernel
theorem d_Pr_doPlain_76 : decode c_Pr_doPlain 76 = .ok (.aload_n 0, 1) := by decide +kernel
theorem d_Pr_doPlain_77 : decode c_Pr_doPlain 77 = .ok (.iload_n 2, 1) := by decide +kernel
theorem d_Pr_doPlain_78 : decode c_Pr_doPlain 78 = .ok (.bipush 14, 2) := by decide +kernel
theorem d_Pr_doPlain_80 : decode c_Pr_doPlain 80 = .ok (.irem, 1) := by decide +kernel
theorem d_Pr_doPlain_81 : decode c_Pr_doPlain 81 = .ok (.putfield 29, 3) := by decide +kernel
theorem d_Pr_doPlain_84 : decode c_Pr_doPlain 84 = .ok (.goto 157, 3) := by decide +kernel
theorem d_Pr_doPlain_87 : decode c_Pr_doPlain 87 = .ok (.aload_n 0, 1) := by decide +kernel
theorem d_Pr_doPlain_88 : decode c_Pr_doPlain 88 = .ok (.aload_n 0, 1) := by decide +kernel
theorem d_Pr_doPlain_89 : decode c_Pr_doPlain 89 = .ok (.getfield 29, 3) := by decide +kernel
theorem d_Pr_doPlain_92 : decode c_Pr_doPlain 92 = .ok (.iload_n 2, 1) := by decide +kernel
theorem d_Pr_doPlain_93 : decode c_Pr_doPlain 93 = .ok (.if_icmp .ne 7, 3) := by decide +kernel
theorem d_Pr_doPlain_96 : decode c_Pr_doPlain 96 = .ok (.iconst 1, 1) := by decide +kernel
theorem d_Pr_doPlain_97 : decode c_Pr_doPlain 97 = .ok (.goto 4, 3) := by decide +kernel
theorem d_Pr_doPlain_100 : decode c_Pr_doPlain 100 = .ok (.iconst 0, 1) := by decide +kernel
theorem d_Pr_doPlain_101 : decode c_Pr_doPlain 101 = .ok (.putfield 36, 3) := by decide +kernel
theorem d_Pr_doPlain_104 : decode c_Pr_doPlain 104 = .ok (.goto 137, 3) := by decide +kernel
theorem d_Pr_doPlain_107 : decode c_Pr_doPlain 107 = .ok (.aload_n 0, 1) := by decide +kernel
theorem d_Pr_doPlain_108 : decode c_Pr_doPlain 108 = .ok (.iload_n 2, 1) := by decide +kernel
theorem d_Pr_doPlain_109 : decode c_Pr_doPlain 109 = .ok (.invokevirtual 68, 3) := by decide +kernel
theorem d_Pr_doPlain_112 : decode c_Pr_doPlain 112 = .ok (.goto 129, 3) := by decide +kernel
theorem d_Pr_doPlain_115 : decode c_Pr_doPlain 115 = .ok (.aload_n 0, 1) := by decide +kernel
theorem d_Pr_doPlain_116 : decode c_Pr_doPlain 116 = .ok (.iload_n 2, 1) := by decide +kernel
theorem d_Pr_doPlain_117 : decode c_Pr_doPlain 117 = .ok (.invokevirtual 71, 3) := by decide +kernel
theorem d_Pr_doPlain_120 : decode c_Pr_doPlain 120 = .ok (.goto 121, 3) := by decide +kernel
theorem d_Pr_doPlain_123 : decode c_Pr_doPlain 123 = .ok (.aload_n 0, 1) := by decide +kernel
theorem d_Pr_doPlain_124 : decode c_Pr_doPlain 124 = .ok (.aload_n 0, 1) := by decide +kernel
theorem d_Pr_doPlain_125 : decode c_Pr_doPlain 125 = .ok (.iload_n 2, 1) := by decide +kernel
theorem d_Pr_doPlain_126 : decode c_Pr_doPlain 126 = .ok (.invokevirtual 74, 3) := by decide +kernel
theorem d_Pr_doPlain_129 : decode c_Pr_doPlain 129 = .ok (.putfield 36, 3) := by decide +kernel
theorem d_Pr_doPlain_132 : decode c_Pr_doPlain 132 = .ok (.goto 109, 3) := by decide +kernel
theorem d_Pr_doPlain_135 : decode c_Pr_doPlain 135 = .ok (.aload_n 0, 1) := by decide +kernel
theorem d_Pr_doPlain_136 : decode c_Pr_doPlain 136 = .ok (.iload_n 2, 1) := by decide +kernel
theorem d_Pr_doPlain_137 : decode c_Pr_doPlain 137 = .ok (.bipush 10, 2) := by decide +kernel
theorem d_Pr_doPlain_139 : decode c_Pr_doPlain 139 = .ok (.irem, 1) := by decide +kernel
theorem d_Pr_doPlain_140 : decode c_Pr_doPlain 140 = .ok (.invokevirtual 78, 3) := by decide +kernel
theorem d_Pr_doPlain_143 : decode c_Pr_doPlain 143 = .ok (.goto 98, 3) := by decide +kernel
theorem d_Pr_doPlain_146 : decode c_Pr_doPlain 146 = .ok (.aload_n 0, 1) := by decide +kernel
theorem d_Pr_doPlain_147 : decode c_Pr_doPlain 147 = .ok (.aload_n 0, 1) := by decide +kernel
theorem d_Pr_doPlain_148 : decode c_Pr_doPlain 148 = .ok (.getfield 29, 3) := by decide +kernel
theorem d_Pr_doPlain_151 : decode c_Pr_doPlain 151 = .ok (.iconst 1, 1) := by decide +kernel
theorem d_Pr_doPlain_152 : decode c_Pr_doPlain 152 = .ok (.iadd, 1) := by decide +kernel
theorem d_Pr_doPlain_153 : decode c_Pr_doPlain 153 = .ok (.bipush 14, 2) := by decide +kernel
theorem d_Pr_doPlain_155 : decode c_Pr_doPlain 155 = .ok (.irem, 1) := by decide +kernel
theorem d_Pr_doPlain_156 : decode c_Pr_doPlain 156 = .ok (.putfield 29, 3) := by decide +kernel
theorem d_Pr_doPlain_159 : decode c_Pr_doPlain 159 = .ok (.goto 82, 3) := by decide +kernel
theorem d_Pr_doPlain_162 : decode c_Pr_doPlain 162 = .ok (.aload_n 0, 1) := by decide +kernel
theorem d_Pr_doPlain_163 : decode c_Pr_doPlain 163 = .ok (.invokevirtual 81, 3) := by decide +kernel
theorem d_Pr_doPlain_166 : decode c_Pr_doPlain 166 = .ok (.goto 75, 3) := by decide +kernel
theorem d_Pr_doPlain_169 : decode c_Pr_doPlain 169 = .ok (.aload_n 0, 1) := by decide +kernel
theorem d_Pr_doPlain_170 : decode c_Pr_doPlain 170 = .ok (.invokevirtual 84, 3) := by decide +kernel
theorem d_Pr_doPlain_173 : decode c_Pr_doPlain 173 = .ok (.goto 68, 3) := by decide +kernel
theorem d_Pr_doPlain_176 : decode c_Pr_doPlain 176 = .ok (.aload_n 0, 1) := by decide +kernel
theorem d_Pr_doPlain_177 : decode c_Pr_doPlain 177 = .ok (.iconst 3, 1) := by decide +kernel
theorem d_Pr_doPlain_178 : decode c_Pr_doPlain 178 = .ok (.iconst 0, 1) := by decide +kernel
theorem d_Pr_doPlain_179 : decode c_Pr_doPlain 179 = .ok (.invokevirtual 87, 3) := by decide +kernel
theorem d_Pr_doPlain_182 : decode c_Pr_doPlain 182 = .ok (.aload_n 0, 1) := by decide +kernel
theorem d_Pr_doPlain_183 : decode c_Pr_doPlain 183 = .ok (.invokevirtual 90, 3) := by decide +kernel
theorem d_Pr_doPlain_186 : decode c_Pr_doPlain 186 = .ok (.goto 55, 3) := by decide +kernel
theorem d_Pr_doPlain_189 : decode c_Pr_doPlain 189 = .ok (.aload_n 0, 1) := by decide +kernel
theorem d_Pr_doPlain_190 : decode c_Pr_doPlain 190 = .ok (.aload_n 0, 1) := by decide +kernel
theorem d_Pr_doPlain_191 : decode c_Pr_doPlain 191 = .ok (.getfield 43, 3) := by decide +kernel
theorem d_Pr_doPlain_194 : decode c_Pr_doPlain 194 = .ok (.putfield 40, 3) := by decide +kernel
theorem d_Pr_doPlain_197 : decode c_Pr_doPlain 197 = .ok (.goto 44, 3) := by decide +kernel
theorem d_Pr_doPlain_200 : decode c_Pr_doPlain 200 = .ok (.aload_n 0, 1) := by decide +kernel
theorem d_Pr_doPlain_201 : decode c_Pr_doPlain 201 = .ok (.invokevirtual 93, 3) := by decide +kernel
theorem d_Pr_doPlain_204 : decode c_Pr_doPlain 204 = .ok (.goto 37, 3) := by decide +kernel
theorem d_Pr_doPlain_207 : decode c_Pr_doPlain 207 = .ok (.aload_n 0, 1) := by decide +kernel
theorem d_Pr_doPlain_208 : decode c_Pr_doPlain 208 = .ok (.iconst 1, 1) := by decide +kernel
theorem d_Pr_doPlain_209 : decode c_Pr_doPlain 209 = .ok (.putfield 46, 3) := by decide +kernel
theorem d_Pr_doPlain_212 : decode c_Pr_doPlain 212 = .ok (.goto 29, 3) := by decide +kernel
theorem d_Pr_doPlain_215 : decode c_Pr_doPlain 215 = .ok (.aload_n 0, 1) := by decide +kernel
theorem d_Pr_doPlain_216 : decode c_Pr_doPlain 216 = .ok (.invokevirtual 96, 3) := by decide +kernel
theorem d_Pr_doPlain_219 : decode c_Pr_doPlain 219 = .ok (.goto 22, 3) := by decide +kernel
theorem d_Pr_doPlain_222 : decode c_Pr_doPlain 222 = .ok (.aload_n 0, 1) := by decide +kernel
theorem d_Pr_doPlain_223 : decode c_Pr_doPlain 223 = .ok (.iconst 2, 1) := by decide +kernel
theorem d_Pr_doPlain_224 : decode c_Pr_doPlain 224 = .ok (.iconst 0, 1) := by decide +kernel
theorem d_Pr_doPlain_225 : decode c_Pr_doPlain 225 = .ok (.invokevirtual 87, 3) := by decide +kernel
theorem d_Pr_doPlain_228 : decode c_Pr_doPlain 228 = .ok (.aload_n 0, 1) := by decide +kernel
theorem d_Pr_doPlain_229 : decode c_Pr_doPlain 229 = .ok (.iconst 3, 1) := by decide +kernel
theorem d_Pr_doPlain_230 : decode c_Pr_doPlain 230 = .ok (.iconst 2, 1) := by decide +kernel
theorem d_Pr_doPlain_231 : decode c_Pr_doPlain 231 = .ok (.invokevirtual 87, 3) := by decide +kernel
theorem d_Pr_doPlain_234 : decode c_Pr_doPlain 234 = .ok (.aload_n 0, 1) := by decide +kernel
theorem d_Pr_doPlain_235 : decode c_Pr_doPlain 235 = .ok (.invokevirtual 90, 3) := by decide +kernel
theorem d_Pr_doPlain_238 : decode c_Pr_doPlain 238 = .ok (.goto 3, 3) := by decide +kernel
theorem d_Pr_doPlain_241 : decode c_Pr_doPlain 241 = .ok (.return_, 1) := by decide +kernel
theorem d_Pr_setStatus_0 : decode c_Pr_setStatus 0 = .ok (.iload_n 1, 1) := by decide +kernel
theorem d_Pr_setStatus_1 : decode c_Pr_setStatus 1 = .ok (.bipush 12, 2) := by decide +kernel
theorem d_Pr_setStatus_3 : decode c_Pr_setStatus 3 = .ok (.if_icmp .ge 15, 3) := by decide +kernel
theorem d_Pr_setStatus_6 : decode c_Pr_setStatus 6 = .ok (.aload_n 0, 1) := by decide +kernel
theorem d_Pr_setStatus_7 : decode c_Pr_setStatus 7 = .ok (.dup, 1) := by decide +kernel
theorem d_Pr_setStatus_8 : decode c_Pr_setStatus 8 = .ok (.getfield 33, 3) := by decide +kernel
theorem d_Pr_setStatus_11 : decode c_Pr_setStatus 11 = .ok (.iconst 1, 1) := by decide +kernel
theorem d_Pr_setStatus_12 : decode c_Pr_setStatus 12 = .ok (.iload_n 1, 1) := by decide +kernel
theorem d_Pr_setStatus_13 : decode c_Pr_setStatus 13 = .ok (.ishl, 1) := by decide +kernel
theorem d_Pr_setStatus_14 : decode c_Pr_setStatus 14 = .ok (.ior, 1) := by decide +kernel
theorem d_Pr_setStatus_15 : decode c_Pr_setStatus 15 = .ok (.putfield 33, 3) := by decide +kernel
theorem d_Pr_setStatus_18 : decode c_Pr_setStatus 18 = .ok (.return_, 1) := by decide +kernel
theorem d_Pr_clearStatus_0 : decode c_Pr_clearStatus 0 = .ok (.iload_n 1, 1) := by decide +kernel
theorem d_Pr_clearStatus_1 : decode c_Pr_clearStatus 1 = .ok (.bipush 12, 2) := by decide +kernel
theorem d_Pr_clearStatus_3 : decode c_Pr_clearStatus 3 = .ok (.if_icmp .ge 17, 3) := by decide +kernel
theorem d_Pr_clearStatus_6 : decode c_Pr_clearStatus 6 = .ok (.aload_n 0, 1) := by decide +kernel
theorem d_Pr_clearStatus_7 : decode c_Pr_clearStatus 7 = .ok (.dup, 1) := by decide +kernel
theorem d_Pr_clearStatus_8 : decode c_Pr_clearStatus 8 = .ok (.getfield 33, 3) := by decide +kernel
theorem d_Pr_clearStatus_11 : decode c_Pr_clearStatus 11 = .ok (.iconst 1, 1) := by decide +kernel
theorem d_Pr_clearStatus_12 : decode c_Pr_clearStatus 12 = .ok (.iload_n 1, 1) := by decide +kernel
theorem d_Pr_clearStatus_13 : decode c_Pr_clearStatus 13 = .ok (.ishl, 1) := by decide +kernel
theorem d_Pr_clearStatus_14 : decode c_Pr_clearStatus 14 = .ok (.iconst (-1), 1) := by decide +kernel
theorem d_Pr_clearStatus_15 : decode c_Pr_clearStatus 15 = .ok (.ixor, 1) := by decide +kernel
theorem d_Pr_clearStatus_16 : decode c_Pr_clearStatus 16 = .ok (.iand, 1) := by decide +kernel
theorem d_Pr_clearStatus_17 : decode c_Pr_clearStatus 17 = .ok (.putfield 33, 3) := by decide +kernel
theorem d_Pr_clearStatus_20 : decode c_Pr_clearStatus 20 = .ok (.return_, 1) := by decide +kernel
theorem d_Pr_hasStatus_0 : decode c_Pr_hasStatus 0 = .ok (.iload_n 1, 1) := by decide +kernel
theorem d_Pr_hasStatus_1 : decode c_Pr_hasStatus 1 = .ok (.bipush 12, 2) := by decide +kernel
theorem d_Pr_hasStatus_3 : decode c_Pr_hasStatus 3 = .ok (.if_icmp .ge 19, 3) := by decide +kernel
theorem d_Pr_hasStatus_6 : decode c_Pr_hasStatus 6 = .ok (.aload_n 0, 1) := by decide +kernel
theorem d_Pr_hasStatus_7 : decode c_Pr_hasStatus 7 = .ok (.getfield 33, 3) := by decide +kernel
theorem d_Pr_hasStatus_10 : decode c_Pr_hasStatus 10 = .ok (.iload_n 1, 1) := by decide +kernel
theorem d_Pr_hasStatus_11 : decode c_Pr_hasStatus 11 = .ok (.ishr, 1) := by decide +kernel
theorem d_Pr_hasStatus_12 : decode c_Pr_hasStatus 12 = .ok (.iconst 1, 1) := by decide +kernel
theorem d_Pr_hasStatus_13 : decode c_Pr_hasStatus 13 = .ok (.iand, 1) := by decide +kernel
theorem d_Pr_hasStatus_14 : decode c_Pr_hasStatus 14 = .ok (.iconst 1, 1) := by decide +kernel
theorem d_Pr_hasStatus_15 : decode c_Pr_hasStatus 15 = .ok (.if_icmp .ne 7, 3) := by decide +kernel
theorem d_Pr_hasStatus_18 : decode c_Pr_hasStatus 18 = .ok (.iconst 1, 1) := by decide +kernel
theorem d_Pr_hasStatus_19 : decode c_Pr_hasStatus 19 = .ok (.goto 4, 3) := by decide +kernel
theorem d_Pr_hasStatus_22 : decode c_Pr_hasStatus 22 = .ok (.iconst 0, 1) := by decide +kernel
theorem d_Pr_hasStatus_23 : decode c_Pr_hasStatus 23 = .ok (.ireturn, 1) := by decide +kernel
theorem d_Pr_putDigit_0 : decode c_Pr_putDigit 0 = .ok (.aload_n 0, 1) := by decide +kernel
theorem d_Pr_putDigit_1 : decode c_Pr_putDigit 1 = .ok (.getfield 18, 3) := by decide +kernel
theorem d_Pr_putDigit_4 : decode c_Pr_putDigit 4 = .ok (.iconst 0, 1) := by decide +kernel
theorem d_Pr_putDigit_5 : decode c_Pr_putDigit 5 = .ok (.aload_n 0, 1) := by decide +kernel
theorem d_Pr_putDigit_6 : decode c_Pr_putDigit 6 = .ok (.getfield 29, 3) := by decide +kernel
theorem d_Pr_putDigit_9 : decode c_Pr_putDigit 9 = .ok (.invokevirtual 57, 3) := by decide +kernel
theorem d_Pr_putDigit_12 : decode c_Pr_putDigit 12 = .ok (.aload_n 0, 1) := by decide +kernel
theorem d_Pr_putDigit_13 : decode c_Pr_putDigit 13 = .ok (.getfield 18, 3) := by decide +kernel
theorem d_Pr_putDigit_16 : decode c_Pr_putDigit 16 = .ok (.iconst 2, 1) := by decide +kernel
theorem d_Pr_putDigit_17 : decode c_Pr_putDigit 17 = .ok (.iload_n 1, 1) := by decide +kernel
theorem d_Pr_putDigit_18 : decode c_Pr_putDigit 18 = .ok (.i2l, 1) := by decide +kernel
theorem d_Pr_putDigit_19 : decode c_Pr_putDigit 19 = .ok (.invokevirtual 99, 3) := by decide +kernel
theorem d_Pr_putDigit_22 : decode c_Pr_putDigit 22 = .ok (.aload_n 0, 1) := by decide +kernel
theorem d_Pr_putDigit_23 : decode c_Pr_putDigit 23 = .ok (.invokevirtual 81, 3) := by decide +kernel
theorem d_Pr_putDigit_26 : decode c_Pr_putDigit 26 = .ok (.return_, 1) := by decide +kernel
theorem d_Pr_lowerPointer_0 : decode c_Pr_lowerPointer 0 = .ok (.aload_n 0, 1) := by decide +kernel
theorem d_Pr_lowerPointer_1 : decode c_Pr_lowerPointer 1 = .ok (.aload_n 0, 1) := by decide +kernel
theorem d_Pr_lowerPointer_2 : decode c_Pr_lowerPointer 2 = .ok (.getfield 29, 3) := by decide +kernel
theorem d_Pr_lowerPointer_5 : decode c_Pr_lowerPointer 5 = .ok (.bipush 14, 2) := by decide +kernel
theorem d_Pr_lowerPointer_7 : decode c_Pr_lowerPointer 7 = .ok (.iadd, 1) := by decide +kernel
theorem d_Pr_lowerPointer_8 : decode c_Pr_lowerPointer 8 = .ok (.iconst 1, 1) := by decide +kernel
theorem d_Pr_lowerPointer_9 : decode c_Pr_lowerPointer 9 = .ok (.isub, 1) := by decide +kernel
theorem d_Pr_lowerPointer_10 : decode c_Pr_lowerPointer 10 = .ok (.bipush 14, 2) := by decide +kernel
theorem d_Pr_lowerPointer_12 : decode c_Pr_lowerPointer 12 = .ok (.irem, 1) := by decide +kernel
theorem d_Pr_lowerPointer_13 : decode c_Pr_lowerPointer 13 = .ok (.putfield 29, 3) := by decide +kernel
theorem d_Pr_lowerPointer_16 : decode c_Pr_lowerPointer 16 = .ok (.return_, 1) := by decide +kernel
theorem d_Pr_push_0 : decode c_Pr_push 0 = .ok (.aload_n 0, 1) := by decide +kernel
theorem d_Pr_push_1 : decode c_Pr_push 1 = .ok (.iconst 4, 1) := by decide +kernel
theorem d_Pr_push_2 : decode c_Pr_push 2 = .ok (.iconst 5, 1) := by decide +kernel
theorem d_Pr_push_3 : decode c_Pr_push 3 = .ok (.invokevirtual 87, 3) := by decide +kernel
theorem d_Pr_push_6 : decode c_Pr_push 6 = .ok (.aload_n 0, 1) := by decide +kernel
theorem d_Pr_push_7 : decode c_Pr_push 7 = .ok (.iconst 3, 1) := by decide +kernel
theorem d_Pr_push_8 : decode c_Pr_push 8 = .ok (.iconst 4, 1) := by decide +kernel
theorem d_Pr_push_9 : decode c_Pr_push 9 = .ok (.invokevirtual 87, 3) := by decide +kernel
theorem d_Pr_push_12 : decode c_Pr_push 12 = .ok (.aload_n 0, 1) := by decide +kernel
theorem d_Pr_push_13 : decode c_Pr_push 13 = .ok (.iconst 2, 1) := by decide +kernel
theorem d_Pr_push_14 : decode c_Pr_push 14 = .ok (.iconst 3, 1) := by decide +kernel
theorem d_Pr_push_15 : decode c_Pr_push 15 = .ok (.invokevirtual 87, 3) := by decide +kernel
theorem d_Pr_push_18 : decode c_Pr_push 18 = .ok (.return_, 1) := by decide +kernel
theorem d_Pr_copy_0 : decode c_Pr_copy 0 = .ok (.aload_n 0, 1) := by decide +kernel
theorem d_Pr_copy_1 : decode c_Pr_copy 1 = .ok (.getfield 18, 3) := by decide +kernel
theorem d_Pr_copy_4 : decode c_Pr_copy 4 = .ok (.getfield 103, 3) := by decide +kernel
theorem d_Pr_copy_7 : decode c_Pr_copy 7 = .ok (.iload_n 2, 1) := by decide +kernel
theorem d_Pr_copy_8 : decode c_Pr_copy 8 = .ok (.aload_n 0, 1) := by decide +kernel
theorem d_Pr_copy_9 : decode c_Pr_copy 9 = .ok (.getfield 18, 3) := by decide +kernel
theorem d_Pr_copy_12 : decode c_Pr_copy 12 = .ok (.getfield 103, 3) := by decide +kernel
theorem d_Pr_copy_15 : decode c_Pr_copy 15 = .ok (.iload_n 1, 1) := by decide +kernel
theorem d_Pr_copy_16 : decode c_Pr_copy 16 = .ok (.laload, 1) := by decide +kernel
theorem d_Pr_copy_17 : decode c_Pr_copy 17 = .ok (.lastore, 1) := by decide +kernel
theorem d_Pr_copy_18 : decode c_Pr_copy 18 = .ok (.return_, 1) := by decide +kernel
theorem d_Pr_lowerStack_0 : decode c_Pr_lowerStack 0 = .ok (.aload_n 0, 1) := by decide +kernel
theorem d_Pr_lowerStack_1 : decode c_Pr_lowerStack 1 = .ok (.iconst 4, 1) := by decide +kernel
theorem d_Pr_lowerStack_2 : decode c_Pr_lowerStack 2 = .ok (.iconst 3, 1) := by decide +kernel
theorem d_Pr_lowerStack_3 : decode c_Pr_lowerStack 3 = .ok (.invokevirtual 87, 3) := by decide +kernel
theorem d_Pr_lowerStack_6 : decode c_Pr_lowerStack 6 = .ok (.aload_n 0, 1) := by decide +kernel
theorem d_Pr_lowerStack_7 : decode c_Pr_lowerStack 7 = .ok (.iconst 5, 1) := by decide +kernel
theorem d_Pr_lowerStack_8 : decode c_Pr_lowerStack 8 = .ok (.iconst 4, 1) := by decide +kernel
theorem d_Pr_lowerStack_9 : decode c_Pr_lowerStack 9 = .ok (.invokevirtual 87, 3) := by decide +kernel
theorem d_Pr_lowerStack_12 : decode c_Pr_lowerStack 12 = .ok (.return_, 1) := by decide +kernel
theorem d_Pr_takeKey_0 : decode c_Pr_takeKey 0 = .ok (.aload_n 0, 1) := by decide +kernel
theorem d_Pr_takeKey_1 : decode c_Pr_takeKey 1 = .ok (.getfield 25, 3) := by decide +kernel
theorem d_Pr_takeKey_4 : decode c_Pr_takeKey 4 = .ok (.invokevirtual 107, 3) := by decide +kernel
theorem d_Pr_takeKey_7 : decode c_Pr_takeKey 7 = .ok (.istore_n 1, 1) := by decide +kernel
theorem d_Pr_takeKey_8 : decode c_Pr_takeKey 8 = .ok (.iload_n 1, 1) := by decide +kernel
theorem d_Pr_takeKey_9 : decode c_Pr_takeKey 9 = .ok (.iconst (-1), 1) := by decide +kernel
theorem d_Pr_takeKey_10 : decode c_Pr_takeKey 10 = .ok (.if_icmp .ne 27, 3) := by decide +kernel
theorem d_Pr_takeKey_13 : decode c_Pr_takeKey 13 = .ok (.aload_n 0, 1) := by decide +kernel
theorem d_Pr_takeKey_14 : decode c_Pr_takeKey 14 = .ok (.aload_n 0, 1) := by decide +kernel
theorem d_Pr_takeKey_15 : decode c_Pr_takeKey 15 = .ok (.getfield 40, 3) := by decide +kernel
theorem d_Pr_takeKey_18 : decode c_Pr_takeKey 18 = .ok (.bipush 64, 2) := by decide +kernel
theorem d_Pr_takeKey_20 : decode c_Pr_takeKey 20 = .ok (.iadd, 1) := by decide +kernel
theorem d_Pr_takeKey_21 : decode c_Pr_takeKey 21 = .ok (.iconst 1, 1) := by decide +kernel
theorem d_Pr_takeKey_22 : decode c_Pr_takeKey 22 = .ok (.isub, 1) := by decide +kernel
theorem d_Pr_takeKey_23 : decode c_Pr_takeKey 23 = .ok (.bipush 64, 2) := by decide +kernel
theorem d_Pr_takeKey_25 : decode c_Pr_takeKey 25 = .ok (.irem, 1) := by decide +kernel
theorem d_Pr_takeKey_26 : decode c_Pr_takeKey 26 = .ok (.putfield 40, 3) := by decide +kernel
theorem d_Pr_takeKey_29 : decode c_Pr_takeKey 29 = .ok (.aload_n 0, 1) := by decide +kernel
theorem d_Pr_takeKey_30 : decode c_Pr_takeKey 30 = .ok (.iconst 1, 1) := by decide +kernel
theorem d_Pr_takeKey_31 : decode c_Pr_takeKey 31 = .ok (.putfield 46, 3) := by decide +kernel
theorem d_Pr_takeKey_34 : decode c_Pr_takeKey 34 = .ok (.goto 14, 3) := by decide +kernel
theorem d_Pr_takeKey_37 : decode c_Pr_takeKey 37 = .ok (.aload_n 0, 1) := by decide +kernel
theorem d_Pr_takeKey_38 : decode c_Pr_takeKey 38 = .ok (.iload_n 1, 1) := by decide +kernel
theorem d_Pr_takeKey_39 : decode c_Pr_takeKey 39 = .ok (.bipush 8, 2) := by decide +kernel
theorem d_Pr_takeKey_41 : decode c_Pr_takeKey 41 = .ok (.imul, 1) := by decide +kernel
theorem d_Pr_takeKey_42 : decode c_Pr_takeKey 42 = .ok (.bipush 64, 2) := by decide +kernel
theorem d_Pr_takeKey_44 : decode c_Pr_takeKey 44 = .ok (.irem, 1) := by decide +kernel
theorem d_Pr_takeKey_45 : decode c_Pr_takeKey 45 = .ok (.putfield 40, 3) := by decide +kernel
theorem d_Pr_takeKey_48 : decode c_Pr_takeKey 48 = .ok (.return_, 1) := by decide +kernel
theorem d_Pr_exchangeMemory_0 : decode c_Pr_exchangeMemory 0 = .ok (.aload_n 0, 1) := by decide +kernel
theorem d_Pr_exchangeMemory_1 : decode c_Pr_exchangeMemory 1 = .ok (.getfield 18, 3) := by decide +kernel
theorem d_Pr_exchangeMemory_4 : decode c_Pr_exchangeMemory 4 = .ok (.getfield 103, 3) := by decide +kernel
theorem d_Pr_exchangeMemory_7 : decode c_Pr_exchangeMemory 7 = .ok (.iconst 2, 1) := by decide +kernel
theorem d_Pr_exchangeMemory_8 : decode c_Pr_exchangeMemory 8 = .ok (.laload, 1) := by decide +kernel
theorem d_Pr_exchangeMemory_9 : decode c_Pr_exchangeMemory 9 = .ok (.lstore_n 1, 1) := by decide +kernel
theorem d_Pr_exchangeMemory_10 : decode c_Pr_exchangeMemory 10 = .ok (.aload_n 0, 1) := by decide +kernel
theorem d_Pr_exchangeMemory_11 : decode c_Pr_exchangeMemory 11 = .ok (.bipush 6, 2) := by decide +kernel
theorem d_Pr_exchangeMemory_13 : decode c_Pr_exchangeMemory 13 = .ok (.iconst 2, 1) := by decide +kernel
theorem d_Pr_exchangeMemory_14 : decode c_Pr_exchangeMemory 14 = .ok (.invokevirtual 87, 3) := by decide +kernel
theorem d_Pr_exchangeMemory_17 : decode c_Pr_exchangeMemory 17 = .ok (.aload_n 0, 1) := by decide +kernel
theorem d_Pr_exchangeMemory_18 : decode c_Pr_exchangeMemory 18 = .ok (.getfield 18, 3) := by decide +kernel
theorem d_Pr_exchangeMemory_21 : decode c_Pr_exchangeMemory 21 = .ok (.getfield 103, 3) := by decide +kernel
theorem d_Pr_exchangeMemory_24 : decode c_Pr_exchangeMemory 24 = .ok (.bipush 6, 2) := by decide +kernel
theorem d_Pr_exchangeMemory_26 : decode c_Pr_exchangeMemory 26 = .ok (.lload_n 1, 1) := by decide +kernel
theorem d_Pr_exchangeMemory_27 : decode c_Pr_exchangeMemory 27 = .ok (.lastore, 1) := by decide +kernel
theorem d_Pr_exchangeMemory_28 : decode c_Pr_exchangeMemory 28 = .ok (.return_, 1) := by decide +kernel
theorem d_Pr_doFieldWork_0 : decode c_Pr_doFieldWork 0 = .ok (.iload_n 1, 1) := by decide +kernel
theorem d_Pr_doFieldWork_1 : decode c_Pr_doFieldWork 1 = .ok (.tableswitch 611 0 30 #[139, 151, 163, 175, 197, 209, 231, 244, 267, 279, 291, 303, 314, 326, 338, 350, 362, 373, 385, 397, 411, 435, 451, 468, 485, 504, 523, 542, 561, 579, 598], 139) := by decide +kernel
theorem d_Pr_doFieldWork_140 : decode c_Pr_doFieldWork 140 = .ok (.aload_n 0, 1) := by decide +kernel
theorem d_Pr_doFieldWork_141 : decode c_Pr_doFieldWork 141 = .ok (.getfield 18, 3) := by decide +kernel
theorem d_Pr_doFieldWork_144 : decode c_Pr_doFieldWork 144 = .ok (.iconst 0, 1) := by decide +kernel
theorem d_Pr_doFieldWork_145 : decode c_Pr_doFieldWork 145 = .ok (.lconst 0, 1) := by decide +kernel
theorem d_Pr_doFieldWork_146 : decode c_Pr_doFieldWork 146 = .ok (.invokevirtual 99, 3) := by decide +kernel
theorem d_Pr_doFieldWork_149 : decode c_Pr_doFieldWork 149 = .ok (.goto 473, 3) := by decide +kernel
theorem d_Pr_doFieldWork_152 : decode c_Pr_doFieldWork 152 = .ok (.aload_n 0, 1) := by decide +kernel
theorem d_Pr_doFieldWork_153 : decode c_Pr_doFieldWork 153 = .ok (.getfield 18, 3) := by decide +kernel
theorem d_Pr_doFieldWork_156 : decode c_Pr_doFieldWork 156 = .ok (.iconst 1, 1) := by decide +kernel
theorem d_Pr_doFieldWork_157 : decode c_Pr_doFieldWork 157 = .ok (.lconst 0, 1) := by decide +kernel
theorem d_Pr_doFieldWork_158 : decode c_Pr_doFieldWork 158 = .ok (.invokevirtual 99, 3) := by decide +kernel
theorem d_Pr_doFieldWork_161 : decode c_Pr_doFieldWork 161 = .ok (.goto 461, 3) := by decide +kernel
theorem d_Pr_doFieldWork_164 : decode c_Pr_doFieldWork 164 = .ok (.aload_n 0, 1) := by decide +kernel
theorem d_Pr_doFieldWork_165 : decode c_Pr_doFieldWork 165 = .ok (.getfield 18, 3) := by decide +kernel
theorem d_Pr_doFieldWork_168 : decode c_Pr_doFieldWork 168 = .ok (.iconst 2, 1) := by decide +kernel
theorem d_Pr_doFieldWork_169 : decode c_Pr_doFieldWork 169 = .ok (.lconst 0, 1) := by decide +kernel
theorem d_Pr_doFieldWork_170 : decode c_Pr_doFieldWork 170 = .ok (.invokevirtual 99, 3) := by decide +kernel
theorem d_Pr_doFieldWork_173 : decode c_Pr_doFieldWork 173 = .ok (.goto 449, 3) := by decide +kernel
theorem d_Pr_doFieldWork_176 : decode c_Pr_doFieldWork 176 = .ok (.aload_n 0, 1) := by decide +kernel
theorem d_Pr_doFieldWork_177 : decode c_Pr_doFieldWork 177 = .ok (.getfield 18, 3) := by decide +kernel
theorem d_Pr_doFieldWork_180 : decode c_Pr_doFieldWork 180 = .ok (.iconst 0, 1) := by decide +kernel
theorem d_Pr_doFieldWork_181 : decode c_Pr_doFieldWork 181 = .ok (.lload 4, 2) := by decide +kernel
theorem d_Pr_doFieldWork_183 : decode c_Pr_doFieldWork 183 = .ok (.invokevirtual 99, 3) := by decide +kernel
theorem d_Pr_doFieldWork_186 : decode c_Pr_doFieldWork 186 = .ok (.aload_n 0, 1) := by decide +kernel
theorem d_Pr_doFieldWork_187 : decode c_Pr_doFieldWork 187 = .ok (.getfield 18, 3) := by decide +kernel
theorem d_Pr_doFieldWork_190 : decode c_Pr_doFieldWork 190 = .ok (.iconst 1, 1) := by decide +kernel
theorem d_Pr_doFieldWork_191 : decode c_Pr_doFieldWork 191 = .ok (.lload_n 2, 1) := by decide +kernel
theorem d_Pr_doFieldWork_192 : decode c_Pr_doFieldWork 192 = .ok (.invokevirtual 99, 3) := by decide +kernel
theorem d_Pr_doFieldWork_195 : decode c_Pr_doFieldWork 195 = .ok (.goto 427, 3) := by decide +kernel
theorem d_Pr_doFieldWork_198 : decode c_Pr_doFieldWork 198 = .ok (.aload_n 0, 1) := by decide +kernel
theorem d_Pr_doFieldWork_199 : decode c_Pr_doFieldWork 199 = .ok (.getfield 18, 3) := by decide +kernel
theorem d_Pr_doFieldWork_202 : decode c_Pr_doFieldWork 202 = .ok (.iconst 1, 1) := by decide +kernel
theorem d_Pr_doFieldWork_203 : decode c_Pr_doFieldWork 203 = .ok (.lload_n 2, 1) := by decide +kernel
theorem d_Pr_doFieldWork_204 : decode c_Pr_doFieldWork 204 = .ok (.invokevirtual 99, 3) := by decide +kernel
theorem d_Pr_doFieldWork_207 : decode c_Pr_doFieldWork 207 = .ok (.goto 415, 3) := by decide +kernel
theorem d_Pr_doFieldWork_210 : decode c_Pr_doFieldWork 210 = .ok (.aload_n 0, 1) := by decide +kernel
theorem d_Pr_doFieldWork_211 : decode c_Pr_doFieldWork 211 = .ok (.getfield 18, 3) := by decide +kernel
theorem d_Pr_doFieldWork_214 : decode c_Pr_doFieldWork 214 = .ok (.iconst 0, 1) := by decide +kernel
theorem d_Pr_doFieldWork_215 : decode c_Pr_doFieldWork 215 = .ok (.lload 6, 2) := by decide +kernel
theorem d_Pr_doFieldWork_217 : decode c_Pr_doFieldWork 217 = .ok (.invokevirtual 99, 3) := by decide +kernel
theorem d_Pr_doFieldWork_220 : decode c_Pr_doFieldWork 220 = .ok (.aload_n 0, 1) := by decide +kernel
theorem d_Pr_doFieldWork_221 : decode c_Pr_doFieldWork 221 = .ok (.getfield 18, 3) := by decide +kernel
theorem d_Pr_doFieldWork_224 : decode c_Pr_doFieldWork 224 = .ok (.iconst 2, 1) := by decide +kernel
theorem d_Pr_doFieldWork_225 : decode c_Pr_doFieldWork 225 = .ok (.lload_n 2, 1) := by decide +kernel
theorem d_Pr_doFieldWork_226 : decode c_Pr_doFieldWork 226 = .ok (.invokevirtual 99, 3) := by decide +kernel
theorem d_Pr_doFieldWork_229 : decode c_Pr_doFieldWork 229 = .ok (.goto 393, 3) := by decide +kernel
theorem d_Pr_doFieldWork_232 : decode c_Pr_doFieldWork 232 = .ok (.aload_n 0, 1) := by decide +kernel
theorem d_Pr_doFieldWork_233 : decode c_Pr_doFieldWork 233 = .ok (.getfield 18, 3) := by decide +kernel
theorem d_Pr_doFieldWork_236 : decode c_Pr_doFieldWork 236 = .ok (.iconst 2, 1) := by decide +kernel
theorem d_Pr_doFieldWork_237 : decode c_Pr_doFieldWork 237 = .ok (.lload 4, 2) := by decide +kernel
theorem d_Pr_doFieldWork_239 : decode c_Pr_doFieldWork 239 = .ok (.invokevirtual 99, 3) := by decide +kernel
theorem d_Pr_doFieldWork_242 : decode c_Pr_doFieldWork 242 = .ok (.goto 380, 3) := by decide +kernel
theorem d_Pr_doFieldWork_245 : decode c_Pr_doFieldWork 245 = .ok (.aload_n 0, 1) := by decide +kernel
theorem d_Pr_doFieldWork_246 : decode c_Pr_doFieldWork 246 = .ok (.getfield 18, 3) := by decide +kernel
theorem d_Pr_doFieldWork_249 : decode c_Pr_doFieldWork 249 = .ok (.iconst 1, 1) := by decide +kernel
theorem d_Pr_doFieldWork_250 : decode c_Pr_doFieldWork 250 = .ok (.lload 6, 2) := by decide +kernel
theorem d_Pr_doFieldWork_252 : decode c_Pr_doFieldWork 252 = .ok (.invokevirtual 99, 3) := by decide +kernel
theorem d_Pr_doFieldWork_255 : decode c_Pr_doFieldWork 255 = .ok (.aload_n 0, 1) := by decide +kernel
