theorem dM_init_0 : decode cM_init 0 = .ok (.aload_n 0, 1) := by decide +kernel
theorem dM_init_1 : decode cM_init 1 = .ok (.invokespecial 1, 3) := by decide +kernel
theorem dM_init_4 : decode cM_init 4 = .ok (.aload_n 0, 1) := by decide +kernel
theorem dM_init_5 : decode cM_init 5 = .ok (.sipush 800, 3) := by decide +kernel
theorem dM_init_8 : decode cM_init 8 = .ok (.newarray .byte, 2) := by decide +kernel
theorem dM_init_10 : decode cM_init 10 = .ok (.putfield 9, 3) := by decide +kernel
theorem dM_init_13 : decode cM_init 13 = .ok (.aload_n 0, 1) := by decide +kernel
theorem dM_init_14 : decode cM_init 14 = .ok (.sipush 816, 3) := by decide +kernel
theorem dM_init_17 : decode cM_init 17 = .ok (.newarray .byte, 2) := by decide +kernel
theorem dM_init_19 : decode cM_init 19 = .ok (.putfield 13, 3) := by decide +kernel
theorem dM_init_22 : decode cM_init 22 = .ok (.aload_n 0, 1) := by decide +kernel
theorem dM_init_23 : decode cM_init 23 = .ok (.bipush 32, 2) := by decide +kernel
theorem dM_init_25 : decode cM_init 25 = .ok (.newarray .byte, 2) := by decide +kernel
theorem dM_init_27 : decode cM_init 27 = .ok (.putfield 16, 3) := by decide +kernel
theorem dM_init_30 : decode cM_init 30 = .ok (.aload_n 0, 1) := by decide +kernel
theorem dM_init_31 : decode cM_init 31 = .ok (.bipush 12, 2) := by decide +kernel
theorem dM_init_33 : decode cM_init 33 = .ok (.newarray .byte, 2) := by decide +kernel
theorem dM_init_35 : decode cM_init 35 = .ok (.putfield 19, 3) := by decide +kernel
theorem dM_init_38 : decode cM_init 38 = .ok (.aload_n 0, 1) := by decide +kernel
theorem dM_init_39 : decode cM_init 39 = .ok (.sipush 1024, 3) := by decide +kernel
theorem dM_init_42 : decode cM_init 42 = .ok (.newarray .byte, 2) := by decide +kernel
theorem dM_init_44 : decode cM_init 44 = .ok (.putfield 22, 3) := by decide +kernel
theorem dM_init_47 : decode cM_init 47 = .ok (.aload_n 0, 1) := by decide +kernel
theorem dM_init_48 : decode cM_init 48 = .ok (.bipush 8, 2) := by decide +kernel
theorem dM_init_50 : decode cM_init 50 = .ok (.newarray .long, 2) := by decide +kernel
theorem dM_init_52 : decode cM_init 52 = .ok (.putfield 25, 3) := by decide +kernel
theorem dM_init_55 : decode cM_init 55 = .ok (.aload_n 0, 1) := by decide +kernel
theorem dM_init_56 : decode cM_init 56 = .ok (.bipush 64, 2) := by decide +kernel
theorem dM_init_58 : decode cM_init 58 = .ok (.newarray .long, 2) := by decide +kernel
theorem dM_init_60 : decode cM_init 60 = .ok (.putfield 29, 3) := by decide +kernel
theorem dM_init_63 : decode cM_init 63 = .ok (.aload_n 0, 1) := by decide +kernel
theorem dM_init_64 : decode cM_init 64 = .ok (.bipush 32, 2) := by decide +kernel
theorem dM_init_66 : decode cM_init 66 = .ok (.newarray .byte, 2) := by decide +kernel
theorem dM_init_68 : decode cM_init 68 = .ok (.putfield 32, 3) := by decide +kernel
theorem dM_init_71 : decode cM_init 71 = .ok (.aload_n 0, 1) := by decide +kernel
theorem dM_init_72 : decode cM_init 72 = .ok (.bipush 16, 2) := by decide +kernel
theorem dM_init_74 : decode cM_init 74 = .ok (.newarray .int, 2) := by decide +kernel
theorem dM_init_76 : decode cM_init 76 = .ok (.putfield 35, 3) := by decide +kernel
theorem dM_init_79 : decode cM_init 79 = .ok (.aload_n 0, 1) := by decide +kernel
theorem dM_init_80 : decode cM_init 80 = .ok (.bipush 16, 2) := by decide +kernel
theorem dM_init_82 : decode cM_init 82 = .ok (.newarray .int, 2) := by decide +kernel
theorem dM_init_84 : decode cM_init 84 = .ok (.putfield 39, 3) := by decide +kernel
theorem dM_init_87 : decode cM_init 87 = .ok (.aload_n 0, 1) := by decide +kernel
theorem dM_init_88 : decode cM_init 88 = .ok (.bipush 64, 2) := by decide +kernel
theorem dM_init_90 : decode cM_init 90 = .ok (.newarray .byte, 2) := by decide +kernel
theorem dM_init_92 : decode cM_init 92 = .ok (.putfield 42, 3) := by decide +kernel
theorem dM_init_95 : decode cM_init 95 = .ok (.aload_n 0, 1) := by decide +kernel
theorem dM_init_96 : decode cM_init 96 = .ok (.bipush 17, 2) := by decide +kernel
theorem dM_init_98 : decode cM_init 98 = .ok (.newarray .int, 2) := by decide +kernel
theorem dM_init_100 : decode cM_init 100 = .ok (.putfield 45, 3) := by decide +kernel
theorem dM_init_103 : decode cM_init 103 = .ok (.aload_n 0, 1) := by decide +kernel
theorem dM_init_104 : decode cM_init 104 = .ok (.bipush 35, 2) := by decide +kernel
theorem dM_init_106 : decode cM_init 106 = .ok (.newarray .int, 2) := by decide +kernel
theorem dM_init_108 : decode cM_init 108 = .ok (.putfield 48, 3) := by decide +kernel
theorem dM_init_111 : decode cM_init 111 = .ok (.aload_n 0, 1) := by decide +kernel
theorem dM_init_112 : decode cM_init 112 = .ok (.bipush 16, 2) := by decide +kernel
theorem dM_init_114 : decode cM_init 114 = .ok (.newarray .int, 2) := by decide +kernel
theorem dM_init_116 : decode cM_init 116 = .ok (.putfield 51, 3) := by decide +kernel
theorem dM_init_119 : decode cM_init 119 = .ok (.aload_n 0, 1) := by decide +kernel
theorem dM_init_120 : decode cM_init 120 = .ok (.sipush 864, 3) := by decide +kernel
theorem dM_init_123 : decode cM_init 123 = .ok (.newarray .byte, 2) := by decide +kernel
theorem dM_init_125 : decode cM_init 125 = .ok (.putfield 54, 3) := by decide +kernel
theorem dM_init_128 : decode cM_init 128 = .ok (.aload_n 0, 1) := by decide +kernel
theorem dM_init_129 : decode cM_init 129 = .ok (.bipush 16, 2) := by decide +kernel
theorem dM_init_131 : decode cM_init 131 = .ok (.newarray .byte, 2) := by decide +kernel
theorem dM_init_133 : decode cM_init 133 = .ok (.putfield 57, 3) := by decide +kernel
theorem dM_init_136 : decode cM_init 136 = .ok (.aload_n 0, 1) := by decide +kernel
theorem dM_init_137 : decode cM_init 137 = .ok (.bipush 19, 2) := by decide +kernel
theorem dM_init_139 : decode cM_init 139 = .ok (.newarray .int, 2) := by decide +kernel
theorem dM_init_141 : decode cM_init 141 = .ok (.putfield 60, 3) := by decide +kernel
theorem dM_init_144 : decode cM_init 144 = .ok (.return_, 1) := by decide +kernel
theorem dM_add_0 : decode cM_add 0 = .ok (.aload_n 0, 1) := by decide +kernel
theorem dM_add_1 : decode cM_add 1 = .ok (.getfield 22, 3) := by decide +kernel
theorem dM_add_4 : decode cM_add 4 = .ok (.aload_n 0, 1) := by decide +kernel
theorem dM_add_5 : decode cM_add 5 = .ok (.getfield 63, 3) := by decide +kernel
theorem dM_add_8 : decode cM_add 8 = .ok (.iload_n 1, 1) := by decide +kernel
theorem dM_add_9 : decode cM_add 9 = .ok (.i2b, 1) := by decide +kernel
theorem dM_add_10 : decode cM_add 10 = .ok (.bastore, 1) := by decide +kernel
theorem dM_add_11 : decode cM_add 11 = .ok (.aload_n 0, 1) := by decide +kernel
theorem dM_add_12 : decode cM_add 12 = .ok (.dup, 1) := by decide +kernel
theorem dM_add_13 : decode cM_add 13 = .ok (.getfield 63, 3) := by decide +kernel
theorem dM_add_16 : decode cM_add 16 = .ok (.iconst 1, 1) := by decide +kernel
theorem dM_add_17 : decode cM_add 17 = .ok (.iadd, 1) := by decide +kernel
theorem dM_add_18 : decode cM_add 18 = .ok (.putfield 63, 3) := by decide +kernel
theorem dM_add_21 : decode cM_add 21 = .ok (.return_, 1) := by decide +kernel
theorem dM_addArr_0 : decode cM_addArr 0 = .ok (.iconst 0, 1) := by decide +kernel
theorem dM_addArr_1 : decode cM_addArr 1 = .ok (.istore 4, 2) := by decide +kernel
theorem dM_addArr_3 : decode cM_addArr 3 = .ok (.iload 4, 2) := by decide +kernel
theorem dM_addArr_5 : decode cM_addArr 5 = .ok (.iload_n 3, 1) := by decide +kernel
theorem dM_addArr_6 : decode cM_addArr 6 = .ok (.if_icmp .ge 19, 3) := by decide +kernel
theorem dM_addArr_9 : decode cM_addArr 9 = .ok (.aload_n 0, 1) := by decide +kernel
theorem dM_addArr_10 : decode cM_addArr 10 = .ok (.aload_n 1, 1) := by decide +kernel
theorem dM_addArr_11 : decode cM_addArr 11 = .ok (.iload_n 2, 1) := by decide +kernel
theorem dM_addArr_12 : decode cM_addArr 12 = .ok (.iload 4, 2) := by decide +kernel
theorem dM_addArr_14 : decode cM_addArr 14 = .ok (.iadd, 1) := by decide +kernel
theorem dM_addArr_15 : decode cM_addArr 15 = .ok (.baload, 1) := by decide +kernel
theorem dM_addArr_16 : decode cM_addArr 16 = .ok (.invokevirtual 67, 3) := by decide +kernel
theorem dM_addArr_19 : decode cM_addArr 19 = .ok (.iinc 4 1, 3) := by decide +kernel
theorem dM_addArr_22 : decode cM_addArr 22 = .ok (.goto (-19), 3) := by decide +kernel
theorem dM_addArr_25 : decode cM_addArr 25 = .ok (.return_, 1) := by decide +kernel
theorem dM_turn_0 : decode cM_turn 0 = .ok (.lload_n 0, 1) := by decide +kernel
theorem dM_turn_1 : decode cM_turn 1 = .ok (.iload_n 2, 1) := by decide +kernel
theorem dM_turn_2 : decode cM_turn 2 = .ok (.lshr, 1) := by decide +kernel
theorem dM_turn_3 : decode cM_turn 3 = .ok (.lload_n 0, 1) := by decide +kernel
theorem dM_turn_4 : decode cM_turn 4 = .ok (.bipush 32, 2) := by decide +kernel
theorem dM_turn_6 : decode cM_turn 6 = .ok (.iload_n 2, 1) := by decide +kernel
theorem dM_turn_7 : decode cM_turn 7 = .ok (.isub, 1) := by decide +kernel
theorem dM_turn_8 : decode cM_turn 8 = .ok (.lshl, 1) := by decide +kernel
theorem dM_turn_9 : decode cM_turn 9 = .ok (.lor, 1) := by decide +kernel
theorem dM_turn_10 : decode cM_turn 10 = .ok (.ldc2_w 71, 3) := by decide +kernel
theorem dM_turn_13 : decode cM_turn 13 = .ok (.land, 1) := by decide +kernel
theorem dM_turn_14 : decode cM_turn 14 = .ok (.lreturn, 1) := by decide +kernel
theorem dM_hblock_0 : decode cM_hblock 0 = .ok (.iconst 0, 1) := by decide +kernel
theorem dM_hblock_1 : decode cM_hblock 1 = .ok (.istore 4, 2) := by decide +kernel
theorem dM_hblock_3 : decode cM_hblock 3 = .ok (.iload 4, 2) := by decide +kernel
theorem dM_hblock_5 : decode cM_hblock 5 = .ok (.bipush 16, 2) := by decide +kernel
theorem dM_hblock_7 : decode cM_hblock 7 = .ok (.if_icmp .ge 122, 3) := by decide +kernel
theorem dM_hblock_10 : decode cM_hblock 10 = .ok (.lconst 0, 1) := by decide +kernel
theorem dM_hblock_11 : decode cM_hblock 11 = .ok (.lstore 5, 2) := by decide +kernel
theorem dM_hblock_13 : decode cM_hblock 13 = .ok (.iconst 0, 1) := by decide +kernel
theorem dM_hblock_14 : decode cM_hblock 14 = .ok (.istore 7, 2) := by decide +kernel
theorem dM_hblock_16 : decode cM_hblock 16 = .ok (.iload 7, 2) := by decide +kernel
theorem dM_hblock_18 : decode cM_hblock 18 = .ok (.iconst 4, 1) := by decide +kernel
theorem dM_hblock_19 : decode cM_hblock 19 = .ok (.if_icmp .ge 95, 3) := by decide +kernel
theorem dM_hblock_22 : decode cM_hblock 22 = .ok (.iload_n 1, 1) := by decide +kernel
theorem dM_hblock_23 : decode cM_hblock 23 = .ok (.iconst 4, 1) := by decide +kernel
theorem dM_hblock_24 : decode cM_hblock 24 = .ok (.iload 4, 2) := by decide +kernel
theorem dM_hblock_26 : decode cM_hblock 26 = .ok (.imul, 1) := by decide +kernel
theorem dM_hblock_27 : decode cM_hblock 27 = .ok (.iadd, 1) := by decide +kernel
theorem dM_hblock_28 : decode cM_hblock 28 = .ok (.iload 7, 2) := by decide +kernel
theorem dM_hblock_30 : decode cM_hblock 30 = .ok (.iadd, 1) := by decide +kernel
theorem dM_hblock_31 : decode cM_hblock 31 = .ok (.istore 8, 2) := by decide +kernel
theorem dM_hblock_33 : decode cM_hblock 33 = .ok (.iload 8, 2) := by decide +kernel
theorem dM_hblock_35 : decode cM_hblock 35 = .ok (.iload_n 2, 1) := by decide +kernel
theorem dM_hblock_36 : decode cM_hblock 36 = .ok (.if_icmp .ge 17, 3) := by decide +kernel
theorem dM_hblock_39 : decode cM_hblock 39 = .ok (.aload_n 0, 1) := by decide +kernel
theorem dM_hblock_40 : decode cM_hblock 40 = .ok (.getfield 22, 3) := by decide +kernel
theorem dM_hblock_43 : decode cM_hblock 43 = .ok (.iload 8, 2) := by decide +kernel
theorem dM_hblock_45 : decode cM_hblock 45 = .ok (.baload, 1) := by decide +kernel
theorem dM_hblock_46 : decode cM_hblock 46 = .ok (.sipush 255, 3) := by decide +kernel
theorem dM_hblock_49 : decode cM_hblock 49 = .ok (.iand, 1) := by decide +kernel
theorem dM_hblock_50 : decode cM_hblock 50 = .ok (.goto 45, 3) := by decide +kernel
theorem dM_hblock_53 : decode cM_hblock 53 = .ok (.iload 8, 2) := by decide +kernel
theorem dM_hblock_55 : decode cM_hblock 55 = .ok (.iload_n 2, 1) := by decide +kernel
theorem dM_hblock_56 : decode cM_hblock 56 = .ok (.if_icmp .ne 9, 3) := by decide +kernel
theorem dM_hblock_59 : decode cM_hblock 59 = .ok (.sipush 128, 3) := by decide +kernel
theorem dM_hblock_62 : decode cM_hblock 62 = .ok (.goto 33, 3) := by decide +kernel
theorem dM_hblock_65 : decode cM_hblock 65 = .ok (.iload 8, 2) := by decide +kernel
theorem dM_hblock_67 : decode cM_hblock 67 = .ok (.iload_n 3, 1) := by decide +kernel
theorem dM_hblock_68 : decode cM_hblock 68 = .ok (.iconst 4, 1) := by decide +kernel
theorem dM_hblock_69 : decode cM_hblock 69 = .ok (.isub, 1) := by decide +kernel
theorem dM_hblock_70 : decode cM_hblock 70 = .ok (.if_icmp .lt 24, 3) := by decide +kernel
theorem dM_hblock_73 : decode cM_hblock 73 = .ok (.bipush 8, 2) := by decide +kernel
theorem dM_hblock_75 : decode cM_hblock 75 = .ok (.iload_n 2, 1) := by decide +kernel
theorem dM_hblock_76 : decode cM_hblock 76 = .ok (.imul, 1) := by decide +kernel
theorem dM_hblock_77 : decode cM_hblock 77 = .ok (.bipush 8, 2) := by decide +kernel
theorem dM_hblock_79 : decode cM_hblock 79 = .ok (.iload_n 3, 1) := by decide +kernel
theorem dM_hblock_80 : decode cM_hblock 80 = .ok (.iconst 1, 1) := by decide +kernel
theorem dM_hblock_81 : decode cM_hblock 81 = .ok (.isub, 1) := by decide +kernel
theorem dM_hblock_82 : decode cM_hblock 82 = .ok (.iload 8, 2) := by decide +kernel
theorem dM_hblock_84 : decode cM_hblock 84 = .ok (.isub, 1) := by decide +kernel
theorem dM_hblock_85 : decode cM_hblock 85 = .ok (.imul, 1) := by decide +kernel
theorem dM_hblock_86 : decode cM_hblock 86 = .ok (.ishr, 1) := by decide +kernel
theorem dM_hblock_87 : decode cM_hblock 87 = .ok (.sipush 255, 3) := by decide +kernel
theorem dM_hblock_90 : decode cM_hblock 90 = .ok (.iand, 1) := by decide +kernel
theorem dM_hblock_91 : decode cM_hblock 91 = .ok (.goto 4, 3) := by decide +kernel
theorem dM_hblock_94 : decode cM_hblock 94 = .ok (.iconst 0, 1) := by decide +kernel
theorem dM_hblock_95 : decode cM_hblock 95 = .ok (.istore 9, 2) := by decide +kernel
theorem dM_hblock_97 : decode cM_hblock 97 = .ok (.lload 5, 2) := by decide +kernel
theorem dM_hblock_99 : decode cM_hblock 99 = .ok (.bipush 8, 2) := by decide +kernel
theorem dM_hblock_101 : decode cM_hblock 101 = .ok (.lshl, 1) := by decide +kernel
theorem dM_hblock_102 : decode cM_hblock 102 = .ok (.iload 9, 2) := by decide +kernel
theorem dM_hblock_104 : decode cM_hblock 104 = .ok (.i2l, 1) := by decide +kernel
theorem dM_hblock_105 : decode cM_hblock 105 = .ok (.lor, 1) := by decide +kernel
theorem dM_hblock_106 : decode cM_hblock 106 = .ok (.lstore 5, 2) := by decide +kernel
theorem dM_hblock_108 : decode cM_hblock 108 = .ok (.iinc 7 1, 3) := by decide +kernel
theorem dM_hblock_111 : decode cM_hblock 111 = .ok (.goto (-95), 3) := by decide +kernel
theorem dM_hblock_114 : decode cM_hblock 114 = .ok (.aload_n 0, 1) := by decide +kernel
theorem dM_hblock_115 : decode cM_hblock 115 = .ok (.getfield 29, 3) := by decide +kernel
theorem dM_hblock_118 : decode cM_hblock 118 = .ok (.iload 4, 2) := by decide +kernel
theorem dM_hblock_120 : decode cM_hblock 120 = .ok (.lload 5, 2) := by decide +kernel
theorem dM_hblock_122 : decode cM_hblock 122 = .ok (.lastore, 1) := by decide +kernel
theorem dM_hblock_123 : decode cM_hblock 123 = .ok (.iinc 4 1, 3) := by decide +kernel
theorem dM_hblock_126 : decode cM_hblock 126 = .ok (.goto (-123), 3) := by decide +kernel
theorem dM_hblock_129 : decode cM_hblock 129 = .ok (.bipush 16, 2) := by decide +kernel
theorem dM_hblock_131 : decode cM_hblock 131 = .ok (.istore 4, 2) := by decide +kernel
theorem dM_hblock_133 : decode cM_hblock 133 = .ok (.iload 4, 2) := by decide +kernel
theorem dM_hblock_135 : decode cM_hblock 135 = .ok (.bipush 64, 2) := by decide +kernel
theorem dM_hblock_137 : decode cM_hblock 137 = .ok (.if_icmp .ge 137, 3) := by decide +kernel
theorem dM_hblock_140 : decode cM_hblock 140 = .ok (.aload_n 0, 1) := by decide +kernel
theorem dM_hblock_141 : decode cM_hblock 141 = .ok (.getfield 29, 3) := by decide +kernel
theorem dM_hblock_144 : decode cM_hblock 144 = .ok (.iload 4, 2) := by decide +kernel
theorem dM_hblock_146 : decode cM_hblock 146 = .ok (.bipush 15, 2) := by decide +kernel
theorem dM_hblock_148 : decode cM_hblock 148 = .ok (.isub, 1) := by decide +kernel
theorem dM_hblock_149 : decode cM_hblock 149 = .ok (.laload, 1) := by decide +kernel
theorem dM_hblock_150 : decode cM_hblock 150 = .ok (.bipush 7, 2) := by decide +kernel
theorem dM_hblock_152 : decode cM_hblock 152 = .ok (.invokestatic 73, 3) := by decide +kernel
theorem dM_hblock_155 : decode cM_hblock 155 = .ok (.aload_n 0, 1) := by decide +kernel
theorem dM_hblock_156 : decode cM_hblock 156 = .ok (.getfield 29, 3) := by decide +kernel
theorem dM_hblock_159 : decode cM_hblock 159 = .ok (.iload 4, 2) := by decide +kernel
theorem dM_hblock_161 : decode cM_hblock 161 = .ok (.bipush 15, 2) := by decide +kernel
theorem dM_hblock_163 : decode cM_hblock 163 = .ok (.isub, 1) := by decide +kernel
theorem dM_hblock_164 : decode cM_hblock 164 = .ok (.laload, 1) := by decide +kernel
theorem dM_hblock_165 : decode cM_hblock 165 = .ok (.bipush 18, 2) := by decide +kernel
theorem dM_hblock_167 : decode cM_hblock 167 = .ok (.invokestatic 73, 3) := by decide +kernel
theorem dM_hblock_170 : decode cM_hblock 170 = .ok (.lxor, 1) := by decide +kernel
theorem dM_hblock_171 : decode cM_hblock 171 = .ok (.aload_n 0, 1) := by decide +kernel
theorem dM_hblock_172 : decode cM_hblock 172 = .ok (.getfield 29, 3) := by decide +kernel
theorem dM_hblock_175 : decode cM_hblock 175 = .ok (.iload 4, 2) := by decide +kernel
theorem dM_hblock_177 : decode cM_hblock 177 = .ok (.bipush 15, 2) := by decide +kernel
theorem dM_hblock_179 : decode cM_hblock 179 = .ok (.isub, 1) := by decide +kernel
theorem dM_hblock_180 : decode cM_hblock 180 = .ok (.laload, 1) := by decide +kernel
theorem dM_hblock_181 : decode cM_hblock 181 = .ok (.iconst 3, 1) := by decide +kernel
theorem dM_hblock_182 : decode cM_hblock 182 = .ok (.lshr, 1) := by decide +kernel
theorem dM_hblock_183 : decode cM_hblock 183 = .ok (.lxor, 1) := by decide +kernel
theorem dM_hblock_184 : decode cM_hblock 184 = .ok (.lstore 5, 2) := by decide +kernel
theorem dM_hblock_186 : decode cM_hblock 186 = .ok (.aload_n 0, 1) := by decide +kernel
theorem dM_hblock_187 : decode cM_hblock 187 = .ok (.getfield 29, 3) := by decide +kernel
theorem dM_hblock_190 : decode cM_hblock 190 = .ok (.iload 4, 2) := by decide +kernel
theorem dM_hblock_192 : decode cM_hblock 192 = .ok (.iconst 2, 1) := by decide +kernel
theorem dM_hblock_193 : decode cM_hblock 193 = .ok (.isub, 1) := by decide +kernel
theorem dM_hblock_194 : decode cM_hblock 194 = .ok (.laload, 1) := by decide +kernel
theorem dM_hblock_195 : decode cM_hblock 195 = .ok (.bipush 17, 2) := by decide +kernel
theorem dM_hblock_197 : decode cM_hblock 197 = .ok (.invokestatic 73, 3) := by decide +kernel
theorem dM_hblock_200 : decode cM_hblock 200 = .ok (.aload_n 0, 1) := by decide +kernel
theorem dM_hblock_201 : decode cM_hblock 201 = .ok (.getfield 29, 3) := by decide +kernel
theorem dM_hblock_204 : decode cM_hblock 204 = .ok (.iload 4, 2) := by decide +kernel
theorem dM_hblock_206 : decode cM_hblock 206 = .ok (.iconst 2, 1) := by decide +kernel
theorem dM_hblock_207 : decode cM_hblock 207 = .ok (.isub, 1) := by decide +kernel
theorem dM_hblock_208 : decode cM_hblock 208 = .ok (.laload, 1) := by decide +kernel
theorem dM_hblock_209 : decode cM_hblock 209 = .ok (.bipush 19, 2) := by decide +kernel
theorem dM_hblock_211 : decode cM_hblock 211 = .ok (.invokestatic 73, 3) := by decide +kernel
theorem dM_hblock_214 : decode cM_hblock 214 = .ok (.lxor, 1) := by decide +kernel
theorem dM_hblock_215 : decode cM_hblock 215 = .ok (.aload_n 0, 1) := by decide +kernel
theorem dM_hblock_216 : decode cM_hblock 216 = .ok (.getfield 29, 3) := by decide +kernel
theorem dM_hblock_219 : decode cM_hblock 219 = .ok (.iload 4, 2) := by decide +kernel
theorem dM_hblock_221 : decode cM_hblock 221 = .ok (.iconst 2, 1) := by decide +kernel
theorem dM_hblock_222 : decode cM_hblock 222 = .ok (.isub, 1) := by decide +kernel
theorem dM_hblock_223 : decode cM_hblock 223 = .ok (.laload, 1) := by decide +kernel
theorem dM_hblock_224 : decode cM_hblock 224 = .ok (.bipush 10, 2) := by decide +kernel
theorem dM_hblock_226 : decode cM_hblock 226 = .ok (.lshr, 1) := by decide +kernel
theorem dM_hblock_227 : decode cM_hblock 227 = .ok (.lxor, 1) := by decide +kernel
theorem dM_hblock_228 : decode cM_hblock 228 = .ok (.lstore 7, 2) := by decide +kernel
theorem dM_hblock_230 : decode cM_hblock 230 = .ok (.aload_n 0, 1) := by decide +kernel
theorem dM_hblock_231 : decode cM_hblock 231 = .ok (.getfield 29, 3) := by decide +kernel
theorem dM_hblock_234 : decode cM_hblock 234 = .ok (.iload 4, 2) := by decide +kernel
theorem dM_hblock_236 : decode cM_hblock 236 = .ok (.aload_n 0, 1) := by decide +kernel
theorem dM_hblock_237 : decode cM_hblock 237 = .ok (.getfield 29, 3) := by decide +kernel
theorem dM_hblock_240 : decode cM_hblock 240 = .ok (.iload 4, 2) := by decide +kernel
theorem dM_hblock_242 : decode cM_hblock 242 = .ok (.bipush 16, 2) := by decide +kernel
theorem dM_hblock_244 : decode cM_hblock 244 = .ok (.isub, 1) := by decide +kernel
theorem dM_hblock_245 : decode cM_hblock 245 = .ok (.laload, 1) := by decide +kernel
theorem dM_hblock_246 : decode cM_hblock 246 = .ok (.lload 5, 2) := by decide +kernel
theorem dM_hblock_248 : decode cM_hblock 248 = .ok (.ladd, 1) := by decide +kernel
theorem dM_hblock_249 : decode cM_hblock 249 = .ok (.aload_n 0, 1) := by decide +kernel
theorem dM_hblock_250 : decode cM_hblock 250 = .ok (.getfield 29, 3) := by decide +kernel
theorem dM_hblock_253 : decode cM_hblock 253 = .ok (.iload 4, 2) := by decide +kernel
theorem dM_hblock_255 : decode cM_hblock 255 = .ok (.bipush 7, 2) := by decide +kernel
theorem dM_hblock_257 : decode cM_hblock 257 = .ok (.isub, 1) := by decide +kernel
theorem dM_hblock_258 : decode cM_hblock 258 = .ok (.laload, 1) := by decide +kernel
theorem dM_hblock_259 : decode cM_hblock 259 = .ok (.ladd, 1) := by decide +kernel
theorem dM_hblock_260 : decode cM_hblock 260 = .ok (.lload 7, 2) := by decide +kernel
theorem dM_hblock_262 : decode cM_hblock 262 = .ok (.ladd, 1) := by decide +kernel
theorem dM_hblock_263 : decode cM_hblock 263 = .ok (.ldc2_w 71, 3) := by decide +kernel
theorem dM_hblock_266 : decode cM_hblock 266 = .ok (.land, 1) := by decide +kernel
theorem dM_hblock_267 : decode cM_hblock 267 = .ok (.lastore, 1) := by decide +kernel
theorem dM_hblock_268 : decode cM_hblock 268 = .ok (.iinc 4 1, 3) := by decide +kernel
theorem dM_hblock_271 : decode cM_hblock 271 = .ok (.goto (-138), 3) := by decide +kernel
theorem dM_hblock_274 : decode cM_hblock 274 = .ok (.aload_n 0, 1) := by decide +kernel
theorem dM_hblock_275 : decode cM_hblock 275 = .ok (.getfield 25, 3) := by decide +kernel
theorem dM_hblock_278 : decode cM_hblock 278 = .ok (.iconst 0, 1) := by decide +kernel
theorem dM_hblock_279 : decode cM_hblock 279 = .ok (.laload, 1) := by decide +kernel
theorem dM_hblock_280 : decode cM_hblock 280 = .ok (.lstore 4, 2) := by decide +kernel
theorem dM_hblock_282 : decode cM_hblock 282 = .ok (.aload_n 0, 1) := by decide +kernel
theorem dM_hblock_283 : decode cM_hblock 283 = .ok (.getfield 25, 3) := by decide +kernel
theorem dM_hblock_286 : decode cM_hblock 286 = .ok (.iconst 1, 1) := by decide +kernel
theorem dM_hblock_287 : decode cM_hblock 287 = .ok (.laload, 1) := by decide +kernel
theorem dM_hblock_288 : decode cM_hblock 288 = .ok (.lstore 6, 2) := by decide +kernel
theorem dM_hblock_290 : decode cM_hblock 290 = .ok (.aload_n 0, 1) := by decide +kernel
theorem dM_hblock_291 : decode cM_hblock 291 = .ok (.getfield 25, 3) := by decide +kernel
theorem dM_hblock_294 : decode cM_hblock 294 = .ok (.iconst 2, 1) := by decide +kernel
theorem dM_hblock_295 : decode cM_hblock 295 = .ok (.laload, 1) := by decide +kernel
theorem dM_hblock_296 : decode cM_hblock 296 = .ok (.lstore 8, 2) := by decide +kernel
theorem dM_hblock_298 : decode cM_hblock 298 = .ok (.aload_n 0, 1) := by decide +kernel
theorem dM_hblock_299 : decode cM_hblock 299 = .ok (.getfield 25, 3) := by decide +kernel
theorem dM_hblock_302 : decode cM_hblock 302 = .ok (.iconst 3, 1) := by decide +kernel
theorem dM_hblock_303 : decode cM_hblock 303 = .ok (.laload, 1) := by decide +kernel
theorem dM_hblock_304 : decode cM_hblock 304 = .ok (.lstore 10, 2) := by decide +kernel
theorem dM_hblock_306 : decode cM_hblock 306 = .ok (.aload_n 0, 1) := by decide +kernel
theorem dM_hblock_307 : decode cM_hblock 307 = .ok (.getfield 25, 3) := by decide +kernel
theorem dM_hblock_310 : decode cM_hblock 310 = .ok (.iconst 4, 1) := by decide +kernel
theorem dM_hblock_311 : decode cM_hblock 311 = .ok (.laload, 1) := by decide +kernel
theorem dM_hblock_312 : decode cM_hblock 312 = .ok (.lstore 12, 2) := by decide +kernel
theorem dM_hblock_314 : decode cM_hblock 314 = .ok (.aload_n 0, 1) := by decide +kernel
theorem dM_hblock_315 : decode cM_hblock 315 = .ok (.getfield 25, 3) := by decide +kernel
theorem dM_hblock_318 : decode cM_hblock 318 = .ok (.iconst 5, 1) := by decide +kernel
theorem dM_hblock_319 : decode cM_hblock 319 = .ok (.laload, 1) := by decide +kernel
theorem dM_hblock_320 : decode cM_hblock 320 = .ok (.lstore 14, 2) := by decide +kernel
theorem dM_hblock_322 : decode cM_hblock 322 = .ok (.aload_n 0, 1) := by decide +kernel
theorem dM_hblock_323 : decode cM_hblock 323 = .ok (.getfield 25, 3) := by decide +kernel
theorem dM_hblock_326 : decode cM_hblock 326 = .ok (.bipush 6, 2) := by decide +kernel
theorem dM_hblock_328 : decode cM_hblock 328 = .ok (.laload, 1) := by decide +kernel
theorem dM_hblock_329 : decode cM_hblock 329 = .ok (.lstore 16, 2) := by decide +kernel
theorem dM_hblock_331 : decode cM_hblock 331 = .ok (.aload_n 0, 1) := by decide +kernel
theorem dM_hblock_332 : decode cM_hblock 332 = .ok (.getfield 25, 3) := by decide +kernel
theorem dM_hblock_335 : decode cM_hblock 335 = .ok (.bipush 7, 2) := by decide +kernel
theorem dM_hblock_337 : decode cM_hblock 337 = .ok (.laload, 1) := by decide +kernel
theorem dM_hblock_338 : decode cM_hblock 338 = .ok (.lstore 18, 2) := by decide +kernel
theorem dM_hblock_340 : decode cM_hblock 340 = .ok (.iconst 0, 1) := by decide +kernel
theorem dM_hblock_341 : decode cM_hblock 341 = .ok (.istore 20, 2) := by decide +kernel
theorem dM_hblock_343 : decode cM_hblock 343 = .ok (.iload 20, 2) := by decide +kernel
theorem dM_hblock_345 : decode cM_hblock 345 = .ok (.bipush 64, 2) := by decide +kernel
theorem dM_hblock_347 : decode cM_hblock 347 = .ok (.if_icmp .ge 161, 3) := by decide +kernel
theorem dM_hblock_350 : decode cM_hblock 350 = .ok (.lload 18, 2) := by decide +kernel
theorem dM_hblock_352 : decode cM_hblock 352 = .ok (.lload 12, 2) := by decide +kernel
theorem dM_hblock_354 : decode cM_hblock 354 = .ok (.bipush 6, 2) := by decide +kernel
theorem dM_hblock_356 : decode cM_hblock 356 = .ok (.invokestatic 73, 3) := by decide +kernel
theorem dM_hblock_359 : decode cM_hblock 359 = .ok (.lload 12, 2) := by decide +kernel
theorem dM_hblock_361 : decode cM_hblock 361 = .ok (.bipush 11, 2) := by decide +kernel
theorem dM_hblock_363 : decode cM_hblock 363 = .ok (.invokestatic 73, 3) := by decide +kernel
theorem dM_hblock_366 : decode cM_hblock 366 = .ok (.lxor, 1) := by decide +kernel
theorem dM_hblock_367 : decode cM_hblock 367 = .ok (.lload 12, 2) := by decide +kernel
theorem dM_hblock_369 : decode cM_hblock 369 = .ok (.bipush 25, 2) := by decide +kernel
theorem dM_hblock_371 : decode cM_hblock 371 = .ok (.invokestatic 73, 3) := by decide +kernel
theorem dM_hblock_374 : decode cM_hblock 374 = .ok (.lxor, 1) := by decide +kernel
theorem dM_hblock_375 : decode cM_hblock 375 = .ok (.ladd, 1) := by decide +kernel
theorem dM_hblock_376 : decode cM_hblock 376 = .ok (.lload 12, 2) := by decide +kernel
theorem dM_hblock_378 : decode cM_hblock 378 = .ok (.lload 14, 2) := by decide +kernel
theorem dM_hblock_380 : decode cM_hblock 380 = .ok (.land, 1) := by decide +kernel
theorem dM_hblock_381 : decode cM_hblock 381 = .ok (.ldc2_w 71, 3) := by decide +kernel
theorem dM_hblock_384 : decode cM_hblock 384 = .ok (.lload 12, 2) := by decide +kernel
theorem dM_hblock_386 : decode cM_hblock 386 = .ok (.lsub, 1) := by decide +kernel
theorem dM_hblock_387 : decode cM_hblock 387 = .ok (.lload 16, 2) := by decide +kernel
theorem dM_hblock_389 : decode cM_hblock 389 = .ok (.land, 1) := by decide +kernel
theorem dM_hblock_390 : decode cM_hblock 390 = .ok (.lor, 1) := by decide +kernel
theorem dM_hblock_391 : decode cM_hblock 391 = .ok (.ladd, 1) := by decide +kernel
theorem dM_hblock_392 : decode cM_hblock 392 = .ok (.getstatic 77, 3) := by decide +kernel
theorem dM_hblock_395 : decode cM_hblock 395 = .ok (.iload 20, 2) := by decide +kernel
theorem dM_hblock_397 : decode cM_hblock 397 = .ok (.iaload, 1) := by decide +kernel
theorem dM_hblock_398 : decode cM_hblock 398 = .ok (.i2l, 1) := by decide +kernel
theorem dM_hblock_399 : decode cM_hblock 399 = .ok (.ldc2_w 71, 3) := by decide +kernel
theorem dM_hblock_402 : decode cM_hblock 402 = .ok (.land, 1) := by decide +kernel
theorem dM_hblock_403 : decode cM_hblock 403 = .ok (.ladd, 1) := by decide +kernel
theorem dM_hblock_404 : decode cM_hblock 404 = .ok (.aload_n 0, 1) := by decide +kernel
theorem dM_hblock_405 : decode cM_hblock 405 = .ok (.getfield 29, 3) := by decide +kernel
theorem dM_hblock_408 : decode cM_hblock 408 = .ok (.iload 20, 2) := by decide +kernel
theorem dM_hblock_410 : decode cM_hblock 410 = .ok (.laload, 1) := by decide +kernel
theorem dM_hblock_411 : decode cM_hblock 411 = .ok (.ladd, 1) := by decide +kernel
theorem dM_hblock_412 : decode cM_hblock 412 = .ok (.lstore 21, 2) := by decide +kernel
theorem dM_hblock_414 : decode cM_hblock 414 = .ok (.lload 4, 2) := by decide +kernel
theorem dM_hblock_416 : decode cM_hblock 416 = .ok (.iconst 2, 1) := by decide +kernel
theorem dM_hblock_417 : decode cM_hblock 417 = .ok (.invokestatic 73, 3) := by decide +kernel
theorem dM_hblock_420 : decode cM_hblock 420 = .ok (.lload 4, 2) := by decide +kernel
theorem dM_hblock_422 : decode cM_hblock 422 = .ok (.bipush 13, 2) := by decide +kernel
theorem dM_hblock_424 : decode cM_hblock 424 = .ok (.invokestatic 73, 3) := by decide +kernel
theorem dM_hblock_427 : decode cM_hblock 427 = .ok (.lxor, 1) := by decide +kernel
theorem dM_hblock_428 : decode cM_hblock 428 = .ok (.lload 4, 2) := by decide +kernel
theorem dM_hblock_430 : decode cM_hblock 430 = .ok (.bipush 22, 2) := by decide +kernel
theorem dM_hblock_432 : decode cM_hblock 432 = .ok (.invokestatic 73, 3) := by decide +kernel
theorem dM_hblock_435 : decode cM_hblock 435 = .ok (.lxor, 1) := by decide +kernel
theorem dM_hblock_436 : decode cM_hblock 436 = .ok (.lload 4, 2) := by decide +kernel
theorem dM_hblock_438 : decode cM_hblock 438 = .ok (.lload 6, 2) := by decide +kernel
theorem dM_hblock_440 : decode cM_hblock 440 = .ok (.land, 1) := by decide +kernel
theorem dM_hblock_441 : decode cM_hblock 441 = .ok (.lload 4, 2) := by decide +kernel
theorem dM_hblock_443 : decode cM_hblock 443 = .ok (.lload 8, 2) := by decide +kernel
theorem dM_hblock_445 : decode cM_hblock 445 = .ok (.land, 1) := by decide +kernel
theorem dM_hblock_446 : decode cM_hblock 446 = .ok (.lor, 1) := by decide +kernel
theorem dM_hblock_447 : decode cM_hblock 447 = .ok (.lload 6, 2) := by decide +kernel
theorem dM_hblock_449 : decode cM_hblock 449 = .ok (.lload 8, 2) := by decide +kernel
theorem dM_hblock_451 : decode cM_hblock 451 = .ok (.land, 1) := by decide +kernel
theorem dM_hblock_452 : decode cM_hblock 452 = .ok (.lor, 1) := by decide +kernel
theorem dM_hblock_453 : decode cM_hblock 453 = .ok (.ladd, 1) := by decide +kernel
theorem dM_hblock_454 : decode cM_hblock 454 = .ok (.lstore 23, 2) := by decide +kernel
theorem dM_hblock_456 : decode cM_hblock 456 = .ok (.lload 16, 2) := by decide +kernel
theorem dM_hblock_458 : decode cM_hblock 458 = .ok (.lstore 18, 2) := by decide +kernel
theorem dM_hblock_460 : decode cM_hblock 460 = .ok (.lload 14, 2) := by decide +kernel
theorem dM_hblock_462 : decode cM_hblock 462 = .ok (.lstore 16, 2) := by decide +kernel
theorem dM_hblock_464 : decode cM_hblock 464 = .ok (.lload 12, 2) := by decide +kernel
theorem dM_hblock_466 : decode cM_hblock 466 = .ok (.lstore 14, 2) := by decide +kernel
theorem dM_hblock_468 : decode cM_hblock 468 = .ok (.lload 10, 2) := by decide +kernel
theorem dM_hblock_470 : decode cM_hblock 470 = .ok (.lload 21, 2) := by decide +kernel
theorem dM_hblock_472 : decode cM_hblock 472 = .ok (.ladd, 1) := by decide +kernel
theorem dM_hblock_473 : decode cM_hblock 473 = .ok (.ldc2_w 71, 3) := by decide +kernel
theorem dM_hblock_476 : decode cM_hblock 476 = .ok (.land, 1) := by decide +kernel
theorem dM_hblock_477 : decode cM_hblock 477 = .ok (.lstore 12, 2) := by decide +kernel
theorem dM_hblock_479 : decode cM_hblock 479 = .ok (.lload 8, 2) := by decide +kernel
theorem dM_hblock_481 : decode cM_hblock 481 = .ok (.lstore 10, 2) := by decide +kernel
theorem dM_hblock_483 : decode cM_hblock 483 = .ok (.lload 6, 2) := by decide +kernel
theorem dM_hblock_485 : decode cM_hblock 485 = .ok (.lstore 8, 2) := by decide +kernel
theorem dM_hblock_487 : decode cM_hblock 487 = .ok (.lload 4, 2) := by decide +kernel
theorem dM_hblock_489 : decode cM_hblock 489 = .ok (.lstore 6, 2) := by decide +kernel
theorem dM_hblock_491 : decode cM_hblock 491 = .ok (.lload 21, 2) := by decide +kernel
theorem dM_hblock_493 : decode cM_hblock 493 = .ok (.lload 23, 2) := by decide +kernel
theorem dM_hblock_495 : decode cM_hblock 495 = .ok (.ladd, 1) := by decide +kernel
theorem dM_hblock_496 : decode cM_hblock 496 = .ok (.ldc2_w 71, 3) := by decide +kernel
theorem dM_hblock_499 : decode cM_hblock 499 = .ok (.land, 1) := by decide +kernel
theorem dM_hblock_500 : decode cM_hblock 500 = .ok (.lstore 4, 2) := by decide +kernel
theorem dM_hblock_502 : decode cM_hblock 502 = .ok (.iinc 20 1, 3) := by decide +kernel
theorem dM_hblock_505 : decode cM_hblock 505 = .ok (.goto (-162), 3) := by decide +kernel
theorem dM_hblock_508 : decode cM_hblock 508 = .ok (.aload_n 0, 1) := by decide +kernel
theorem dM_hblock_509 : decode cM_hblock 509 = .ok (.getfield 25, 3) := by decide +kernel
theorem dM_hblock_512 : decode cM_hblock 512 = .ok (.iconst 0, 1) := by decide +kernel
theorem dM_hblock_513 : decode cM_hblock 513 = .ok (.aload_n 0, 1) := by decide +kernel
theorem dM_hblock_514 : decode cM_hblock 514 = .ok (.getfield 25, 3) := by decide +kernel
theorem dM_hblock_517 : decode cM_hblock 517 = .ok (.iconst 0, 1) := by decide +kernel
theorem dM_hblock_518 : decode cM_hblock 518 = .ok (.laload, 1) := by decide +kernel
theorem dM_hblock_519 : decode cM_hblock 519 = .ok (.lload 4, 2) := by decide +kernel
theorem dM_hblock_521 : decode cM_hblock 521 = .ok (.ladd, 1) := by decide +kernel
theorem dM_hblock_522 : decode cM_hblock 522 = .ok (.ldc2_w 71, 3) := by decide +kernel
theorem dM_hblock_525 : decode cM_hblock 525 = .ok (.land, 1) := by decide +kernel
theorem dM_hblock_526 : decode cM_hblock 526 = .ok (.lastore, 1) := by decide +kernel
theorem dM_hblock_527 : decode cM_hblock 527 = .ok (.aload_n 0, 1) := by decide +kernel
theorem dM_hblock_528 : decode cM_hblock 528 = .ok (.getfield 25, 3) := by decide +kernel
theorem dM_hblock_531 : decode cM_hblock 531 = .ok (.iconst 1, 1) := by decide +kernel
theorem dM_hblock_532 : decode cM_hblock 532 = .ok (.aload_n 0, 1) := by decide +kernel
theorem dM_hblock_533 : decode cM_hblock 533 = .ok (.getfield 25, 3) := by decide +kernel
theorem dM_hblock_536 : decode cM_hblock 536 = .ok (.iconst 1, 1) := by decide +kernel
theorem dM_hblock_537 : decode cM_hblock 537 = .ok (.laload, 1) := by decide +kernel
theorem dM_hblock_538 : decode cM_hblock 538 = .ok (.lload 6, 2) := by decide +kernel
theorem dM_hblock_540 : decode cM_hblock 540 = .ok (.ladd, 1) := by decide +kernel
theorem dM_hblock_541 : decode cM_hblock 541 = .ok (.ldc2_w 71, 3) := by decide +kernel
theorem dM_hblock_544 : decode cM_hblock 544 = .ok (.land, 1) := by decide +kernel
theorem dM_hblock_545 : decode cM_hblock 545 = .ok (.lastore, 1) := by decide +kernel
theorem dM_hblock_546 : decode cM_hblock 546 = .ok (.aload_n 0, 1) := by decide +kernel
theorem dM_hblock_547 : decode cM_hblock 547 = .ok (.getfield 25, 3) := by decide +kernel
theorem dM_hblock_550 : decode cM_hblock 550 = .ok (.iconst 2, 1) := by decide +kernel
theorem dM_hblock_551 : decode cM_hblock 551 = .ok (.aload_n 0, 1) := by decide +kernel
theorem dM_hblock_552 : decode cM_hblock 552 = .ok (.getfield 25, 3) := by decide +kernel
theorem dM_hblock_555 : decode cM_hblock 555 = .ok (.iconst 2, 1) := by decide +kernel
theorem dM_hblock_556 : decode cM_hblock 556 = .ok (.laload, 1) := by decide +kernel
theorem dM_hblock_557 : decode cM_hblock 557 = .ok (.lload 8, 2) := by decide +kernel
theorem dM_hblock_559 : decode cM_hblock 559 = .ok (.ladd, 1) := by decide +kernel
theorem dM_hblock_560 : decode cM_hblock 560 = .ok (.ldc2_w 71, 3) := by decide +kernel
theorem dM_hblock_563 : decode cM_hblock 563 = .ok (.land, 1) := by decide +kernel
theorem dM_hblock_564 : decode cM_hblock 564 = .ok (.lastore, 1) := by decide +kernel
theorem dM_hblock_565 : decode cM_hblock 565 = .ok (.aload_n 0, 1) := by decide +kernel
theorem dM_hblock_566 : decode cM_hblock 566 = .ok (.getfield 25, 3) := by decide +kernel
theorem dM_hblock_569 : decode cM_hblock 569 = .ok (.iconst 3, 1) := by decide +kernel
theorem dM_hblock_570 : decode cM_hblock 570 = .ok (.aload_n 0, 1) := by decide +kernel
theorem dM_hblock_571 : decode cM_hblock 571 = .ok (.getfield 25, 3) := by decide +kernel
theorem dM_hblock_574 : decode cM_hblock 574 = .ok (.iconst 3, 1) := by decide +kernel
theorem dM_hblock_575 : decode cM_hblock 575 = .ok (.laload, 1) := by decide +kernel
theorem dM_hblock_576 : decode cM_hblock 576 = .ok (.lload 10, 2) := by decide +kernel
theorem dM_hblock_578 : decode cM_hblock 578 = .ok (.ladd, 1) := by decide +kernel
theorem dM_hblock_579 : decode cM_hblock 579 = .ok (.ldc2_w 71, 3) := by decide +kernel
theorem dM_hblock_582 : decode cM_hblock 582 = .ok (.land, 1) := by decide +kernel
theorem dM_hblock_583 : decode cM_hblock 583 = .ok (.lastore, 1) := by decide +kernel
theorem dM_hblock_584 : decode cM_hblock 584 = .ok (.aload_n 0, 1) := by decide +kernel
theorem dM_hblock_585 : decode cM_hblock 585 = .ok (.getfield 25, 3) := by decide +kernel
theorem dM_hblock_588 : decode cM_hblock 588 = .ok (.iconst 4, 1) := by decide +kernel
theorem dM_hblock_589 : decode cM_hblock 589 = .ok (.aload_n 0, 1) := by decide +kernel
theorem dM_hblock_590 : decode cM_hblock 590 = .ok (.getfield 25, 3) := by decide +kernel
theorem dM_hblock_593 : decode cM_hblock 593 = .ok (.iconst 4, 1) := by decide +kernel
theorem dM_hblock_594 : decode cM_hblock 594 = .ok (.laload, 1) := by decide +kernel
theorem dM_hblock_595 : decode cM_hblock 595 = .ok (.lload 12, 2) := by decide +kernel
theorem dM_hblock_597 : decode cM_hblock 597 = .ok (.ladd, 1) := by decide +kernel
theorem dM_hblock_598 : decode cM_hblock 598 = .ok (.ldc2_w 71, 3) := by decide +kernel
theorem dM_hblock_601 : decode cM_hblock 601 = .ok (.land, 1) := by decide +kernel
theorem dM_hblock_602 : decode cM_hblock 602 = .ok (.lastore, 1) := by decide +kernel
theorem dM_hblock_603 : decode cM_hblock 603 = .ok (.aload_n 0, 1) := by decide +kernel
theorem dM_hblock_604 : decode cM_hblock 604 = .ok (.getfield 25, 3) := by decide +kernel
theorem dM_hblock_607 : decode cM_hblock 607 = .ok (.iconst 5, 1) := by decide +kernel
theorem dM_hblock_608 : decode cM_hblock 608 = .ok (.aload_n 0, 1) := by decide +kernel
theorem dM_hblock_609 : decode cM_hblock 609 = .ok (.getfield 25, 3) := by decide +kernel
theorem dM_hblock_612 : decode cM_hblock 612 = .ok (.iconst 5, 1) := by decide +kernel
theorem dM_hblock_613 : decode cM_hblock 613 = .ok (.laload, 1) := by decide +kernel
theorem dM_hblock_614 : decode cM_hblock 614 = .ok (.lload 14, 2) := by decide +kernel
theorem dM_hblock_616 : decode cM_hblock 616 = .ok (.ladd, 1) := by decide +kernel
theorem dM_hblock_617 : decode cM_hblock 617 = .ok (.ldc2_w 71, 3) := by decide +kernel
theorem dM_hblock_620 : decode cM_hblock 620 = .ok (.land, 1) := by decide +kernel
theorem dM_hblock_621 : decode cM_hblock 621 = .ok (.lastore, 1) := by decide +kernel
theorem dM_hblock_622 : decode cM_hblock 622 = .ok (.aload_n 0, 1) := by decide +kernel
theorem dM_hblock_623 : decode cM_hblock 623 = .ok (.getfield 25, 3) := by decide +kernel
theorem dM_hblock_626 : decode cM_hblock 626 = .ok (.bipush 6, 2) := by decide +kernel
theorem dM_hblock_628 : decode cM_hblock 628 = .ok (.aload_n 0, 1) := by decide +kernel
theorem dM_hblock_629 : decode cM_hblock 629 = .ok (.getfield 25, 3) := by decide +kernel
theorem dM_hblock_632 : decode cM_hblock 632 = .ok (.bipush 6, 2) := by decide +kernel
theorem dM_hblock_634 : decode cM_hblock 634 = .ok (.laload, 1) := by decide +kernel
theorem dM_hblock_635 : decode cM_hblock 635 = .ok (.lload 16, 2) := by decide +kernel
theorem dM_hblock_637 : decode cM_hblock 637 = .ok (.ladd, 1) := by decide +kernel
theorem dM_hblock_638 : decode cM_hblock 638 = .ok (.ldc2_w 71, 3) := by decide +kernel
theorem dM_hblock_641 : decode cM_hblock 641 = .ok (.land, 1) := by decide +kernel
theorem dM_hblock_642 : decode cM_hblock 642 = .ok (.lastore, 1) := by decide +kernel
theorem dM_hblock_643 : decode cM_hblock 643 = .ok (.aload_n 0, 1) := by decide +kernel
theorem dM_hblock_644 : decode cM_hblock 644 = .ok (.getfield 25, 3) := by decide +kernel
theorem dM_hblock_647 : decode cM_hblock 647 = .ok (.bipush 7, 2) := by decide +kernel
theorem dM_hblock_649 : decode cM_hblock 649 = .ok (.aload_n 0, 1) := by decide +kernel
theorem dM_hblock_650 : decode cM_hblock 650 = .ok (.getfield 25, 3) := by decide +kernel
theorem dM_hblock_653 : decode cM_hblock 653 = .ok (.bipush 7, 2) := by decide +kernel
theorem dM_hblock_655 : decode cM_hblock 655 = .ok (.laload, 1) := by decide +kernel
theorem dM_hblock_656 : decode cM_hblock 656 = .ok (.lload 18, 2) := by decide +kernel
theorem dM_hblock_658 : decode cM_hblock 658 = .ok (.ladd, 1) := by decide +kernel
theorem dM_hblock_659 : decode cM_hblock 659 = .ok (.ldc2_w 71, 3) := by decide +kernel
theorem dM_hblock_662 : decode cM_hblock 662 = .ok (.land, 1) := by decide +kernel
theorem dM_hblock_663 : decode cM_hblock 663 = .ok (.lastore, 1) := by decide +kernel
theorem dM_hblock_664 : decode cM_hblock 664 = .ok (.return_, 1) := by decide +kernel
theorem dM_hashTo_0 : decode cM_hashTo 0 = .ok (.iconst 0, 1) := by decide +kernel
theorem dM_hashTo_1 : decode cM_hashTo 1 = .ok (.istore_n 3, 1) := by decide +kernel
theorem dM_hashTo_2 : decode cM_hashTo 2 = .ok (.iload_n 3, 1) := by decide +kernel
theorem dM_hashTo_3 : decode cM_hashTo 3 = .ok (.bipush 8, 2) := by decide +kernel
theorem dM_hashTo_5 : decode cM_hashTo 5 = .ok (.if_icmp .ge 25, 3) := by decide +kernel
theorem dM_hashTo_8 : decode cM_hashTo 8 = .ok (.aload_n 0, 1) := by decide +kernel
theorem dM_hashTo_9 : decode cM_hashTo 9 = .ok (.getfield 25, 3) := by decide +kernel
theorem dM_hashTo_12 : decode cM_hashTo 12 = .ok (.iload_n 3, 1) := by decide +kernel
theorem dM_hashTo_13 : decode cM_hashTo 13 = .ok (.getstatic 80, 3) := by decide +kernel
theorem dM_hashTo_16 : decode cM_hashTo 16 = .ok (.iload_n 3, 1) := by decide +kernel
theorem dM_hashTo_17 : decode cM_hashTo 17 = .ok (.iaload, 1) := by decide +kernel
theorem dM_hashTo_18 : decode cM_hashTo 18 = .ok (.i2l, 1) := by decide +kernel
theorem dM_hashTo_19 : decode cM_hashTo 19 = .ok (.ldc2_w 71, 3) := by decide +kernel
theorem dM_hashTo_22 : decode cM_hashTo 22 = .ok (.land, 1) := by decide +kernel
theorem dM_hashTo_23 : decode cM_hashTo 23 = .ok (.lastore, 1) := by decide +kernel
theorem dM_hashTo_24 : decode cM_hashTo 24 = .ok (.iinc 3 1, 3) := by decide +kernel
theorem dM_hashTo_27 : decode cM_hashTo 27 = .ok (.goto (-25), 3) := by decide +kernel
theorem dM_hashTo_30 : decode cM_hashTo 30 = .ok (.aload_n 0, 1) := by decide +kernel
theorem dM_hashTo_31 : decode cM_hashTo 31 = .ok (.getfield 63, 3) := by decide +kernel
theorem dM_hashTo_34 : decode cM_hashTo 34 = .ok (.bipush 72, 2) := by decide +kernel
theorem dM_hashTo_36 : decode cM_hashTo 36 = .ok (.iadd, 1) := by decide +kernel
theorem dM_hashTo_37 : decode cM_hashTo 37 = .ok (.bipush 64, 2) := by decide +kernel
theorem dM_hashTo_39 : decode cM_hashTo 39 = .ok (.idiv, 1) := by decide +kernel
theorem dM_hashTo_40 : decode cM_hashTo 40 = .ok (.bipush 64, 2) := by decide +kernel
theorem dM_hashTo_42 : decode cM_hashTo 42 = .ok (.imul, 1) := by decide +kernel
theorem dM_hashTo_43 : decode cM_hashTo 43 = .ok (.istore_n 3, 1) := by decide +kernel
theorem dM_hashTo_44 : decode cM_hashTo 44 = .ok (.iconst 0, 1) := by decide +kernel
theorem dM_hashTo_45 : decode cM_hashTo 45 = .ok (.istore 4, 2) := by decide +kernel
theorem dM_hashTo_47 : decode cM_hashTo 47 = .ok (.iload 4, 2) := by decide +kernel
theorem dM_hashTo_49 : decode cM_hashTo 49 = .ok (.iload_n 3, 1) := by decide +kernel
theorem dM_hashTo_50 : decode cM_hashTo 50 = .ok (.if_icmp .ge 20, 3) := by decide +kernel
theorem dM_hashTo_53 : decode cM_hashTo 53 = .ok (.aload_n 0, 1) := by decide +kernel
theorem dM_hashTo_54 : decode cM_hashTo 54 = .ok (.iload 4, 2) := by decide +kernel
theorem dM_hashTo_56 : decode cM_hashTo 56 = .ok (.aload_n 0, 1) := by decide +kernel
theorem dM_hashTo_57 : decode cM_hashTo 57 = .ok (.getfield 63, 3) := by decide +kernel
theorem dM_hashTo_60 : decode cM_hashTo 60 = .ok (.iload_n 3, 1) := by decide +kernel
theorem dM_hashTo_61 : decode cM_hashTo 61 = .ok (.invokevirtual 83, 3) := by decide +kernel
theorem dM_hashTo_64 : decode cM_hashTo 64 = .ok (.iinc 4 64, 3) := by decide +kernel
theorem dM_hashTo_67 : decode cM_hashTo 67 = .ok (.goto (-20), 3) := by decide +kernel
theorem dM_hashTo_70 : decode cM_hashTo 70 = .ok (.iconst 0, 1) := by decide +kernel
theorem dM_hashTo_71 : decode cM_hashTo 71 = .ok (.istore 4, 2) := by decide +kernel
theorem dM_hashTo_73 : decode cM_hashTo 73 = .ok (.iload 4, 2) := by decide +kernel
theorem dM_hashTo_75 : decode cM_hashTo 75 = .ok (.bipush 32, 2) := by decide +kernel
theorem dM_hashTo_77 : decode cM_hashTo 77 = .ok (.if_icmp .ge 37, 3) := by decide +kernel
theorem dM_hashTo_80 : decode cM_hashTo 80 = .ok (.aload_n 1, 1) := by decide +kernel
theorem dM_hashTo_81 : decode cM_hashTo 81 = .ok (.iload_n 2, 1) := by decide +kernel
theorem dM_hashTo_82 : decode cM_hashTo 82 = .ok (.iload 4, 2) := by decide +kernel
theorem dM_hashTo_84 : decode cM_hashTo 84 = .ok (.iadd, 1) := by decide +kernel
theorem dM_hashTo_85 : decode cM_hashTo 85 = .ok (.aload_n 0, 1) := by decide +kernel
theorem dM_hashTo_86 : decode cM_hashTo 86 = .ok (.getfield 25, 3) := by decide +kernel
theorem dM_hashTo_89 : decode cM_hashTo 89 = .ok (.iload 4, 2) := by decide +kernel
theorem dM_hashTo_91 : decode cM_hashTo 91 = .ok (.iconst 4, 1) := by decide +kernel
theorem dM_hashTo_92 : decode cM_hashTo 92 = .ok (.idiv, 1) := by decide +kernel
theorem dM_hashTo_93 : decode cM_hashTo 93 = .ok (.laload, 1) := by decide +kernel
theorem dM_hashTo_94 : decode cM_hashTo 94 = .ok (.bipush 24, 2) := by decide +kernel
theorem dM_hashTo_96 : decode cM_hashTo 96 = .ok (.bipush 8, 2) := by decide +kernel
theorem dM_hashTo_98 : decode cM_hashTo 98 = .ok (.iload 4, 2) := by decide +kernel
theorem dM_hashTo_100 : decode cM_hashTo 100 = .ok (.iconst 4, 1) := by decide +kernel
theorem dM_hashTo_101 : decode cM_hashTo 101 = .ok (.irem, 1) := by decide +kernel
theorem dM_hashTo_102 : decode cM_hashTo 102 = .ok (.imul, 1) := by decide +kernel
theorem dM_hashTo_103 : decode cM_hashTo 103 = .ok (.isub, 1) := by decide +kernel
theorem dM_hashTo_104 : decode cM_hashTo 104 = .ok (.lshr, 1) := by decide +kernel
theorem dM_hashTo_105 : decode cM_hashTo 105 = .ok (.l2i, 1) := by decide +kernel
theorem dM_hashTo_106 : decode cM_hashTo 106 = .ok (.i2b, 1) := by decide +kernel
theorem dM_hashTo_107 : decode cM_hashTo 107 = .ok (.bastore, 1) := by decide +kernel
theorem dM_hashTo_108 : decode cM_hashTo 108 = .ok (.iinc 4 1, 3) := by decide +kernel
theorem dM_hashTo_111 : decode cM_hashTo 111 = .ok (.goto (-38), 3) := by decide +kernel
theorem dM_hashTo_114 : decode cM_hashTo 114 = .ok (.return_, 1) := by decide +kernel
theorem dM_low_0 : decode cM_low 0 = .ok (.aload_n 0, 1) := by decide +kernel
theorem dM_low_1 : decode cM_low 1 = .ok (.iload_n 1, 1) := by decide +kernel
theorem dM_low_2 : decode cM_low 2 = .ok (.baload, 1) := by decide +kernel
theorem dM_low_3 : decode cM_low 3 = .ok (.sipush 255, 3) := by decide +kernel
theorem dM_low_6 : decode cM_low 6 = .ok (.iand, 1) := by decide +kernel
theorem dM_low_7 : decode cM_low 7 = .ok (.aload_n 0, 1) := by decide +kernel
theorem dM_low_8 : decode cM_low 8 = .ok (.iload_n 1, 1) := by decide +kernel
theorem dM_low_9 : decode cM_low 9 = .ok (.iconst 1, 1) := by decide +kernel
theorem dM_low_10 : decode cM_low 10 = .ok (.iadd, 1) := by decide +kernel
theorem dM_low_11 : decode cM_low 11 = .ok (.baload, 1) := by decide +kernel
theorem dM_low_12 : decode cM_low 12 = .ok (.sipush 255, 3) := by decide +kernel
theorem dM_low_15 : decode cM_low 15 = .ok (.iand, 1) := by decide +kernel
theorem dM_low_16 : decode cM_low 16 = .ok (.bipush 8, 2) := by decide +kernel
theorem dM_low_18 : decode cM_low 18 = .ok (.ishl, 1) := by decide +kernel
theorem dM_low_19 : decode cM_low 19 = .ok (.ior, 1) := by decide +kernel
theorem dM_low_20 : decode cM_low 20 = .ok (.aload_n 0, 1) := by decide +kernel
theorem dM_low_21 : decode cM_low 21 = .ok (.iload_n 1, 1) := by decide +kernel
theorem dM_low_22 : decode cM_low 22 = .ok (.iconst 2, 1) := by decide +kernel
theorem dM_low_23 : decode cM_low 23 = .ok (.iadd, 1) := by decide +kernel
theorem dM_low_24 : decode cM_low 24 = .ok (.baload, 1) := by decide +kernel
theorem dM_low_25 : decode cM_low 25 = .ok (.sipush 255, 3) := by decide +kernel
theorem dM_low_28 : decode cM_low 28 = .ok (.iand, 1) := by decide +kernel
theorem dM_low_29 : decode cM_low 29 = .ok (.bipush 16, 2) := by decide +kernel
theorem dM_low_31 : decode cM_low 31 = .ok (.ishl, 1) := by decide +kernel
theorem dM_low_32 : decode cM_low 32 = .ok (.ior, 1) := by decide +kernel
theorem dM_low_33 : decode cM_low 33 = .ok (.aload_n 0, 1) := by decide +kernel
theorem dM_low_34 : decode cM_low 34 = .ok (.iload_n 1, 1) := by decide +kernel
theorem dM_low_35 : decode cM_low 35 = .ok (.iconst 3, 1) := by decide +kernel
theorem dM_low_36 : decode cM_low 36 = .ok (.iadd, 1) := by decide +kernel
theorem dM_low_37 : decode cM_low 37 = .ok (.baload, 1) := by decide +kernel
theorem dM_low_38 : decode cM_low 38 = .ok (.sipush 255, 3) := by decide +kernel
theorem dM_low_41 : decode cM_low 41 = .ok (.iand, 1) := by decide +kernel
theorem dM_low_42 : decode cM_low 42 = .ok (.bipush 24, 2) := by decide +kernel
theorem dM_low_44 : decode cM_low 44 = .ok (.ishl, 1) := by decide +kernel
theorem dM_low_45 : decode cM_low 45 = .ok (.ior, 1) := by decide +kernel
theorem dM_low_46 : decode cM_low 46 = .ok (.ireturn, 1) := by decide +kernel
theorem dM_mix_0 : decode cM_mix 0 = .ok (.aload_n 0, 1) := by decide +kernel
theorem dM_mix_1 : decode cM_mix 1 = .ok (.getfield 35, 3) := by decide +kernel
theorem dM_mix_4 : decode cM_mix 4 = .ok (.iload_n 1, 1) := by decide +kernel
theorem dM_mix_5 : decode cM_mix 5 = .ok (.dup2, 1) := by decide +kernel
theorem dM_mix_6 : decode cM_mix 6 = .ok (.iaload, 1) := by decide +kernel
theorem dM_mix_7 : decode cM_mix 7 = .ok (.aload_n 0, 1) := by decide +kernel
theorem dM_mix_8 : decode cM_mix 8 = .ok (.getfield 35, 3) := by decide +kernel
theorem dM_mix_11 : decode cM_mix 11 = .ok (.iload_n 2, 1) := by decide +kernel
theorem dM_mix_12 : decode cM_mix 12 = .ok (.iaload, 1) := by decide +kernel
theorem dM_mix_13 : decode cM_mix 13 = .ok (.iadd, 1) := by decide +kernel
theorem dM_mix_14 : decode cM_mix 14 = .ok (.iastore, 1) := by decide +kernel
theorem dM_mix_15 : decode cM_mix 15 = .ok (.aload_n 0, 1) := by decide +kernel
theorem dM_mix_16 : decode cM_mix 16 = .ok (.getfield 35, 3) := by decide +kernel
theorem dM_mix_19 : decode cM_mix 19 = .ok (.iload 4, 2) := by decide +kernel
theorem dM_mix_21 : decode cM_mix 21 = .ok (.aload_n 0, 1) := by decide +kernel
theorem dM_mix_22 : decode cM_mix 22 = .ok (.getfield 35, 3) := by decide +kernel
theorem dM_mix_25 : decode cM_mix 25 = .ok (.iload 4, 2) := by decide +kernel
theorem dM_mix_27 : decode cM_mix 27 = .ok (.iaload, 1) := by decide +kernel
theorem dM_mix_28 : decode cM_mix 28 = .ok (.aload_n 0, 1) := by decide +kernel
theorem dM_mix_29 : decode cM_mix 29 = .ok (.getfield 35, 3) := by decide +kernel
theorem dM_mix_32 : decode cM_mix 32 = .ok (.iload_n 1, 1) := by decide +kernel
theorem dM_mix_33 : decode cM_mix 33 = .ok (.iaload, 1) := by decide +kernel
theorem dM_mix_34 : decode cM_mix 34 = .ok (.ixor, 1) := by decide +kernel
theorem dM_mix_35 : decode cM_mix 35 = .ok (.bipush 16, 2) := by decide +kernel
theorem dM_mix_37 : decode cM_mix 37 = .ok (.invokestatic 87, 3) := by decide +kernel
theorem dM_mix_40 : decode cM_mix 40 = .ok (.iastore, 1) := by decide +kernel
theorem dM_mix_41 : decode cM_mix 41 = .ok (.aload_n 0, 1) := by decide +kernel
theorem dM_mix_42 : decode cM_mix 42 = .ok (.getfield 35, 3) := by decide +kernel
theorem dM_mix_45 : decode cM_mix 45 = .ok (.iload_n 3, 1) := by decide +kernel
theorem dM_mix_46 : decode cM_mix 46 = .ok (.dup2, 1) := by decide +kernel
theorem dM_mix_47 : decode cM_mix 47 = .ok (.iaload, 1) := by decide +kernel
theorem dM_mix_48 : decode cM_mix 48 = .ok (.aload_n 0, 1) := by decide +kernel
theorem dM_mix_49 : decode cM_mix 49 = .ok (.getfield 35, 3) := by decide +kernel
theorem dM_mix_52 : decode cM_mix 52 = .ok (.iload 4, 2) := by decide +kernel
theorem dM_mix_54 : decode cM_mix 54 = .ok (.iaload, 1) := by decide +kernel
theorem dM_mix_55 : decode cM_mix 55 = .ok (.iadd, 1) := by decide +kernel
theorem dM_mix_56 : decode cM_mix 56 = .ok (.iastore, 1) := by decide +kernel
theorem dM_mix_57 : decode cM_mix 57 = .ok (.aload_n 0, 1) := by decide +kernel
theorem dM_mix_58 : decode cM_mix 58 = .ok (.getfield 35, 3) := by decide +kernel
theorem dM_mix_61 : decode cM_mix 61 = .ok (.iload_n 2, 1) := by decide +kernel
theorem dM_mix_62 : decode cM_mix 62 = .ok (.aload_n 0, 1) := by decide +kernel
theorem dM_mix_63 : decode cM_mix 63 = .ok (.getfield 35, 3) := by decide +kernel
theorem dM_mix_66 : decode cM_mix 66 = .ok (.iload_n 2, 1) := by decide +kernel
theorem dM_mix_67 : decode cM_mix 67 = .ok (.iaload, 1) := by decide +kernel
theorem dM_mix_68 : decode cM_mix 68 = .ok (.aload_n 0, 1) := by decide +kernel
theorem dM_mix_69 : decode cM_mix 69 = .ok (.getfield 35, 3) := by decide +kernel
theorem dM_mix_72 : decode cM_mix 72 = .ok (.iload_n 3, 1) := by decide +kernel
theorem dM_mix_73 : decode cM_mix 73 = .ok (.iaload, 1) := by decide +kernel
theorem dM_mix_74 : decode cM_mix 74 = .ok (.ixor, 1) := by decide +kernel
theorem dM_mix_75 : decode cM_mix 75 = .ok (.bipush 12, 2) := by decide +kernel
theorem dM_mix_77 : decode cM_mix 77 = .ok (.invokestatic 87, 3) := by decide +kernel
theorem dM_mix_80 : decode cM_mix 80 = .ok (.iastore, 1) := by decide +kernel
theorem dM_mix_81 : decode cM_mix 81 = .ok (.aload_n 0, 1) := by decide +kernel
theorem dM_mix_82 : decode cM_mix 82 = .ok (.getfield 35, 3) := by decide +kernel
theorem dM_mix_85 : decode cM_mix 85 = .ok (.iload_n 1, 1) := by decide +kernel
theorem dM_mix_86 : decode cM_mix 86 = .ok (.dup2, 1) := by decide +kernel
theorem dM_mix_87 : decode cM_mix 87 = .ok (.iaload, 1) := by decide +kernel
theorem dM_mix_88 : decode cM_mix 88 = .ok (.aload_n 0, 1) := by decide +kernel
theorem dM_mix_89 : decode cM_mix 89 = .ok (.getfield 35, 3) := by decide +kernel
theorem dM_mix_92 : decode cM_mix 92 = .ok (.iload_n 2, 1) := by decide +kernel
theorem dM_mix_93 : decode cM_mix 93 = .ok (.iaload, 1) := by decide +kernel
theorem dM_mix_94 : decode cM_mix 94 = .ok (.iadd, 1) := by decide +kernel
theorem dM_mix_95 : decode cM_mix 95 = .ok (.iastore, 1) := by decide +kernel
theorem dM_mix_96 : decode cM_mix 96 = .ok (.aload_n 0, 1) := by decide +kernel
theorem dM_mix_97 : decode cM_mix 97 = .ok (.getfield 35, 3) := by decide +kernel
theorem dM_mix_100 : decode cM_mix 100 = .ok (.iload 4, 2) := by decide +kernel
theorem dM_mix_102 : decode cM_mix 102 = .ok (.aload_n 0, 1) := by decide +kernel
theorem dM_mix_103 : decode cM_mix 103 = .ok (.getfield 35, 3) := by decide +kernel
theorem dM_mix_106 : decode cM_mix 106 = .ok (.iload 4, 2) := by decide +kernel
theorem dM_mix_108 : decode cM_mix 108 = .ok (.iaload, 1) := by decide +kernel
theorem dM_mix_109 : decode cM_mix 109 = .ok (.aload_n 0, 1) := by decide +kernel
theorem dM_mix_110 : decode cM_mix 110 = .ok (.getfield 35, 3) := by decide +kernel
theorem dM_mix_113 : decode cM_mix 113 = .ok (.iload_n 1, 1) := by decide +kernel
theorem dM_mix_114 : decode cM_mix 114 = .ok (.iaload, 1) := by decide +kernel
theorem dM_mix_115 : decode cM_mix 115 = .ok (.ixor, 1) := by decide +kernel
theorem dM_mix_116 : decode cM_mix 116 = .ok (.bipush 8, 2) := by decide +kernel
theorem dM_mix_118 : decode cM_mix 118 = .ok (.invokestatic 87, 3) := by decide +kernel
theorem dM_mix_121 : decode cM_mix 121 = .ok (.iastore, 1) := by decide +kernel
theorem dM_mix_122 : decode cM_mix 122 = .ok (.aload_n 0, 1) := by decide +kernel
theorem dM_mix_123 : decode cM_mix 123 = .ok (.getfield 35, 3) := by decide +kernel
theorem dM_mix_126 : decode cM_mix 126 = .ok (.iload_n 3, 1) := by decide +kernel
theorem dM_mix_127 : decode cM_mix 127 = .ok (.dup2, 1) := by decide +kernel
theorem dM_mix_128 : decode cM_mix 128 = .ok (.iaload, 1) := by decide +kernel
theorem dM_mix_129 : decode cM_mix 129 = .ok (.aload_n 0, 1) := by decide +kernel
theorem dM_mix_130 : decode cM_mix 130 = .ok (.getfield 35, 3) := by decide +kernel
theorem dM_mix_133 : decode cM_mix 133 = .ok (.iload 4, 2) := by decide +kernel
theorem dM_mix_135 : decode cM_mix 135 = .ok (.iaload, 1) := by decide +kernel
theorem dM_mix_136 : decode cM_mix 136 = .ok (.iadd, 1) := by decide +kernel
theorem dM_mix_137 : decode cM_mix 137 = .ok (.iastore, 1) := by decide +kernel
theorem dM_mix_138 : decode cM_mix 138 = .ok (.aload_n 0, 1) := by decide +kernel
theorem dM_mix_139 : decode cM_mix 139 = .ok (.getfield 35, 3) := by decide +kernel
theorem dM_mix_142 : decode cM_mix 142 = .ok (.iload_n 2, 1) := by decide +kernel
theorem dM_mix_143 : decode cM_mix 143 = .ok (.aload_n 0, 1) := by decide +kernel
theorem dM_mix_144 : decode cM_mix 144 = .ok (.getfield 35, 3) := by decide +kernel
theorem dM_mix_147 : decode cM_mix 147 = .ok (.iload_n 2, 1) := by decide +kernel
theorem dM_mix_148 : decode cM_mix 148 = .ok (.iaload, 1) := by decide +kernel
theorem dM_mix_149 : decode cM_mix 149 = .ok (.aload_n 0, 1) := by decide +kernel
theorem dM_mix_150 : decode cM_mix 150 = .ok (.getfield 35, 3) := by decide +kernel
theorem dM_mix_153 : decode cM_mix 153 = .ok (.iload_n 3, 1) := by decide +kernel
theorem dM_mix_154 : decode cM_mix 154 = .ok (.iaload, 1) := by decide +kernel
theorem dM_mix_155 : decode cM_mix 155 = .ok (.ixor, 1) := by decide +kernel
theorem dM_mix_156 : decode cM_mix 156 = .ok (.bipush 7, 2) := by decide +kernel
theorem dM_mix_158 : decode cM_mix 158 = .ok (.invokestatic 87, 3) := by decide +kernel
theorem dM_mix_161 : decode cM_mix 161 = .ok (.iastore, 1) := by decide +kernel
theorem dM_mix_162 : decode cM_mix 162 = .ok (.return_, 1) := by decide +kernel
theorem dM_turned_0 : decode cM_turned 0 = .ok (.iload_n 0, 1) := by decide +kernel
theorem dM_turned_1 : decode cM_turned 1 = .ok (.iload_n 1, 1) := by decide +kernel
theorem dM_turned_2 : decode cM_turned 2 = .ok (.ishl, 1) := by decide +kernel
theorem dM_turned_3 : decode cM_turned 3 = .ok (.iload_n 0, 1) := by decide +kernel
theorem dM_turned_4 : decode cM_turned 4 = .ok (.bipush 32, 2) := by decide +kernel
theorem dM_turned_6 : decode cM_turned 6 = .ok (.iload_n 1, 1) := by decide +kernel
theorem dM_turned_7 : decode cM_turned 7 = .ok (.isub, 1) := by decide +kernel
theorem dM_turned_8 : decode cM_turned 8 = .ok (.iushr, 1) := by decide +kernel
theorem dM_turned_9 : decode cM_turned 9 = .ok (.ior, 1) := by decide +kernel
theorem dM_turned_10 : decode cM_turned 10 = .ok (.ireturn, 1) := by decide +kernel
theorem dM_block_0 : decode cM_block 0 = .ok (.aload_n 0, 1) := by decide +kernel
theorem dM_block_1 : decode cM_block 1 = .ok (.getfield 39, 3) := by decide +kernel
theorem dM_block_4 : decode cM_block 4 = .ok (.iconst 0, 1) := by decide +kernel
theorem dM_block_5 : decode cM_block 5 = .ok (.ldc 91, 2) := by decide +kernel
theorem dM_block_7 : decode cM_block 7 = .ok (.iastore, 1) := by decide +kernel
theorem dM_block_8 : decode cM_block 8 = .ok (.aload_n 0, 1) := by decide +kernel
theorem dM_block_9 : decode cM_block 9 = .ok (.getfield 39, 3) := by decide +kernel
theorem dM_block_12 : decode cM_block 12 = .ok (.iconst 1, 1) := by decide +kernel
theorem dM_block_13 : decode cM_block 13 = .ok (.ldc 92, 2) := by decide +kernel
theorem dM_block_15 : decode cM_block 15 = .ok (.iastore, 1) := by decide +kernel
theorem dM_block_16 : decode cM_block 16 = .ok (.aload_n 0, 1) := by decide +kernel
theorem dM_block_17 : decode cM_block 17 = .ok (.getfield 39, 3) := by decide +kernel
theorem dM_block_20 : decode cM_block 20 = .ok (.iconst 2, 1) := by decide +kernel
theorem dM_block_21 : decode cM_block 21 = .ok (.ldc 93, 2) := by decide +kernel
theorem dM_block_23 : decode cM_block 23 = .ok (.iastore, 1) := by decide +kernel
theorem dM_block_24 : decode cM_block 24 = .ok (.aload_n 0, 1) := by decide +kernel
theorem dM_block_25 : decode cM_block 25 = .ok (.getfield 39, 3) := by decide +kernel
theorem dM_block_28 : decode cM_block 28 = .ok (.iconst 3, 1) := by decide +kernel
theorem dM_block_29 : decode cM_block 29 = .ok (.ldc 94, 2) := by decide +kernel
theorem dM_block_31 : decode cM_block 31 = .ok (.iastore, 1) := by decide +kernel
theorem dM_block_32 : decode cM_block 32 = .ok (.iconst 0, 1) := by decide +kernel
theorem dM_block_33 : decode cM_block 33 = .ok (.istore_n 2, 1) := by decide +kernel
theorem dM_block_34 : decode cM_block 34 = .ok (.iload_n 2, 1) := by decide +kernel
theorem dM_block_35 : decode cM_block 35 = .ok (.bipush 8, 2) := by decide +kernel
theorem dM_block_37 : decode cM_block 37 = .ok (.if_icmp .ge 27, 3) := by decide +kernel
theorem dM_block_40 : decode cM_block 40 = .ok (.aload_n 0, 1) := by decide +kernel
theorem dM_block_41 : decode cM_block 41 = .ok (.getfield 39, 3) := by decide +kernel
theorem dM_block_44 : decode cM_block 44 = .ok (.iconst 4, 1) := by decide +kernel
theorem dM_block_45 : decode cM_block 45 = .ok (.iload_n 2, 1) := by decide +kernel
theorem dM_block_46 : decode cM_block 46 = .ok (.iadd, 1) := by decide +kernel
theorem dM_block_47 : decode cM_block 47 = .ok (.aload_n 0, 1) := by decide +kernel
theorem dM_block_48 : decode cM_block 48 = .ok (.getfield 16, 3) := by decide +kernel
theorem dM_block_51 : decode cM_block 51 = .ok (.iconst 4, 1) := by decide +kernel
theorem dM_block_52 : decode cM_block 52 = .ok (.iload_n 2, 1) := by decide +kernel
theorem dM_block_53 : decode cM_block 53 = .ok (.imul, 1) := by decide +kernel
theorem dM_block_54 : decode cM_block 54 = .ok (.invokestatic 95, 3) := by decide +kernel
theorem dM_block_57 : decode cM_block 57 = .ok (.iastore, 1) := by decide +kernel
theorem dM_block_58 : decode cM_block 58 = .ok (.iinc 2 1, 3) := by decide +kernel
theorem dM_block_61 : decode cM_block 61 = .ok (.goto (-27), 3) := by decide +kernel
theorem dM_block_64 : decode cM_block 64 = .ok (.aload_n 0, 1) := by decide +kernel
theorem dM_block_65 : decode cM_block 65 = .ok (.getfield 39, 3) := by decide +kernel
theorem dM_block_68 : decode cM_block 68 = .ok (.bipush 12, 2) := by decide +kernel
theorem dM_block_70 : decode cM_block 70 = .ok (.iload_n 1, 1) := by decide +kernel
theorem dM_block_71 : decode cM_block 71 = .ok (.iastore, 1) := by decide +kernel
theorem dM_block_72 : decode cM_block 72 = .ok (.iconst 0, 1) := by decide +kernel
theorem dM_block_73 : decode cM_block 73 = .ok (.istore_n 2, 1) := by decide +kernel
theorem dM_block_74 : decode cM_block 74 = .ok (.iload_n 2, 1) := by decide +kernel
theorem dM_block_75 : decode cM_block 75 = .ok (.iconst 3, 1) := by decide +kernel
theorem dM_block_76 : decode cM_block 76 = .ok (.if_icmp .ge 28, 3) := by decide +kernel
theorem dM_block_79 : decode cM_block 79 = .ok (.aload_n 0, 1) := by decide +kernel
theorem dM_block_80 : decode cM_block 80 = .ok (.getfield 39, 3) := by decide +kernel
theorem dM_block_83 : decode cM_block 83 = .ok (.bipush 13, 2) := by decide +kernel
theorem dM_block_85 : decode cM_block 85 = .ok (.iload_n 2, 1) := by decide +kernel
theorem dM_block_86 : decode cM_block 86 = .ok (.iadd, 1) := by decide +kernel
theorem dM_block_87 : decode cM_block 87 = .ok (.aload_n 0, 1) := by decide +kernel
theorem dM_block_88 : decode cM_block 88 = .ok (.getfield 19, 3) := by decide +kernel
theorem dM_block_91 : decode cM_block 91 = .ok (.iconst 4, 1) := by decide +kernel
theorem dM_block_92 : decode cM_block 92 = .ok (.iload_n 2, 1) := by decide +kernel
theorem dM_block_93 : decode cM_block 93 = .ok (.imul, 1) := by decide +kernel
theorem dM_block_94 : decode cM_block 94 = .ok (.invokestatic 95, 3) := by decide +kernel
theorem dM_block_97 : decode cM_block 97 = .ok (.iastore, 1) := by decide +kernel
theorem dM_block_98 : decode cM_block 98 = .ok (.iinc 2 1, 3) := by decide +kernel
theorem dM_block_101 : decode cM_block 101 = .ok (.goto (-27), 3) := by decide +kernel
theorem dM_block_104 : decode cM_block 104 = .ok (.iconst 0, 1) := by decide +kernel
theorem dM_block_105 : decode cM_block 105 = .ok (.istore_n 2, 1) := by decide +kernel
theorem dM_block_106 : decode cM_block 106 = .ok (.iload_n 2, 1) := by decide +kernel
theorem dM_block_107 : decode cM_block 107 = .ok (.bipush 16, 2) := by decide +kernel
theorem dM_block_109 : decode cM_block 109 = .ok (.if_icmp .ge 21, 3) := by decide +kernel
theorem dM_block_112 : decode cM_block 112 = .ok (.aload_n 0, 1) := by decide +kernel
theorem dM_block_113 : decode cM_block 113 = .ok (.getfield 35, 3) := by decide +kernel
theorem dM_block_116 : decode cM_block 116 = .ok (.iload_n 2, 1) := by decide +kernel
theorem dM_block_117 : decode cM_block 117 = .ok (.aload_n 0, 1) := by decide +kernel
theorem dM_block_118 : decode cM_block 118 = .ok (.getfield 39, 3) := by decide +kernel
theorem dM_block_121 : decode cM_block 121 = .ok (.iload_n 2, 1) := by decide +kernel
theorem dM_block_122 : decode cM_block 122 = .ok (.iaload, 1) := by decide +kernel
theorem dM_block_123 : decode cM_block 123 = .ok (.iastore, 1) := by decide +kernel
theorem dM_block_124 : decode cM_block 124 = .ok (.iinc 2 1, 3) := by decide +kernel
theorem dM_block_127 : decode cM_block 127 = .ok (.goto (-21), 3) := by decide +kernel
theorem dM_block_130 : decode cM_block 130 = .ok (.iconst 0, 1) := by decide +kernel
theorem dM_block_131 : decode cM_block 131 = .ok (.istore_n 2, 1) := by decide +kernel
theorem dM_block_132 : decode cM_block 132 = .ok (.iload_n 2, 1) := by decide +kernel
theorem dM_block_133 : decode cM_block 133 = .ok (.bipush 10, 2) := by decide +kernel
theorem dM_block_135 : decode cM_block 135 = .ok (.if_icmp .ge 79, 3) := by decide +kernel
theorem dM_block_138 : decode cM_block 138 = .ok (.iconst 0, 1) := by decide +kernel
theorem dM_block_139 : decode cM_block 139 = .ok (.istore_n 3, 1) := by decide +kernel
theorem dM_block_140 : decode cM_block 140 = .ok (.iload_n 3, 1) := by decide +kernel
theorem dM_block_141 : decode cM_block 141 = .ok (.iconst 4, 1) := by decide +kernel
theorem dM_block_142 : decode cM_block 142 = .ok (.if_icmp .ge 25, 3) := by decide +kernel
theorem dM_block_145 : decode cM_block 145 = .ok (.aload_n 0, 1) := by decide +kernel
theorem dM_block_146 : decode cM_block 146 = .ok (.iload_n 3, 1) := by decide +kernel
theorem dM_block_147 : decode cM_block 147 = .ok (.iconst 4, 1) := by decide +kernel
theorem dM_block_148 : decode cM_block 148 = .ok (.iload_n 3, 1) := by decide +kernel
theorem dM_block_149 : decode cM_block 149 = .ok (.iadd, 1) := by decide +kernel
theorem dM_block_150 : decode cM_block 150 = .ok (.bipush 8, 2) := by decide +kernel
theorem dM_block_152 : decode cM_block 152 = .ok (.iload_n 3, 1) := by decide +kernel
theorem dM_block_153 : decode cM_block 153 = .ok (.iadd, 1) := by decide +kernel
theorem dM_block_154 : decode cM_block 154 = .ok (.bipush 12, 2) := by decide +kernel
theorem dM_block_156 : decode cM_block 156 = .ok (.iload_n 3, 1) := by decide +kernel
theorem dM_block_157 : decode cM_block 157 = .ok (.iadd, 1) := by decide +kernel
theorem dM_block_158 : decode cM_block 158 = .ok (.invokevirtual 99, 3) := by decide +kernel
theorem dM_block_161 : decode cM_block 161 = .ok (.iinc 3 1, 3) := by decide +kernel
theorem dM_block_164 : decode cM_block 164 = .ok (.goto (-24), 3) := by decide +kernel
theorem dM_block_167 : decode cM_block 167 = .ok (.iconst 0, 1) := by decide +kernel
theorem dM_block_168 : decode cM_block 168 = .ok (.istore_n 3, 1) := by decide +kernel
theorem dM_block_169 : decode cM_block 169 = .ok (.iload_n 3, 1) := by decide +kernel
theorem dM_block_170 : decode cM_block 170 = .ok (.iconst 4, 1) := by decide +kernel
theorem dM_block_171 : decode cM_block 171 = .ok (.if_icmp .ge 37, 3) := by decide +kernel
theorem dM_block_174 : decode cM_block 174 = .ok (.aload_n 0, 1) := by decide +kernel
theorem dM_block_175 : decode cM_block 175 = .ok (.iload_n 3, 1) := by decide +kernel
theorem dM_block_176 : decode cM_block 176 = .ok (.iconst 4, 1) := by decide +kernel
theorem dM_block_177 : decode cM_block 177 = .ok (.iload_n 3, 1) := by decide +kernel
theorem dM_block_178 : decode cM_block 178 = .ok (.iconst 1, 1) := by decide +kernel
theorem dM_block_179 : decode cM_block 179 = .ok (.iadd, 1) := by decide +kernel
theorem dM_block_180 : decode cM_block 180 = .ok (.iconst 4, 1) := by decide +kernel
theorem dM_block_181 : decode cM_block 181 = .ok (.irem, 1) := by decide +kernel
theorem dM_block_182 : decode cM_block 182 = .ok (.iadd, 1) := by decide +kernel
theorem dM_block_183 : decode cM_block 183 = .ok (.bipush 8, 2) := by decide +kernel
theorem dM_block_185 : decode cM_block 185 = .ok (.iload_n 3, 1) := by decide +kernel
theorem dM_block_186 : decode cM_block 186 = .ok (.iconst 2, 1) := by decide +kernel
theorem dM_block_187 : decode cM_block 187 = .ok (.iadd, 1) := by decide +kernel
theorem dM_block_188 : decode cM_block 188 = .ok (.iconst 4, 1) := by decide +kernel
theorem dM_block_189 : decode cM_block 189 = .ok (.irem, 1) := by decide +kernel
theorem dM_block_190 : decode cM_block 190 = .ok (.iadd, 1) := by decide +kernel
theorem dM_block_191 : decode cM_block 191 = .ok (.bipush 12, 2) := by decide +kernel
theorem dM_block_193 : decode cM_block 193 = .ok (.iload_n 3, 1) := by decide +kernel
theorem dM_block_194 : decode cM_block 194 = .ok (.iconst 3, 1) := by decide +kernel
theorem dM_block_195 : decode cM_block 195 = .ok (.iadd, 1) := by decide +kernel
theorem dM_block_196 : decode cM_block 196 = .ok (.iconst 4, 1) := by decide +kernel
theorem dM_block_197 : decode cM_block 197 = .ok (.irem, 1) := by decide +kernel
theorem dM_block_198 : decode cM_block 198 = .ok (.iadd, 1) := by decide +kernel
theorem dM_block_199 : decode cM_block 199 = .ok (.invokevirtual 99, 3) := by decide +kernel
theorem dM_block_202 : decode cM_block 202 = .ok (.iinc 3 1, 3) := by decide +kernel
theorem dM_block_205 : decode cM_block 205 = .ok (.goto (-36), 3) := by decide +kernel
theorem dM_block_208 : decode cM_block 208 = .ok (.iinc 2 1, 3) := by decide +kernel
theorem dM_block_211 : decode cM_block 211 = .ok (.goto (-79), 3) := by decide +kernel
theorem dM_block_214 : decode cM_block 214 = .ok (.iconst 0, 1) := by decide +kernel
theorem dM_block_215 : decode cM_block 215 = .ok (.istore_n 2, 1) := by decide +kernel
theorem dM_block_216 : decode cM_block 216 = .ok (.iload_n 2, 1) := by decide +kernel
theorem dM_block_217 : decode cM_block 217 = .ok (.bipush 16, 2) := by decide +kernel
theorem dM_block_219 : decode cM_block 219 = .ok (.if_icmp .ge 57, 3) := by decide +kernel
theorem dM_block_222 : decode cM_block 222 = .ok (.aload_n 0, 1) := by decide +kernel
theorem dM_block_223 : decode cM_block 223 = .ok (.getfield 35, 3) := by decide +kernel
theorem dM_block_226 : decode cM_block 226 = .ok (.iload_n 2, 1) := by decide +kernel
theorem dM_block_227 : decode cM_block 227 = .ok (.iaload, 1) := by decide +kernel
theorem dM_block_228 : decode cM_block 228 = .ok (.aload_n 0, 1) := by decide +kernel
theorem dM_block_229 : decode cM_block 229 = .ok (.getfield 39, 3) := by decide +kernel
theorem dM_block_232 : decode cM_block 232 = .ok (.iload_n 2, 1) := by decide +kernel
theorem dM_block_233 : decode cM_block 233 = .ok (.iaload, 1) := by decide +kernel
theorem dM_block_234 : decode cM_block 234 = .ok (.iadd, 1) := by decide +kernel
theorem dM_block_235 : decode cM_block 235 = .ok (.istore_n 3, 1) := by decide +kernel
theorem dM_block_236 : decode cM_block 236 = .ok (.iconst 0, 1) := by decide +kernel
theorem dM_block_237 : decode cM_block 237 = .ok (.istore 4, 2) := by decide +kernel
theorem dM_block_239 : decode cM_block 239 = .ok (.iload 4, 2) := by decide +kernel
theorem dM_block_241 : decode cM_block 241 = .ok (.iconst 4, 1) := by decide +kernel
theorem dM_block_242 : decode cM_block 242 = .ok (.if_icmp .ge 28, 3) := by decide +kernel
theorem dM_block_245 : decode cM_block 245 = .ok (.aload_n 0, 1) := by decide +kernel
theorem dM_block_246 : decode cM_block 246 = .ok (.getfield 42, 3) := by decide +kernel
theorem dM_block_249 : decode cM_block 249 = .ok (.iconst 4, 1) := by decide +kernel
theorem dM_block_250 : decode cM_block 250 = .ok (.iload_n 2, 1) := by decide +kernel
theorem dM_block_251 : decode cM_block 251 = .ok (.imul, 1) := by decide +kernel
theorem dM_block_252 : decode cM_block 252 = .ok (.iload 4, 2) := by decide +kernel
theorem dM_block_254 : decode cM_block 254 = .ok (.iadd, 1) := by decide +kernel
theorem dM_block_255 : decode cM_block 255 = .ok (.iload_n 3, 1) := by decide +kernel
theorem dM_block_256 : decode cM_block 256 = .ok (.bipush 8, 2) := by decide +kernel
theorem dM_block_258 : decode cM_block 258 = .ok (.iload 4, 2) := by decide +kernel
theorem dM_block_260 : decode cM_block 260 = .ok (.imul, 1) := by decide +kernel
theorem dM_block_261 : decode cM_block 261 = .ok (.ishr, 1) := by decide +kernel
theorem dM_block_262 : decode cM_block 262 = .ok (.i2b, 1) := by decide +kernel
theorem dM_block_263 : decode cM_block 263 = .ok (.bastore, 1) := by decide +kernel
theorem dM_block_264 : decode cM_block 264 = .ok (.iinc 4 1, 3) := by decide +kernel
theorem dM_block_267 : decode cM_block 267 = .ok (.goto (-28), 3) := by decide +kernel
theorem dM_block_270 : decode cM_block 270 = .ok (.iinc 2 1, 3) := by decide +kernel
theorem dM_block_273 : decode cM_block 273 = .ok (.goto (-57), 3) := by decide +kernel
theorem dM_block_276 : decode cM_block 276 = .ok (.return_, 1) := by decide +kernel
theorem dM_carry_0 : decode cM_carry 0 = .ok (.iconst 0, 1) := by decide +kernel
theorem dM_carry_1 : decode cM_carry 1 = .ok (.istore_n 1, 1) := by decide +kernel
theorem dM_carry_2 : decode cM_carry 2 = .ok (.iload_n 1, 1) := by decide +kernel
theorem dM_carry_3 : decode cM_carry 3 = .ok (.bipush 34, 2) := by decide +kernel
theorem dM_carry_5 : decode cM_carry 5 = .ok (.if_icmp .ge 41, 3) := by decide +kernel
theorem dM_carry_8 : decode cM_carry 8 = .ok (.aload_n 0, 1) := by decide +kernel
theorem dM_carry_9 : decode cM_carry 9 = .ok (.getfield 48, 3) := by decide +kernel
theorem dM_carry_12 : decode cM_carry 12 = .ok (.iload_n 1, 1) := by decide +kernel
theorem dM_carry_13 : decode cM_carry 13 = .ok (.iconst 1, 1) := by decide +kernel
theorem dM_carry_14 : decode cM_carry 14 = .ok (.iadd, 1) := by decide +kernel
theorem dM_carry_15 : decode cM_carry 15 = .ok (.dup2, 1) := by decide +kernel
theorem dM_carry_16 : decode cM_carry 16 = .ok (.iaload, 1) := by decide +kernel
theorem dM_carry_17 : decode cM_carry 17 = .ok (.aload_n 0, 1) := by decide +kernel
theorem dM_carry_18 : decode cM_carry 18 = .ok (.getfield 48, 3) := by decide +kernel
theorem dM_carry_21 : decode cM_carry 21 = .ok (.iload_n 1, 1) := by decide +kernel
theorem dM_carry_22 : decode cM_carry 22 = .ok (.iaload, 1) := by decide +kernel
theorem dM_carry_23 : decode cM_carry 23 = .ok (.bipush 8, 2) := by decide +kernel
theorem dM_carry_25 : decode cM_carry 25 = .ok (.ishr, 1) := by decide +kernel
theorem dM_carry_26 : decode cM_carry 26 = .ok (.iadd, 1) := by decide +kernel
theorem dM_carry_27 : decode cM_carry 27 = .ok (.iastore, 1) := by decide +kernel
theorem dM_carry_28 : decode cM_carry 28 = .ok (.aload_n 0, 1) := by decide +kernel
theorem dM_carry_29 : decode cM_carry 29 = .ok (.getfield 48, 3) := by decide +kernel
theorem dM_carry_32 : decode cM_carry 32 = .ok (.iload_n 1, 1) := by decide +kernel
theorem dM_carry_33 : decode cM_carry 33 = .ok (.dup2, 1) := by decide +kernel
theorem dM_carry_34 : decode cM_carry 34 = .ok (.iaload, 1) := by decide +kernel
theorem dM_carry_35 : decode cM_carry 35 = .ok (.sipush 255, 3) := by decide +kernel
theorem dM_carry_38 : decode cM_carry 38 = .ok (.iand, 1) := by decide +kernel
theorem dM_carry_39 : decode cM_carry 39 = .ok (.iastore, 1) := by decide +kernel
theorem dM_carry_40 : decode cM_carry 40 = .ok (.iinc 1 1, 3) := by decide +kernel
theorem dM_carry_43 : decode cM_carry 43 = .ok (.goto (-41), 3) := by decide +kernel
theorem dM_carry_46 : decode cM_carry 46 = .ok (.return_, 1) := by decide +kernel
theorem dM_settle_0 : decode cM_settle 0 = .ok (.iconst 0, 1) := by decide +kernel
theorem dM_settle_1 : decode cM_settle 1 = .ok (.istore_n 1, 1) := by decide +kernel
theorem dM_settle_2 : decode cM_settle 2 = .ok (.iload_n 1, 1) := by decide +kernel
theorem dM_settle_3 : decode cM_settle 3 = .ok (.iconst 3, 1) := by decide +kernel
theorem dM_settle_4 : decode cM_settle 4 = .ok (.if_icmp .ge 125, 3) := by decide +kernel
theorem dM_settle_7 : decode cM_settle 7 = .ok (.aload_n 0, 1) := by decide +kernel
theorem dM_settle_8 : decode cM_settle 8 = .ok (.invokevirtual 103, 3) := by decide +kernel
theorem dM_settle_11 : decode cM_settle 11 = .ok (.iconst 0, 1) := by decide +kernel
theorem dM_settle_12 : decode cM_settle 12 = .ok (.istore_n 2, 1) := by decide +kernel
theorem dM_settle_13 : decode cM_settle 13 = .ok (.iload_n 2, 1) := by decide +kernel
theorem dM_settle_14 : decode cM_settle 14 = .ok (.bipush 18, 2) := by decide +kernel
theorem dM_settle_16 : decode cM_settle 16 = .ok (.if_icmp .ge 43, 3) := by decide +kernel
theorem dM_settle_19 : decode cM_settle 19 = .ok (.aload_n 0, 1) := by decide +kernel
theorem dM_settle_20 : decode cM_settle 20 = .ok (.getfield 60, 3) := by decide +kernel
theorem dM_settle_23 : decode cM_settle 23 = .ok (.iload_n 2, 1) := by decide +kernel
theorem dM_settle_24 : decode cM_settle 24 = .ok (.aload_n 0, 1) := by decide +kernel
theorem dM_settle_25 : decode cM_settle 25 = .ok (.getfield 48, 3) := by decide +kernel
theorem dM_settle_28 : decode cM_settle 28 = .ok (.bipush 16, 2) := by decide +kernel
theorem dM_settle_30 : decode cM_settle 30 = .ok (.iload_n 2, 1) := by decide +kernel
theorem dM_settle_31 : decode cM_settle 31 = .ok (.iadd, 1) := by decide +kernel
theorem dM_settle_32 : decode cM_settle 32 = .ok (.iaload, 1) := by decide +kernel
theorem dM_settle_33 : decode cM_settle 33 = .ok (.iconst 2, 1) := by decide +kernel
theorem dM_settle_34 : decode cM_settle 34 = .ok (.ishr, 1) := by decide +kernel
theorem dM_settle_35 : decode cM_settle 35 = .ok (.aload_n 0, 1) := by decide +kernel
theorem dM_settle_36 : decode cM_settle 36 = .ok (.getfield 48, 3) := by decide +kernel
theorem dM_settle_39 : decode cM_settle 39 = .ok (.bipush 17, 2) := by decide +kernel
theorem dM_settle_41 : decode cM_settle 41 = .ok (.iload_n 2, 1) := by decide +kernel
theorem dM_settle_42 : decode cM_settle 42 = .ok (.iadd, 1) := by decide +kernel
theorem dM_settle_43 : decode cM_settle 43 = .ok (.iaload, 1) := by decide +kernel
theorem dM_settle_44 : decode cM_settle 44 = .ok (.bipush 6, 2) := by decide +kernel
theorem dM_settle_46 : decode cM_settle 46 = .ok (.ishl, 1) := by decide +kernel
theorem dM_settle_47 : decode cM_settle 47 = .ok (.sipush 255, 3) := by decide +kernel
theorem dM_settle_50 : decode cM_settle 50 = .ok (.iand, 1) := by decide +kernel
theorem dM_settle_51 : decode cM_settle 51 = .ok (.ior, 1) := by decide +kernel
theorem dM_settle_52 : decode cM_settle 52 = .ok (.iastore, 1) := by decide +kernel
theorem dM_settle_53 : decode cM_settle 53 = .ok (.iinc 2 1, 3) := by decide +kernel
theorem dM_settle_56 : decode cM_settle 56 = .ok (.goto (-43), 3) := by decide +kernel
theorem dM_settle_59 : decode cM_settle 59 = .ok (.bipush 17, 2) := by decide +kernel
theorem dM_settle_61 : decode cM_settle 61 = .ok (.istore_n 2, 1) := by decide +kernel
theorem dM_settle_62 : decode cM_settle 62 = .ok (.iload_n 2, 1) := by decide +kernel
theorem dM_settle_63 : decode cM_settle 63 = .ok (.bipush 35, 2) := by decide +kernel
theorem dM_settle_65 : decode cM_settle 65 = .ok (.if_icmp .ge 16, 3) := by decide +kernel
theorem dM_settle_68 : decode cM_settle 68 = .ok (.aload_n 0, 1) := by decide +kernel
theorem dM_settle_69 : decode cM_settle 69 = .ok (.getfield 48, 3) := by decide +kernel
theorem dM_settle_72 : decode cM_settle 72 = .ok (.iload_n 2, 1) := by decide +kernel
theorem dM_settle_73 : decode cM_settle 73 = .ok (.iconst 0, 1) := by decide +kernel
theorem dM_settle_74 : decode cM_settle 74 = .ok (.iastore, 1) := by decide +kernel
theorem dM_settle_75 : decode cM_settle 75 = .ok (.iinc 2 1, 3) := by decide +kernel
theorem dM_settle_78 : decode cM_settle 78 = .ok (.goto (-16), 3) := by decide +kernel
theorem dM_settle_81 : decode cM_settle 81 = .ok (.aload_n 0, 1) := by decide +kernel
theorem dM_settle_82 : decode cM_settle 82 = .ok (.getfield 48, 3) := by decide +kernel
theorem dM_settle_85 : decode cM_settle 85 = .ok (.bipush 16, 2) := by decide +kernel
theorem dM_settle_87 : decode cM_settle 87 = .ok (.dup2, 1) := by decide +kernel
theorem dM_settle_88 : decode cM_settle 88 = .ok (.iaload, 1) := by decide +kernel
theorem dM_settle_89 : decode cM_settle 89 = .ok (.iconst 3, 1) := by decide +kernel
theorem dM_settle_90 : decode cM_settle 90 = .ok (.iand, 1) := by decide +kernel
theorem dM_settle_91 : decode cM_settle 91 = .ok (.iastore, 1) := by decide +kernel
theorem dM_settle_92 : decode cM_settle 92 = .ok (.iconst 0, 1) := by decide +kernel
theorem dM_settle_93 : decode cM_settle 93 = .ok (.istore_n 2, 1) := by decide +kernel
theorem dM_settle_94 : decode cM_settle 94 = .ok (.iload_n 2, 1) := by decide +kernel
theorem dM_settle_95 : decode cM_settle 95 = .ok (.bipush 18, 2) := by decide +kernel
theorem dM_settle_97 : decode cM_settle 97 = .ok (.if_icmp .ge 26, 3) := by decide +kernel
theorem dM_settle_100 : decode cM_settle 100 = .ok (.aload_n 0, 1) := by decide +kernel
theorem dM_settle_101 : decode cM_settle 101 = .ok (.getfield 48, 3) := by decide +kernel
theorem dM_settle_104 : decode cM_settle 104 = .ok (.iload_n 2, 1) := by decide +kernel
theorem dM_settle_105 : decode cM_settle 105 = .ok (.dup2, 1) := by decide +kernel
theorem dM_settle_106 : decode cM_settle 106 = .ok (.iaload, 1) := by decide +kernel
theorem dM_settle_107 : decode cM_settle 107 = .ok (.iconst 5, 1) := by decide +kernel
theorem dM_settle_108 : decode cM_settle 108 = .ok (.aload_n 0, 1) := by decide +kernel
theorem dM_settle_109 : decode cM_settle 109 = .ok (.getfield 60, 3) := by decide +kernel
theorem dM_settle_112 : decode cM_settle 112 = .ok (.iload_n 2, 1) := by decide +kernel
theorem dM_settle_113 : decode cM_settle 113 = .ok (.iaload, 1) := by decide +kernel
theorem dM_settle_114 : decode cM_settle 114 = .ok (.imul, 1) := by decide +kernel
theorem dM_settle_115 : decode cM_settle 115 = .ok (.iadd, 1) := by decide +kernel
theorem dM_settle_116 : decode cM_settle 116 = .ok (.iastore, 1) := by decide +kernel
theorem dM_settle_117 : decode cM_settle 117 = .ok (.iinc 2 1, 3) := by decide +kernel
theorem dM_settle_120 : decode cM_settle 120 = .ok (.goto (-26), 3) := by decide +kernel
theorem dM_settle_123 : decode cM_settle 123 = .ok (.iinc 1 1, 3) := by decide +kernel
theorem dM_settle_126 : decode cM_settle 126 = .ok (.goto (-124), 3) := by decide +kernel
theorem dM_settle_129 : decode cM_settle 129 = .ok (.aload_n 0, 1) := by decide +kernel
theorem dM_settle_130 : decode cM_settle 130 = .ok (.invokevirtual 103, 3) := by decide +kernel
theorem dM_settle_133 : decode cM_settle 133 = .ok (.return_, 1) := by decide +kernel
theorem dM_sumOf_0 : decode cM_sumOf 0 = .ok (.iconst 0, 1) := by decide +kernel
theorem dM_sumOf_1 : decode cM_sumOf 1 = .ok (.istore_n 3, 1) := by decide +kernel
theorem dM_sumOf_2 : decode cM_sumOf 2 = .ok (.iload_n 3, 1) := by decide +kernel
theorem dM_sumOf_3 : decode cM_sumOf 3 = .ok (.bipush 16, 2) := by decide +kernel
theorem dM_sumOf_5 : decode cM_sumOf 5 = .ok (.if_icmp .ge 50, 3) := by decide +kernel
theorem dM_sumOf_8 : decode cM_sumOf 8 = .ok (.aload_n 0, 1) := by decide +kernel
theorem dM_sumOf_9 : decode cM_sumOf 9 = .ok (.getfield 51, 3) := by decide +kernel
theorem dM_sumOf_12 : decode cM_sumOf 12 = .ok (.iload_n 3, 1) := by decide +kernel
theorem dM_sumOf_13 : decode cM_sumOf 13 = .ok (.aload_n 1, 1) := by decide +kernel
theorem dM_sumOf_14 : decode cM_sumOf 14 = .ok (.iload_n 3, 1) := by decide +kernel
theorem dM_sumOf_15 : decode cM_sumOf 15 = .ok (.baload, 1) := by decide +kernel
theorem dM_sumOf_16 : decode cM_sumOf 16 = .ok (.iload_n 3, 1) := by decide +kernel
theorem dM_sumOf_17 : decode cM_sumOf 17 = .ok (.iconst 4, 1) := by decide +kernel
theorem dM_sumOf_18 : decode cM_sumOf 18 = .ok (.irem, 1) := by decide +kernel
theorem dM_sumOf_19 : decode cM_sumOf 19 = .ok (.iconst 3, 1) := by decide +kernel
theorem dM_sumOf_20 : decode cM_sumOf 20 = .ok (.if_icmp .ne 8, 3) := by decide +kernel
theorem dM_sumOf_23 : decode cM_sumOf 23 = .ok (.bipush 15, 2) := by decide +kernel
theorem dM_sumOf_25 : decode cM_sumOf 25 = .ok (.goto 22, 3) := by decide +kernel
theorem dM_sumOf_28 : decode cM_sumOf 28 = .ok (.iload_n 3, 1) := by decide +kernel
theorem dM_sumOf_29 : decode cM_sumOf 29 = .ok (.ifCond .le 15, 3) := by decide +kernel
theorem dM_sumOf_32 : decode cM_sumOf 32 = .ok (.iload_n 3, 1) := by decide +kernel
theorem dM_sumOf_33 : decode cM_sumOf 33 = .ok (.iconst 4, 1) := by decide +kernel
theorem dM_sumOf_34 : decode cM_sumOf 34 = .ok (.irem, 1) := by decide +kernel
theorem dM_sumOf_35 : decode cM_sumOf 35 = .ok (.ifCond .ne 9, 3) := by decide +kernel
theorem dM_sumOf_38 : decode cM_sumOf 38 = .ok (.sipush 252, 3) := by decide +kernel
theorem dM_sumOf_41 : decode cM_sumOf 41 = .ok (.goto 6, 3) := by decide +kernel
theorem dM_sumOf_44 : decode cM_sumOf 44 = .ok (.sipush 255, 3) := by decide +kernel
theorem dM_sumOf_47 : decode cM_sumOf 47 = .ok (.iand, 1) := by decide +kernel
theorem dM_sumOf_48 : decode cM_sumOf 48 = .ok (.iastore, 1) := by decide +kernel
theorem dM_sumOf_49 : decode cM_sumOf 49 = .ok (.iinc 3 1, 3) := by decide +kernel
theorem dM_sumOf_52 : decode cM_sumOf 52 = .ok (.goto (-50), 3) := by decide +kernel
theorem dM_sumOf_55 : decode cM_sumOf 55 = .ok (.iconst 0, 1) := by decide +kernel
theorem dM_sumOf_56 : decode cM_sumOf 56 = .ok (.istore_n 3, 1) := by decide +kernel
theorem dM_sumOf_57 : decode cM_sumOf 57 = .ok (.iload_n 3, 1) := by decide +kernel
theorem dM_sumOf_58 : decode cM_sumOf 58 = .ok (.bipush 17, 2) := by decide +kernel
theorem dM_sumOf_60 : decode cM_sumOf 60 = .ok (.if_icmp .ge 16, 3) := by decide +kernel
theorem dM_sumOf_63 : decode cM_sumOf 63 = .ok (.aload_n 0, 1) := by decide +kernel
theorem dM_sumOf_64 : decode cM_sumOf 64 = .ok (.getfield 45, 3) := by decide +kernel
theorem dM_sumOf_67 : decode cM_sumOf 67 = .ok (.iload_n 3, 1) := by decide +kernel
theorem dM_sumOf_68 : decode cM_sumOf 68 = .ok (.iconst 0, 1) := by decide +kernel
theorem dM_sumOf_69 : decode cM_sumOf 69 = .ok (.iastore, 1) := by decide +kernel
theorem dM_sumOf_70 : decode cM_sumOf 70 = .ok (.iinc 3 1, 3) := by decide +kernel
theorem dM_sumOf_73 : decode cM_sumOf 73 = .ok (.goto (-16), 3) := by decide +kernel
theorem dM_sumOf_76 : decode cM_sumOf 76 = .ok (.iconst 0, 1) := by decide +kernel
theorem dM_sumOf_77 : decode cM_sumOf 77 = .ok (.istore_n 3, 1) := by decide +kernel
theorem dM_sumOf_78 : decode cM_sumOf 78 = .ok (.iload_n 3, 1) := by decide +kernel
theorem dM_sumOf_79 : decode cM_sumOf 79 = .ok (.iload_n 2, 1) := by decide +kernel
theorem dM_sumOf_80 : decode cM_sumOf 80 = .ok (.if_icmp .ge 195, 3) := by decide +kernel
theorem dM_sumOf_83 : decode cM_sumOf 83 = .ok (.iload_n 2, 1) := by decide +kernel
theorem dM_sumOf_84 : decode cM_sumOf 84 = .ok (.iload_n 3, 1) := by decide +kernel
theorem dM_sumOf_85 : decode cM_sumOf 85 = .ok (.isub, 1) := by decide +kernel
theorem dM_sumOf_86 : decode cM_sumOf 86 = .ok (.bipush 16, 2) := by decide +kernel
theorem dM_sumOf_88 : decode cM_sumOf 88 = .ok (.if_icmp .ge 9, 3) := by decide +kernel
theorem dM_sumOf_91 : decode cM_sumOf 91 = .ok (.iload_n 2, 1) := by decide +kernel
theorem dM_sumOf_92 : decode cM_sumOf 92 = .ok (.iload_n 3, 1) := by decide +kernel
theorem dM_sumOf_93 : decode cM_sumOf 93 = .ok (.isub, 1) := by decide +kernel
theorem dM_sumOf_94 : decode cM_sumOf 94 = .ok (.goto 5, 3) := by decide +kernel
theorem dM_sumOf_97 : decode cM_sumOf 97 = .ok (.bipush 16, 2) := by decide +kernel
theorem dM_sumOf_99 : decode cM_sumOf 99 = .ok (.istore 4, 2) := by decide +kernel
theorem dM_sumOf_101 : decode cM_sumOf 101 = .ok (.iconst 0, 1) := by decide +kernel
theorem dM_sumOf_102 : decode cM_sumOf 102 = .ok (.istore 5, 2) := by decide +kernel
theorem dM_sumOf_104 : decode cM_sumOf 104 = .ok (.iload 5, 2) := by decide +kernel
theorem dM_sumOf_106 : decode cM_sumOf 106 = .ok (.iload 4, 2) := by decide +kernel
theorem dM_sumOf_108 : decode cM_sumOf 108 = .ok (.if_icmp .ge 32, 3) := by decide +kernel
theorem dM_sumOf_111 : decode cM_sumOf 111 = .ok (.aload_n 0, 1) := by decide +kernel
theorem dM_sumOf_112 : decode cM_sumOf 112 = .ok (.getfield 45, 3) := by decide +kernel
theorem dM_sumOf_115 : decode cM_sumOf 115 = .ok (.iload 5, 2) := by decide +kernel
theorem dM_sumOf_117 : decode cM_sumOf 117 = .ok (.dup2, 1) := by decide +kernel
theorem dM_sumOf_118 : decode cM_sumOf 118 = .ok (.iaload, 1) := by decide +kernel
theorem dM_sumOf_119 : decode cM_sumOf 119 = .ok (.aload_n 0, 1) := by decide +kernel
theorem dM_sumOf_120 : decode cM_sumOf 120 = .ok (.getfield 54, 3) := by decide +kernel
theorem dM_sumOf_123 : decode cM_sumOf 123 = .ok (.iload_n 3, 1) := by decide +kernel
theorem dM_sumOf_124 : decode cM_sumOf 124 = .ok (.iload 5, 2) := by decide +kernel
theorem dM_sumOf_126 : decode cM_sumOf 126 = .ok (.iadd, 1) := by decide +kernel
theorem dM_sumOf_127 : decode cM_sumOf 127 = .ok (.baload, 1) := by decide +kernel
theorem dM_sumOf_128 : decode cM_sumOf 128 = .ok (.sipush 255, 3) := by decide +kernel
theorem dM_sumOf_131 : decode cM_sumOf 131 = .ok (.iand, 1) := by decide +kernel
theorem dM_sumOf_132 : decode cM_sumOf 132 = .ok (.iadd, 1) := by decide +kernel
theorem dM_sumOf_133 : decode cM_sumOf 133 = .ok (.iastore, 1) := by decide +kernel
theorem dM_sumOf_134 : decode cM_sumOf 134 = .ok (.iinc 5 1, 3) := by decide +kernel
theorem dM_sumOf_137 : decode cM_sumOf 137 = .ok (.goto (-33), 3) := by decide +kernel
theorem dM_sumOf_140 : decode cM_sumOf 140 = .ok (.aload_n 0, 1) := by decide +kernel
theorem dM_sumOf_141 : decode cM_sumOf 141 = .ok (.getfield 45, 3) := by decide +kernel
theorem dM_sumOf_144 : decode cM_sumOf 144 = .ok (.iload 4, 2) := by decide +kernel
theorem dM_sumOf_146 : decode cM_sumOf 146 = .ok (.dup2, 1) := by decide +kernel
theorem dM_sumOf_147 : decode cM_sumOf 147 = .ok (.iaload, 1) := by decide +kernel
theorem dM_sumOf_148 : decode cM_sumOf 148 = .ok (.iconst 1, 1) := by decide +kernel
theorem dM_sumOf_149 : decode cM_sumOf 149 = .ok (.iadd, 1) := by decide +kernel
theorem dM_sumOf_150 : decode cM_sumOf 150 = .ok (.iastore, 1) := by decide +kernel
theorem dM_sumOf_151 : decode cM_sumOf 151 = .ok (.iconst 0, 1) := by decide +kernel
theorem dM_sumOf_152 : decode cM_sumOf 152 = .ok (.istore 5, 2) := by decide +kernel
theorem dM_sumOf_154 : decode cM_sumOf 154 = .ok (.iload 5, 2) := by decide +kernel
theorem dM_sumOf_156 : decode cM_sumOf 156 = .ok (.bipush 35, 2) := by decide +kernel
theorem dM_sumOf_158 : decode cM_sumOf 158 = .ok (.if_icmp .ge 17, 3) := by decide +kernel
theorem dM_sumOf_161 : decode cM_sumOf 161 = .ok (.aload_n 0, 1) := by decide +kernel
theorem dM_sumOf_162 : decode cM_sumOf 162 = .ok (.getfield 48, 3) := by decide +kernel
theorem dM_sumOf_165 : decode cM_sumOf 165 = .ok (.iload 5, 2) := by decide +kernel
theorem dM_sumOf_167 : decode cM_sumOf 167 = .ok (.iconst 0, 1) := by decide +kernel
theorem dM_sumOf_168 : decode cM_sumOf 168 = .ok (.iastore, 1) := by decide +kernel
theorem dM_sumOf_169 : decode cM_sumOf 169 = .ok (.iinc 5 1, 3) := by decide +kernel
theorem dM_sumOf_172 : decode cM_sumOf 172 = .ok (.goto (-18), 3) := by decide +kernel
theorem dM_sumOf_175 : decode cM_sumOf 175 = .ok (.iconst 0, 1) := by decide +kernel
theorem dM_sumOf_176 : decode cM_sumOf 176 = .ok (.istore 5, 2) := by decide +kernel
theorem dM_sumOf_178 : decode cM_sumOf 178 = .ok (.iload 5, 2) := by decide +kernel
theorem dM_sumOf_180 : decode cM_sumOf 180 = .ok (.bipush 17, 2) := by decide +kernel
theorem dM_sumOf_182 : decode cM_sumOf 182 = .ok (.if_icmp .ge 53, 3) := by decide +kernel
theorem dM_sumOf_185 : decode cM_sumOf 185 = .ok (.iconst 0, 1) := by decide +kernel
theorem dM_sumOf_186 : decode cM_sumOf 186 = .ok (.istore 6, 2) := by decide +kernel
theorem dM_sumOf_188 : decode cM_sumOf 188 = .ok (.iload 6, 2) := by decide +kernel
theorem dM_sumOf_190 : decode cM_sumOf 190 = .ok (.bipush 16, 2) := by decide +kernel
theorem dM_sumOf_192 : decode cM_sumOf 192 = .ok (.if_icmp .ge 37, 3) := by decide +kernel
theorem dM_sumOf_195 : decode cM_sumOf 195 = .ok (.aload_n 0, 1) := by decide +kernel
theorem dM_sumOf_196 : decode cM_sumOf 196 = .ok (.getfield 48, 3) := by decide +kernel
theorem dM_sumOf_199 : decode cM_sumOf 199 = .ok (.iload 5, 2) := by decide +kernel
theorem dM_sumOf_201 : decode cM_sumOf 201 = .ok (.iload 6, 2) := by decide +kernel
theorem dM_sumOf_203 : decode cM_sumOf 203 = .ok (.iadd, 1) := by decide +kernel
theorem dM_sumOf_204 : decode cM_sumOf 204 = .ok (.dup2, 1) := by decide +kernel
theorem dM_sumOf_205 : decode cM_sumOf 205 = .ok (.iaload, 1) := by decide +kernel
theorem dM_sumOf_206 : decode cM_sumOf 206 = .ok (.aload_n 0, 1) := by decide +kernel
theorem dM_sumOf_207 : decode cM_sumOf 207 = .ok (.getfield 45, 3) := by decide +kernel
theorem dM_sumOf_210 : decode cM_sumOf 210 = .ok (.iload 5, 2) := by decide +kernel
theorem dM_sumOf_212 : decode cM_sumOf 212 = .ok (.iaload, 1) := by decide +kernel
theorem dM_sumOf_213 : decode cM_sumOf 213 = .ok (.aload_n 0, 1) := by decide +kernel
theorem dM_sumOf_214 : decode cM_sumOf 214 = .ok (.getfield 51, 3) := by decide +kernel
theorem dM_sumOf_217 : decode cM_sumOf 217 = .ok (.iload 6, 2) := by decide +kernel
theorem dM_sumOf_219 : decode cM_sumOf 219 = .ok (.iaload, 1) := by decide +kernel
theorem dM_sumOf_220 : decode cM_sumOf 220 = .ok (.imul, 1) := by decide +kernel
theorem dM_sumOf_221 : decode cM_sumOf 221 = .ok (.iadd, 1) := by decide +kernel
theorem dM_sumOf_222 : decode cM_sumOf 222 = .ok (.iastore, 1) := by decide +kernel
theorem dM_sumOf_223 : decode cM_sumOf 223 = .ok (.iinc 6 1, 3) := by decide +kernel
theorem dM_sumOf_226 : decode cM_sumOf 226 = .ok (.goto (-38), 3) := by decide +kernel
theorem dM_sumOf_229 : decode cM_sumOf 229 = .ok (.iinc 5 1, 3) := by decide +kernel
theorem dM_sumOf_232 : decode cM_sumOf 232 = .ok (.goto (-54), 3) := by decide +kernel
theorem dM_sumOf_235 : decode cM_sumOf 235 = .ok (.aload_n 0, 1) := by decide +kernel
theorem dM_sumOf_236 : decode cM_sumOf 236 = .ok (.invokevirtual 106, 3) := by decide +kernel
theorem dM_sumOf_239 : decode cM_sumOf 239 = .ok (.iconst 0, 1) := by decide +kernel
theorem dM_sumOf_240 : decode cM_sumOf 240 = .ok (.istore 5, 2) := by decide +kernel
theorem dM_sumOf_242 : decode cM_sumOf 242 = .ok (.iload 5, 2) := by decide +kernel
theorem dM_sumOf_244 : decode cM_sumOf 244 = .ok (.bipush 17, 2) := by decide +kernel
theorem dM_sumOf_246 : decode cM_sumOf 246 = .ok (.if_icmp .ge 23, 3) := by decide +kernel
theorem dM_sumOf_249 : decode cM_sumOf 249 = .ok (.aload_n 0, 1) := by decide +kernel
theorem dM_sumOf_250 : decode cM_sumOf 250 = .ok (.getfield 45, 3) := by decide +kernel
theorem dM_sumOf_253 : decode cM_sumOf 253 = .ok (.iload 5, 2) := by decide +kernel
theorem dM_sumOf_255 : decode cM_sumOf 255 = .ok (.aload_n 0, 1) := by decide +kernel
theorem dM_sumOf_256 : decode cM_sumOf 256 = .ok (.getfield 48, 3) := by decide +kernel
theorem dM_sumOf_259 : decode cM_sumOf 259 = .ok (.iload 5, 2) := by decide +kernel
theorem dM_sumOf_261 : decode cM_sumOf 261 = .ok (.iaload, 1) := by decide +kernel
theorem dM_sumOf_262 : decode cM_sumOf 262 = .ok (.iastore, 1) := by decide +kernel
theorem dM_sumOf_263 : decode cM_sumOf 263 = .ok (.iinc 5 1, 3) := by decide +kernel
theorem dM_sumOf_266 : decode cM_sumOf 266 = .ok (.goto (-24), 3) := by decide +kernel
theorem dM_sumOf_269 : decode cM_sumOf 269 = .ok (.iinc 3 16, 3) := by decide +kernel
theorem dM_sumOf_272 : decode cM_sumOf 272 = .ok (.goto (-194), 3) := by decide +kernel
theorem dM_sumOf_275 : decode cM_sumOf 275 = .ok (.iconst 0, 1) := by decide +kernel
theorem dM_sumOf_276 : decode cM_sumOf 276 = .ok (.istore_n 3, 1) := by decide +kernel
theorem dM_sumOf_277 : decode cM_sumOf 277 = .ok (.iload_n 3, 1) := by decide +kernel
theorem dM_sumOf_278 : decode cM_sumOf 278 = .ok (.bipush 35, 2) := by decide +kernel
theorem dM_sumOf_280 : decode cM_sumOf 280 = .ok (.if_icmp .ge 31, 3) := by decide +kernel
theorem dM_sumOf_283 : decode cM_sumOf 283 = .ok (.aload_n 0, 1) := by decide +kernel
theorem dM_sumOf_284 : decode cM_sumOf 284 = .ok (.getfield 48, 3) := by decide +kernel
theorem dM_sumOf_287 : decode cM_sumOf 287 = .ok (.iload_n 3, 1) := by decide +kernel
theorem dM_sumOf_288 : decode cM_sumOf 288 = .ok (.iload_n 3, 1) := by decide +kernel
theorem dM_sumOf_289 : decode cM_sumOf 289 = .ok (.bipush 17, 2) := by decide +kernel
theorem dM_sumOf_291 : decode cM_sumOf 291 = .ok (.if_icmp .ge 12, 3) := by decide +kernel
theorem dM_sumOf_294 : decode cM_sumOf 294 = .ok (.aload_n 0, 1) := by decide +kernel
theorem dM_sumOf_295 : decode cM_sumOf 295 = .ok (.getfield 45, 3) := by decide +kernel
theorem dM_sumOf_298 : decode cM_sumOf 298 = .ok (.iload_n 3, 1) := by decide +kernel
theorem dM_sumOf_299 : decode cM_sumOf 299 = .ok (.iaload, 1) := by decide +kernel
theorem dM_sumOf_300 : decode cM_sumOf 300 = .ok (.goto 4, 3) := by decide +kernel
theorem dM_sumOf_303 : decode cM_sumOf 303 = .ok (.iconst 0, 1) := by decide +kernel
theorem dM_sumOf_304 : decode cM_sumOf 304 = .ok (.iastore, 1) := by decide +kernel
theorem dM_sumOf_305 : decode cM_sumOf 305 = .ok (.iinc 3 1, 3) := by decide +kernel
theorem dM_sumOf_308 : decode cM_sumOf 308 = .ok (.goto (-31), 3) := by decide +kernel
theorem dM_sumOf_311 : decode cM_sumOf 311 = .ok (.aload_n 0, 1) := by decide +kernel
theorem dM_sumOf_312 : decode cM_sumOf 312 = .ok (.invokevirtual 106, 3) := by decide +kernel
theorem dM_sumOf_315 : decode cM_sumOf 315 = .ok (.iconst 0, 1) := by decide +kernel
theorem dM_sumOf_316 : decode cM_sumOf 316 = .ok (.istore_n 3, 1) := by decide +kernel
theorem dM_sumOf_317 : decode cM_sumOf 317 = .ok (.iload_n 3, 1) := by decide +kernel
theorem dM_sumOf_318 : decode cM_sumOf 318 = .ok (.bipush 17, 2) := by decide +kernel
theorem dM_sumOf_320 : decode cM_sumOf 320 = .ok (.if_icmp .ge 21, 3) := by decide +kernel
theorem dM_sumOf_323 : decode cM_sumOf 323 = .ok (.aload_n 0, 1) := by decide +kernel
theorem dM_sumOf_324 : decode cM_sumOf 324 = .ok (.getfield 45, 3) := by decide +kernel
theorem dM_sumOf_327 : decode cM_sumOf 327 = .ok (.iload_n 3, 1) := by decide +kernel
theorem dM_sumOf_328 : decode cM_sumOf 328 = .ok (.aload_n 0, 1) := by decide +kernel
theorem dM_sumOf_329 : decode cM_sumOf 329 = .ok (.getfield 48, 3) := by decide +kernel
theorem dM_sumOf_332 : decode cM_sumOf 332 = .ok (.iload_n 3, 1) := by decide +kernel
theorem dM_sumOf_333 : decode cM_sumOf 333 = .ok (.iaload, 1) := by decide +kernel
theorem dM_sumOf_334 : decode cM_sumOf 334 = .ok (.iastore, 1) := by decide +kernel
theorem dM_sumOf_335 : decode cM_sumOf 335 = .ok (.iinc 3 1, 3) := by decide +kernel
theorem dM_sumOf_338 : decode cM_sumOf 338 = .ok (.goto (-21), 3) := by decide +kernel
theorem dM_sumOf_341 : decode cM_sumOf 341 = .ok (.aload_n 0, 1) := by decide +kernel
theorem dM_sumOf_342 : decode cM_sumOf 342 = .ok (.getfield 45, 3) := by decide +kernel
theorem dM_sumOf_345 : decode cM_sumOf 345 = .ok (.bipush 16, 2) := by decide +kernel
theorem dM_sumOf_347 : decode cM_sumOf 347 = .ok (.iaload, 1) := by decide +kernel
theorem dM_sumOf_348 : decode cM_sumOf 348 = .ok (.iconst 3, 1) := by decide +kernel
theorem dM_sumOf_349 : decode cM_sumOf 349 = .ok (.if_icmp .ne 19, 3) := by decide +kernel
theorem dM_sumOf_352 : decode cM_sumOf 352 = .ok (.aload_n 0, 1) := by decide +kernel
theorem dM_sumOf_353 : decode cM_sumOf 353 = .ok (.getfield 45, 3) := by decide +kernel
theorem dM_sumOf_356 : decode cM_sumOf 356 = .ok (.iconst 0, 1) := by decide +kernel
theorem dM_sumOf_357 : decode cM_sumOf 357 = .ok (.iaload, 1) := by decide +kernel
theorem dM_sumOf_358 : decode cM_sumOf 358 = .ok (.sipush 251, 3) := by decide +kernel
theorem dM_sumOf_361 : decode cM_sumOf 361 = .ok (.if_icmp .lt 7, 3) := by decide +kernel
theorem dM_sumOf_364 : decode cM_sumOf 364 = .ok (.iconst 1, 1) := by decide +kernel
theorem dM_sumOf_365 : decode cM_sumOf 365 = .ok (.goto 4, 3) := by decide +kernel
theorem dM_sumOf_368 : decode cM_sumOf 368 = .ok (.iconst 0, 1) := by decide +kernel
theorem dM_sumOf_369 : decode cM_sumOf 369 = .ok (.istore_n 3, 1) := by decide +kernel
theorem dM_sumOf_370 : decode cM_sumOf 370 = .ok (.iconst 1, 1) := by decide +kernel
theorem dM_sumOf_371 : decode cM_sumOf 371 = .ok (.istore 4, 2) := by decide +kernel
theorem dM_sumOf_373 : decode cM_sumOf 373 = .ok (.iload 4, 2) := by decide +kernel
theorem dM_sumOf_375 : decode cM_sumOf 375 = .ok (.bipush 16, 2) := by decide +kernel
theorem dM_sumOf_377 : decode cM_sumOf 377 = .ok (.if_icmp .ge 32, 3) := by decide +kernel
theorem dM_sumOf_380 : decode cM_sumOf 380 = .ok (.iload_n 3, 1) := by decide +kernel
theorem dM_sumOf_381 : decode cM_sumOf 381 = .ok (.ifCond .eq 20, 3) := by decide +kernel
theorem dM_sumOf_384 : decode cM_sumOf 384 = .ok (.aload_n 0, 1) := by decide +kernel
theorem dM_sumOf_385 : decode cM_sumOf 385 = .ok (.getfield 45, 3) := by decide +kernel
theorem dM_sumOf_388 : decode cM_sumOf 388 = .ok (.iload 4, 2) := by decide +kernel
theorem dM_sumOf_390 : decode cM_sumOf 390 = .ok (.iaload, 1) := by decide +kernel
theorem dM_sumOf_391 : decode cM_sumOf 391 = .ok (.sipush 255, 3) := by decide +kernel
theorem dM_sumOf_394 : decode cM_sumOf 394 = .ok (.if_icmp .ne 7, 3) := by decide +kernel
theorem dM_sumOf_397 : decode cM_sumOf 397 = .ok (.iconst 1, 1) := by decide +kernel
theorem dM_sumOf_398 : decode cM_sumOf 398 = .ok (.goto 4, 3) := by decide +kernel
theorem dM_sumOf_401 : decode cM_sumOf 401 = .ok (.iconst 0, 1) := by decide +kernel
theorem dM_sumOf_402 : decode cM_sumOf 402 = .ok (.istore_n 3, 1) := by decide +kernel
theorem dM_sumOf_403 : decode cM_sumOf 403 = .ok (.iinc 4 1, 3) := by decide +kernel
theorem dM_sumOf_406 : decode cM_sumOf 406 = .ok (.goto (-33), 3) := by decide +kernel
theorem dM_sumOf_409 : decode cM_sumOf 409 = .ok (.iload_n 3, 1) := by decide +kernel
theorem dM_sumOf_410 : decode cM_sumOf 410 = .ok (.ifCond .eq 39, 3) := by decide +kernel
theorem dM_sumOf_413 : decode cM_sumOf 413 = .ok (.aload_n 0, 1) := by decide +kernel
theorem dM_sumOf_414 : decode cM_sumOf 414 = .ok (.getfield 45, 3) := by decide +kernel
theorem dM_sumOf_417 : decode cM_sumOf 417 = .ok (.iconst 0, 1) := by decide +kernel
theorem dM_sumOf_418 : decode cM_sumOf 418 = .ok (.dup2, 1) := by decide +kernel
theorem dM_sumOf_419 : decode cM_sumOf 419 = .ok (.iaload, 1) := by decide +kernel
theorem dM_sumOf_420 : decode cM_sumOf 420 = .ok (.sipush 251, 3) := by decide +kernel
theorem dM_sumOf_423 : decode cM_sumOf 423 = .ok (.isub, 1) := by decide +kernel
theorem dM_sumOf_424 : decode cM_sumOf 424 = .ok (.iastore, 1) := by decide +kernel
theorem dM_sumOf_425 : decode cM_sumOf 425 = .ok (.iconst 1, 1) := by decide +kernel
theorem dM_sumOf_426 : decode cM_sumOf 426 = .ok (.istore 4, 2) := by decide +kernel
theorem dM_sumOf_428 : decode cM_sumOf 428 = .ok (.iload 4, 2) := by decide +kernel
theorem dM_sumOf_430 : decode cM_sumOf 430 = .ok (.bipush 17, 2) := by decide +kernel
theorem dM_sumOf_432 : decode cM_sumOf 432 = .ok (.if_icmp .ge 17, 3) := by decide +kernel
theorem dM_sumOf_435 : decode cM_sumOf 435 = .ok (.aload_n 0, 1) := by decide +kernel
theorem dM_sumOf_436 : decode cM_sumOf 436 = .ok (.getfield 45, 3) := by decide +kernel
theorem dM_sumOf_439 : decode cM_sumOf 439 = .ok (.iload 4, 2) := by decide +kernel
theorem dM_sumOf_441 : decode cM_sumOf 441 = .ok (.iconst 0, 1) := by decide +kernel
theorem dM_sumOf_442 : decode cM_sumOf 442 = .ok (.iastore, 1) := by decide +kernel
theorem dM_sumOf_443 : decode cM_sumOf 443 = .ok (.iinc 4 1, 3) := by decide +kernel
theorem dM_sumOf_446 : decode cM_sumOf 446 = .ok (.goto (-18), 3) := by decide +kernel
theorem dM_sumOf_449 : decode cM_sumOf 449 = .ok (.iconst 0, 1) := by decide +kernel
theorem dM_sumOf_450 : decode cM_sumOf 450 = .ok (.istore 4, 2) := by decide +kernel
theorem dM_sumOf_452 : decode cM_sumOf 452 = .ok (.iconst 0, 1) := by decide +kernel
theorem dM_sumOf_453 : decode cM_sumOf 453 = .ok (.istore 5, 2) := by decide +kernel
theorem dM_sumOf_455 : decode cM_sumOf 455 = .ok (.iload 5, 2) := by decide +kernel
theorem dM_sumOf_457 : decode cM_sumOf 457 = .ok (.bipush 16, 2) := by decide +kernel
theorem dM_sumOf_459 : decode cM_sumOf 459 = .ok (.if_icmp .ge 50, 3) := by decide +kernel
theorem dM_sumOf_462 : decode cM_sumOf 462 = .ok (.iload 4, 2) := by decide +kernel
theorem dM_sumOf_464 : decode cM_sumOf 464 = .ok (.aload_n 0, 1) := by decide +kernel
theorem dM_sumOf_465 : decode cM_sumOf 465 = .ok (.getfield 45, 3) := by decide +kernel
theorem dM_sumOf_468 : decode cM_sumOf 468 = .ok (.iload 5, 2) := by decide +kernel
theorem dM_sumOf_470 : decode cM_sumOf 470 = .ok (.iaload, 1) := by decide +kernel
theorem dM_sumOf_471 : decode cM_sumOf 471 = .ok (.aload_n 1, 1) := by decide +kernel
theorem dM_sumOf_472 : decode cM_sumOf 472 = .ok (.bipush 16, 2) := by decide +kernel
theorem dM_sumOf_474 : decode cM_sumOf 474 = .ok (.iload 5, 2) := by decide +kernel
theorem dM_sumOf_476 : decode cM_sumOf 476 = .ok (.iadd, 1) := by decide +kernel
theorem dM_sumOf_477 : decode cM_sumOf 477 = .ok (.baload, 1) := by decide +kernel
theorem dM_sumOf_478 : decode cM_sumOf 478 = .ok (.sipush 255, 3) := by decide +kernel
theorem dM_sumOf_481 : decode cM_sumOf 481 = .ok (.iand, 1) := by decide +kernel
theorem dM_sumOf_482 : decode cM_sumOf 482 = .ok (.iadd, 1) := by decide +kernel
theorem dM_sumOf_483 : decode cM_sumOf 483 = .ok (.iadd, 1) := by decide +kernel
theorem dM_sumOf_484 : decode cM_sumOf 484 = .ok (.istore 4, 2) := by decide +kernel
theorem dM_sumOf_486 : decode cM_sumOf 486 = .ok (.aload_n 0, 1) := by decide +kernel
theorem dM_sumOf_487 : decode cM_sumOf 487 = .ok (.getfield 57, 3) := by decide +kernel
theorem dM_sumOf_490 : decode cM_sumOf 490 = .ok (.iload 5, 2) := by decide +kernel
theorem dM_sumOf_492 : decode cM_sumOf 492 = .ok (.iload 4, 2) := by decide +kernel
theorem dM_sumOf_494 : decode cM_sumOf 494 = .ok (.i2b, 1) := by decide +kernel
theorem dM_sumOf_495 : decode cM_sumOf 495 = .ok (.bastore, 1) := by decide +kernel
theorem dM_sumOf_496 : decode cM_sumOf 496 = .ok (.iload 4, 2) := by decide +kernel
theorem dM_sumOf_498 : decode cM_sumOf 498 = .ok (.bipush 8, 2) := by decide +kernel
theorem dM_sumOf_500 : decode cM_sumOf 500 = .ok (.ishr, 1) := by decide +kernel
theorem dM_sumOf_501 : decode cM_sumOf 501 = .ok (.istore 4, 2) := by decide +kernel
theorem dM_sumOf_503 : decode cM_sumOf 503 = .ok (.iinc 5 1, 3) := by decide +kernel
theorem dM_sumOf_506 : decode cM_sumOf 506 = .ok (.goto (-51), 3) := by decide +kernel
theorem dM_sumOf_509 : decode cM_sumOf 509 = .ok (.return_, 1) := by decide +kernel
theorem dM_text_0 : decode cM_text 0 = .ok (.iconst 0, 1) := by decide +kernel
theorem dM_text_1 : decode cM_text 1 = .ok (.istore 4, 2) := by decide +kernel
theorem dM_text_3 : decode cM_text 3 = .ok (.iload 4, 2) := by decide +kernel
theorem dM_text_5 : decode cM_text 5 = .ok (.iload_n 3, 1) := by decide +kernel
theorem dM_text_6 : decode cM_text 6 = .ok (.if_icmp .lt 13, 3) := by decide +kernel
theorem dM_text_9 : decode cM_text 9 = .ok (.aload_n 0, 1) := by decide +kernel
theorem dM_text_10 : decode cM_text 10 = .ok (.getfield 109, 3) := by decide +kernel
theorem dM_text_13 : decode cM_text 13 = .ok (.bipush 15, 2) := by decide +kernel
theorem dM_text_15 : decode cM_text 15 = .ok (.iand, 1) := by decide +kernel
theorem dM_text_16 : decode cM_text 16 = .ok (.ifCond .eq 44, 3) := by decide +kernel
theorem dM_text_19 : decode cM_text 19 = .ok (.aload_n 0, 1) := by decide +kernel
theorem dM_text_20 : decode cM_text 20 = .ok (.getfield 54, 3) := by decide +kernel
theorem dM_text_23 : decode cM_text 23 = .ok (.aload_n 0, 1) := by decide +kernel
theorem dM_text_24 : decode cM_text 24 = .ok (.getfield 109, 3) := by decide +kernel
theorem dM_text_27 : decode cM_text 27 = .ok (.iload 4, 2) := by decide +kernel
theorem dM_text_29 : decode cM_text 29 = .ok (.iload_n 3, 1) := by decide +kernel
theorem dM_text_30 : decode cM_text 30 = .ok (.if_icmp .ge 12, 3) := by decide +kernel
theorem dM_text_33 : decode cM_text 33 = .ok (.aload_n 1, 1) := by decide +kernel
theorem dM_text_34 : decode cM_text 34 = .ok (.iload_n 2, 1) := by decide +kernel
theorem dM_text_35 : decode cM_text 35 = .ok (.iload 4, 2) := by decide +kernel
theorem dM_text_37 : decode cM_text 37 = .ok (.iadd, 1) := by decide +kernel
theorem dM_text_38 : decode cM_text 38 = .ok (.baload, 1) := by decide +kernel
theorem dM_text_39 : decode cM_text 39 = .ok (.goto 4, 3) := by decide +kernel
theorem dM_text_42 : decode cM_text 42 = .ok (.iconst 0, 1) := by decide +kernel
theorem dM_text_43 : decode cM_text 43 = .ok (.bastore, 1) := by decide +kernel
theorem dM_text_44 : decode cM_text 44 = .ok (.aload_n 0, 1) := by decide +kernel
theorem dM_text_45 : decode cM_text 45 = .ok (.dup, 1) := by decide +kernel
theorem dM_text_46 : decode cM_text 46 = .ok (.getfield 109, 3) := by decide +kernel
theorem dM_text_49 : decode cM_text 49 = .ok (.iconst 1, 1) := by decide +kernel
theorem dM_text_50 : decode cM_text 50 = .ok (.iadd, 1) := by decide +kernel
theorem dM_text_51 : decode cM_text 51 = .ok (.putfield 109, 3) := by decide +kernel
theorem dM_text_54 : decode cM_text 54 = .ok (.iinc 4 1, 3) := by decide +kernel
theorem dM_text_57 : decode cM_text 57 = .ok (.goto (-54), 3) := by decide +kernel
theorem dM_text_60 : decode cM_text 60 = .ok (.return_, 1) := by decide +kernel
theorem dM_seals_0 : decode cM_seals 0 = .ok (.aload_n 0, 1) := by decide +kernel
theorem dM_seals_1 : decode cM_seals 1 = .ok (.iconst 0, 1) := by decide +kernel
theorem dM_seals_2 : decode cM_seals 2 = .ok (.putfield 109, 3) := by decide +kernel
theorem dM_seals_5 : decode cM_seals 5 = .ok (.aload_n 0, 1) := by decide +kernel
theorem dM_seals_6 : decode cM_seals 6 = .ok (.aload_n 0, 1) := by decide +kernel
theorem dM_seals_7 : decode cM_seals 7 = .ok (.getfield 9, 3) := by decide +kernel
theorem dM_seals_10 : decode cM_seals 10 = .ok (.iconst 0, 1) := by decide +kernel
theorem dM_seals_11 : decode cM_seals 11 = .ok (.iload_n 1, 1) := by decide +kernel
theorem dM_seals_12 : decode cM_seals 12 = .ok (.invokevirtual 112, 3) := by decide +kernel
theorem dM_seals_15 : decode cM_seals 15 = .ok (.aload_n 0, 1) := by decide +kernel
theorem dM_seals_16 : decode cM_seals 16 = .ok (.aload_n 2, 1) := by decide +kernel
theorem dM_seals_17 : decode cM_seals 17 = .ok (.iload_n 3, 1) := by decide +kernel
theorem dM_seals_18 : decode cM_seals 18 = .ok (.iload 4, 2) := by decide +kernel
theorem dM_seals_20 : decode cM_seals 20 = .ok (.invokevirtual 112, 3) := by decide +kernel
theorem dM_seals_23 : decode cM_seals 23 = .ok (.iconst 0, 1) := by decide +kernel
theorem dM_seals_24 : decode cM_seals 24 = .ok (.istore 5, 2) := by decide +kernel
theorem dM_seals_26 : decode cM_seals 26 = .ok (.iload 5, 2) := by decide +kernel
theorem dM_seals_28 : decode cM_seals 28 = .ok (.bipush 16, 2) := by decide +kernel
theorem dM_seals_30 : decode cM_seals 30 = .ok (.if_icmp .ge 22, 3) := by decide +kernel
theorem dM_seals_33 : decode cM_seals 33 = .ok (.aload_n 0, 1) := by decide +kernel
theorem dM_seals_34 : decode cM_seals 34 = .ok (.getfield 54, 3) := by decide +kernel
theorem dM_seals_37 : decode cM_seals 37 = .ok (.aload_n 0, 1) := by decide +kernel
theorem dM_seals_38 : decode cM_seals 38 = .ok (.getfield 109, 3) := by decide +kernel
theorem dM_seals_41 : decode cM_seals 41 = .ok (.iload 5, 2) := by decide +kernel
theorem dM_seals_43 : decode cM_seals 43 = .ok (.iadd, 1) := by decide +kernel
theorem dM_seals_44 : decode cM_seals 44 = .ok (.iconst 0, 1) := by decide +kernel
theorem dM_seals_45 : decode cM_seals 45 = .ok (.bastore, 1) := by decide +kernel
theorem dM_seals_46 : decode cM_seals 46 = .ok (.iinc 5 1, 3) := by decide +kernel
theorem dM_seals_49 : decode cM_seals 49 = .ok (.goto (-23), 3) := by decide +kernel
theorem dM_seals_52 : decode cM_seals 52 = .ok (.aload_n 0, 1) := by decide +kernel
theorem dM_seals_53 : decode cM_seals 53 = .ok (.getfield 54, 3) := by decide +kernel
theorem dM_seals_56 : decode cM_seals 56 = .ok (.aload_n 0, 1) := by decide +kernel
theorem dM_seals_57 : decode cM_seals 57 = .ok (.getfield 109, 3) := by decide +kernel
theorem dM_seals_60 : decode cM_seals 60 = .ok (.iload_n 1, 1) := by decide +kernel
theorem dM_seals_61 : decode cM_seals 61 = .ok (.i2b, 1) := by decide +kernel
theorem dM_seals_62 : decode cM_seals 62 = .ok (.bastore, 1) := by decide +kernel
theorem dM_seals_63 : decode cM_seals 63 = .ok (.aload_n 0, 1) := by decide +kernel
theorem dM_seals_64 : decode cM_seals 64 = .ok (.getfield 54, 3) := by decide +kernel
theorem dM_seals_67 : decode cM_seals 67 = .ok (.aload_n 0, 1) := by decide +kernel
theorem dM_seals_68 : decode cM_seals 68 = .ok (.getfield 109, 3) := by decide +kernel
theorem dM_seals_71 : decode cM_seals 71 = .ok (.iconst 1, 1) := by decide +kernel
theorem dM_seals_72 : decode cM_seals 72 = .ok (.iadd, 1) := by decide +kernel
theorem dM_seals_73 : decode cM_seals 73 = .ok (.iload_n 1, 1) := by decide +kernel
theorem dM_seals_74 : decode cM_seals 74 = .ok (.bipush 8, 2) := by decide +kernel
theorem dM_seals_76 : decode cM_seals 76 = .ok (.ishr, 1) := by decide +kernel
theorem dM_seals_77 : decode cM_seals 77 = .ok (.i2b, 1) := by decide +kernel
theorem dM_seals_78 : decode cM_seals 78 = .ok (.bastore, 1) := by decide +kernel
theorem dM_seals_79 : decode cM_seals 79 = .ok (.aload_n 0, 1) := by decide +kernel
theorem dM_seals_80 : decode cM_seals 80 = .ok (.getfield 54, 3) := by decide +kernel
theorem dM_seals_83 : decode cM_seals 83 = .ok (.aload_n 0, 1) := by decide +kernel
theorem dM_seals_84 : decode cM_seals 84 = .ok (.getfield 109, 3) := by decide +kernel
theorem dM_seals_87 : decode cM_seals 87 = .ok (.bipush 8, 2) := by decide +kernel
theorem dM_seals_89 : decode cM_seals 89 = .ok (.iadd, 1) := by decide +kernel
theorem dM_seals_90 : decode cM_seals 90 = .ok (.iload 4, 2) := by decide +kernel
theorem dM_seals_92 : decode cM_seals 92 = .ok (.i2b, 1) := by decide +kernel
theorem dM_seals_93 : decode cM_seals 93 = .ok (.bastore, 1) := by decide +kernel
theorem dM_seals_94 : decode cM_seals 94 = .ok (.aload_n 0, 1) := by decide +kernel
theorem dM_seals_95 : decode cM_seals 95 = .ok (.getfield 54, 3) := by decide +kernel
theorem dM_seals_98 : decode cM_seals 98 = .ok (.aload_n 0, 1) := by decide +kernel
theorem dM_seals_99 : decode cM_seals 99 = .ok (.getfield 109, 3) := by decide +kernel
theorem dM_seals_102 : decode cM_seals 102 = .ok (.bipush 9, 2) := by decide +kernel
theorem dM_seals_104 : decode cM_seals 104 = .ok (.iadd, 1) := by decide +kernel
theorem dM_seals_105 : decode cM_seals 105 = .ok (.iload 4, 2) := by decide +kernel
theorem dM_seals_107 : decode cM_seals 107 = .ok (.bipush 8, 2) := by decide +kernel
theorem dM_seals_109 : decode cM_seals 109 = .ok (.ishr, 1) := by decide +kernel
theorem dM_seals_110 : decode cM_seals 110 = .ok (.i2b, 1) := by decide +kernel
theorem dM_seals_111 : decode cM_seals 111 = .ok (.bastore, 1) := by decide +kernel
theorem dM_seals_112 : decode cM_seals 112 = .ok (.aload_n 0, 1) := by decide +kernel
theorem dM_seals_113 : decode cM_seals 113 = .ok (.iconst 0, 1) := by decide +kernel
theorem dM_seals_114 : decode cM_seals 114 = .ok (.invokevirtual 115, 3) := by decide +kernel
theorem dM_seals_117 : decode cM_seals 117 = .ok (.aload_n 0, 1) := by decide +kernel
theorem dM_seals_118 : decode cM_seals 118 = .ok (.aload_n 0, 1) := by decide +kernel
theorem dM_seals_119 : decode cM_seals 119 = .ok (.getfield 42, 3) := by decide +kernel
theorem dM_seals_122 : decode cM_seals 122 = .ok (.aload_n 0, 1) := by decide +kernel
theorem dM_seals_123 : decode cM_seals 123 = .ok (.getfield 109, 3) := by decide +kernel
theorem dM_seals_126 : decode cM_seals 126 = .ok (.bipush 16, 2) := by decide +kernel
theorem dM_seals_128 : decode cM_seals 128 = .ok (.iadd, 1) := by decide +kernel
theorem dM_seals_129 : decode cM_seals 129 = .ok (.invokevirtual 117, 3) := by decide +kernel
theorem dM_seals_132 : decode cM_seals 132 = .ok (.return_, 1) := by decide +kernel
theorem dM_cover_0 : decode cM_cover 0 = .ok (.iconst 0, 1) := by decide +kernel
theorem dM_cover_1 : decode cM_cover 1 = .ok (.istore 4, 2) := by decide +kernel
theorem dM_cover_3 : decode cM_cover 3 = .ok (.iload 4, 2) := by decide +kernel
theorem dM_cover_5 : decode cM_cover 5 = .ok (.iload_n 2, 1) := by decide +kernel
theorem dM_cover_6 : decode cM_cover 6 = .ok (.if_icmp .ge 53, 3) := by decide +kernel
theorem dM_cover_9 : decode cM_cover 9 = .ok (.iload 4, 2) := by decide +kernel
theorem dM_cover_11 : decode cM_cover 11 = .ok (.bipush 64, 2) := by decide +kernel
theorem dM_cover_13 : decode cM_cover 13 = .ok (.irem, 1) := by decide +kernel
theorem dM_cover_14 : decode cM_cover 14 = .ok (.ifCond .ne 14, 3) := by decide +kernel
theorem dM_cover_17 : decode cM_cover 17 = .ok (.aload_n 0, 1) := by decide +kernel
theorem dM_cover_18 : decode cM_cover 18 = .ok (.iconst 1, 1) := by decide +kernel
theorem dM_cover_19 : decode cM_cover 19 = .ok (.iload 4, 2) := by decide +kernel
theorem dM_cover_21 : decode cM_cover 21 = .ok (.bipush 64, 2) := by decide +kernel
theorem dM_cover_23 : decode cM_cover 23 = .ok (.idiv, 1) := by decide +kernel
theorem dM_cover_24 : decode cM_cover 24 = .ok (.iadd, 1) := by decide +kernel
theorem dM_cover_25 : decode cM_cover 25 = .ok (.invokevirtual 115, 3) := by decide +kernel
theorem dM_cover_28 : decode cM_cover 28 = .ok (.aload_n 3, 1) := by decide +kernel
theorem dM_cover_29 : decode cM_cover 29 = .ok (.iload 4, 2) := by decide +kernel
theorem dM_cover_31 : decode cM_cover 31 = .ok (.aload_n 0, 1) := by decide +kernel
theorem dM_cover_32 : decode cM_cover 32 = .ok (.getfield 9, 3) := by decide +kernel
theorem dM_cover_35 : decode cM_cover 35 = .ok (.iload_n 1, 1) := by decide +kernel
theorem dM_cover_36 : decode cM_cover 36 = .ok (.iload 4, 2) := by decide +kernel
theorem dM_cover_38 : decode cM_cover 38 = .ok (.iadd, 1) := by decide +kernel
theorem dM_cover_39 : decode cM_cover 39 = .ok (.baload, 1) := by decide +kernel
theorem dM_cover_40 : decode cM_cover 40 = .ok (.aload_n 0, 1) := by decide +kernel
theorem dM_cover_41 : decode cM_cover 41 = .ok (.getfield 42, 3) := by decide +kernel
theorem dM_cover_44 : decode cM_cover 44 = .ok (.iload 4, 2) := by decide +kernel
theorem dM_cover_46 : decode cM_cover 46 = .ok (.bipush 64, 2) := by decide +kernel
theorem dM_cover_48 : decode cM_cover 48 = .ok (.irem, 1) := by decide +kernel
theorem dM_cover_49 : decode cM_cover 49 = .ok (.baload, 1) := by decide +kernel
theorem dM_cover_50 : decode cM_cover 50 = .ok (.ixor, 1) := by decide +kernel
theorem dM_cover_51 : decode cM_cover 51 = .ok (.i2b, 1) := by decide +kernel
theorem dM_cover_52 : decode cM_cover 52 = .ok (.bastore, 1) := by decide +kernel
theorem dM_cover_53 : decode cM_cover 53 = .ok (.iinc 4 1, 3) := by decide +kernel
theorem dM_cover_56 : decode cM_cover 56 = .ok (.goto (-53), 3) := by decide +kernel
theorem dM_cover_59 : decode cM_cover 59 = .ok (.return_, 1) := by decide +kernel
theorem dM_put_0 : decode cM_put 0 = .ok (.bipush 24, 2) := by decide +kernel
theorem dM_put_2 : decode cM_put 2 = .ok (.istore_n 2, 1) := by decide +kernel
theorem dM_put_3 : decode cM_put 3 = .ok (.iload_n 2, 1) := by decide +kernel
theorem dM_put_4 : decode cM_put 4 = .ok (.ifCond .lt 32, 3) := by decide +kernel
theorem dM_put_7 : decode cM_put 7 = .ok (.aload_n 0, 1) := by decide +kernel
theorem dM_put_8 : decode cM_put 8 = .ok (.getfield 9, 3) := by decide +kernel
theorem dM_put_11 : decode cM_put 11 = .ok (.aload_n 0, 1) := by decide +kernel
theorem dM_put_12 : decode cM_put 12 = .ok (.getfield 121, 3) := by decide +kernel
theorem dM_put_15 : decode cM_put 15 = .ok (.iload_n 1, 1) := by decide +kernel
theorem dM_put_16 : decode cM_put 16 = .ok (.iload_n 2, 1) := by decide +kernel
theorem dM_put_17 : decode cM_put 17 = .ok (.ishr, 1) := by decide +kernel
theorem dM_put_18 : decode cM_put 18 = .ok (.i2b, 1) := by decide +kernel
theorem dM_put_19 : decode cM_put 19 = .ok (.bastore, 1) := by decide +kernel
theorem dM_put_20 : decode cM_put 20 = .ok (.aload_n 0, 1) := by decide +kernel
theorem dM_put_21 : decode cM_put 21 = .ok (.dup, 1) := by decide +kernel
theorem dM_put_22 : decode cM_put 22 = .ok (.getfield 121, 3) := by decide +kernel
theorem dM_put_25 : decode cM_put 25 = .ok (.iconst 1, 1) := by decide +kernel
theorem dM_put_26 : decode cM_put 26 = .ok (.iadd, 1) := by decide +kernel
theorem dM_put_27 : decode cM_put 27 = .ok (.putfield 121, 3) := by decide +kernel
theorem dM_put_30 : decode cM_put 30 = .ok (.iinc 2 (-8), 3) := by decide +kernel
theorem dM_put_33 : decode cM_put 33 = .ok (.goto (-30), 3) := by decide +kernel
theorem dM_put_36 : decode cM_put 36 = .ok (.return_, 1) := by decide +kernel
theorem dM_feed_0 : decode cM_feed 0 = .ok (.aload_n 0, 1) := by decide +kernel
theorem dM_feed_1 : decode cM_feed 1 = .ok (.getfield 121, 3) := by decide +kernel
theorem dM_feed_4 : decode cM_feed 4 = .ok (.bipush 20, 2) := by decide +kernel
theorem dM_feed_6 : decode cM_feed 6 = .ok (.iadd, 1) := by decide +kernel
theorem dM_feed_7 : decode cM_feed 7 = .ok (.sipush 800, 3) := by decide +kernel
theorem dM_feed_10 : decode cM_feed 10 = .ok (.if_icmp .le 6, 3) := by decide +kernel
theorem dM_feed_13 : decode cM_feed 13 = .ok (.bipush (-3), 2) := by decide +kernel
theorem dM_feed_15 : decode cM_feed 15 = .ok (.ireturn, 1) := by decide +kernel
theorem dM_feed_16 : decode cM_feed 16 = .ok (.aload_n 0, 1) := by decide +kernel
theorem dM_feed_17 : decode cM_feed 17 = .ok (.iload_n 1, 1) := by decide +kernel
theorem dM_feed_18 : decode cM_feed 18 = .ok (.invokevirtual 124, 3) := by decide +kernel
theorem dM_feed_21 : decode cM_feed 21 = .ok (.aload_n 0, 1) := by decide +kernel
theorem dM_feed_22 : decode cM_feed 22 = .ok (.iload_n 2, 1) := by decide +kernel
theorem dM_feed_23 : decode cM_feed 23 = .ok (.invokevirtual 124, 3) := by decide +kernel
theorem dM_feed_26 : decode cM_feed 26 = .ok (.aload_n 0, 1) := by decide +kernel
theorem dM_feed_27 : decode cM_feed 27 = .ok (.iload_n 3, 1) := by decide +kernel
theorem dM_feed_28 : decode cM_feed 28 = .ok (.invokevirtual 124, 3) := by decide +kernel
theorem dM_feed_31 : decode cM_feed 31 = .ok (.aload_n 0, 1) := by decide +kernel
theorem dM_feed_32 : decode cM_feed 32 = .ok (.iload 4, 2) := by decide +kernel
theorem dM_feed_34 : decode cM_feed 34 = .ok (.invokevirtual 124, 3) := by decide +kernel
theorem dM_feed_37 : decode cM_feed 37 = .ok (.aload_n 0, 1) := by decide +kernel
theorem dM_feed_38 : decode cM_feed 38 = .ok (.iload 5, 2) := by decide +kernel
theorem dM_feed_40 : decode cM_feed 40 = .ok (.invokevirtual 124, 3) := by decide +kernel
theorem dM_feed_43 : decode cM_feed 43 = .ok (.aload_n 0, 1) := by decide +kernel
theorem dM_feed_44 : decode cM_feed 44 = .ok (.getfield 121, 3) := by decide +kernel
theorem dM_feed_47 : decode cM_feed 47 = .ok (.ireturn, 1) := by decide +kernel
theorem dM_end_0 : decode cM_end 0 = .ok (.iload_n 1, 1) := by decide +kernel
theorem dM_end_1 : decode cM_end 1 = .ok (.ifCond .lt 11, 3) := by decide +kernel
theorem dM_end_4 : decode cM_end 4 = .ok (.iload_n 1, 1) := by decide +kernel
theorem dM_end_5 : decode cM_end 5 = .ok (.aload_n 0, 1) := by decide +kernel
theorem dM_end_6 : decode cM_end 6 = .ok (.getfield 121, 3) := by decide +kernel
theorem dM_end_9 : decode cM_end 9 = .ok (.if_icmp .le 5, 3) := by decide +kernel
theorem dM_end_12 : decode cM_end 12 = .ok (.iconst (-1), 1) := by decide +kernel
theorem dM_end_13 : decode cM_end 13 = .ok (.ireturn, 1) := by decide +kernel
theorem dM_end_14 : decode cM_end 14 = .ok (.aload_n 0, 1) := by decide +kernel
theorem dM_end_15 : decode cM_end 15 = .ok (.iload_n 1, 1) := by decide +kernel
theorem dM_end_16 : decode cM_end 16 = .ok (.putfield 121, 3) := by decide +kernel
theorem dM_end_19 : decode cM_end 19 = .ok (.iload_n 1, 1) := by decide +kernel
theorem dM_end_20 : decode cM_end 20 = .ok (.ireturn, 1) := by decide +kernel
theorem dM_take_0 : decode cM_take 0 = .ok (.iload_n 1, 1) := by decide +kernel
theorem dM_take_1 : decode cM_take 1 = .ok (.ifCond .lt 11, 3) := by decide +kernel
theorem dM_take_4 : decode cM_take 4 = .ok (.iload_n 1, 1) := by decide +kernel
theorem dM_take_5 : decode cM_take 5 = .ok (.aload_n 0, 1) := by decide +kernel
theorem dM_take_6 : decode cM_take 6 = .ok (.getfield 121, 3) := by decide +kernel
theorem dM_take_9 : decode cM_take 9 = .ok (.if_icmp .le 5, 3) := by decide +kernel
theorem dM_take_12 : decode cM_take 12 = .ok (.iconst (-1), 1) := by decide +kernel
theorem dM_take_13 : decode cM_take 13 = .ok (.ireturn, 1) := by decide +kernel
theorem dM_take_14 : decode cM_take 14 = .ok (.iload_n 1, 1) := by decide +kernel
theorem dM_take_15 : decode cM_take 15 = .ok (.aload_n 0, 1) := by decide +kernel
theorem dM_take_16 : decode cM_take 16 = .ok (.getfield 127, 3) := by decide +kernel
theorem dM_take_19 : decode cM_take 19 = .ok (.iadd, 1) := by decide +kernel
theorem dM_take_20 : decode cM_take 20 = .ok (.sipush 800, 3) := by decide +kernel
theorem dM_take_23 : decode cM_take 23 = .ok (.if_icmp .le 6, 3) := by decide +kernel
theorem dM_take_26 : decode cM_take 26 = .ok (.bipush (-3), 2) := by decide +kernel
theorem dM_take_28 : decode cM_take 28 = .ok (.ireturn, 1) := by decide +kernel
theorem dM_take_29 : decode cM_take 29 = .ok (.iconst 0, 1) := by decide +kernel
theorem dM_take_30 : decode cM_take 30 = .ok (.istore_n 2, 1) := by decide +kernel
theorem dM_take_31 : decode cM_take 31 = .ok (.iload_n 2, 1) := by decide +kernel
theorem dM_take_32 : decode cM_take 32 = .ok (.aload_n 0, 1) := by decide +kernel
theorem dM_take_33 : decode cM_take 33 = .ok (.getfield 127, 3) := by decide +kernel
theorem dM_take_36 : decode cM_take 36 = .ok (.if_icmp .ge 23, 3) := by decide +kernel
theorem dM_take_39 : decode cM_take 39 = .ok (.aload_n 0, 1) := by decide +kernel
theorem dM_take_40 : decode cM_take 40 = .ok (.getfield 9, 3) := by decide +kernel
theorem dM_take_43 : decode cM_take 43 = .ok (.iload_n 1, 1) := by decide +kernel
theorem dM_take_44 : decode cM_take 44 = .ok (.iload_n 2, 1) := by decide +kernel
theorem dM_take_45 : decode cM_take 45 = .ok (.iadd, 1) := by decide +kernel
theorem dM_take_46 : decode cM_take 46 = .ok (.aload_n 0, 1) := by decide +kernel
theorem dM_take_47 : decode cM_take 47 = .ok (.getfield 13, 3) := by decide +kernel
theorem dM_take_50 : decode cM_take 50 = .ok (.iload_n 2, 1) := by decide +kernel
theorem dM_take_51 : decode cM_take 51 = .ok (.baload, 1) := by decide +kernel
theorem dM_take_52 : decode cM_take 52 = .ok (.bastore, 1) := by decide +kernel
theorem dM_take_53 : decode cM_take 53 = .ok (.iinc 2 1, 3) := by decide +kernel
theorem dM_take_56 : decode cM_take 56 = .ok (.goto (-25), 3) := by decide +kernel
theorem dM_take_59 : decode cM_take 59 = .ok (.aload_n 0, 1) := by decide +kernel
theorem dM_take_60 : decode cM_take 60 = .ok (.iload_n 1, 1) := by decide +kernel
theorem dM_take_61 : decode cM_take 61 = .ok (.aload_n 0, 1) := by decide +kernel
theorem dM_take_62 : decode cM_take 62 = .ok (.getfield 127, 3) := by decide +kernel
theorem dM_take_65 : decode cM_take 65 = .ok (.iadd, 1) := by decide +kernel
theorem dM_take_66 : decode cM_take 66 = .ok (.putfield 121, 3) := by decide +kernel
theorem dM_take_69 : decode cM_take 69 = .ok (.aload_n 0, 1) := by decide +kernel
theorem dM_take_70 : decode cM_take 70 = .ok (.getfield 121, 3) := by decide +kernel
theorem dM_take_73 : decode cM_take 73 = .ok (.ireturn, 1) := by decide +kernel
theorem dM_key_0 : decode cM_key 0 = .ok (.aload_n 0, 1) := by decide +kernel
theorem dM_key_1 : decode cM_key 1 = .ok (.getfield 121, 3) := by decide +kernel
theorem dM_key_4 : decode cM_key 4 = .ok (.istore_n 1, 1) := by decide +kernel
theorem dM_key_5 : decode cM_key 5 = .ok (.aload_n 0, 1) := by decide +kernel
theorem dM_key_6 : decode cM_key 6 = .ok (.iconst 0, 1) := by decide +kernel
theorem dM_key_7 : decode cM_key 7 = .ok (.putfield 121, 3) := by decide +kernel
theorem dM_key_10 : decode cM_key 10 = .ok (.iload_n 1, 1) := by decide +kernel
theorem dM_key_11 : decode cM_key 11 = .ok (.bipush 32, 2) := by decide +kernel
theorem dM_key_13 : decode cM_key 13 = .ok (.if_icmp .eq 5, 3) := by decide +kernel
theorem dM_key_16 : decode cM_key 16 = .ok (.iconst (-1), 1) := by decide +kernel
theorem dM_key_17 : decode cM_key 17 = .ok (.ireturn, 1) := by decide +kernel
theorem dM_key_18 : decode cM_key 18 = .ok (.iconst 0, 1) := by decide +kernel
theorem dM_key_19 : decode cM_key 19 = .ok (.istore_n 2, 1) := by decide +kernel
theorem dM_key_20 : decode cM_key 20 = .ok (.iload_n 2, 1) := by decide +kernel
theorem dM_key_21 : decode cM_key 21 = .ok (.bipush 32, 2) := by decide +kernel
theorem dM_key_23 : decode cM_key 23 = .ok (.if_icmp .ge 21, 3) := by decide +kernel
theorem dM_key_26 : decode cM_key 26 = .ok (.aload_n 0, 1) := by decide +kernel
theorem dM_key_27 : decode cM_key 27 = .ok (.getfield 16, 3) := by decide +kernel
theorem dM_key_30 : decode cM_key 30 = .ok (.iload_n 2, 1) := by decide +kernel
theorem dM_key_31 : decode cM_key 31 = .ok (.aload_n 0, 1) := by decide +kernel
theorem dM_key_32 : decode cM_key 32 = .ok (.getfield 9, 3) := by decide +kernel
theorem dM_key_35 : decode cM_key 35 = .ok (.iload_n 2, 1) := by decide +kernel
theorem dM_key_36 : decode cM_key 36 = .ok (.baload, 1) := by decide +kernel
theorem dM_key_37 : decode cM_key 37 = .ok (.bastore, 1) := by decide +kernel
theorem dM_key_38 : decode cM_key 38 = .ok (.iinc 2 1, 3) := by decide +kernel
theorem dM_key_41 : decode cM_key 41 = .ok (.goto (-21), 3) := by decide +kernel
theorem dM_key_44 : decode cM_key 44 = .ok (.iconst 0, 1) := by decide +kernel
theorem dM_key_45 : decode cM_key 45 = .ok (.ireturn, 1) := by decide +kernel
theorem dM_nonce_0 : decode cM_nonce 0 = .ok (.iconst 0, 1) := by decide +kernel
theorem dM_nonce_1 : decode cM_nonce 1 = .ok (.istore 4, 2) := by decide +kernel
theorem dM_nonce_3 : decode cM_nonce 3 = .ok (.iload 4, 2) := by decide +kernel
theorem dM_nonce_5 : decode cM_nonce 5 = .ok (.iconst 4, 1) := by decide +kernel
theorem dM_nonce_6 : decode cM_nonce 6 = .ok (.if_icmp .ge 27, 3) := by decide +kernel
theorem dM_nonce_9 : decode cM_nonce 9 = .ok (.aload_n 0, 1) := by decide +kernel
theorem dM_nonce_10 : decode cM_nonce 10 = .ok (.getfield 19, 3) := by decide +kernel
theorem dM_nonce_13 : decode cM_nonce 13 = .ok (.iload 4, 2) := by decide +kernel
theorem dM_nonce_15 : decode cM_nonce 15 = .ok (.iload_n 1, 1) := by decide +kernel
theorem dM_nonce_16 : decode cM_nonce 16 = .ok (.bipush 24, 2) := by decide +kernel
theorem dM_nonce_18 : decode cM_nonce 18 = .ok (.bipush 8, 2) := by decide +kernel
theorem dM_nonce_20 : decode cM_nonce 20 = .ok (.iload 4, 2) := by decide +kernel
theorem dM_nonce_22 : decode cM_nonce 22 = .ok (.imul, 1) := by decide +kernel
theorem dM_nonce_23 : decode cM_nonce 23 = .ok (.isub, 1) := by decide +kernel
theorem dM_nonce_24 : decode cM_nonce 24 = .ok (.ishr, 1) := by decide +kernel
theorem dM_nonce_25 : decode cM_nonce 25 = .ok (.i2b, 1) := by decide +kernel
theorem dM_nonce_26 : decode cM_nonce 26 = .ok (.bastore, 1) := by decide +kernel
theorem dM_nonce_27 : decode cM_nonce 27 = .ok (.iinc 4 1, 3) := by decide +kernel
theorem dM_nonce_30 : decode cM_nonce 30 = .ok (.goto (-27), 3) := by decide +kernel
theorem dM_nonce_33 : decode cM_nonce 33 = .ok (.iconst 0, 1) := by decide +kernel
theorem dM_nonce_34 : decode cM_nonce 34 = .ok (.istore 4, 2) := by decide +kernel
theorem dM_nonce_36 : decode cM_nonce 36 = .ok (.iload 4, 2) := by decide +kernel
theorem dM_nonce_38 : decode cM_nonce 38 = .ok (.bipush 8, 2) := by decide +kernel
theorem dM_nonce_40 : decode cM_nonce 40 = .ok (.if_icmp .ge 30, 3) := by decide +kernel
theorem dM_nonce_43 : decode cM_nonce 43 = .ok (.aload_n 0, 1) := by decide +kernel
theorem dM_nonce_44 : decode cM_nonce 44 = .ok (.getfield 19, 3) := by decide +kernel
theorem dM_nonce_47 : decode cM_nonce 47 = .ok (.iconst 4, 1) := by decide +kernel
theorem dM_nonce_48 : decode cM_nonce 48 = .ok (.iload 4, 2) := by decide +kernel
theorem dM_nonce_50 : decode cM_nonce 50 = .ok (.iadd, 1) := by decide +kernel
theorem dM_nonce_51 : decode cM_nonce 51 = .ok (.lload_n 2, 1) := by decide +kernel
theorem dM_nonce_52 : decode cM_nonce 52 = .ok (.bipush 56, 2) := by decide +kernel
theorem dM_nonce_54 : decode cM_nonce 54 = .ok (.bipush 8, 2) := by decide +kernel
theorem dM_nonce_56 : decode cM_nonce 56 = .ok (.iload 4, 2) := by decide +kernel
theorem dM_nonce_58 : decode cM_nonce 58 = .ok (.imul, 1) := by decide +kernel
theorem dM_nonce_59 : decode cM_nonce 59 = .ok (.isub, 1) := by decide +kernel
theorem dM_nonce_60 : decode cM_nonce 60 = .ok (.lshr, 1) := by decide +kernel
theorem dM_nonce_61 : decode cM_nonce 61 = .ok (.l2i, 1) := by decide +kernel
theorem dM_nonce_62 : decode cM_nonce 62 = .ok (.i2b, 1) := by decide +kernel
theorem dM_nonce_63 : decode cM_nonce 63 = .ok (.bastore, 1) := by decide +kernel
theorem dM_nonce_64 : decode cM_nonce 64 = .ok (.iinc 4 1, 3) := by decide +kernel
theorem dM_nonce_67 : decode cM_nonce 67 = .ok (.goto (-31), 3) := by decide +kernel
theorem dM_nonce_70 : decode cM_nonce 70 = .ok (.return_, 1) := by decide +kernel
theorem dM_stream_0 : decode cM_stream 0 = .ok (.aload_n 0, 1) := by decide +kernel
theorem dM_stream_1 : decode cM_stream 1 = .ok (.iload_n 1, 1) := by decide +kernel
theorem dM_stream_2 : decode cM_stream 2 = .ok (.invokevirtual 115, 3) := by decide +kernel
theorem dM_stream_5 : decode cM_stream 5 = .ok (.iconst 0, 1) := by decide +kernel
theorem dM_stream_6 : decode cM_stream 6 = .ok (.istore_n 2, 1) := by decide +kernel
theorem dM_stream_7 : decode cM_stream 7 = .ok (.iload_n 2, 1) := by decide +kernel
theorem dM_stream_8 : decode cM_stream 8 = .ok (.bipush 64, 2) := by decide +kernel
theorem dM_stream_10 : decode cM_stream 10 = .ok (.if_icmp .ge 21, 3) := by decide +kernel
theorem dM_stream_13 : decode cM_stream 13 = .ok (.aload_n 0, 1) := by decide +kernel
theorem dM_stream_14 : decode cM_stream 14 = .ok (.getfield 13, 3) := by decide +kernel
theorem dM_stream_17 : decode cM_stream 17 = .ok (.iload_n 2, 1) := by decide +kernel
theorem dM_stream_18 : decode cM_stream 18 = .ok (.aload_n 0, 1) := by decide +kernel
theorem dM_stream_19 : decode cM_stream 19 = .ok (.getfield 42, 3) := by decide +kernel
theorem dM_stream_22 : decode cM_stream 22 = .ok (.iload_n 2, 1) := by decide +kernel
theorem dM_stream_23 : decode cM_stream 23 = .ok (.baload, 1) := by decide +kernel
theorem dM_stream_24 : decode cM_stream 24 = .ok (.bastore, 1) := by decide +kernel
theorem dM_stream_25 : decode cM_stream 25 = .ok (.iinc 2 1, 3) := by decide +kernel
theorem dM_stream_28 : decode cM_stream 28 = .ok (.goto (-21), 3) := by decide +kernel
theorem dM_stream_31 : decode cM_stream 31 = .ok (.aload_n 0, 1) := by decide +kernel
theorem dM_stream_32 : decode cM_stream 32 = .ok (.bipush 64, 2) := by decide +kernel
theorem dM_stream_34 : decode cM_stream 34 = .ok (.putfield 127, 3) := by decide +kernel
theorem dM_stream_37 : decode cM_stream 37 = .ok (.aload_n 0, 1) := by decide +kernel
theorem dM_stream_38 : decode cM_stream 38 = .ok (.getfield 127, 3) := by decide +kernel
theorem dM_stream_41 : decode cM_stream 41 = .ok (.ireturn, 1) := by decide +kernel
theorem dM_tag_0 : decode cM_tag 0 = .ok (.iconst 0, 1) := by decide +kernel
theorem dM_tag_1 : decode cM_tag 1 = .ok (.istore_n 1, 1) := by decide +kernel
theorem dM_tag_2 : decode cM_tag 2 = .ok (.iload_n 1, 1) := by decide +kernel
theorem dM_tag_3 : decode cM_tag 3 = .ok (.bipush 16, 2) := by decide +kernel
theorem dM_tag_5 : decode cM_tag 5 = .ok (.if_icmp .ge 26, 3) := by decide +kernel
theorem dM_tag_8 : decode cM_tag 8 = .ok (.aload_n 0, 1) := by decide +kernel
theorem dM_tag_9 : decode cM_tag 9 = .ok (.getfield 13, 3) := by decide +kernel
theorem dM_tag_12 : decode cM_tag 12 = .ok (.aload_n 0, 1) := by decide +kernel
theorem dM_tag_13 : decode cM_tag 13 = .ok (.getfield 127, 3) := by decide +kernel
theorem dM_tag_16 : decode cM_tag 16 = .ok (.iload_n 1, 1) := by decide +kernel
theorem dM_tag_17 : decode cM_tag 17 = .ok (.iadd, 1) := by decide +kernel
theorem dM_tag_18 : decode cM_tag 18 = .ok (.aload_n 0, 1) := by decide +kernel
theorem dM_tag_19 : decode cM_tag 19 = .ok (.getfield 57, 3) := by decide +kernel
theorem dM_tag_22 : decode cM_tag 22 = .ok (.iload_n 1, 1) := by decide +kernel
theorem dM_tag_23 : decode cM_tag 23 = .ok (.baload, 1) := by decide +kernel
theorem dM_tag_24 : decode cM_tag 24 = .ok (.bastore, 1) := by decide +kernel
theorem dM_tag_25 : decode cM_tag 25 = .ok (.iinc 1 1, 3) := by decide +kernel
theorem dM_tag_28 : decode cM_tag 28 = .ok (.goto (-26), 3) := by decide +kernel
theorem dM_tag_31 : decode cM_tag 31 = .ok (.aload_n 0, 1) := by decide +kernel
theorem dM_tag_32 : decode cM_tag 32 = .ok (.dup, 1) := by decide +kernel
theorem dM_tag_33 : decode cM_tag 33 = .ok (.getfield 127, 3) := by decide +kernel
theorem dM_tag_36 : decode cM_tag 36 = .ok (.bipush 16, 2) := by decide +kernel
theorem dM_tag_38 : decode cM_tag 38 = .ok (.iadd, 1) := by decide +kernel
theorem dM_tag_39 : decode cM_tag 39 = .ok (.putfield 127, 3) := by decide +kernel
theorem dM_tag_42 : decode cM_tag 42 = .ok (.aload_n 0, 1) := by decide +kernel
theorem dM_tag_43 : decode cM_tag 43 = .ok (.getfield 127, 3) := by decide +kernel
theorem dM_tag_46 : decode cM_tag 46 = .ok (.ireturn, 1) := by decide +kernel
theorem dM_sum_0 : decode cM_sum 0 = .ok (.iconst 0, 1) := by decide +kernel
theorem dM_sum_1 : decode cM_sum 1 = .ok (.istore_n 1, 1) := by decide +kernel
theorem dM_sum_2 : decode cM_sum 2 = .ok (.iload_n 1, 1) := by decide +kernel
theorem dM_sum_3 : decode cM_sum 3 = .ok (.aload_n 0, 1) := by decide +kernel
theorem dM_sum_4 : decode cM_sum 4 = .ok (.getfield 121, 3) := by decide +kernel
theorem dM_sum_7 : decode cM_sum 7 = .ok (.if_icmp .ge 21, 3) := by decide +kernel
theorem dM_sum_10 : decode cM_sum 10 = .ok (.aload_n 0, 1) := by decide +kernel
theorem dM_sum_11 : decode cM_sum 11 = .ok (.getfield 54, 3) := by decide +kernel
theorem dM_sum_14 : decode cM_sum 14 = .ok (.iload_n 1, 1) := by decide +kernel
theorem dM_sum_15 : decode cM_sum 15 = .ok (.aload_n 0, 1) := by decide +kernel
theorem dM_sum_16 : decode cM_sum 16 = .ok (.getfield 9, 3) := by decide +kernel
theorem dM_sum_19 : decode cM_sum 19 = .ok (.iload_n 1, 1) := by decide +kernel
theorem dM_sum_20 : decode cM_sum 20 = .ok (.baload, 1) := by decide +kernel
theorem dM_sum_21 : decode cM_sum 21 = .ok (.bastore, 1) := by decide +kernel
theorem dM_sum_22 : decode cM_sum 22 = .ok (.iinc 1 1, 3) := by decide +kernel
theorem dM_sum_25 : decode cM_sum 25 = .ok (.goto (-23), 3) := by decide +kernel
theorem dM_sum_28 : decode cM_sum 28 = .ok (.aload_n 0, 1) := by decide +kernel
theorem dM_sum_29 : decode cM_sum 29 = .ok (.aload_n 0, 1) := by decide +kernel
theorem dM_sum_30 : decode cM_sum 30 = .ok (.getfield 16, 3) := by decide +kernel
theorem dM_sum_33 : decode cM_sum 33 = .ok (.aload_n 0, 1) := by decide +kernel
theorem dM_sum_34 : decode cM_sum 34 = .ok (.getfield 121, 3) := by decide +kernel
theorem dM_sum_37 : decode cM_sum 37 = .ok (.invokevirtual 117, 3) := by decide +kernel
theorem dM_sum_40 : decode cM_sum 40 = .ok (.aload_n 0, 1) := by decide +kernel
theorem dM_sum_41 : decode cM_sum 41 = .ok (.iconst 0, 1) := by decide +kernel
theorem dM_sum_42 : decode cM_sum 42 = .ok (.putfield 121, 3) := by decide +kernel
theorem dM_sum_45 : decode cM_sum 45 = .ok (.aload_n 0, 1) := by decide +kernel
theorem dM_sum_46 : decode cM_sum 46 = .ok (.iconst 0, 1) := by decide +kernel
theorem dM_sum_47 : decode cM_sum 47 = .ok (.putfield 127, 3) := by decide +kernel
theorem dM_sum_50 : decode cM_sum 50 = .ok (.aload_n 0, 1) := by decide +kernel
theorem dM_sum_51 : decode cM_sum 51 = .ok (.invokevirtual 130, 3) := by decide +kernel
theorem dM_sum_54 : decode cM_sum 54 = .ok (.ireturn, 1) := by decide +kernel
theorem dM_seal_0 : decode cM_seal 0 = .ok (.iload_n 1, 1) := by decide +kernel
theorem dM_seal_1 : decode cM_seal 1 = .ok (.ifCond .lt 11, 3) := by decide +kernel
theorem dM_seal_4 : decode cM_seal 4 = .ok (.iload_n 1, 1) := by decide +kernel
theorem dM_seal_5 : decode cM_seal 5 = .ok (.aload_n 0, 1) := by decide +kernel
theorem dM_seal_6 : decode cM_seal 6 = .ok (.getfield 121, 3) := by decide +kernel
theorem dM_seal_9 : decode cM_seal 9 = .ok (.if_icmp .le 5, 3) := by decide +kernel
theorem dM_seal_12 : decode cM_seal 12 = .ok (.iconst (-1), 1) := by decide +kernel
theorem dM_seal_13 : decode cM_seal 13 = .ok (.ireturn, 1) := by decide +kernel
theorem dM_seal_14 : decode cM_seal 14 = .ok (.aload_n 0, 1) := by decide +kernel
theorem dM_seal_15 : decode cM_seal 15 = .ok (.getfield 121, 3) := by decide +kernel
theorem dM_seal_18 : decode cM_seal 18 = .ok (.iload_n 1, 1) := by decide +kernel
theorem dM_seal_19 : decode cM_seal 19 = .ok (.isub, 1) := by decide +kernel
theorem dM_seal_20 : decode cM_seal 20 = .ok (.istore_n 2, 1) := by decide +kernel
theorem dM_seal_21 : decode cM_seal 21 = .ok (.aload_n 0, 1) := by decide +kernel
theorem dM_seal_22 : decode cM_seal 22 = .ok (.iload_n 1, 1) := by decide +kernel
theorem dM_seal_23 : decode cM_seal 23 = .ok (.iload_n 2, 1) := by decide +kernel
theorem dM_seal_24 : decode cM_seal 24 = .ok (.aload_n 0, 1) := by decide +kernel
theorem dM_seal_25 : decode cM_seal 25 = .ok (.getfield 13, 3) := by decide +kernel
theorem dM_seal_28 : decode cM_seal 28 = .ok (.invokevirtual 133, 3) := by decide +kernel
theorem dM_seal_31 : decode cM_seal 31 = .ok (.aload_n 0, 1) := by decide +kernel
theorem dM_seal_32 : decode cM_seal 32 = .ok (.iload_n 1, 1) := by decide +kernel
theorem dM_seal_33 : decode cM_seal 33 = .ok (.aload_n 0, 1) := by decide +kernel
theorem dM_seal_34 : decode cM_seal 34 = .ok (.getfield 13, 3) := by decide +kernel
theorem dM_seal_37 : decode cM_seal 37 = .ok (.iconst 0, 1) := by decide +kernel
theorem dM_seal_38 : decode cM_seal 38 = .ok (.iload_n 2, 1) := by decide +kernel
theorem dM_seal_39 : decode cM_seal 39 = .ok (.invokevirtual 137, 3) := by decide +kernel
theorem dM_seal_42 : decode cM_seal 42 = .ok (.aload_n 0, 1) := by decide +kernel
theorem dM_seal_43 : decode cM_seal 43 = .ok (.iconst 0, 1) := by decide +kernel
theorem dM_seal_44 : decode cM_seal 44 = .ok (.putfield 121, 3) := by decide +kernel
theorem dM_seal_47 : decode cM_seal 47 = .ok (.aload_n 0, 1) := by decide +kernel
theorem dM_seal_48 : decode cM_seal 48 = .ok (.iload_n 2, 1) := by decide +kernel
theorem dM_seal_49 : decode cM_seal 49 = .ok (.putfield 127, 3) := by decide +kernel
theorem dM_seal_52 : decode cM_seal 52 = .ok (.aload_n 0, 1) := by decide +kernel
theorem dM_seal_53 : decode cM_seal 53 = .ok (.invokevirtual 130, 3) := by decide +kernel
theorem dM_seal_56 : decode cM_seal 56 = .ok (.ireturn, 1) := by decide +kernel
theorem dM_open_0 : decode cM_open 0 = .ok (.iload_n 1, 1) := by decide +kernel
theorem dM_open_1 : decode cM_open 1 = .ok (.ifCond .lt 14, 3) := by decide +kernel
theorem dM_open_4 : decode cM_open 4 = .ok (.aload_n 0, 1) := by decide +kernel
theorem dM_open_5 : decode cM_open 5 = .ok (.getfield 121, 3) := by decide +kernel
theorem dM_open_8 : decode cM_open 8 = .ok (.bipush 16, 2) := by decide +kernel
theorem dM_open_10 : decode cM_open 10 = .ok (.isub, 1) := by decide +kernel
theorem dM_open_11 : decode cM_open 11 = .ok (.iload_n 1, 1) := by decide +kernel
theorem dM_open_12 : decode cM_open 12 = .ok (.if_icmp .ge 5, 3) := by decide +kernel
theorem dM_open_15 : decode cM_open 15 = .ok (.iconst (-1), 1) := by decide +kernel
theorem dM_open_16 : decode cM_open 16 = .ok (.ireturn, 1) := by decide +kernel
theorem dM_open_17 : decode cM_open 17 = .ok (.aload_n 0, 1) := by decide +kernel
theorem dM_open_18 : decode cM_open 18 = .ok (.getfield 121, 3) := by decide +kernel
theorem dM_open_21 : decode cM_open 21 = .ok (.bipush 16, 2) := by decide +kernel
theorem dM_open_23 : decode cM_open 23 = .ok (.isub, 1) := by decide +kernel
theorem dM_open_24 : decode cM_open 24 = .ok (.iload_n 1, 1) := by decide +kernel
theorem dM_open_25 : decode cM_open 25 = .ok (.isub, 1) := by decide +kernel
theorem dM_open_26 : decode cM_open 26 = .ok (.istore_n 2, 1) := by decide +kernel
theorem dM_open_27 : decode cM_open 27 = .ok (.aload_n 0, 1) := by decide +kernel
theorem dM_open_28 : decode cM_open 28 = .ok (.iload_n 1, 1) := by decide +kernel
theorem dM_open_29 : decode cM_open 29 = .ok (.aload_n 0, 1) := by decide +kernel
theorem dM_open_30 : decode cM_open 30 = .ok (.getfield 9, 3) := by decide +kernel
theorem dM_open_33 : decode cM_open 33 = .ok (.iload_n 1, 1) := by decide +kernel
theorem dM_open_34 : decode cM_open 34 = .ok (.iload_n 2, 1) := by decide +kernel
theorem dM_open_35 : decode cM_open 35 = .ok (.invokevirtual 137, 3) := by decide +kernel
theorem dM_open_38 : decode cM_open 38 = .ok (.iconst 1, 1) := by decide +kernel
theorem dM_open_39 : decode cM_open 39 = .ok (.istore_n 3, 1) := by decide +kernel
theorem dM_open_40 : decode cM_open 40 = .ok (.iconst 0, 1) := by decide +kernel
theorem dM_open_41 : decode cM_open 41 = .ok (.istore 4, 2) := by decide +kernel
theorem dM_open_43 : decode cM_open 43 = .ok (.iload 4, 2) := by decide +kernel
theorem dM_open_45 : decode cM_open 45 = .ok (.bipush 16, 2) := by decide +kernel
theorem dM_open_47 : decode cM_open 47 = .ok (.if_icmp .ge 40, 3) := by decide +kernel
theorem dM_open_50 : decode cM_open 50 = .ok (.iload_n 3, 1) := by decide +kernel
theorem dM_open_51 : decode cM_open 51 = .ok (.ifCond .eq 28, 3) := by decide +kernel
theorem dM_open_54 : decode cM_open 54 = .ok (.aload_n 0, 1) := by decide +kernel
theorem dM_open_55 : decode cM_open 55 = .ok (.getfield 9, 3) := by decide +kernel
theorem dM_open_58 : decode cM_open 58 = .ok (.iload_n 1, 1) := by decide +kernel
theorem dM_open_59 : decode cM_open 59 = .ok (.iload_n 2, 1) := by decide +kernel
theorem dM_open_60 : decode cM_open 60 = .ok (.iadd, 1) := by decide +kernel
theorem dM_open_61 : decode cM_open 61 = .ok (.iload 4, 2) := by decide +kernel
theorem dM_open_63 : decode cM_open 63 = .ok (.iadd, 1) := by decide +kernel
theorem dM_open_64 : decode cM_open 64 = .ok (.baload, 1) := by decide +kernel
theorem dM_open_65 : decode cM_open 65 = .ok (.aload_n 0, 1) := by decide +kernel
theorem dM_open_66 : decode cM_open 66 = .ok (.getfield 57, 3) := by decide +kernel
theorem dM_open_69 : decode cM_open 69 = .ok (.iload 4, 2) := by decide +kernel
theorem dM_open_71 : decode cM_open 71 = .ok (.baload, 1) := by decide +kernel
theorem dM_open_72 : decode cM_open 72 = .ok (.if_icmp .ne 7, 3) := by decide +kernel
theorem dM_open_75 : decode cM_open 75 = .ok (.iconst 1, 1) := by decide +kernel
theorem dM_open_76 : decode cM_open 76 = .ok (.goto 4, 3) := by decide +kernel
theorem dM_open_79 : decode cM_open 79 = .ok (.iconst 0, 1) := by decide +kernel
theorem dM_open_80 : decode cM_open 80 = .ok (.istore_n 3, 1) := by decide +kernel
theorem dM_open_81 : decode cM_open 81 = .ok (.iinc 4 1, 3) := by decide +kernel
theorem dM_open_84 : decode cM_open 84 = .ok (.goto (-41), 3) := by decide +kernel
theorem dM_open_87 : decode cM_open 87 = .ok (.aload_n 0, 1) := by decide +kernel
theorem dM_open_88 : decode cM_open 88 = .ok (.iconst 0, 1) := by decide +kernel
theorem dM_open_89 : decode cM_open 89 = .ok (.putfield 121, 3) := by decide +kernel
theorem dM_open_92 : decode cM_open 92 = .ok (.iload_n 3, 1) := by decide +kernel
theorem dM_open_93 : decode cM_open 93 = .ok (.ifCond .ne 6, 3) := by decide +kernel
theorem dM_open_96 : decode cM_open 96 = .ok (.bipush (-2), 2) := by decide +kernel
theorem dM_open_98 : decode cM_open 98 = .ok (.ireturn, 1) := by decide +kernel
theorem dM_open_99 : decode cM_open 99 = .ok (.aload_n 0, 1) := by decide +kernel
theorem dM_open_100 : decode cM_open 100 = .ok (.iload_n 1, 1) := by decide +kernel
theorem dM_open_101 : decode cM_open 101 = .ok (.iload_n 2, 1) := by decide +kernel
theorem dM_open_102 : decode cM_open 102 = .ok (.aload_n 0, 1) := by decide +kernel
theorem dM_open_103 : decode cM_open 103 = .ok (.getfield 13, 3) := by decide +kernel
theorem dM_open_106 : decode cM_open 106 = .ok (.invokevirtual 133, 3) := by decide +kernel
theorem dM_open_109 : decode cM_open 109 = .ok (.aload_n 0, 1) := by decide +kernel
theorem dM_open_110 : decode cM_open 110 = .ok (.iload_n 2, 1) := by decide +kernel
theorem dM_open_111 : decode cM_open 111 = .ok (.putfield 127, 3) := by decide +kernel
theorem dM_open_114 : decode cM_open 114 = .ok (.iload_n 2, 1) := by decide +kernel
theorem dM_open_115 : decode cM_open 115 = .ok (.ireturn, 1) := by decide +kernel
theorem dM_digest_0 : decode cM_digest 0 = .ok (.aload_n 0, 1) := by decide +kernel
theorem dM_digest_1 : decode cM_digest 1 = .ok (.iconst 0, 1) := by decide +kernel
theorem dM_digest_2 : decode cM_digest 2 = .ok (.putfield 63, 3) := by decide +kernel
theorem dM_digest_5 : decode cM_digest 5 = .ok (.aload_n 0, 1) := by decide +kernel
theorem dM_digest_6 : decode cM_digest 6 = .ok (.aload_n 0, 1) := by decide +kernel
theorem dM_digest_7 : decode cM_digest 7 = .ok (.getfield 9, 3) := by decide +kernel
theorem dM_digest_10 : decode cM_digest 10 = .ok (.iconst 0, 1) := by decide +kernel
theorem dM_digest_11 : decode cM_digest 11 = .ok (.aload_n 0, 1) := by decide +kernel
theorem dM_digest_12 : decode cM_digest 12 = .ok (.getfield 121, 3) := by decide +kernel
theorem dM_digest_15 : decode cM_digest 15 = .ok (.invokevirtual 141, 3) := by decide +kernel
theorem dM_digest_18 : decode cM_digest 18 = .ok (.aload_n 0, 1) := by decide +kernel
theorem dM_digest_19 : decode cM_digest 19 = .ok (.aload_n 0, 1) := by decide +kernel
theorem dM_digest_20 : decode cM_digest 20 = .ok (.getfield 13, 3) := by decide +kernel
theorem dM_digest_23 : decode cM_digest 23 = .ok (.iconst 0, 1) := by decide +kernel
theorem dM_digest_24 : decode cM_digest 24 = .ok (.invokevirtual 143, 3) := by decide +kernel
theorem dM_digest_27 : decode cM_digest 27 = .ok (.aload_n 0, 1) := by decide +kernel
theorem dM_digest_28 : decode cM_digest 28 = .ok (.iconst 0, 1) := by decide +kernel
theorem dM_digest_29 : decode cM_digest 29 = .ok (.putfield 121, 3) := by decide +kernel
theorem dM_digest_32 : decode cM_digest 32 = .ok (.aload_n 0, 1) := by decide +kernel
theorem dM_digest_33 : decode cM_digest 33 = .ok (.bipush 32, 2) := by decide +kernel
theorem dM_digest_35 : decode cM_digest 35 = .ok (.putfield 127, 3) := by decide +kernel
theorem dM_digest_38 : decode cM_digest 38 = .ok (.bipush 32, 2) := by decide +kernel
theorem dM_digest_40 : decode cM_digest 40 = .ok (.ireturn, 1) := by decide +kernel
theorem dM_mac_0 : decode cM_mac 0 = .ok (.aload_n 0, 1) := by decide +kernel
theorem dM_mac_1 : decode cM_mac 1 = .ok (.iconst 0, 1) := by decide +kernel
theorem dM_mac_2 : decode cM_mac 2 = .ok (.putfield 63, 3) := by decide +kernel
theorem dM_mac_5 : decode cM_mac 5 = .ok (.iconst 0, 1) := by decide +kernel
theorem dM_mac_6 : decode cM_mac 6 = .ok (.istore_n 1, 1) := by decide +kernel
theorem dM_mac_7 : decode cM_mac 7 = .ok (.iload_n 1, 1) := by decide +kernel
theorem dM_mac_8 : decode cM_mac 8 = .ok (.bipush 64, 2) := by decide +kernel
theorem dM_mac_10 : decode cM_mac 10 = .ok (.if_icmp .ge 32, 3) := by decide +kernel
theorem dM_mac_13 : decode cM_mac 13 = .ok (.aload_n 0, 1) := by decide +kernel
theorem dM_mac_14 : decode cM_mac 14 = .ok (.iload_n 1, 1) := by decide +kernel
theorem dM_mac_15 : decode cM_mac 15 = .ok (.bipush 32, 2) := by decide +kernel
theorem dM_mac_17 : decode cM_mac 17 = .ok (.if_icmp .ge 12, 3) := by decide +kernel
theorem dM_mac_20 : decode cM_mac 20 = .ok (.aload_n 0, 1) := by decide +kernel
theorem dM_mac_21 : decode cM_mac 21 = .ok (.getfield 16, 3) := by decide +kernel
theorem dM_mac_24 : decode cM_mac 24 = .ok (.iload_n 1, 1) := by decide +kernel
theorem dM_mac_25 : decode cM_mac 25 = .ok (.baload, 1) := by decide +kernel
theorem dM_mac_26 : decode cM_mac 26 = .ok (.goto 4, 3) := by decide +kernel
theorem dM_mac_29 : decode cM_mac 29 = .ok (.iconst 0, 1) := by decide +kernel
theorem dM_mac_30 : decode cM_mac 30 = .ok (.bipush 54, 2) := by decide +kernel
theorem dM_mac_32 : decode cM_mac 32 = .ok (.ixor, 1) := by decide +kernel
theorem dM_mac_33 : decode cM_mac 33 = .ok (.invokevirtual 67, 3) := by decide +kernel
theorem dM_mac_36 : decode cM_mac 36 = .ok (.iinc 1 1, 3) := by decide +kernel
theorem dM_mac_39 : decode cM_mac 39 = .ok (.goto (-32), 3) := by decide +kernel
theorem dM_mac_42 : decode cM_mac 42 = .ok (.aload_n 0, 1) := by decide +kernel
theorem dM_mac_43 : decode cM_mac 43 = .ok (.aload_n 0, 1) := by decide +kernel
theorem dM_mac_44 : decode cM_mac 44 = .ok (.getfield 9, 3) := by decide +kernel
theorem dM_mac_47 : decode cM_mac 47 = .ok (.iconst 0, 1) := by decide +kernel
theorem dM_mac_48 : decode cM_mac 48 = .ok (.aload_n 0, 1) := by decide +kernel
theorem dM_mac_49 : decode cM_mac 49 = .ok (.getfield 121, 3) := by decide +kernel
theorem dM_mac_52 : decode cM_mac 52 = .ok (.invokevirtual 141, 3) := by decide +kernel
theorem dM_mac_55 : decode cM_mac 55 = .ok (.aload_n 0, 1) := by decide +kernel
theorem dM_mac_56 : decode cM_mac 56 = .ok (.aload_n 0, 1) := by decide +kernel
theorem dM_mac_57 : decode cM_mac 57 = .ok (.getfield 32, 3) := by decide +kernel
theorem dM_mac_60 : decode cM_mac 60 = .ok (.iconst 0, 1) := by decide +kernel
theorem dM_mac_61 : decode cM_mac 61 = .ok (.invokevirtual 143, 3) := by decide +kernel
theorem dM_mac_64 : decode cM_mac 64 = .ok (.aload_n 0, 1) := by decide +kernel
theorem dM_mac_65 : decode cM_mac 65 = .ok (.iconst 0, 1) := by decide +kernel
theorem dM_mac_66 : decode cM_mac 66 = .ok (.putfield 63, 3) := by decide +kernel
theorem dM_mac_69 : decode cM_mac 69 = .ok (.iconst 0, 1) := by decide +kernel
theorem dM_mac_70 : decode cM_mac 70 = .ok (.istore_n 1, 1) := by decide +kernel
theorem dM_mac_71 : decode cM_mac 71 = .ok (.iload_n 1, 1) := by decide +kernel
theorem dM_mac_72 : decode cM_mac 72 = .ok (.bipush 64, 2) := by decide +kernel
theorem dM_mac_74 : decode cM_mac 74 = .ok (.if_icmp .ge 32, 3) := by decide +kernel
theorem dM_mac_77 : decode cM_mac 77 = .ok (.aload_n 0, 1) := by decide +kernel
theorem dM_mac_78 : decode cM_mac 78 = .ok (.iload_n 1, 1) := by decide +kernel
theorem dM_mac_79 : decode cM_mac 79 = .ok (.bipush 32, 2) := by decide +kernel
theorem dM_mac_81 : decode cM_mac 81 = .ok (.if_icmp .ge 12, 3) := by decide +kernel
theorem dM_mac_84 : decode cM_mac 84 = .ok (.aload_n 0, 1) := by decide +kernel
theorem dM_mac_85 : decode cM_mac 85 = .ok (.getfield 16, 3) := by decide +kernel
theorem dM_mac_88 : decode cM_mac 88 = .ok (.iload_n 1, 1) := by decide +kernel
theorem dM_mac_89 : decode cM_mac 89 = .ok (.baload, 1) := by decide +kernel
theorem dM_mac_90 : decode cM_mac 90 = .ok (.goto 4, 3) := by decide +kernel
theorem dM_mac_93 : decode cM_mac 93 = .ok (.iconst 0, 1) := by decide +kernel
theorem dM_mac_94 : decode cM_mac 94 = .ok (.bipush 92, 2) := by decide +kernel
theorem dM_mac_96 : decode cM_mac 96 = .ok (.ixor, 1) := by decide +kernel
theorem dM_mac_97 : decode cM_mac 97 = .ok (.invokevirtual 67, 3) := by decide +kernel
theorem dM_mac_100 : decode cM_mac 100 = .ok (.iinc 1 1, 3) := by decide +kernel
theorem dM_mac_103 : decode cM_mac 103 = .ok (.goto (-32), 3) := by decide +kernel
theorem dM_mac_106 : decode cM_mac 106 = .ok (.aload_n 0, 1) := by decide +kernel
theorem dM_mac_107 : decode cM_mac 107 = .ok (.aload_n 0, 1) := by decide +kernel
theorem dM_mac_108 : decode cM_mac 108 = .ok (.getfield 32, 3) := by decide +kernel
theorem dM_mac_111 : decode cM_mac 111 = .ok (.iconst 0, 1) := by decide +kernel
theorem dM_mac_112 : decode cM_mac 112 = .ok (.bipush 32, 2) := by decide +kernel
theorem dM_mac_114 : decode cM_mac 114 = .ok (.invokevirtual 141, 3) := by decide +kernel
theorem dM_mac_117 : decode cM_mac 117 = .ok (.aload_n 0, 1) := by decide +kernel
theorem dM_mac_118 : decode cM_mac 118 = .ok (.aload_n 0, 1) := by decide +kernel
theorem dM_mac_119 : decode cM_mac 119 = .ok (.getfield 13, 3) := by decide +kernel
theorem dM_mac_122 : decode cM_mac 122 = .ok (.iconst 0, 1) := by decide +kernel
theorem dM_mac_123 : decode cM_mac 123 = .ok (.invokevirtual 143, 3) := by decide +kernel
theorem dM_mac_126 : decode cM_mac 126 = .ok (.aload_n 0, 1) := by decide +kernel
theorem dM_mac_127 : decode cM_mac 127 = .ok (.iconst 0, 1) := by decide +kernel
theorem dM_mac_128 : decode cM_mac 128 = .ok (.putfield 121, 3) := by decide +kernel
theorem dM_mac_131 : decode cM_mac 131 = .ok (.aload_n 0, 1) := by decide +kernel
theorem dM_mac_132 : decode cM_mac 132 = .ok (.bipush 32, 2) := by decide +kernel
theorem dM_mac_134 : decode cM_mac 134 = .ok (.putfield 127, 3) := by decide +kernel
theorem dM_mac_137 : decode cM_mac 137 = .ok (.bipush 32, 2) := by decide +kernel
theorem dM_mac_139 : decode cM_mac 139 = .ok (.ireturn, 1) := by decide +kernel
theorem dM_octet_0 : decode cM_octet 0 = .ok (.iload_n 1, 1) := by decide +kernel
theorem dM_octet_1 : decode cM_octet 1 = .ok (.iconst (-1), 1) := by decide +kernel
theorem dM_octet_2 : decode cM_octet 2 = .ok (.if_icmp .ne 8, 3) := by decide +kernel
theorem dM_octet_5 : decode cM_octet 5 = .ok (.aload_n 0, 1) := by decide +kernel
theorem dM_octet_6 : decode cM_octet 6 = .ok (.getfield 127, 3) := by decide +kernel
theorem dM_octet_9 : decode cM_octet 9 = .ok (.ireturn, 1) := by decide +kernel
theorem dM_octet_10 : decode cM_octet 10 = .ok (.iload_n 1, 1) := by decide +kernel
theorem dM_octet_11 : decode cM_octet 11 = .ok (.ifCond .lt 11, 3) := by decide +kernel
theorem dM_octet_14 : decode cM_octet 14 = .ok (.iload_n 1, 1) := by decide +kernel
theorem dM_octet_15 : decode cM_octet 15 = .ok (.aload_n 0, 1) := by decide +kernel
theorem dM_octet_16 : decode cM_octet 16 = .ok (.getfield 127, 3) := by decide +kernel
theorem dM_octet_19 : decode cM_octet 19 = .ok (.if_icmp .lt 8, 3) := by decide +kernel
theorem dM_octet_22 : decode cM_octet 22 = .ok (.bipush (-2), 2) := by decide +kernel
theorem dM_octet_24 : decode cM_octet 24 = .ok (.goto 13, 3) := by decide +kernel
theorem dM_octet_27 : decode cM_octet 27 = .ok (.aload_n 0, 1) := by decide +kernel
theorem dM_octet_28 : decode cM_octet 28 = .ok (.getfield 13, 3) := by decide +kernel
theorem dM_octet_31 : decode cM_octet 31 = .ok (.iload_n 1, 1) := by decide +kernel
theorem dM_octet_32 : decode cM_octet 32 = .ok (.baload, 1) := by decide +kernel
theorem dM_octet_33 : decode cM_octet 33 = .ok (.sipush 255, 3) := by decide +kernel
theorem dM_octet_36 : decode cM_octet 36 = .ok (.iand, 1) := by decide +kernel
theorem dM_octet_37 : decode cM_octet 37 = .ok (.ireturn, 1) := by decide +kernel
theorem dL_law_0 : decode cL_law 0 = .ok (.new 7, 3) := by decide +kernel
theorem dL_law_3 : decode cL_law 3 = .ok (.dup, 1) := by decide +kernel
theorem dL_law_4 : decode cL_law 4 = .ok (.invokespecial 9, 3) := by decide +kernel
theorem dL_law_7 : decode cL_law 7 = .ok (.astore_n 1, 1) := by decide +kernel
theorem dL_law_8 : decode cL_law 8 = .ok (.new 10, 3) := by decide +kernel
theorem dL_law_11 : decode cL_law 11 = .ok (.dup, 1) := by decide +kernel
theorem dL_law_12 : decode cL_law 12 = .ok (.invokespecial 12, 3) := by decide +kernel
theorem dL_law_15 : decode cL_law 15 = .ok (.astore_n 2, 1) := by decide +kernel
theorem dL_law_16 : decode cL_law 16 = .ok (.iconst 0, 1) := by decide +kernel
theorem dL_law_17 : decode cL_law 17 = .ok (.istore_n 3, 1) := by decide +kernel
theorem dL_law_18 : decode cL_law 18 = .ok (.iload_n 3, 1) := by decide +kernel
theorem dL_law_19 : decode cL_law 19 = .ok (.aload_n 0, 1) := by decide +kernel
theorem dL_law_20 : decode cL_law 20 = .ok (.arraylength, 1) := by decide +kernel
theorem dL_law_21 : decode cL_law 21 = .ok (.bipush 6, 2) := by decide +kernel
theorem dL_law_23 : decode cL_law 23 = .ok (.isub, 1) := by decide +kernel
theorem dL_law_24 : decode cL_law 24 = .ok (.if_icmp .gt 392, 3) := by decide +kernel
theorem dL_law_27 : decode cL_law 27 = .ok (.aload_n 0, 1) := by decide +kernel
theorem dL_law_28 : decode cL_law 28 = .ok (.iload_n 3, 1) := by decide +kernel
theorem dL_law_29 : decode cL_law 29 = .ok (.iaload, 1) := by decide +kernel
theorem dL_law_30 : decode cL_law 30 = .ok (.bipush 15, 2) := by decide +kernel
theorem dL_law_32 : decode cL_law 32 = .ok (.iand, 1) := by decide +kernel
theorem dL_law_33 : decode cL_law 33 = .ok (.tableswitch 377 0 11 #[63, 126, 149, 172, 185, 246, 269, 282, 305, 328, 341, 354], 63) := by decide +kernel
theorem dL_law_96 : decode cL_law 96 = .ok (.aload_n 1, 1) := by decide +kernel
theorem dL_law_97 : decode cL_law 97 = .ok (.aload_n 0, 1) := by decide +kernel
theorem dL_law_98 : decode cL_law 98 = .ok (.iload_n 3, 1) := by decide +kernel
theorem dL_law_99 : decode cL_law 99 = .ok (.iconst 1, 1) := by decide +kernel
theorem dL_law_100 : decode cL_law 100 = .ok (.iadd, 1) := by decide +kernel
theorem dL_law_101 : decode cL_law 101 = .ok (.iaload, 1) := by decide +kernel
theorem dL_law_102 : decode cL_law 102 = .ok (.aload_n 0, 1) := by decide +kernel
theorem dL_law_103 : decode cL_law 103 = .ok (.iload_n 3, 1) := by decide +kernel
theorem dL_law_104 : decode cL_law 104 = .ok (.iconst 2, 1) := by decide +kernel
theorem dL_law_105 : decode cL_law 105 = .ok (.iadd, 1) := by decide +kernel
theorem dL_law_106 : decode cL_law 106 = .ok (.iaload, 1) := by decide +kernel
theorem dL_law_107 : decode cL_law 107 = .ok (.aload_n 0, 1) := by decide +kernel
theorem dL_law_108 : decode cL_law 108 = .ok (.iload_n 3, 1) := by decide +kernel
theorem dL_law_109 : decode cL_law 109 = .ok (.iconst 3, 1) := by decide +kernel
theorem dL_law_110 : decode cL_law 110 = .ok (.iadd, 1) := by decide +kernel
theorem dL_law_111 : decode cL_law 111 = .ok (.iaload, 1) := by decide +kernel
theorem dL_law_112 : decode cL_law 112 = .ok (.aload_n 0, 1) := by decide +kernel
theorem dL_law_113 : decode cL_law 113 = .ok (.iload_n 3, 1) := by decide +kernel
theorem dL_law_114 : decode cL_law 114 = .ok (.iconst 4, 1) := by decide +kernel
theorem dL_law_115 : decode cL_law 115 = .ok (.iadd, 1) := by decide +kernel
theorem dL_law_116 : decode cL_law 116 = .ok (.iaload, 1) := by decide +kernel
theorem dL_law_117 : decode cL_law 117 = .ok (.aload_n 0, 1) := by decide +kernel
theorem dL_law_118 : decode cL_law 118 = .ok (.iload_n 3, 1) := by decide +kernel
theorem dL_law_119 : decode cL_law 119 = .ok (.iconst 5, 1) := by decide +kernel
theorem dL_law_120 : decode cL_law 120 = .ok (.iadd, 1) := by decide +kernel
theorem dL_law_121 : decode cL_law 121 = .ok (.iaload, 1) := by decide +kernel
theorem dL_law_122 : decode cL_law 122 = .ok (.invokevirtual 13, 3) := by decide +kernel
theorem dL_law_125 : decode cL_law 125 = .ok (.aload_n 2, 1) := by decide +kernel
theorem dL_law_126 : decode cL_law 126 = .ok (.aload_n 0, 1) := by decide +kernel
theorem dL_law_127 : decode cL_law 127 = .ok (.iload_n 3, 1) := by decide +kernel
theorem dL_law_128 : decode cL_law 128 = .ok (.iconst 1, 1) := by decide +kernel
theorem dL_law_129 : decode cL_law 129 = .ok (.iadd, 1) := by decide +kernel
theorem dL_law_130 : decode cL_law 130 = .ok (.iaload, 1) := by decide +kernel
theorem dL_law_131 : decode cL_law 131 = .ok (.aload_n 0, 1) := by decide +kernel
theorem dL_law_132 : decode cL_law 132 = .ok (.iload_n 3, 1) := by decide +kernel
theorem dL_law_133 : decode cL_law 133 = .ok (.iconst 2, 1) := by decide +kernel
theorem dL_law_134 : decode cL_law 134 = .ok (.iadd, 1) := by decide +kernel
theorem dL_law_135 : decode cL_law 135 = .ok (.iaload, 1) := by decide +kernel
theorem dL_law_136 : decode cL_law 136 = .ok (.aload_n 0, 1) := by decide +kernel
theorem dL_law_137 : decode cL_law 137 = .ok (.iload_n 3, 1) := by decide +kernel
theorem dL_law_138 : decode cL_law 138 = .ok (.iconst 3, 1) := by decide +kernel
theorem dL_law_139 : decode cL_law 139 = .ok (.iadd, 1) := by decide +kernel
theorem dL_law_140 : decode cL_law 140 = .ok (.iaload, 1) := by decide +kernel
theorem dL_law_141 : decode cL_law 141 = .ok (.aload_n 0, 1) := by decide +kernel
theorem dL_law_142 : decode cL_law 142 = .ok (.iload_n 3, 1) := by decide +kernel
theorem dL_law_143 : decode cL_law 143 = .ok (.iconst 4, 1) := by decide +kernel
theorem dL_law_144 : decode cL_law 144 = .ok (.iadd, 1) := by decide +kernel
theorem dL_law_145 : decode cL_law 145 = .ok (.iaload, 1) := by decide +kernel
theorem dL_law_146 : decode cL_law 146 = .ok (.aload_n 0, 1) := by decide +kernel
theorem dL_law_147 : decode cL_law 147 = .ok (.iload_n 3, 1) := by decide +kernel
theorem dL_law_148 : decode cL_law 148 = .ok (.iconst 5, 1) := by decide +kernel
theorem dL_law_149 : decode cL_law 149 = .ok (.iadd, 1) := by decide +kernel
theorem dL_law_150 : decode cL_law 150 = .ok (.iaload, 1) := by decide +kernel
theorem dL_law_151 : decode cL_law 151 = .ok (.invokevirtual 17, 3) := by decide +kernel
theorem dL_law_154 : decode cL_law 154 = .ok (.if_icmp .eq 256, 3) := by decide +kernel
theorem dL_law_157 : decode cL_law 157 = .ok (.iconst 0, 1) := by decide +kernel
theorem dL_law_158 : decode cL_law 158 = .ok (.ireturn, 1) := by decide +kernel
theorem dL_law_159 : decode cL_law 159 = .ok (.aload_n 1, 1) := by decide +kernel
theorem dL_law_160 : decode cL_law 160 = .ok (.aload_n 0, 1) := by decide +kernel
theorem dL_law_161 : decode cL_law 161 = .ok (.iload_n 3, 1) := by decide +kernel
theorem dL_law_162 : decode cL_law 162 = .ok (.iconst 1, 1) := by decide +kernel
theorem dL_law_163 : decode cL_law 163 = .ok (.iadd, 1) := by decide +kernel
theorem dL_law_164 : decode cL_law 164 = .ok (.iaload, 1) := by decide +kernel
theorem dL_law_165 : decode cL_law 165 = .ok (.invokevirtual 18, 3) := by decide +kernel
theorem dL_law_168 : decode cL_law 168 = .ok (.aload_n 2, 1) := by decide +kernel
theorem dL_law_169 : decode cL_law 169 = .ok (.aload_n 0, 1) := by decide +kernel
theorem dL_law_170 : decode cL_law 170 = .ok (.iload_n 3, 1) := by decide +kernel
theorem dL_law_171 : decode cL_law 171 = .ok (.iconst 1, 1) := by decide +kernel
theorem dL_law_172 : decode cL_law 172 = .ok (.iadd, 1) := by decide +kernel
theorem dL_law_173 : decode cL_law 173 = .ok (.iaload, 1) := by decide +kernel
theorem dL_law_174 : decode cL_law 174 = .ok (.invokevirtual 22, 3) := by decide +kernel
theorem dL_law_177 : decode cL_law 177 = .ok (.if_icmp .eq 233, 3) := by decide +kernel
theorem dL_law_180 : decode cL_law 180 = .ok (.iconst 0, 1) := by decide +kernel
theorem dL_law_181 : decode cL_law 181 = .ok (.ireturn, 1) := by decide +kernel
theorem dL_law_182 : decode cL_law 182 = .ok (.aload_n 1, 1) := by decide +kernel
theorem dL_law_183 : decode cL_law 183 = .ok (.aload_n 0, 1) := by decide +kernel
theorem dL_law_184 : decode cL_law 184 = .ok (.iload_n 3, 1) := by decide +kernel
theorem dL_law_185 : decode cL_law 185 = .ok (.iconst 1, 1) := by decide +kernel
theorem dL_law_186 : decode cL_law 186 = .ok (.iadd, 1) := by decide +kernel
theorem dL_law_187 : decode cL_law 187 = .ok (.iaload, 1) := by decide +kernel
theorem dL_law_188 : decode cL_law 188 = .ok (.invokevirtual 23, 3) := by decide +kernel
theorem dL_law_191 : decode cL_law 191 = .ok (.aload_n 2, 1) := by decide +kernel
theorem dL_law_192 : decode cL_law 192 = .ok (.aload_n 0, 1) := by decide +kernel
theorem dL_law_193 : decode cL_law 193 = .ok (.iload_n 3, 1) := by decide +kernel
theorem dL_law_194 : decode cL_law 194 = .ok (.iconst 1, 1) := by decide +kernel
theorem dL_law_195 : decode cL_law 195 = .ok (.iadd, 1) := by decide +kernel
theorem dL_law_196 : decode cL_law 196 = .ok (.iaload, 1) := by decide +kernel
theorem dL_law_197 : decode cL_law 197 = .ok (.invokevirtual 26, 3) := by decide +kernel
theorem dL_law_200 : decode cL_law 200 = .ok (.if_icmp .eq 210, 3) := by decide +kernel
theorem dL_law_203 : decode cL_law 203 = .ok (.iconst 0, 1) := by decide +kernel
theorem dL_law_204 : decode cL_law 204 = .ok (.ireturn, 1) := by decide +kernel
theorem dL_law_205 : decode cL_law 205 = .ok (.aload_n 1, 1) := by decide +kernel
theorem dL_law_206 : decode cL_law 206 = .ok (.invokevirtual 27, 3) := by decide +kernel
theorem dL_law_209 : decode cL_law 209 = .ok (.aload_n 2, 1) := by decide +kernel
theorem dL_law_210 : decode cL_law 210 = .ok (.invokevirtual 31, 3) := by decide +kernel
theorem dL_law_213 : decode cL_law 213 = .ok (.if_icmp .eq 197, 3) := by decide +kernel
theorem dL_law_216 : decode cL_law 216 = .ok (.iconst 0, 1) := by decide +kernel
theorem dL_law_217 : decode cL_law 217 = .ok (.ireturn, 1) := by decide +kernel
theorem dL_law_218 : decode cL_law 218 = .ok (.aload_n 1, 1) := by decide +kernel
theorem dL_law_219 : decode cL_law 219 = .ok (.aload_n 0, 1) := by decide +kernel
theorem dL_law_220 : decode cL_law 220 = .ok (.iload_n 3, 1) := by decide +kernel
theorem dL_law_221 : decode cL_law 221 = .ok (.iconst 1, 1) := by decide +kernel
theorem dL_law_222 : decode cL_law 222 = .ok (.iadd, 1) := by decide +kernel
theorem dL_law_223 : decode cL_law 223 = .ok (.iaload, 1) := by decide +kernel
theorem dL_law_224 : decode cL_law 224 = .ok (.aload_n 0, 1) := by decide +kernel
theorem dL_law_225 : decode cL_law 225 = .ok (.iload_n 3, 1) := by decide +kernel
theorem dL_law_226 : decode cL_law 226 = .ok (.iconst 2, 1) := by decide +kernel
theorem dL_law_227 : decode cL_law 227 = .ok (.iadd, 1) := by decide +kernel
theorem dL_law_228 : decode cL_law 228 = .ok (.iaload, 1) := by decide +kernel
theorem dL_law_229 : decode cL_law 229 = .ok (.i2l, 1) := by decide +kernel
theorem dL_law_230 : decode cL_law 230 = .ok (.bipush 32, 2) := by decide +kernel
theorem dL_law_232 : decode cL_law 232 = .ok (.lshl, 1) := by decide +kernel
theorem dL_law_233 : decode cL_law 233 = .ok (.aload_n 0, 1) := by decide +kernel
theorem dL_law_234 : decode cL_law 234 = .ok (.iload_n 3, 1) := by decide +kernel
theorem dL_law_235 : decode cL_law 235 = .ok (.iconst 3, 1) := by decide +kernel
theorem dL_law_236 : decode cL_law 236 = .ok (.iadd, 1) := by decide +kernel
theorem dL_law_237 : decode cL_law 237 = .ok (.iaload, 1) := by decide +kernel
theorem dL_law_238 : decode cL_law 238 = .ok (.i2l, 1) := by decide +kernel
theorem dL_law_239 : decode cL_law 239 = .ok (.ldc2_w 32, 3) := by decide +kernel
theorem dL_law_242 : decode cL_law 242 = .ok (.land, 1) := by decide +kernel
theorem dL_law_243 : decode cL_law 243 = .ok (.lor, 1) := by decide +kernel
theorem dL_law_244 : decode cL_law 244 = .ok (.invokevirtual 34, 3) := by decide +kernel
theorem dL_law_247 : decode cL_law 247 = .ok (.aload_n 2, 1) := by decide +kernel
theorem dL_law_248 : decode cL_law 248 = .ok (.aload_n 0, 1) := by decide +kernel
theorem dL_law_249 : decode cL_law 249 = .ok (.iload_n 3, 1) := by decide +kernel
theorem dL_law_250 : decode cL_law 250 = .ok (.iconst 1, 1) := by decide +kernel
theorem dL_law_251 : decode cL_law 251 = .ok (.iadd, 1) := by decide +kernel
theorem dL_law_252 : decode cL_law 252 = .ok (.iaload, 1) := by decide +kernel
theorem dL_law_253 : decode cL_law 253 = .ok (.aload_n 0, 1) := by decide +kernel
theorem dL_law_254 : decode cL_law 254 = .ok (.iload_n 3, 1) := by decide +kernel
theorem dL_law_255 : decode cL_law 255 = .ok (.iconst 2, 1) := by decide +kernel
theorem dL_law_256 : decode cL_law 256 = .ok (.iadd, 1) := by decide +kernel
theorem dL_law_257 : decode cL_law 257 = .ok (.iaload, 1) := by decide +kernel
theorem dL_law_258 : decode cL_law 258 = .ok (.i2l, 1) := by decide +kernel
theorem dL_law_259 : decode cL_law 259 = .ok (.bipush 32, 2) := by decide +kernel
theorem dL_law_261 : decode cL_law 261 = .ok (.lshl, 1) := by decide +kernel
theorem dL_law_262 : decode cL_law 262 = .ok (.aload_n 0, 1) := by decide +kernel
theorem dL_law_263 : decode cL_law 263 = .ok (.iload_n 3, 1) := by decide +kernel
theorem dL_law_264 : decode cL_law 264 = .ok (.iconst 3, 1) := by decide +kernel
theorem dL_law_265 : decode cL_law 265 = .ok (.iadd, 1) := by decide +kernel
theorem dL_law_266 : decode cL_law 266 = .ok (.iaload, 1) := by decide +kernel
theorem dL_law_267 : decode cL_law 267 = .ok (.i2l, 1) := by decide +kernel
theorem dL_law_268 : decode cL_law 268 = .ok (.ldc2_w 32, 3) := by decide +kernel
theorem dL_law_271 : decode cL_law 271 = .ok (.land, 1) := by decide +kernel
theorem dL_law_272 : decode cL_law 272 = .ok (.lor, 1) := by decide +kernel
theorem dL_law_273 : decode cL_law 273 = .ok (.invokevirtual 38, 3) := by decide +kernel
theorem dL_law_276 : decode cL_law 276 = .ok (.goto 134, 3) := by decide +kernel
theorem dL_law_279 : decode cL_law 279 = .ok (.aload_n 1, 1) := by decide +kernel
theorem dL_law_280 : decode cL_law 280 = .ok (.aload_n 0, 1) := by decide +kernel
theorem dL_law_281 : decode cL_law 281 = .ok (.iload_n 3, 1) := by decide +kernel
theorem dL_law_282 : decode cL_law 282 = .ok (.iconst 1, 1) := by decide +kernel
theorem dL_law_283 : decode cL_law 283 = .ok (.iadd, 1) := by decide +kernel
theorem dL_law_284 : decode cL_law 284 = .ok (.iaload, 1) := by decide +kernel
theorem dL_law_285 : decode cL_law 285 = .ok (.invokevirtual 39, 3) := by decide +kernel
theorem dL_law_288 : decode cL_law 288 = .ok (.aload_n 2, 1) := by decide +kernel
theorem dL_law_289 : decode cL_law 289 = .ok (.aload_n 0, 1) := by decide +kernel
theorem dL_law_290 : decode cL_law 290 = .ok (.iload_n 3, 1) := by decide +kernel
theorem dL_law_291 : decode cL_law 291 = .ok (.iconst 1, 1) := by decide +kernel
theorem dL_law_292 : decode cL_law 292 = .ok (.iadd, 1) := by decide +kernel
theorem dL_law_293 : decode cL_law 293 = .ok (.iaload, 1) := by decide +kernel
theorem dL_law_294 : decode cL_law 294 = .ok (.invokevirtual 42, 3) := by decide +kernel
theorem dL_law_297 : decode cL_law 297 = .ok (.if_icmp .eq 113, 3) := by decide +kernel
theorem dL_law_300 : decode cL_law 300 = .ok (.iconst 0, 1) := by decide +kernel
theorem dL_law_301 : decode cL_law 301 = .ok (.ireturn, 1) := by decide +kernel
theorem dL_law_302 : decode cL_law 302 = .ok (.aload_n 1, 1) := by decide +kernel
theorem dL_law_303 : decode cL_law 303 = .ok (.invokevirtual 43, 3) := by decide +kernel
theorem dL_law_306 : decode cL_law 306 = .ok (.aload_n 2, 1) := by decide +kernel
theorem dL_law_307 : decode cL_law 307 = .ok (.invokevirtual 46, 3) := by decide +kernel
theorem dL_law_310 : decode cL_law 310 = .ok (.if_icmp .eq 100, 3) := by decide +kernel
theorem dL_law_313 : decode cL_law 313 = .ok (.iconst 0, 1) := by decide +kernel
theorem dL_law_314 : decode cL_law 314 = .ok (.ireturn, 1) := by decide +kernel
theorem dL_law_315 : decode cL_law 315 = .ok (.aload_n 1, 1) := by decide +kernel
theorem dL_law_316 : decode cL_law 316 = .ok (.aload_n 0, 1) := by decide +kernel
theorem dL_law_317 : decode cL_law 317 = .ok (.iload_n 3, 1) := by decide +kernel
theorem dL_law_318 : decode cL_law 318 = .ok (.iconst 1, 1) := by decide +kernel
theorem dL_law_319 : decode cL_law 319 = .ok (.iadd, 1) := by decide +kernel
theorem dL_law_320 : decode cL_law 320 = .ok (.iaload, 1) := by decide +kernel
theorem dL_law_321 : decode cL_law 321 = .ok (.invokevirtual 47, 3) := by decide +kernel
theorem dL_law_324 : decode cL_law 324 = .ok (.aload_n 2, 1) := by decide +kernel
theorem dL_law_325 : decode cL_law 325 = .ok (.aload_n 0, 1) := by decide +kernel
theorem dL_law_326 : decode cL_law 326 = .ok (.iload_n 3, 1) := by decide +kernel
theorem dL_law_327 : decode cL_law 327 = .ok (.iconst 1, 1) := by decide +kernel
theorem dL_law_328 : decode cL_law 328 = .ok (.iadd, 1) := by decide +kernel
theorem dL_law_329 : decode cL_law 329 = .ok (.iaload, 1) := by decide +kernel
theorem dL_law_330 : decode cL_law 330 = .ok (.invokevirtual 50, 3) := by decide +kernel
theorem dL_law_333 : decode cL_law 333 = .ok (.if_icmp .eq 77, 3) := by decide +kernel
theorem dL_law_336 : decode cL_law 336 = .ok (.iconst 0, 1) := by decide +kernel
theorem dL_law_337 : decode cL_law 337 = .ok (.ireturn, 1) := by decide +kernel
theorem dL_law_338 : decode cL_law 338 = .ok (.aload_n 1, 1) := by decide +kernel
theorem dL_law_339 : decode cL_law 339 = .ok (.aload_n 0, 1) := by decide +kernel
theorem dL_law_340 : decode cL_law 340 = .ok (.iload_n 3, 1) := by decide +kernel
theorem dL_law_341 : decode cL_law 341 = .ok (.iconst 1, 1) := by decide +kernel
theorem dL_law_342 : decode cL_law 342 = .ok (.iadd, 1) := by decide +kernel
theorem dL_law_343 : decode cL_law 343 = .ok (.iaload, 1) := by decide +kernel
theorem dL_law_344 : decode cL_law 344 = .ok (.invokevirtual 51, 3) := by decide +kernel
theorem dL_law_347 : decode cL_law 347 = .ok (.aload_n 2, 1) := by decide +kernel
theorem dL_law_348 : decode cL_law 348 = .ok (.aload_n 0, 1) := by decide +kernel
theorem dL_law_349 : decode cL_law 349 = .ok (.iload_n 3, 1) := by decide +kernel
theorem dL_law_350 : decode cL_law 350 = .ok (.iconst 1, 1) := by decide +kernel
theorem dL_law_351 : decode cL_law 351 = .ok (.iadd, 1) := by decide +kernel
theorem dL_law_352 : decode cL_law 352 = .ok (.iaload, 1) := by decide +kernel
theorem dL_law_353 : decode cL_law 353 = .ok (.invokevirtual 54, 3) := by decide +kernel
theorem dL_law_356 : decode cL_law 356 = .ok (.if_icmp .eq 54, 3) := by decide +kernel
theorem dL_law_359 : decode cL_law 359 = .ok (.iconst 0, 1) := by decide +kernel
theorem dL_law_360 : decode cL_law 360 = .ok (.ireturn, 1) := by decide +kernel
theorem dL_law_361 : decode cL_law 361 = .ok (.aload_n 1, 1) := by decide +kernel
theorem dL_law_362 : decode cL_law 362 = .ok (.invokevirtual 55, 3) := by decide +kernel
theorem dL_law_365 : decode cL_law 365 = .ok (.aload_n 2, 1) := by decide +kernel
theorem dL_law_366 : decode cL_law 366 = .ok (.invokevirtual 58, 3) := by decide +kernel
theorem dL_law_369 : decode cL_law 369 = .ok (.if_icmp .eq 41, 3) := by decide +kernel
theorem dL_law_372 : decode cL_law 372 = .ok (.iconst 0, 1) := by decide +kernel
theorem dL_law_373 : decode cL_law 373 = .ok (.ireturn, 1) := by decide +kernel
theorem dL_law_374 : decode cL_law 374 = .ok (.aload_n 1, 1) := by decide +kernel
theorem dL_law_375 : decode cL_law 375 = .ok (.invokevirtual 59, 3) := by decide +kernel
theorem dL_law_378 : decode cL_law 378 = .ok (.aload_n 2, 1) := by decide +kernel
theorem dL_law_379 : decode cL_law 379 = .ok (.invokevirtual 62, 3) := by decide +kernel
theorem dL_law_382 : decode cL_law 382 = .ok (.if_icmp .eq 28, 3) := by decide +kernel
theorem dL_law_385 : decode cL_law 385 = .ok (.iconst 0, 1) := by decide +kernel
theorem dL_law_386 : decode cL_law 386 = .ok (.ireturn, 1) := by decide +kernel
theorem dL_law_387 : decode cL_law 387 = .ok (.aload_n 1, 1) := by decide +kernel
theorem dL_law_388 : decode cL_law 388 = .ok (.aload_n 0, 1) := by decide +kernel
theorem dL_law_389 : decode cL_law 389 = .ok (.iload_n 3, 1) := by decide +kernel
theorem dL_law_390 : decode cL_law 390 = .ok (.iconst 1, 1) := by decide +kernel
theorem dL_law_391 : decode cL_law 391 = .ok (.iadd, 1) := by decide +kernel
theorem dL_law_392 : decode cL_law 392 = .ok (.iaload, 1) := by decide +kernel
theorem dL_law_393 : decode cL_law 393 = .ok (.invokevirtual 63, 3) := by decide +kernel
theorem dL_law_396 : decode cL_law 396 = .ok (.aload_n 2, 1) := by decide +kernel
theorem dL_law_397 : decode cL_law 397 = .ok (.aload_n 0, 1) := by decide +kernel
theorem dL_law_398 : decode cL_law 398 = .ok (.iload_n 3, 1) := by decide +kernel
theorem dL_law_399 : decode cL_law 399 = .ok (.iconst 1, 1) := by decide +kernel
theorem dL_law_400 : decode cL_law 400 = .ok (.iadd, 1) := by decide +kernel
theorem dL_law_401 : decode cL_law 401 = .ok (.iaload, 1) := by decide +kernel
theorem dL_law_402 : decode cL_law 402 = .ok (.invokevirtual 66, 3) := by decide +kernel
theorem dL_law_405 : decode cL_law 405 = .ok (.if_icmp .eq 5, 3) := by decide +kernel
theorem dL_law_408 : decode cL_law 408 = .ok (.iconst 0, 1) := by decide +kernel
theorem dL_law_409 : decode cL_law 409 = .ok (.ireturn, 1) := by decide +kernel
theorem dL_law_410 : decode cL_law 410 = .ok (.iinc 3 6, 3) := by decide +kernel
theorem dL_law_413 : decode cL_law 413 = .ok (.goto (-395), 3) := by decide +kernel
theorem dL_law_416 : decode cL_law 416 = .ok (.iconst 1, 1) := by decide +kernel
theorem dL_law_417 : decode cL_law 417 = .ok (.ireturn, 1) := by decide +kernel
