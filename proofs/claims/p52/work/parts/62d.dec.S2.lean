theorem dJ5_init_a7421_0 : decode cJ5_init_a7421 0 = .ok (.aload_n 0, 1) := by decide +kernel
theorem dJ5_init_a7421_1 : decode cJ5_init_a7421 1 = .ok (.invokespecial 3, 3) := by decide +kernel
theorem dJ5_init_a7421_4 : decode cJ5_init_a7421 4 = .ok (.aload_n 1, 1) := by decide +kernel
theorem dJ5_init_a7421_5 : decode cJ5_init_a7421 5 = .ok (.invokevirtual 32, 3) := by decide +kernel
theorem dJ5_init_a7421_8 : decode cJ5_init_a7421 8 = .ok (.istore_n 2, 1) := by decide +kernel
theorem dJ5_init_a7421_9 : decode cJ5_init_a7421 9 = .ok (.iload_n 2, 1) := by decide +kernel
theorem dJ5_init_a7421_10 : decode cJ5_init_a7421 10 = .ok (.ldc 38, 2) := by decide +kernel
theorem dJ5_init_a7421_12 : decode cJ5_init_a7421 12 = .ok (.if_icmp .ge 10, 3) := by decide +kernel
theorem dJ5_init_a7421_15 : decode cJ5_init_a7421 15 = .ok (.iload_n 2, 1) := by decide +kernel
theorem dJ5_init_a7421_16 : decode cJ5_init_a7421 16 = .ok (.bipush 16, 2) := by decide +kernel
theorem dJ5_init_a7421_18 : decode cJ5_init_a7421 18 = .ok (.iadd, 1) := by decide +kernel
theorem dJ5_init_a7421_19 : decode cJ5_init_a7421 19 = .ok (.goto 5, 3) := by decide +kernel
theorem dJ5_init_a7421_22 : decode cJ5_init_a7421 22 = .ok (.ldc 39, 2) := by decide +kernel
theorem dJ5_init_a7421_24 : decode cJ5_init_a7421 24 = .ok (.istore_n 3, 1) := by decide +kernel
theorem dJ5_init_a7421_25 : decode cJ5_init_a7421 25 = .ok (.aload_n 1, 1) := by decide +kernel
theorem dJ5_init_a7421_26 : decode cJ5_init_a7421 26 = .ok (.invokevirtual 40, 3) := by decide +kernel
theorem dJ5_init_a7421_29 : decode cJ5_init_a7421 29 = .ok (.istore 4, 2) := by decide +kernel
theorem dJ5_init_a7421_31 : decode cJ5_init_a7421 31 = .ok (.aload_n 0, 1) := by decide +kernel
theorem dJ5_init_a7421_32 : decode cJ5_init_a7421 32 = .ok (.iload 4, 2) := by decide +kernel
theorem dJ5_init_a7421_34 : decode cJ5_init_a7421 34 = .ok (.putfield 22, 3) := by decide +kernel
theorem dJ5_init_a7421_37 : decode cJ5_init_a7421 37 = .ok (.aload_n 0, 1) := by decide +kernel
theorem dJ5_init_a7421_38 : decode cJ5_init_a7421 38 = .ok (.iload 4, 2) := by decide +kernel
theorem dJ5_init_a7421_40 : decode cJ5_init_a7421 40 = .ok (.ifCond .ne 9, 3) := by decide +kernel
theorem dJ5_init_a7421_43 : decode cJ5_init_a7421 43 = .ok (.iload_n 3, 1) := by decide +kernel
theorem dJ5_init_a7421_44 : decode cJ5_init_a7421 44 = .ok (.newarray .byte, 2) := by decide +kernel
theorem dJ5_init_a7421_46 : decode cJ5_init_a7421 46 = .ok (.goto 7, 3) := by decide +kernel
theorem dJ5_init_a7421_49 : decode cJ5_init_a7421 49 = .ok (.iload_n 3, 1) := by decide +kernel
theorem dJ5_init_a7421_50 : decode cJ5_init_a7421 50 = .ok (.invokestatic 26, 3) := by decide +kernel
theorem dJ5_init_a7421_53 : decode cJ5_init_a7421 53 = .ok (.putfield 15, 3) := by decide +kernel
theorem dJ5_init_a7421_56 : decode cJ5_init_a7421 56 = .ok (.aload_n 0, 1) := by decide +kernel
theorem dJ5_init_a7421_57 : decode cJ5_init_a7421 57 = .ok (.aload_n 1, 1) := by decide +kernel
theorem dJ5_init_a7421_58 : decode cJ5_init_a7421 58 = .ok (.invokevirtual 43, 3) := by decide +kernel
theorem dJ5_init_a7421_61 : decode cJ5_init_a7421 61 = .ok (.pop, 1) := by decide +kernel
theorem dJ5_init_a7421_62 : decode cJ5_init_a7421 62 = .ok (.return_, 1) := by decide +kernel
theorem dJ5_append_66267_0 : decode cJ5_append_66267 0 = .ok (.aload_n 0, 1) := by decide +kernel
theorem dJ5_append_66267_1 : decode cJ5_append_66267 1 = .ok (.getfield 79, 3) := by decide +kernel
theorem dJ5_append_66267_4 : decode cJ5_append_66267 4 = .ok (.istore_n 3, 1) := by decide +kernel
theorem dJ5_append_66267_5 : decode cJ5_append_66267 5 = .ok (.iload_n 3, 1) := by decide +kernel
theorem dJ5_append_66267_6 : decode cJ5_append_66267 6 = .ok (.lload_n 1, 1) := by decide +kernel
theorem dJ5_append_66267_7 : decode cJ5_append_66267 7 = .ok (.invokestatic 254, 3) := by decide +kernel
theorem dJ5_append_66267_10 : decode cJ5_append_66267 10 = .ok (.iadd, 1) := by decide +kernel
theorem dJ5_append_66267_11 : decode cJ5_append_66267 11 = .ok (.istore 4, 2) := by decide +kernel
theorem dJ5_append_66267_13 : decode cJ5_append_66267 13 = .ok (.aload_n 0, 1) := by decide +kernel
theorem dJ5_append_66267_14 : decode cJ5_append_66267 14 = .ok (.iload 4, 2) := by decide +kernel
theorem dJ5_append_66267_16 : decode cJ5_append_66267 16 = .ok (.invokevirtual 100, 3) := by decide +kernel
theorem dJ5_append_66267_19 : decode cJ5_append_66267 19 = .ok (.aload_n 0, 1) := by decide +kernel
theorem dJ5_append_66267_20 : decode cJ5_append_66267 20 = .ok (.invokevirtual 83, 3) := by decide +kernel
theorem dJ5_append_66267_23 : decode cJ5_append_66267 23 = .ok (.ifCond .eq 17, 3) := by decide +kernel
theorem dJ5_append_66267_26 : decode cJ5_append_66267 26 = .ok (.lload_n 1, 1) := by decide +kernel
theorem dJ5_append_66267_27 : decode cJ5_append_66267 27 = .ok (.iload 4, 2) := by decide +kernel
theorem dJ5_append_66267_29 : decode cJ5_append_66267 29 = .ok (.aload_n 0, 1) := by decide +kernel
theorem dJ5_append_66267_30 : decode cJ5_append_66267 30 = .ok (.getfield 15, 3) := by decide +kernel
theorem dJ5_append_66267_33 : decode cJ5_append_66267 33 = .ok (.invokestatic 259, 3) := by decide +kernel
theorem dJ5_append_66267_36 : decode cJ5_append_66267 36 = .ok (.pop, 1) := by decide +kernel
theorem dJ5_append_66267_37 : decode cJ5_append_66267 37 = .ok (.goto 15, 3) := by decide +kernel
theorem dJ5_append_66267_40 : decode cJ5_append_66267 40 = .ok (.lload_n 1, 1) := by decide +kernel
theorem dJ5_append_66267_41 : decode cJ5_append_66267 41 = .ok (.iload_n 3, 1) := by decide +kernel
theorem dJ5_append_66267_42 : decode cJ5_append_66267 42 = .ok (.iload 4, 2) := by decide +kernel
theorem dJ5_append_66267_44 : decode cJ5_append_66267 44 = .ok (.aload_n 0, 1) := by decide +kernel
theorem dJ5_append_66267_45 : decode cJ5_append_66267 45 = .ok (.getfield 15, 3) := by decide +kernel
theorem dJ5_append_66267_48 : decode cJ5_append_66267 48 = .ok (.invokestatic 262, 3) := by decide +kernel
theorem dJ5_append_66267_51 : decode cJ5_append_66267 51 = .ok (.pop, 1) := by decide +kernel
theorem dJ5_append_66267_52 : decode cJ5_append_66267 52 = .ok (.aload_n 0, 1) := by decide +kernel
theorem dJ5_append_66267_53 : decode cJ5_append_66267 53 = .ok (.iload 4, 2) := by decide +kernel
theorem dJ5_append_66267_55 : decode cJ5_append_66267 55 = .ok (.putfield 79, 3) := by decide +kernel
theorem dJ5_append_66267_58 : decode cJ5_append_66267 58 = .ok (.aload_n 0, 1) := by decide +kernel
theorem dJ5_append_66267_59 : decode cJ5_append_66267 59 = .ok (.areturn, 1) := by decide +kernel
theorem dJ5_getValue_6d5f1_0 : decode cJ5_getValue_6d5f1 0 = .ok (.aload_n 0, 1) := by decide +kernel
theorem dJ5_getValue_6d5f1_1 : decode cJ5_getValue_6d5f1 1 = .ok (.getfield 15, 3) := by decide +kernel
theorem dJ5_getValue_6d5f1_4 : decode cJ5_getValue_6d5f1 4 = .ok (.areturn, 1) := by decide +kernel
theorem dJ13_getChars_11360_0 : decode cJ13_getChars_11360 0 = .ok (.iload_n 2, 1) := by decide +kernel
theorem dJ13_getChars_11360_1 : decode cJ13_getChars_11360 1 = .ok (.istore 7, 2) := by decide +kernel
theorem dJ13_getChars_11360_3 : decode cJ13_getChars_11360 3 = .ok (.lload_n 0, 1) := by decide +kernel
theorem dJ13_getChars_11360_4 : decode cJ13_getChars_11360 4 = .ok (.lconst 0, 1) := by decide +kernel
theorem dJ13_getChars_11360_5 : decode cJ13_getChars_11360 5 = .ok (.lcmp, 1) := by decide +kernel
theorem dJ13_getChars_11360_6 : decode cJ13_getChars_11360 6 = .ok (.ifCond .ge 7, 3) := by decide +kernel
theorem dJ13_getChars_11360_9 : decode cJ13_getChars_11360 9 = .ok (.iconst 1, 1) := by decide +kernel
theorem dJ13_getChars_11360_10 : decode cJ13_getChars_11360 10 = .ok (.goto 4, 3) := by decide +kernel
theorem dJ13_getChars_11360_13 : decode cJ13_getChars_11360 13 = .ok (.iconst 0, 1) := by decide +kernel
theorem dJ13_getChars_11360_14 : decode cJ13_getChars_11360 14 = .ok (.istore 8, 2) := by decide +kernel
theorem dJ13_getChars_11360_16 : decode cJ13_getChars_11360 16 = .ok (.iload 8, 2) := by decide +kernel
theorem dJ13_getChars_11360_18 : decode cJ13_getChars_11360 18 = .ok (.ifCond .ne 6, 3) := by decide +kernel
theorem dJ13_getChars_11360_21 : decode cJ13_getChars_11360 21 = .ok (.lload_n 0, 1) := by decide +kernel
theorem dJ13_getChars_11360_22 : decode cJ13_getChars_11360 22 = .ok (.lneg, 1) := by decide +kernel
theorem dJ13_getChars_11360_23 : decode cJ13_getChars_11360 23 = .ok (.lstore_n 0, 1) := by decide +kernel
theorem dJ13_getChars_11360_24 : decode cJ13_getChars_11360 24 = .ok (.lload_n 0, 1) := by decide +kernel
theorem dJ13_getChars_11360_25 : decode cJ13_getChars_11360 25 = .ok (.ldc2_w 129, 3) := by decide +kernel
theorem dJ13_getChars_11360_28 : decode cJ13_getChars_11360 28 = .ok (.lcmp, 1) := by decide +kernel
theorem dJ13_getChars_11360_29 : decode cJ13_getChars_11360 29 = .ok (.ifCond .gt 53, 3) := by decide +kernel
theorem dJ13_getChars_11360_32 : decode cJ13_getChars_11360 32 = .ok (.lload_n 0, 1) := by decide +kernel
theorem dJ13_getChars_11360_33 : decode cJ13_getChars_11360 33 = .ok (.ldc2_w 131, 3) := by decide +kernel
theorem dJ13_getChars_11360_36 : decode cJ13_getChars_11360 36 = .ok (.ldiv, 1) := by decide +kernel
theorem dJ13_getChars_11360_37 : decode cJ13_getChars_11360 37 = .ok (.lstore 4, 2) := by decide +kernel
theorem dJ13_getChars_11360_39 : decode cJ13_getChars_11360 39 = .ok (.lload 4, 2) := by decide +kernel
theorem dJ13_getChars_11360_41 : decode cJ13_getChars_11360 41 = .ok (.ldc2_w 131, 3) := by decide +kernel
theorem dJ13_getChars_11360_44 : decode cJ13_getChars_11360 44 = .ok (.lmul, 1) := by decide +kernel
theorem dJ13_getChars_11360_45 : decode cJ13_getChars_11360 45 = .ok (.lload_n 0, 1) := by decide +kernel
theorem dJ13_getChars_11360_46 : decode cJ13_getChars_11360 46 = .ok (.lsub, 1) := by decide +kernel
theorem dJ13_getChars_11360_47 : decode cJ13_getChars_11360 47 = .ok (.l2i, 1) := by decide +kernel
theorem dJ13_getChars_11360_48 : decode cJ13_getChars_11360 48 = .ok (.istore 6, 2) := by decide +kernel
theorem dJ13_getChars_11360_50 : decode cJ13_getChars_11360 50 = .ok (.lload 4, 2) := by decide +kernel
theorem dJ13_getChars_11360_52 : decode cJ13_getChars_11360 52 = .ok (.lstore_n 0, 1) := by decide +kernel
theorem dJ13_getChars_11360_53 : decode cJ13_getChars_11360 53 = .ok (.aload_n 3, 1) := by decide +kernel
theorem dJ13_getChars_11360_54 : decode cJ13_getChars_11360 54 = .ok (.iinc 7 (-1), 3) := by decide +kernel
theorem dJ13_getChars_11360_57 : decode cJ13_getChars_11360 57 = .ok (.iload 7, 2) := by decide +kernel
theorem dJ13_getChars_11360_59 : decode cJ13_getChars_11360 59 = .ok (.getstatic 133, 3) := by decide +kernel
theorem dJ13_getChars_11360_62 : decode cJ13_getChars_11360 62 = .ok (.iload 6, 2) := by decide +kernel
theorem dJ13_getChars_11360_64 : decode cJ13_getChars_11360 64 = .ok (.baload, 1) := by decide +kernel
theorem dJ13_getChars_11360_65 : decode cJ13_getChars_11360 65 = .ok (.bastore, 1) := by decide +kernel
theorem dJ13_getChars_11360_66 : decode cJ13_getChars_11360 66 = .ok (.aload_n 3, 1) := by decide +kernel
theorem dJ13_getChars_11360_67 : decode cJ13_getChars_11360 67 = .ok (.iinc 7 (-1), 3) := by decide +kernel
theorem dJ13_getChars_11360_70 : decode cJ13_getChars_11360 70 = .ok (.iload 7, 2) := by decide +kernel
theorem dJ13_getChars_11360_72 : decode cJ13_getChars_11360 72 = .ok (.getstatic 137, 3) := by decide +kernel
theorem dJ13_getChars_11360_75 : decode cJ13_getChars_11360 75 = .ok (.iload 6, 2) := by decide +kernel
theorem dJ13_getChars_11360_77 : decode cJ13_getChars_11360 77 = .ok (.baload, 1) := by decide +kernel
theorem dJ13_getChars_11360_78 : decode cJ13_getChars_11360 78 = .ok (.bastore, 1) := by decide +kernel
theorem dJ13_getChars_11360_79 : decode cJ13_getChars_11360 79 = .ok (.goto (-55), 3) := by decide +kernel
theorem dJ13_getChars_11360_82 : decode cJ13_getChars_11360 82 = .ok (.lload_n 0, 1) := by decide +kernel
theorem dJ13_getChars_11360_83 : decode cJ13_getChars_11360 83 = .ok (.l2i, 1) := by decide +kernel
theorem dJ13_getChars_11360_84 : decode cJ13_getChars_11360 84 = .ok (.istore 10, 2) := by decide +kernel
theorem dJ13_getChars_11360_86 : decode cJ13_getChars_11360 86 = .ok (.iload 10, 2) := by decide +kernel
theorem dJ13_getChars_11360_88 : decode cJ13_getChars_11360 88 = .ok (.bipush (-100), 2) := by decide +kernel
theorem dJ13_getChars_11360_90 : decode cJ13_getChars_11360 90 = .ok (.if_icmp .gt 53, 3) := by decide +kernel
theorem dJ13_getChars_11360_93 : decode cJ13_getChars_11360 93 = .ok (.iload 10, 2) := by decide +kernel
theorem dJ13_getChars_11360_95 : decode cJ13_getChars_11360 95 = .ok (.bipush 100, 2) := by decide +kernel
theorem dJ13_getChars_11360_97 : decode cJ13_getChars_11360 97 = .ok (.idiv, 1) := by decide +kernel
theorem dJ13_getChars_11360_98 : decode cJ13_getChars_11360 98 = .ok (.istore 9, 2) := by decide +kernel
theorem dJ13_getChars_11360_100 : decode cJ13_getChars_11360 100 = .ok (.iload 9, 2) := by decide +kernel
theorem dJ13_getChars_11360_102 : decode cJ13_getChars_11360 102 = .ok (.bipush 100, 2) := by decide +kernel
theorem dJ13_getChars_11360_104 : decode cJ13_getChars_11360 104 = .ok (.imul, 1) := by decide +kernel
theorem dJ13_getChars_11360_105 : decode cJ13_getChars_11360 105 = .ok (.iload 10, 2) := by decide +kernel
theorem dJ13_getChars_11360_107 : decode cJ13_getChars_11360 107 = .ok (.isub, 1) := by decide +kernel
theorem dJ13_getChars_11360_108 : decode cJ13_getChars_11360 108 = .ok (.istore 6, 2) := by decide +kernel
theorem dJ13_getChars_11360_110 : decode cJ13_getChars_11360 110 = .ok (.iload 9, 2) := by decide +kernel
theorem dJ13_getChars_11360_112 : decode cJ13_getChars_11360 112 = .ok (.istore 10, 2) := by decide +kernel
theorem dJ13_getChars_11360_114 : decode cJ13_getChars_11360 114 = .ok (.aload_n 3, 1) := by decide +kernel
theorem dJ13_getChars_11360_115 : decode cJ13_getChars_11360 115 = .ok (.iinc 7 (-1), 3) := by decide +kernel
theorem dJ13_getChars_11360_118 : decode cJ13_getChars_11360 118 = .ok (.iload 7, 2) := by decide +kernel
theorem dJ13_getChars_11360_120 : decode cJ13_getChars_11360 120 = .ok (.getstatic 133, 3) := by decide +kernel
theorem dJ13_getChars_11360_123 : decode cJ13_getChars_11360 123 = .ok (.iload 6, 2) := by decide +kernel
theorem dJ13_getChars_11360_125 : decode cJ13_getChars_11360 125 = .ok (.baload, 1) := by decide +kernel
theorem dJ13_getChars_11360_126 : decode cJ13_getChars_11360 126 = .ok (.bastore, 1) := by decide +kernel
theorem dJ13_getChars_11360_127 : decode cJ13_getChars_11360 127 = .ok (.aload_n 3, 1) := by decide +kernel
theorem dJ13_getChars_11360_128 : decode cJ13_getChars_11360 128 = .ok (.iinc 7 (-1), 3) := by decide +kernel
theorem dJ13_getChars_11360_131 : decode cJ13_getChars_11360 131 = .ok (.iload 7, 2) := by decide +kernel
theorem dJ13_getChars_11360_133 : decode cJ13_getChars_11360 133 = .ok (.getstatic 137, 3) := by decide +kernel
theorem dJ13_getChars_11360_136 : decode cJ13_getChars_11360 136 = .ok (.iload 6, 2) := by decide +kernel
theorem dJ13_getChars_11360_138 : decode cJ13_getChars_11360 138 = .ok (.baload, 1) := by decide +kernel
theorem dJ13_getChars_11360_139 : decode cJ13_getChars_11360 139 = .ok (.bastore, 1) := by decide +kernel
theorem dJ13_getChars_11360_140 : decode cJ13_getChars_11360 140 = .ok (.goto (-54), 3) := by decide +kernel
theorem dJ13_getChars_11360_143 : decode cJ13_getChars_11360 143 = .ok (.aload_n 3, 1) := by decide +kernel
theorem dJ13_getChars_11360_144 : decode cJ13_getChars_11360 144 = .ok (.iinc 7 (-1), 3) := by decide +kernel
theorem dJ13_getChars_11360_147 : decode cJ13_getChars_11360 147 = .ok (.iload 7, 2) := by decide +kernel
theorem dJ13_getChars_11360_149 : decode cJ13_getChars_11360 149 = .ok (.getstatic 133, 3) := by decide +kernel
theorem dJ13_getChars_11360_152 : decode cJ13_getChars_11360 152 = .ok (.iload 10, 2) := by decide +kernel
theorem dJ13_getChars_11360_154 : decode cJ13_getChars_11360 154 = .ok (.ineg, 1) := by decide +kernel
theorem dJ13_getChars_11360_155 : decode cJ13_getChars_11360 155 = .ok (.baload, 1) := by decide +kernel
theorem dJ13_getChars_11360_156 : decode cJ13_getChars_11360 156 = .ok (.bastore, 1) := by decide +kernel
theorem dJ13_getChars_11360_157 : decode cJ13_getChars_11360 157 = .ok (.iload 10, 2) := by decide +kernel
theorem dJ13_getChars_11360_159 : decode cJ13_getChars_11360 159 = .ok (.bipush (-9), 2) := by decide +kernel
theorem dJ13_getChars_11360_161 : decode cJ13_getChars_11360 161 = .ok (.if_icmp .ge 17, 3) := by decide +kernel
theorem dJ13_getChars_11360_164 : decode cJ13_getChars_11360 164 = .ok (.aload_n 3, 1) := by decide +kernel
theorem dJ13_getChars_11360_165 : decode cJ13_getChars_11360 165 = .ok (.iinc 7 (-1), 3) := by decide +kernel
theorem dJ13_getChars_11360_168 : decode cJ13_getChars_11360 168 = .ok (.iload 7, 2) := by decide +kernel
theorem dJ13_getChars_11360_170 : decode cJ13_getChars_11360 170 = .ok (.getstatic 137, 3) := by decide +kernel
theorem dJ13_getChars_11360_173 : decode cJ13_getChars_11360 173 = .ok (.iload 10, 2) := by decide +kernel
theorem dJ13_getChars_11360_175 : decode cJ13_getChars_11360 175 = .ok (.ineg, 1) := by decide +kernel
theorem dJ13_getChars_11360_176 : decode cJ13_getChars_11360 176 = .ok (.baload, 1) := by decide +kernel
theorem dJ13_getChars_11360_177 : decode cJ13_getChars_11360 177 = .ok (.bastore, 1) := by decide +kernel
theorem dJ13_getChars_11360_178 : decode cJ13_getChars_11360 178 = .ok (.iload 8, 2) := by decide +kernel
theorem dJ13_getChars_11360_180 : decode cJ13_getChars_11360 180 = .ok (.ifCond .eq 12, 3) := by decide +kernel
theorem dJ13_getChars_11360_183 : decode cJ13_getChars_11360 183 = .ok (.aload_n 3, 1) := by decide +kernel
theorem dJ13_getChars_11360_184 : decode cJ13_getChars_11360 184 = .ok (.iinc 7 (-1), 3) := by decide +kernel
theorem dJ13_getChars_11360_187 : decode cJ13_getChars_11360 187 = .ok (.iload 7, 2) := by decide +kernel
theorem dJ13_getChars_11360_189 : decode cJ13_getChars_11360 189 = .ok (.bipush 45, 2) := by decide +kernel
theorem dJ13_getChars_11360_191 : decode cJ13_getChars_11360 191 = .ok (.bastore, 1) := by decide +kernel
theorem dJ13_getChars_11360_192 : decode cJ13_getChars_11360 192 = .ok (.iload 7, 2) := by decide +kernel
theorem dJ13_getChars_11360_194 : decode cJ13_getChars_11360 194 = .ok (.ireturn, 1) := by decide +kernel
theorem dJ13_stringSize_95d88_0 : decode cJ13_stringSize_95d88 0 = .ok (.iconst 1, 1) := by decide +kernel
theorem dJ13_stringSize_95d88_1 : decode cJ13_stringSize_95d88 1 = .ok (.istore_n 2, 1) := by decide +kernel
theorem dJ13_stringSize_95d88_2 : decode cJ13_stringSize_95d88 2 = .ok (.lload_n 0, 1) := by decide +kernel
theorem dJ13_stringSize_95d88_3 : decode cJ13_stringSize_95d88 3 = .ok (.lconst 0, 1) := by decide +kernel
theorem dJ13_stringSize_95d88_4 : decode cJ13_stringSize_95d88 4 = .ok (.lcmp, 1) := by decide +kernel
theorem dJ13_stringSize_95d88_5 : decode cJ13_stringSize_95d88 5 = .ok (.ifCond .lt 8, 3) := by decide +kernel
theorem dJ13_stringSize_95d88_8 : decode cJ13_stringSize_95d88 8 = .ok (.iconst 0, 1) := by decide +kernel
theorem dJ13_stringSize_95d88_9 : decode cJ13_stringSize_95d88 9 = .ok (.istore_n 2, 1) := by decide +kernel
theorem dJ13_stringSize_95d88_10 : decode cJ13_stringSize_95d88 10 = .ok (.lload_n 0, 1) := by decide +kernel
theorem dJ13_stringSize_95d88_11 : decode cJ13_stringSize_95d88 11 = .ok (.lneg, 1) := by decide +kernel
theorem dJ13_stringSize_95d88_12 : decode cJ13_stringSize_95d88 12 = .ok (.lstore_n 0, 1) := by decide +kernel
theorem dJ13_stringSize_95d88_13 : decode cJ13_stringSize_95d88 13 = .ok (.ldc2_w 140, 3) := by decide +kernel
theorem dJ13_stringSize_95d88_16 : decode cJ13_stringSize_95d88 16 = .ok (.lstore_n 3, 1) := by decide +kernel
theorem dJ13_stringSize_95d88_17 : decode cJ13_stringSize_95d88 17 = .ok (.iconst 1, 1) := by decide +kernel
theorem dJ13_stringSize_95d88_18 : decode cJ13_stringSize_95d88 18 = .ok (.istore 5, 2) := by decide +kernel
theorem dJ13_stringSize_95d88_20 : decode cJ13_stringSize_95d88 20 = .ok (.iload 5, 2) := by decide +kernel
theorem dJ13_stringSize_95d88_22 : decode cJ13_stringSize_95d88 22 = .ok (.bipush 19, 2) := by decide +kernel
theorem dJ13_stringSize_95d88_24 : decode cJ13_stringSize_95d88 24 = .ok (.if_icmp .ge 26, 3) := by decide +kernel
theorem dJ13_stringSize_95d88_27 : decode cJ13_stringSize_95d88 27 = .ok (.lload_n 0, 1) := by decide +kernel
theorem dJ13_stringSize_95d88_28 : decode cJ13_stringSize_95d88 28 = .ok (.lload_n 3, 1) := by decide +kernel
theorem dJ13_stringSize_95d88_29 : decode cJ13_stringSize_95d88 29 = .ok (.lcmp, 1) := by decide +kernel
theorem dJ13_stringSize_95d88_30 : decode cJ13_stringSize_95d88 30 = .ok (.ifCond .le 8, 3) := by decide +kernel
theorem dJ13_stringSize_95d88_33 : decode cJ13_stringSize_95d88 33 = .ok (.iload 5, 2) := by decide +kernel
theorem dJ13_stringSize_95d88_35 : decode cJ13_stringSize_95d88 35 = .ok (.iload_n 2, 1) := by decide +kernel
theorem dJ13_stringSize_95d88_36 : decode cJ13_stringSize_95d88 36 = .ok (.iadd, 1) := by decide +kernel
theorem dJ13_stringSize_95d88_37 : decode cJ13_stringSize_95d88 37 = .ok (.ireturn, 1) := by decide +kernel
theorem dJ13_stringSize_95d88_38 : decode cJ13_stringSize_95d88 38 = .ok (.ldc2_w 53, 3) := by decide +kernel
theorem dJ13_stringSize_95d88_41 : decode cJ13_stringSize_95d88 41 = .ok (.lload_n 3, 1) := by decide +kernel
theorem dJ13_stringSize_95d88_42 : decode cJ13_stringSize_95d88 42 = .ok (.lmul, 1) := by decide +kernel
theorem dJ13_stringSize_95d88_43 : decode cJ13_stringSize_95d88 43 = .ok (.lstore_n 3, 1) := by decide +kernel
theorem dJ13_stringSize_95d88_44 : decode cJ13_stringSize_95d88 44 = .ok (.iinc 5 1, 3) := by decide +kernel
theorem dJ13_stringSize_95d88_47 : decode cJ13_stringSize_95d88 47 = .ok (.goto (-27), 3) := by decide +kernel
theorem dJ13_stringSize_95d88_50 : decode cJ13_stringSize_95d88 50 = .ok (.bipush 19, 2) := by decide +kernel
theorem dJ13_stringSize_95d88_52 : decode cJ13_stringSize_95d88 52 = .ok (.iload_n 2, 1) := by decide +kernel
theorem dJ13_stringSize_95d88_53 : decode cJ13_stringSize_95d88 53 = .ok (.iadd, 1) := by decide +kernel
theorem dJ13_stringSize_95d88_54 : decode cJ13_stringSize_95d88 54 = .ok (.ireturn, 1) := by decide +kernel
theorem dJ0_init_81219_0 : decode cJ0_init_81219 0 = .ok (.aload_n 0, 1) := by decide +kernel
theorem dJ0_init_81219_1 : decode cJ0_init_81219 1 = .ok (.aload_n 1, 1) := by decide +kernel
theorem dJ0_init_81219_2 : decode cJ0_init_81219 2 = .ok (.aconst_null, 1) := by decide +kernel
theorem dJ0_init_81219_3 : decode cJ0_init_81219 3 = .ok (.invokespecial 489, 3) := by decide +kernel
theorem dJ0_init_81219_6 : decode cJ0_init_81219 6 = .ok (.return_, 1) := by decide +kernel
theorem dJ0_equals_9ea2d_0 : decode cJ0_equals_9ea2d 0 = .ok (.aload_n 0, 1) := by decide +kernel
theorem dJ0_equals_9ea2d_1 : decode cJ0_equals_9ea2d 1 = .ok (.aload_n 1, 1) := by decide +kernel
theorem dJ0_equals_9ea2d_2 : decode cJ0_equals_9ea2d 2 = .ok (.if_acmp .ne 5, 3) := by decide +kernel
theorem dJ0_equals_9ea2d_5 : decode cJ0_equals_9ea2d 5 = .ok (.iconst 1, 1) := by decide +kernel
theorem dJ0_equals_9ea2d_6 : decode cJ0_equals_9ea2d 6 = .ok (.ireturn, 1) := by decide +kernel
theorem dJ0_equals_9ea2d_7 : decode cJ0_equals_9ea2d 7 = .ok (.aload_n 1, 1) := by decide +kernel
theorem dJ0_equals_9ea2d_8 : decode cJ0_equals_9ea2d 8 = .ok (.instanceof 10, 3) := by decide +kernel
theorem dJ0_equals_9ea2d_11 : decode cJ0_equals_9ea2d 11 = .ok (.ifCond .eq 43, 3) := by decide +kernel
theorem dJ0_equals_9ea2d_14 : decode cJ0_equals_9ea2d 14 = .ok (.aload_n 1, 1) := by decide +kernel
theorem dJ0_equals_9ea2d_15 : decode cJ0_equals_9ea2d 15 = .ok (.checkcast 10, 3) := by decide +kernel
theorem dJ0_equals_9ea2d_18 : decode cJ0_equals_9ea2d 18 = .ok (.astore_n 2, 1) := by decide +kernel
theorem dJ0_equals_9ea2d_19 : decode cJ0_equals_9ea2d 19 = .ok (.getstatic 38, 3) := by decide +kernel
theorem dJ0_equals_9ea2d_22 : decode cJ0_equals_9ea2d 22 = .ok (.ifCond .eq 14, 3) := by decide +kernel
theorem dJ0_equals_9ea2d_25 : decode cJ0_equals_9ea2d 25 = .ok (.aload_n 0, 1) := by decide +kernel
theorem dJ0_equals_9ea2d_26 : decode cJ0_equals_9ea2d 26 = .ok (.getfield 15, 3) := by decide +kernel
theorem dJ0_equals_9ea2d_29 : decode cJ0_equals_9ea2d 29 = .ok (.aload_n 2, 1) := by decide +kernel
theorem dJ0_equals_9ea2d_30 : decode cJ0_equals_9ea2d 30 = .ok (.getfield 15, 3) := by decide +kernel
theorem dJ0_equals_9ea2d_33 : decode cJ0_equals_9ea2d 33 = .ok (.if_icmp .ne 21, 3) := by decide +kernel
theorem dJ0_equals_9ea2d_36 : decode cJ0_equals_9ea2d 36 = .ok (.aload_n 0, 1) := by decide +kernel
theorem dJ0_equals_9ea2d_37 : decode cJ0_equals_9ea2d 37 = .ok (.getfield 9, 3) := by decide +kernel
theorem dJ0_equals_9ea2d_40 : decode cJ0_equals_9ea2d 40 = .ok (.aload_n 2, 1) := by decide +kernel
theorem dJ0_equals_9ea2d_41 : decode cJ0_equals_9ea2d 41 = .ok (.getfield 9, 3) := by decide +kernel
theorem dJ0_equals_9ea2d_44 : decode cJ0_equals_9ea2d 44 = .ok (.invokestatic 541, 3) := by decide +kernel
theorem dJ0_equals_9ea2d_47 : decode cJ0_equals_9ea2d 47 = .ok (.ifCond .eq 7, 3) := by decide +kernel
theorem dJ0_equals_9ea2d_50 : decode cJ0_equals_9ea2d 50 = .ok (.iconst 1, 1) := by decide +kernel
theorem dJ0_equals_9ea2d_51 : decode cJ0_equals_9ea2d 51 = .ok (.goto 4, 3) := by decide +kernel
theorem dJ0_equals_9ea2d_54 : decode cJ0_equals_9ea2d 54 = .ok (.iconst 0, 1) := by decide +kernel
theorem dJ0_equals_9ea2d_55 : decode cJ0_equals_9ea2d 55 = .ok (.ireturn, 1) := by decide +kernel
theorem dJ0_init_db425_0 : decode cJ0_init_db425 0 = .ok (.aload_n 0, 1) := by decide +kernel
theorem dJ0_init_db425_1 : decode cJ0_init_db425 1 = .ok (.invokespecial 1, 3) := by decide +kernel
theorem dJ0_init_db425_4 : decode cJ0_init_db425 4 = .ok (.aload_n 1, 1) := by decide +kernel
theorem dJ0_init_db425_5 : decode cJ0_init_db425 5 = .ok (.invokevirtual 552, 3) := by decide +kernel
theorem dJ0_init_db425_8 : decode cJ0_init_db425 8 = .ok (.astore_n 3, 1) := by decide +kernel
theorem dJ0_init_db425_9 : decode cJ0_init_db425 9 = .ok (.aload_n 1, 1) := by decide +kernel
theorem dJ0_init_db425_10 : decode cJ0_init_db425 10 = .ok (.invokevirtual 549, 3) := by decide +kernel
theorem dJ0_init_db425_13 : decode cJ0_init_db425 13 = .ok (.istore 4, 2) := by decide +kernel
theorem dJ0_init_db425_15 : decode cJ0_init_db425 15 = .ok (.aload_n 1, 1) := by decide +kernel
theorem dJ0_init_db425_16 : decode cJ0_init_db425 16 = .ok (.invokevirtual 1047, 3) := by decide +kernel
theorem dJ0_init_db425_19 : decode cJ0_init_db425 19 = .ok (.ifCond .eq 22, 3) := by decide +kernel
theorem dJ0_init_db425_22 : decode cJ0_init_db425 22 = .ok (.aload_n 0, 1) := by decide +kernel
theorem dJ0_init_db425_23 : decode cJ0_init_db425 23 = .ok (.iconst 0, 1) := by decide +kernel
theorem dJ0_init_db425_24 : decode cJ0_init_db425 24 = .ok (.putfield 15, 3) := by decide +kernel
theorem dJ0_init_db425_27 : decode cJ0_init_db425 27 = .ok (.aload_n 0, 1) := by decide +kernel
theorem dJ0_init_db425_28 : decode cJ0_init_db425 28 = .ok (.aload_n 3, 1) := by decide +kernel
theorem dJ0_init_db425_29 : decode cJ0_init_db425 29 = .ok (.iconst 0, 1) := by decide +kernel
theorem dJ0_init_db425_30 : decode cJ0_init_db425 30 = .ok (.iload 4, 2) := by decide +kernel
theorem dJ0_init_db425_32 : decode cJ0_init_db425 32 = .ok (.invokestatic 54, 3) := by decide +kernel
theorem dJ0_init_db425_35 : decode cJ0_init_db425 35 = .ok (.putfield 9, 3) := by decide +kernel
theorem dJ0_init_db425_38 : decode cJ0_init_db425 38 = .ok (.goto 59, 3) := by decide +kernel
theorem dJ0_init_db425_41 : decode cJ0_init_db425 41 = .ok (.getstatic 38, 3) := by decide +kernel
theorem dJ0_init_db425_44 : decode cJ0_init_db425 44 = .ok (.ifCond .eq 35, 3) := by decide +kernel
theorem dJ0_init_db425_47 : decode cJ0_init_db425 47 = .ok (.aload_n 1, 1) := by decide +kernel
theorem dJ0_init_db425_48 : decode cJ0_init_db425 48 = .ok (.getfield 1048, 3) := by decide +kernel
theorem dJ0_init_db425_51 : decode cJ0_init_db425 51 = .ok (.ifCond .eq 28, 3) := by decide +kernel
theorem dJ0_init_db425_54 : decode cJ0_init_db425 54 = .ok (.aload_n 0, 1) := by decide +kernel
theorem dJ0_init_db425_55 : decode cJ0_init_db425 55 = .ok (.aload_n 3, 1) := by decide +kernel
theorem dJ0_init_db425_56 : decode cJ0_init_db425 56 = .ok (.iconst 0, 1) := by decide +kernel
theorem dJ0_init_db425_57 : decode cJ0_init_db425 57 = .ok (.iload 4, 2) := by decide +kernel
theorem dJ0_init_db425_59 : decode cJ0_init_db425 59 = .ok (.invokestatic 1051, 3) := by decide +kernel
theorem dJ0_init_db425_62 : decode cJ0_init_db425 62 = .ok (.putfield 9, 3) := by decide +kernel
theorem dJ0_init_db425_65 : decode cJ0_init_db425 65 = .ok (.aload_n 0, 1) := by decide +kernel
theorem dJ0_init_db425_66 : decode cJ0_init_db425 66 = .ok (.aload_n 0, 1) := by decide +kernel
theorem dJ0_init_db425_67 : decode cJ0_init_db425 67 = .ok (.getfield 9, 3) := by decide +kernel
theorem dJ0_init_db425_70 : decode cJ0_init_db425 70 = .ok (.iload 4, 2) := by decide +kernel
theorem dJ0_init_db425_72 : decode cJ0_init_db425 72 = .ok (.invokestatic 47, 3) := by decide +kernel
theorem dJ0_init_db425_75 : decode cJ0_init_db425 75 = .ok (.putfield 15, 3) := by decide +kernel
theorem dJ0_init_db425_78 : decode cJ0_init_db425 78 = .ok (.return_, 1) := by decide +kernel
theorem dJ0_init_db425_79 : decode cJ0_init_db425 79 = .ok (.aload_n 0, 1) := by decide +kernel
theorem dJ0_init_db425_80 : decode cJ0_init_db425 80 = .ok (.iconst 1, 1) := by decide +kernel
theorem dJ0_init_db425_81 : decode cJ0_init_db425 81 = .ok (.putfield 15, 3) := by decide +kernel
theorem dJ0_init_db425_84 : decode cJ0_init_db425 84 = .ok (.aload_n 0, 1) := by decide +kernel
theorem dJ0_init_db425_85 : decode cJ0_init_db425 85 = .ok (.aload_n 3, 1) := by decide +kernel
theorem dJ0_init_db425_86 : decode cJ0_init_db425 86 = .ok (.iconst 0, 1) := by decide +kernel
theorem dJ0_init_db425_87 : decode cJ0_init_db425 87 = .ok (.iload 4, 2) := by decide +kernel
theorem dJ0_init_db425_89 : decode cJ0_init_db425 89 = .ok (.iconst 1, 1) := by decide +kernel
theorem dJ0_init_db425_90 : decode cJ0_init_db425 90 = .ok (.ishl, 1) := by decide +kernel
theorem dJ0_init_db425_91 : decode cJ0_init_db425 91 = .ok (.invokestatic 54, 3) := by decide +kernel
theorem dJ0_init_db425_94 : decode cJ0_init_db425 94 = .ok (.putfield 9, 3) := by decide +kernel
theorem dJ0_init_db425_97 : decode cJ0_init_db425 97 = .ok (.return_, 1) := by decide +kernel
theorem dJ4_init_a7421_0 : decode cJ4_init_a7421 0 = .ok (.aload_n 0, 1) := by decide +kernel
theorem dJ4_init_a7421_1 : decode cJ4_init_a7421 1 = .ok (.aload_n 1, 1) := by decide +kernel
theorem dJ4_init_a7421_2 : decode cJ4_init_a7421 2 = .ok (.invokespecial 7, 3) := by decide +kernel
theorem dJ4_init_a7421_5 : decode cJ4_init_a7421 5 = .ok (.return_, 1) := by decide +kernel
theorem dJ4_append_f7089_0 : decode cJ4_append_f7089 0 = .ok (.aload_n 0, 1) := by decide +kernel
theorem dJ4_append_f7089_1 : decode cJ4_append_f7089 1 = .ok (.lload_n 1, 1) := by decide +kernel
theorem dJ4_append_f7089_2 : decode cJ4_append_f7089 2 = .ok (.invokespecial 56, 3) := by decide +kernel
theorem dJ4_append_f7089_5 : decode cJ4_append_f7089 5 = .ok (.pop, 1) := by decide +kernel
theorem dJ4_append_f7089_6 : decode cJ4_append_f7089 6 = .ok (.aload_n 0, 1) := by decide +kernel
theorem dJ4_append_f7089_7 : decode cJ4_append_f7089 7 = .ok (.areturn, 1) := by decide +kernel
theorem dJ4_toString_0e30d_0 : decode cJ4_toString_0e30d 0 = .ok (.new 18, 3) := by decide +kernel
theorem dJ4_toString_0e30d_3 : decode cJ4_toString_0e30d 3 = .ok (.dup, 1) := by decide +kernel
theorem dJ4_toString_0e30d_4 : decode cJ4_toString_0e30d 4 = .ok (.aload_n 0, 1) := by decide +kernel
theorem dJ4_toString_0e30d_5 : decode cJ4_toString_0e30d 5 = .ok (.invokespecial 137, 3) := by decide +kernel
theorem dJ4_toString_0e30d_8 : decode cJ4_toString_0e30d 8 = .ok (.areturn, 1) := by decide +kernel
theorem dJ4_append_cf1ce_0 : decode cJ4_append_cf1ce 0 = .ok (.aload_n 0, 1) := by decide +kernel
theorem dJ4_append_cf1ce_1 : decode cJ4_append_cf1ce 1 = .ok (.aload_n 1, 1) := by decide +kernel
theorem dJ4_append_cf1ce_2 : decode cJ4_append_cf1ce 2 = .ok (.invokevirtual 23, 3) := by decide +kernel
theorem dJ4_append_cf1ce_5 : decode cJ4_append_cf1ce 5 = .ok (.areturn, 1) := by decide +kernel
theorem dJ1_equals_b5fdf_0 : decode cJ1_equals_b5fdf 0 = .ok (.aload_n 0, 1) := by decide +kernel
theorem dJ1_equals_b5fdf_1 : decode cJ1_equals_b5fdf 1 = .ok (.arraylength, 1) := by decide +kernel
theorem dJ1_equals_b5fdf_2 : decode cJ1_equals_b5fdf 2 = .ok (.aload_n 1, 1) := by decide +kernel
theorem dJ1_equals_b5fdf_3 : decode cJ1_equals_b5fdf 3 = .ok (.arraylength, 1) := by decide +kernel
theorem dJ1_equals_b5fdf_4 : decode cJ1_equals_b5fdf 4 = .ok (.if_icmp .ne 30, 3) := by decide +kernel
theorem dJ1_equals_b5fdf_7 : decode cJ1_equals_b5fdf 7 = .ok (.iconst 0, 1) := by decide +kernel
theorem dJ1_equals_b5fdf_8 : decode cJ1_equals_b5fdf 8 = .ok (.istore_n 2, 1) := by decide +kernel
theorem dJ1_equals_b5fdf_9 : decode cJ1_equals_b5fdf 9 = .ok (.iload_n 2, 1) := by decide +kernel
theorem dJ1_equals_b5fdf_10 : decode cJ1_equals_b5fdf 10 = .ok (.aload_n 0, 1) := by decide +kernel
theorem dJ1_equals_b5fdf_11 : decode cJ1_equals_b5fdf 11 = .ok (.arraylength, 1) := by decide +kernel
theorem dJ1_equals_b5fdf_12 : decode cJ1_equals_b5fdf 12 = .ok (.if_icmp .ge 20, 3) := by decide +kernel
theorem dJ1_equals_b5fdf_15 : decode cJ1_equals_b5fdf 15 = .ok (.aload_n 0, 1) := by decide +kernel
theorem dJ1_equals_b5fdf_16 : decode cJ1_equals_b5fdf 16 = .ok (.iload_n 2, 1) := by decide +kernel
theorem dJ1_equals_b5fdf_17 : decode cJ1_equals_b5fdf 17 = .ok (.baload, 1) := by decide +kernel
theorem dJ1_equals_b5fdf_18 : decode cJ1_equals_b5fdf 18 = .ok (.aload_n 1, 1) := by decide +kernel
theorem dJ1_equals_b5fdf_19 : decode cJ1_equals_b5fdf 19 = .ok (.iload_n 2, 1) := by decide +kernel
theorem dJ1_equals_b5fdf_20 : decode cJ1_equals_b5fdf 20 = .ok (.baload, 1) := by decide +kernel
theorem dJ1_equals_b5fdf_21 : decode cJ1_equals_b5fdf 21 = .ok (.if_icmp .eq 5, 3) := by decide +kernel
theorem dJ1_equals_b5fdf_24 : decode cJ1_equals_b5fdf 24 = .ok (.iconst 0, 1) := by decide +kernel
theorem dJ1_equals_b5fdf_25 : decode cJ1_equals_b5fdf 25 = .ok (.ireturn, 1) := by decide +kernel
theorem dJ1_equals_b5fdf_26 : decode cJ1_equals_b5fdf 26 = .ok (.iinc 2 1, 3) := by decide +kernel
theorem dJ1_equals_b5fdf_29 : decode cJ1_equals_b5fdf 29 = .ok (.goto (-20), 3) := by decide +kernel
theorem dJ1_equals_b5fdf_32 : decode cJ1_equals_b5fdf 32 = .ok (.iconst 1, 1) := by decide +kernel
theorem dJ1_equals_b5fdf_33 : decode cJ1_equals_b5fdf 33 = .ok (.ireturn, 1) := by decide +kernel
theorem dJ1_equals_b5fdf_34 : decode cJ1_equals_b5fdf 34 = .ok (.iconst 0, 1) := by decide +kernel
theorem dJ1_equals_b5fdf_35 : decode cJ1_equals_b5fdf 35 = .ok (.ireturn, 1) := by decide +kernel
theorem dJ7_checkLength_df160_0 : decode cJ7_checkLength_df160 0 = .ok (.iload_n 1, 1) := by decide +kernel
theorem dJ7_checkLength_df160_1 : decode cJ7_checkLength_df160 1 = .ok (.iload_n 0, 1) := by decide +kernel
theorem dJ7_checkLength_df160_2 : decode cJ7_checkLength_df160 2 = .ok (.if_icmp .ge 35, 3) := by decide +kernel
theorem dJ7_checkLength_df160_5 : decode cJ7_checkLength_df160 5 = .ok (.new 43, 3) := by decide +kernel
theorem dJ7_checkLength_df160_8 : decode cJ7_checkLength_df160 8 = .ok (.dup, 1) := by decide +kernel
theorem dJ7_checkLength_df160_9 : decode cJ7_checkLength_df160 9 = .ok (.new 45, 3) := by decide +kernel
theorem dJ7_checkLength_df160_12 : decode cJ7_checkLength_df160 12 = .ok (.dup, 1) := by decide +kernel
theorem dJ7_checkLength_df160_13 : decode cJ7_checkLength_df160 13 = .ok (.invokespecial 47, 3) := by decide +kernel
theorem dJ7_checkLength_df160_16 : decode cJ7_checkLength_df160 16 = .ok (.iload_n 0, 1) := by decide +kernel
theorem dJ7_checkLength_df160_17 : decode cJ7_checkLength_df160 17 = .ok (.invokevirtual 54, 3) := by decide +kernel
theorem dJ7_checkLength_df160_20 : decode cJ7_checkLength_df160 20 = .ok (.ldc_w 337, 3) := by decide +kernel
theorem dJ7_checkLength_df160_23 : decode cJ7_checkLength_df160 23 = .ok (.invokevirtual 50, 3) := by decide +kernel
theorem dJ7_checkLength_df160_26 : decode cJ7_checkLength_df160 26 = .ok (.iload_n 1, 1) := by decide +kernel
theorem dJ7_checkLength_df160_27 : decode cJ7_checkLength_df160 27 = .ok (.invokevirtual 54, 3) := by decide +kernel
theorem dJ7_checkLength_df160_30 : decode cJ7_checkLength_df160 30 = .ok (.invokevirtual 61, 3) := by decide +kernel
theorem dJ7_checkLength_df160_33 : decode cJ7_checkLength_df160 33 = .ok (.invokespecial 65, 3) := by decide +kernel
theorem dJ7_checkLength_df160_36 : decode cJ7_checkLength_df160 36 = .ok (.athrow, 1) := by decide +kernel
theorem dJ7_checkLength_df160_37 : decode cJ7_checkLength_df160 37 = .ok (.return_, 1) := by decide +kernel
theorem dJ7_copyOfRange_39247_0 : decode cJ7_copyOfRange_39247 0 = .ok (.iload_n 1, 1) := by decide +kernel
theorem dJ7_copyOfRange_39247_1 : decode cJ7_copyOfRange_39247 1 = .ok (.ifCond .ne 9, 3) := by decide +kernel
theorem dJ7_copyOfRange_39247_4 : decode cJ7_copyOfRange_39247 4 = .ok (.iload_n 2, 1) := by decide +kernel
theorem dJ7_copyOfRange_39247_5 : decode cJ7_copyOfRange_39247 5 = .ok (.aload_n 0, 1) := by decide +kernel
theorem dJ7_copyOfRange_39247_6 : decode cJ7_copyOfRange_39247 6 = .ok (.arraylength, 1) := by decide +kernel
theorem dJ7_copyOfRange_39247_7 : decode cJ7_copyOfRange_39247 7 = .ok (.if_icmp .eq 10, 3) := by decide +kernel
theorem dJ7_copyOfRange_39247_10 : decode cJ7_copyOfRange_39247 10 = .ok (.aload_n 0, 1) := by decide +kernel
theorem dJ7_copyOfRange_39247_11 : decode cJ7_copyOfRange_39247 11 = .ok (.iload_n 1, 1) := by decide +kernel
theorem dJ7_copyOfRange_39247_12 : decode cJ7_copyOfRange_39247 12 = .ok (.iload_n 2, 1) := by decide +kernel
theorem dJ7_copyOfRange_39247_13 : decode cJ7_copyOfRange_39247 13 = .ok (.invokestatic 339, 3) := by decide +kernel
theorem dJ7_copyOfRange_39247_16 : decode cJ7_copyOfRange_39247 16 = .ok (.areturn, 1) := by decide +kernel
theorem dJ7_copyOfRange_39247_17 : decode cJ7_copyOfRange_39247 17 = .ok (.aload_n 0, 1) := by decide +kernel
theorem dJ7_copyOfRange_39247_18 : decode cJ7_copyOfRange_39247 18 = .ok (.invokevirtual 310, 3) := by decide +kernel
theorem dJ7_copyOfRange_39247_21 : decode cJ7_copyOfRange_39247 21 = .ok (.checkcast 311, 3) := by decide +kernel
theorem dJ7_copyOfRange_39247_24 : decode cJ7_copyOfRange_39247 24 = .ok (.areturn, 1) := by decide +kernel
theorem dJ7_copyOfRangeByte_39247_0 : decode cJ7_copyOfRangeByte_39247 0 = .ok (.iload_n 1, 1) := by decide +kernel
theorem dJ7_copyOfRangeByte_39247_1 : decode cJ7_copyOfRangeByte_39247 1 = .ok (.iload_n 2, 1) := by decide +kernel
theorem dJ7_copyOfRangeByte_39247_2 : decode cJ7_copyOfRangeByte_39247 2 = .ok (.invokestatic 343, 3) := by decide +kernel
theorem dJ7_copyOfRangeByte_39247_5 : decode cJ7_copyOfRangeByte_39247 5 = .ok (.iload_n 2, 1) := by decide +kernel
theorem dJ7_copyOfRangeByte_39247_6 : decode cJ7_copyOfRangeByte_39247 6 = .ok (.iload_n 1, 1) := by decide +kernel
theorem dJ7_copyOfRangeByte_39247_7 : decode cJ7_copyOfRangeByte_39247 7 = .ok (.isub, 1) := by decide +kernel
theorem dJ7_copyOfRangeByte_39247_8 : decode cJ7_copyOfRangeByte_39247 8 = .ok (.istore_n 3, 1) := by decide +kernel
theorem dJ7_copyOfRangeByte_39247_9 : decode cJ7_copyOfRangeByte_39247 9 = .ok (.iload_n 3, 1) := by decide +kernel
theorem dJ7_copyOfRangeByte_39247_10 : decode cJ7_copyOfRangeByte_39247 10 = .ok (.newarray .byte, 2) := by decide +kernel
theorem dJ7_copyOfRangeByte_39247_12 : decode cJ7_copyOfRangeByte_39247 12 = .ok (.astore 4, 2) := by decide +kernel
theorem dJ7_copyOfRangeByte_39247_14 : decode cJ7_copyOfRangeByte_39247 14 = .ok (.aload_n 0, 1) := by decide +kernel
theorem dJ7_copyOfRangeByte_39247_15 : decode cJ7_copyOfRangeByte_39247 15 = .ok (.iload_n 1, 1) := by decide +kernel
theorem dJ7_copyOfRangeByte_39247_16 : decode cJ7_copyOfRangeByte_39247 16 = .ok (.aload 4, 2) := by decide +kernel
theorem dJ7_copyOfRangeByte_39247_18 : decode cJ7_copyOfRangeByte_39247 18 = .ok (.iconst 0, 1) := by decide +kernel
theorem dJ7_copyOfRangeByte_39247_19 : decode cJ7_copyOfRangeByte_39247 19 = .ok (.aload_n 0, 1) := by decide +kernel
theorem dJ7_copyOfRangeByte_39247_20 : decode cJ7_copyOfRangeByte_39247 20 = .ok (.arraylength, 1) := by decide +kernel
theorem dJ7_copyOfRangeByte_39247_21 : decode cJ7_copyOfRangeByte_39247 21 = .ok (.iload_n 1, 1) := by decide +kernel
theorem dJ7_copyOfRangeByte_39247_22 : decode cJ7_copyOfRangeByte_39247 22 = .ok (.isub, 1) := by decide +kernel
theorem dJ7_copyOfRangeByte_39247_23 : decode cJ7_copyOfRangeByte_39247 23 = .ok (.iload_n 3, 1) := by decide +kernel
theorem dJ7_copyOfRangeByte_39247_24 : decode cJ7_copyOfRangeByte_39247 24 = .ok (.invokestatic 304, 3) := by decide +kernel
theorem dJ7_copyOfRangeByte_39247_27 : decode cJ7_copyOfRangeByte_39247 27 = .ok (.invokestatic 150, 3) := by decide +kernel
theorem dJ7_copyOfRangeByte_39247_30 : decode cJ7_copyOfRangeByte_39247 30 = .ok (.aload 4, 2) := by decide +kernel
theorem dJ7_copyOfRangeByte_39247_32 : decode cJ7_copyOfRangeByte_39247 32 = .ok (.areturn, 1) := by decide +kernel
