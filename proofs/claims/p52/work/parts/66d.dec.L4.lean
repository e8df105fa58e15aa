theorem dL_told_0 : decode cL_told 0 = .ok (.new 141, 3) := by decide +kernel
theorem dL_told_3 : decode cL_told 3 = .ok (.dup, 1) := by decide +kernel
theorem dL_told_4 : decode cL_told 4 = .ok (.invokespecial 143, 3) := by decide +kernel
theorem dL_told_7 : decode cL_told 7 = .ok (.astore_n 1, 1) := by decide +kernel
theorem dL_told_8 : decode cL_told 8 = .ok (.iconst 0, 1) := by decide +kernel
theorem dL_told_9 : decode cL_told 9 = .ok (.istore_n 2, 1) := by decide +kernel
theorem dL_told_10 : decode cL_told 10 = .ok (.iload_n 2, 1) := by decide +kernel
theorem dL_told_11 : decode cL_told 11 = .ok (.aload_n 0, 1) := by decide +kernel
theorem dL_told_12 : decode cL_told 12 = .ok (.invokevirtual 183, 3) := by decide +kernel
theorem dL_told_15 : decode cL_told 15 = .ok (.if_icmp .ge 28, 3) := by decide +kernel
theorem dL_told_18 : decode cL_told 18 = .ok (.aload_n 1, 1) := by decide +kernel
theorem dL_told_19 : decode cL_told 19 = .ok (.aload_n 0, 1) := by decide +kernel
theorem dL_told_20 : decode cL_told 20 = .ok (.aload_n 0, 1) := by decide +kernel
theorem dL_told_21 : decode cL_told 21 = .ok (.iload_n 2, 1) := by decide +kernel
theorem dL_told_22 : decode cL_told 22 = .ok (.invokestatic 223, 3) := by decide +kernel
theorem dL_told_25 : decode cL_told 25 = .ok (.invokestatic 225, 3) := by decide +kernel
theorem dL_told_28 : decode cL_told 28 = .ok (.invokevirtual 229, 3) := by decide +kernel
theorem dL_told_31 : decode cL_told 31 = .ok (.bipush 47, 2) := by decide +kernel
theorem dL_told_33 : decode cL_told 33 = .ok (.invokevirtual 149, 3) := by decide +kernel
theorem dL_told_36 : decode cL_told 36 = .ok (.pop, 1) := by decide +kernel
theorem dL_told_37 : decode cL_told 37 = .ok (.iinc 2 1, 3) := by decide +kernel
theorem dL_told_40 : decode cL_told 40 = .ok (.goto (-30), 3) := by decide +kernel
theorem dL_told_43 : decode cL_told 43 = .ok (.aload_n 1, 1) := by decide +kernel
theorem dL_told_44 : decode cL_told 44 = .ok (.aload_n 0, 1) := by decide +kernel
theorem dL_told_45 : decode cL_told 45 = .ok (.invokevirtual 232, 3) := by decide +kernel
theorem dL_told_48 : decode cL_told 48 = .ok (.invokevirtual 235, 3) := by decide +kernel
theorem dL_told_51 : decode cL_told 51 = .ok (.bipush 124, 2) := by decide +kernel
theorem dL_told_53 : decode cL_told 53 = .ok (.invokevirtual 149, 3) := by decide +kernel
theorem dL_told_56 : decode cL_told 56 = .ok (.pop, 1) := by decide +kernel
theorem dL_told_57 : decode cL_told 57 = .ok (.iconst 0, 1) := by decide +kernel
theorem dL_told_58 : decode cL_told 58 = .ok (.istore_n 2, 1) := by decide +kernel
theorem dL_told_59 : decode cL_told 59 = .ok (.iload_n 2, 1) := by decide +kernel
theorem dL_told_60 : decode cL_told 60 = .ok (.aload_n 0, 1) := by decide +kernel
theorem dL_told_61 : decode cL_told 61 = .ok (.invokevirtual 178, 3) := by decide +kernel
theorem dL_told_64 : decode cL_told 64 = .ok (.if_icmp .ge 39, 3) := by decide +kernel
theorem dL_told_67 : decode cL_told 67 = .ok (.aload_n 0, 1) := by decide +kernel
theorem dL_told_68 : decode cL_told 68 = .ok (.iload_n 2, 1) := by decide +kernel
theorem dL_told_69 : decode cL_told 69 = .ok (.invokestatic 181, 3) := by decide +kernel
theorem dL_told_72 : decode cL_told 72 = .ok (.istore_n 3, 1) := by decide +kernel
theorem dL_told_73 : decode cL_told 73 = .ok (.aload_n 1, 1) := by decide +kernel
theorem dL_told_74 : decode cL_told 74 = .ok (.iload_n 3, 1) := by decide +kernel
theorem dL_told_75 : decode cL_told 75 = .ok (.invokevirtual 235, 3) := by decide +kernel
theorem dL_told_78 : decode cL_told 78 = .ok (.bipush 58, 2) := by decide +kernel
theorem dL_told_80 : decode cL_told 80 = .ok (.invokevirtual 149, 3) := by decide +kernel
theorem dL_told_83 : decode cL_told 83 = .ok (.aload_n 0, 1) := by decide +kernel
theorem dL_told_84 : decode cL_told 84 = .ok (.iload_n 3, 1) := by decide +kernel
theorem dL_told_85 : decode cL_told 85 = .ok (.invokestatic 238, 3) := by decide +kernel
theorem dL_told_88 : decode cL_told 88 = .ok (.invokevirtual 235, 3) := by decide +kernel
theorem dL_told_91 : decode cL_told 91 = .ok (.bipush 44, 2) := by decide +kernel
theorem dL_told_93 : decode cL_told 93 = .ok (.invokevirtual 149, 3) := by decide +kernel
theorem dL_told_96 : decode cL_told 96 = .ok (.pop, 1) := by decide +kernel
theorem dL_told_97 : decode cL_told 97 = .ok (.iinc 2 1, 3) := by decide +kernel
theorem dL_told_100 : decode cL_told 100 = .ok (.goto (-41), 3) := by decide +kernel
theorem dL_told_103 : decode cL_told 103 = .ok (.aload_n 1, 1) := by decide +kernel
theorem dL_told_104 : decode cL_told 104 = .ok (.aload_n 0, 1) := by decide +kernel
theorem dL_told_105 : decode cL_told 105 = .ok (.invokevirtual 208, 3) := by decide +kernel
theorem dL_told_108 : decode cL_told 108 = .ok (.invokevirtual 235, 3) := by decide +kernel
theorem dL_told_111 : decode cL_told 111 = .ok (.bipush 44, 2) := by decide +kernel
theorem dL_told_113 : decode cL_told 113 = .ok (.invokevirtual 149, 3) := by decide +kernel
theorem dL_told_116 : decode cL_told 116 = .ok (.aload_n 0, 1) := by decide +kernel
theorem dL_told_117 : decode cL_told 117 = .ok (.invokevirtual 240, 3) := by decide +kernel
theorem dL_told_120 : decode cL_told 120 = .ok (.invokevirtual 235, 3) := by decide +kernel
theorem dL_told_123 : decode cL_told 123 = .ok (.bipush 44, 2) := by decide +kernel
theorem dL_told_125 : decode cL_told 125 = .ok (.invokevirtual 149, 3) := by decide +kernel
theorem dL_told_128 : decode cL_told 128 = .ok (.aload_n 0, 1) := by decide +kernel
theorem dL_told_129 : decode cL_told 129 = .ok (.invokevirtual 243, 3) := by decide +kernel
theorem dL_told_132 : decode cL_told 132 = .ok (.invokevirtual 247, 3) := by decide +kernel
theorem dL_told_135 : decode cL_told 135 = .ok (.bipush 44, 2) := by decide +kernel
theorem dL_told_137 : decode cL_told 137 = .ok (.invokevirtual 149, 3) := by decide +kernel
theorem dL_told_140 : decode cL_told 140 = .ok (.aload_n 0, 1) := by decide +kernel
theorem dL_told_141 : decode cL_told 141 = .ok (.invokevirtual 250, 3) := by decide +kernel
theorem dL_told_144 : decode cL_told 144 = .ok (.invokevirtual 235, 3) := by decide +kernel
theorem dL_told_147 : decode cL_told 147 = .ok (.bipush 44, 2) := by decide +kernel
theorem dL_told_149 : decode cL_told 149 = .ok (.invokevirtual 149, 3) := by decide +kernel
theorem dL_told_152 : decode cL_told 152 = .ok (.aload_n 0, 1) := by decide +kernel
theorem dL_told_153 : decode cL_told 153 = .ok (.invokevirtual 253, 3) := by decide +kernel
theorem dL_told_156 : decode cL_told 156 = .ok (.invokevirtual 235, 3) := by decide +kernel
theorem dL_told_159 : decode cL_told 159 = .ok (.invokevirtual 153, 3) := by decide +kernel
theorem dL_told_162 : decode cL_told 162 = .ok (.areturn, 1) := by decide +kernel
theorem dL_batches_0 : decode cL_batches 0 = .ok (.aload_n 0, 1) := by decide +kernel
theorem dL_batches_1 : decode cL_batches 1 = .ok (.invokevirtual 178, 3) := by decide +kernel
theorem dL_batches_4 : decode cL_batches 4 = .ok (.istore_n 1, 1) := by decide +kernel
theorem dL_batches_5 : decode cL_batches 5 = .ok (.iconst (-1), 1) := by decide +kernel
theorem dL_batches_6 : decode cL_batches 6 = .ok (.istore_n 2, 1) := by decide +kernel
theorem dL_batches_7 : decode cL_batches 7 = .ok (.iconst 0, 1) := by decide +kernel
theorem dL_batches_8 : decode cL_batches 8 = .ok (.istore_n 3, 1) := by decide +kernel
theorem dL_batches_9 : decode cL_batches 9 = .ok (.iload_n 3, 1) := by decide +kernel
theorem dL_batches_10 : decode cL_batches 10 = .ok (.iload_n 1, 1) := by decide +kernel
theorem dL_batches_11 : decode cL_batches 11 = .ok (.if_icmp .ge 36, 3) := by decide +kernel
theorem dL_batches_14 : decode cL_batches 14 = .ok (.aload_n 0, 1) := by decide +kernel
theorem dL_batches_15 : decode cL_batches 15 = .ok (.iload_n 3, 1) := by decide +kernel
theorem dL_batches_16 : decode cL_batches 16 = .ok (.invokestatic 181, 3) := by decide +kernel
theorem dL_batches_19 : decode cL_batches 19 = .ok (.istore 4, 2) := by decide +kernel
theorem dL_batches_21 : decode cL_batches 21 = .ok (.iload 4, 2) := by decide +kernel
theorem dL_batches_23 : decode cL_batches 23 = .ok (.iload_n 2, 1) := by decide +kernel
theorem dL_batches_24 : decode cL_batches 24 = .ok (.if_icmp .le 12, 3) := by decide +kernel
theorem dL_batches_27 : decode cL_batches 27 = .ok (.aload_n 0, 1) := by decide +kernel
theorem dL_batches_28 : decode cL_batches 28 = .ok (.iload 4, 2) := by decide +kernel
theorem dL_batches_30 : decode cL_batches 30 = .ok (.invokestatic 238, 3) := by decide +kernel
theorem dL_batches_33 : decode cL_batches 33 = .ok (.ifCond .ge 5, 3) := by decide +kernel
theorem dL_batches_36 : decode cL_batches 36 = .ok (.iconst 0, 1) := by decide +kernel
theorem dL_batches_37 : decode cL_batches 37 = .ok (.ireturn, 1) := by decide +kernel
theorem dL_batches_38 : decode cL_batches 38 = .ok (.iload 4, 2) := by decide +kernel
theorem dL_batches_40 : decode cL_batches 40 = .ok (.istore_n 2, 1) := by decide +kernel
theorem dL_batches_41 : decode cL_batches 41 = .ok (.iinc 3 1, 3) := by decide +kernel
theorem dL_batches_44 : decode cL_batches 44 = .ok (.goto (-35), 3) := by decide +kernel
theorem dL_batches_47 : decode cL_batches 47 = .ok (.aload_n 0, 1) := by decide +kernel
theorem dL_batches_48 : decode cL_batches 48 = .ok (.invokevirtual 253, 3) := by decide +kernel
theorem dL_batches_51 : decode cL_batches 51 = .ok (.istore_n 3, 1) := by decide +kernel
theorem dL_batches_52 : decode cL_batches 52 = .ok (.iload_n 1, 1) := by decide +kernel
theorem dL_batches_53 : decode cL_batches 53 = .ok (.ifCond .ne 23, 3) := by decide +kernel
theorem dL_batches_56 : decode cL_batches 56 = .ok (.aload_n 0, 1) := by decide +kernel
theorem dL_batches_57 : decode cL_batches 57 = .ok (.invokestatic 354, 3) := by decide +kernel
theorem dL_batches_60 : decode cL_batches 60 = .ok (.iconst (-1), 1) := by decide +kernel
theorem dL_batches_61 : decode cL_batches 61 = .ok (.if_icmp .ne 11, 3) := by decide +kernel
theorem dL_batches_64 : decode cL_batches 64 = .ok (.iload_n 3, 1) := by decide +kernel
theorem dL_batches_65 : decode cL_batches 65 = .ok (.ifCond .ne 7, 3) := by decide +kernel
theorem dL_batches_68 : decode cL_batches 68 = .ok (.iconst 1, 1) := by decide +kernel
theorem dL_batches_69 : decode cL_batches 69 = .ok (.goto 24, 3) := by decide +kernel
theorem dL_batches_72 : decode cL_batches 72 = .ok (.iconst 0, 1) := by decide +kernel
theorem dL_batches_73 : decode cL_batches 73 = .ok (.goto 20, 3) := by decide +kernel
theorem dL_batches_76 : decode cL_batches 76 = .ok (.aload_n 0, 1) := by decide +kernel
theorem dL_batches_77 : decode cL_batches 77 = .ok (.aload_n 0, 1) := by decide +kernel
theorem dL_batches_78 : decode cL_batches 78 = .ok (.invokestatic 354, 3) := by decide +kernel
theorem dL_batches_81 : decode cL_batches 81 = .ok (.invokestatic 238, 3) := by decide +kernel
theorem dL_batches_84 : decode cL_batches 84 = .ok (.iload_n 3, 1) := by decide +kernel
theorem dL_batches_85 : decode cL_batches 85 = .ok (.if_icmp .gt 7, 3) := by decide +kernel
theorem dL_batches_88 : decode cL_batches 88 = .ok (.iconst 1, 1) := by decide +kernel
theorem dL_batches_89 : decode cL_batches 89 = .ok (.goto 4, 3) := by decide +kernel
theorem dL_batches_92 : decode cL_batches 92 = .ok (.iconst 0, 1) := by decide +kernel
theorem dL_batches_93 : decode cL_batches 93 = .ok (.istore 4, 2) := by decide +kernel
theorem dL_batches_95 : decode cL_batches 95 = .ok (.aload_n 0, 1) := by decide +kernel
theorem dL_batches_96 : decode cL_batches 96 = .ok (.invokestatic 357, 3) := by decide +kernel
theorem dL_batches_99 : decode cL_batches 99 = .ok (.fstore 5, 2) := by decide +kernel
theorem dL_batches_101 : decode cL_batches 101 = .ok (.iload 4, 2) := by decide +kernel
theorem dL_batches_103 : decode cL_batches 103 = .ok (.ifCond .eq 75, 3) := by decide +kernel
theorem dL_batches_106 : decode cL_batches 106 = .ok (.aload_n 0, 1) := by decide +kernel
theorem dL_batches_107 : decode cL_batches 107 = .ok (.invokevirtual 360, 3) := by decide +kernel
theorem dL_batches_110 : decode cL_batches 110 = .ok (.iload_n 3, 1) := by decide +kernel
theorem dL_batches_111 : decode cL_batches 111 = .ok (.if_icmp .ne 67, 3) := by decide +kernel
theorem dL_batches_114 : decode cL_batches 114 = .ok (.aload_n 0, 1) := by decide +kernel
theorem dL_batches_115 : decode cL_batches 115 = .ok (.invokevirtual 250, 3) := by decide +kernel
theorem dL_batches_118 : decode cL_batches 118 = .ok (.iload_n 3, 1) := by decide +kernel
theorem dL_batches_119 : decode cL_batches 119 = .ok (.if_icmp .lt 59, 3) := by decide +kernel
theorem dL_batches_122 : decode cL_batches 122 = .ok (.aload_n 0, 1) := by decide +kernel
theorem dL_batches_123 : decode cL_batches 123 = .ok (.iload_n 1, 1) := by decide +kernel
theorem dL_batches_124 : decode cL_batches 124 = .ok (.invokestatic 181, 3) := by decide +kernel
theorem dL_batches_127 : decode cL_batches 127 = .ok (.iconst (-1), 1) := by decide +kernel
theorem dL_batches_128 : decode cL_batches 128 = .ok (.if_icmp .ne 50, 3) := by decide +kernel
theorem dL_batches_131 : decode cL_batches 131 = .ok (.aload_n 0, 1) := by decide +kernel
theorem dL_batches_132 : decode cL_batches 132 = .ok (.iload_n 2, 1) := by decide +kernel
theorem dL_batches_133 : decode cL_batches 133 = .ok (.iconst 1, 1) := by decide +kernel
theorem dL_batches_134 : decode cL_batches 134 = .ok (.iadd, 1) := by decide +kernel
theorem dL_batches_135 : decode cL_batches 135 = .ok (.invokestatic 238, 3) := by decide +kernel
theorem dL_batches_138 : decode cL_batches 138 = .ok (.iconst (-1), 1) := by decide +kernel
theorem dL_batches_139 : decode cL_batches 139 = .ok (.if_icmp .ne 39, 3) := by decide +kernel
theorem dL_batches_142 : decode cL_batches 142 = .ok (.aload_n 0, 1) := by decide +kernel
theorem dL_batches_143 : decode cL_batches 143 = .ok (.invokevirtual 208, 3) := by decide +kernel
theorem dL_batches_146 : decode cL_batches 146 = .ok (.ifCond .ne 14, 3) := by decide +kernel
theorem dL_batches_149 : decode cL_batches 149 = .ok (.fload 5, 2) := by decide +kernel
theorem dL_batches_151 : decode cL_batches 151 = .ok (.ldc 114, 2) := by decide +kernel
theorem dL_batches_153 : decode cL_batches 153 = .ok (.fcmp .l, 1) := by decide +kernel
theorem dL_batches_154 : decode cL_batches 154 = .ok (.ifCond .ne 24, 3) := by decide +kernel
theorem dL_batches_157 : decode cL_batches 157 = .ok (.goto 17, 3) := by decide +kernel
theorem dL_batches_160 : decode cL_batches 160 = .ok (.fload 5, 2) := by decide +kernel
theorem dL_batches_162 : decode cL_batches 162 = .ok (.fconst 0, 1) := by decide +kernel
theorem dL_batches_163 : decode cL_batches 163 = .ok (.fcmp .l, 1) := by decide +kernel
theorem dL_batches_164 : decode cL_batches 164 = .ok (.ifCond .lt 14, 3) := by decide +kernel
theorem dL_batches_167 : decode cL_batches 167 = .ok (.fload 5, 2) := by decide +kernel
theorem dL_batches_169 : decode cL_batches 169 = .ok (.fconst 1, 1) := by decide +kernel
theorem dL_batches_170 : decode cL_batches 170 = .ok (.fcmp .g, 1) := by decide +kernel
theorem dL_batches_171 : decode cL_batches 171 = .ok (.ifCond .gt 7, 3) := by decide +kernel
theorem dL_batches_174 : decode cL_batches 174 = .ok (.iconst 1, 1) := by decide +kernel
theorem dL_batches_175 : decode cL_batches 175 = .ok (.goto 4, 3) := by decide +kernel
theorem dL_batches_178 : decode cL_batches 178 = .ok (.iconst 0, 1) := by decide +kernel
theorem dL_batches_179 : decode cL_batches 179 = .ok (.ireturn, 1) := by decide +kernel
theorem dL_foretold_0 : decode cL_foretold 0 = .ok (.aload_n 0, 1) := by decide +kernel
theorem dL_foretold_1 : decode cL_foretold 1 = .ok (.invokevirtual 363, 3) := by decide +kernel
theorem dL_foretold_4 : decode cL_foretold 4 = .ok (.istore_n 1, 1) := by decide +kernel
theorem dL_foretold_5 : decode cL_foretold 5 = .ok (.iload_n 1, 1) := by decide +kernel
theorem dL_foretold_6 : decode cL_foretold 6 = .ok (.aload_n 0, 1) := by decide +kernel
theorem dL_foretold_7 : decode cL_foretold 7 = .ok (.invokevirtual 208, 3) := by decide +kernel
theorem dL_foretold_10 : decode cL_foretold 10 = .ok (.if_icmp .ne 7, 3) := by decide +kernel
theorem dL_foretold_13 : decode cL_foretold 13 = .ok (.iconst 1, 1) := by decide +kernel
theorem dL_foretold_14 : decode cL_foretold 14 = .ok (.goto 4, 3) := by decide +kernel
theorem dL_foretold_17 : decode cL_foretold 17 = .ok (.iconst 0, 1) := by decide +kernel
theorem dL_foretold_18 : decode cL_foretold 18 = .ok (.istore_n 2, 1) := by decide +kernel
theorem dL_foretold_19 : decode cL_foretold 19 = .ok (.aload_n 0, 1) := by decide +kernel
theorem dL_foretold_20 : decode cL_foretold 20 = .ok (.invokevirtual 253, 3) := by decide +kernel
theorem dL_foretold_23 : decode cL_foretold 23 = .ok (.istore_n 3, 1) := by decide +kernel
theorem dL_foretold_24 : decode cL_foretold 24 = .ok (.aload_n 0, 1) := by decide +kernel
theorem dL_foretold_25 : decode cL_foretold 25 = .ok (.invokevirtual 243, 3) := by decide +kernel
theorem dL_foretold_28 : decode cL_foretold 28 = .ok (.lstore 4, 2) := by decide +kernel
theorem dL_foretold_30 : decode cL_foretold 30 = .ok (.aload_n 0, 1) := by decide +kernel
theorem dL_foretold_31 : decode cL_foretold 31 = .ok (.invokevirtual 240, 3) := by decide +kernel
theorem dL_foretold_34 : decode cL_foretold 34 = .ok (.istore 6, 2) := by decide +kernel
theorem dL_foretold_36 : decode cL_foretold 36 = .ok (.aload_n 0, 1) := by decide +kernel
theorem dL_foretold_37 : decode cL_foretold 37 = .ok (.invokevirtual 178, 3) := by decide +kernel
theorem dL_foretold_40 : decode cL_foretold 40 = .ok (.istore 7, 2) := by decide +kernel
theorem dL_foretold_42 : decode cL_foretold 42 = .ok (.iconst 0, 1) := by decide +kernel
theorem dL_foretold_43 : decode cL_foretold 43 = .ok (.istore 8, 2) := by decide +kernel
theorem dL_foretold_45 : decode cL_foretold 45 = .ok (.iconst 0, 1) := by decide +kernel
theorem dL_foretold_46 : decode cL_foretold 46 = .ok (.istore 9, 2) := by decide +kernel
theorem dL_foretold_48 : decode cL_foretold 48 = .ok (.iload 9, 2) := by decide +kernel
theorem dL_foretold_50 : decode cL_foretold 50 = .ok (.iload 7, 2) := by decide +kernel
theorem dL_foretold_52 : decode cL_foretold 52 = .ok (.if_icmp .ge 67, 3) := by decide +kernel
theorem dL_foretold_55 : decode cL_foretold 55 = .ok (.aload_n 0, 1) := by decide +kernel
theorem dL_foretold_56 : decode cL_foretold 56 = .ok (.invokestatic 354, 3) := by decide +kernel
theorem dL_foretold_59 : decode cL_foretold 59 = .ok (.istore 10, 2) := by decide +kernel
theorem dL_foretold_61 : decode cL_foretold 61 = .ok (.aload_n 0, 1) := by decide +kernel
theorem dL_foretold_62 : decode cL_foretold 62 = .ok (.iload 10, 2) := by decide +kernel
theorem dL_foretold_64 : decode cL_foretold 64 = .ok (.invokestatic 238, 3) := by decide +kernel
theorem dL_foretold_67 : decode cL_foretold 67 = .ok (.istore 11, 2) := by decide +kernel
theorem dL_foretold_69 : decode cL_foretold 69 = .ok (.aload_n 0, 1) := by decide +kernel
theorem dL_foretold_70 : decode cL_foretold 70 = .ok (.invokevirtual 253, 3) := by decide +kernel
theorem dL_foretold_73 : decode cL_foretold 73 = .ok (.istore 12, 2) := by decide +kernel
theorem dL_foretold_75 : decode cL_foretold 75 = .ok (.iload_n 2, 1) := by decide +kernel
theorem dL_foretold_76 : decode cL_foretold 76 = .ok (.aload_n 0, 1) := by decide +kernel
theorem dL_foretold_77 : decode cL_foretold 77 = .ok (.iload 10, 2) := by decide +kernel
theorem dL_foretold_79 : decode cL_foretold 79 = .ok (.invokestatic 221, 3) := by decide +kernel
theorem dL_foretold_82 : decode cL_foretold 82 = .ok (.iload 11, 2) := by decide +kernel
theorem dL_foretold_84 : decode cL_foretold 84 = .ok (.if_icmp .ne 19, 3) := by decide +kernel
theorem dL_foretold_87 : decode cL_foretold 87 = .ok (.aload_n 0, 1) := by decide +kernel
theorem dL_foretold_88 : decode cL_foretold 88 = .ok (.invokevirtual 253, 3) := by decide +kernel
theorem dL_foretold_91 : decode cL_foretold 91 = .ok (.iload 12, 2) := by decide +kernel
theorem dL_foretold_93 : decode cL_foretold 93 = .ok (.iload 11, 2) := by decide +kernel
theorem dL_foretold_95 : decode cL_foretold 95 = .ok (.isub, 1) := by decide +kernel
theorem dL_foretold_96 : decode cL_foretold 96 = .ok (.if_icmp .ne 7, 3) := by decide +kernel
theorem dL_foretold_99 : decode cL_foretold 99 = .ok (.iconst 1, 1) := by decide +kernel
theorem dL_foretold_100 : decode cL_foretold 100 = .ok (.goto 4, 3) := by decide +kernel
theorem dL_foretold_103 : decode cL_foretold 103 = .ok (.iconst 0, 1) := by decide +kernel
theorem dL_foretold_104 : decode cL_foretold 104 = .ok (.iand, 1) := by decide +kernel
theorem dL_foretold_105 : decode cL_foretold 105 = .ok (.istore_n 2, 1) := by decide +kernel
theorem dL_foretold_106 : decode cL_foretold 106 = .ok (.iload 8, 2) := by decide +kernel
theorem dL_foretold_108 : decode cL_foretold 108 = .ok (.iload 11, 2) := by decide +kernel
theorem dL_foretold_110 : decode cL_foretold 110 = .ok (.iadd, 1) := by decide +kernel
theorem dL_foretold_111 : decode cL_foretold 111 = .ok (.istore 8, 2) := by decide +kernel
theorem dL_foretold_113 : decode cL_foretold 113 = .ok (.iinc 9 1, 3) := by decide +kernel
theorem dL_foretold_116 : decode cL_foretold 116 = .ok (.goto (-68), 3) := by decide +kernel
theorem dL_foretold_119 : decode cL_foretold 119 = .ok (.iload_n 2, 1) := by decide +kernel
theorem dL_foretold_120 : decode cL_foretold 120 = .ok (.iload 8, 2) := by decide +kernel
theorem dL_foretold_122 : decode cL_foretold 122 = .ok (.iload_n 3, 1) := by decide +kernel
theorem dL_foretold_123 : decode cL_foretold 123 = .ok (.if_icmp .ne 40, 3) := by decide +kernel
theorem dL_foretold_126 : decode cL_foretold 126 = .ok (.aload_n 0, 1) := by decide +kernel
theorem dL_foretold_127 : decode cL_foretold 127 = .ok (.invokevirtual 243, 3) := by decide +kernel
theorem dL_foretold_130 : decode cL_foretold 130 = .ok (.lload 4, 2) := by decide +kernel
theorem dL_foretold_132 : decode cL_foretold 132 = .ok (.iload 8, 2) := by decide +kernel
theorem dL_foretold_134 : decode cL_foretold 134 = .ok (.i2l, 1) := by decide +kernel
theorem dL_foretold_135 : decode cL_foretold 135 = .ok (.ladd, 1) := by decide +kernel
theorem dL_foretold_136 : decode cL_foretold 136 = .ok (.lcmp, 1) := by decide +kernel
theorem dL_foretold_137 : decode cL_foretold 137 = .ok (.ifCond .ne 26, 3) := by decide +kernel
theorem dL_foretold_140 : decode cL_foretold 140 = .ok (.aload_n 0, 1) := by decide +kernel
theorem dL_foretold_141 : decode cL_foretold 141 = .ok (.invokevirtual 240, 3) := by decide +kernel
theorem dL_foretold_144 : decode cL_foretold 144 = .ok (.iload 6, 2) := by decide +kernel
theorem dL_foretold_146 : decode cL_foretold 146 = .ok (.iload 7, 2) := by decide +kernel
theorem dL_foretold_148 : decode cL_foretold 148 = .ok (.iadd, 1) := by decide +kernel
theorem dL_foretold_149 : decode cL_foretold 149 = .ok (.if_icmp .ne 14, 3) := by decide +kernel
theorem dL_foretold_152 : decode cL_foretold 152 = .ok (.aload_n 0, 1) := by decide +kernel
theorem dL_foretold_153 : decode cL_foretold 153 = .ok (.invokevirtual 178, 3) := by decide +kernel
theorem dL_foretold_156 : decode cL_foretold 156 = .ok (.ifCond .ne 7, 3) := by decide +kernel
theorem dL_foretold_159 : decode cL_foretold 159 = .ok (.iconst 1, 1) := by decide +kernel
theorem dL_foretold_160 : decode cL_foretold 160 = .ok (.goto 4, 3) := by decide +kernel
theorem dL_foretold_163 : decode cL_foretold 163 = .ok (.iconst 0, 1) := by decide +kernel
theorem dL_foretold_164 : decode cL_foretold 164 = .ok (.iand, 1) := by decide +kernel
theorem dL_foretold_165 : decode cL_foretold 165 = .ok (.istore_n 2, 1) := by decide +kernel
theorem dL_foretold_166 : decode cL_foretold 166 = .ok (.iconst 0, 1) := by decide +kernel
theorem dL_foretold_167 : decode cL_foretold 167 = .ok (.istore 9, 2) := by decide +kernel
theorem dL_foretold_169 : decode cL_foretold 169 = .ok (.iload 9, 2) := by decide +kernel
theorem dL_foretold_171 : decode cL_foretold 171 = .ok (.iconst 2, 1) := by decide +kernel
theorem dL_foretold_172 : decode cL_foretold 172 = .ok (.aload_n 0, 1) := by decide +kernel
theorem dL_foretold_173 : decode cL_foretold 173 = .ok (.invokevirtual 183, 3) := by decide +kernel
theorem dL_foretold_176 : decode cL_foretold 176 = .ok (.invokestatic 343, 3) := by decide +kernel
theorem dL_foretold_179 : decode cL_foretold 179 = .ok (.if_icmp .ge 133, 3) := by decide +kernel
theorem dL_foretold_182 : decode cL_foretold 182 = .ok (.aload_n 0, 1) := by decide +kernel
theorem dL_foretold_183 : decode cL_foretold 183 = .ok (.iload 9, 2) := by decide +kernel
theorem dL_foretold_185 : decode cL_foretold 185 = .ok (.invokestatic 278, 3) := by decide +kernel
theorem dL_foretold_188 : decode cL_foretold 188 = .ok (.istore 10, 2) := by decide +kernel
theorem dL_foretold_190 : decode cL_foretold 190 = .ok (.aload_n 0, 1) := by decide +kernel
theorem dL_foretold_191 : decode cL_foretold 191 = .ok (.iload 9, 2) := by decide +kernel
theorem dL_foretold_193 : decode cL_foretold 193 = .ok (.invokestatic 276, 3) := by decide +kernel
theorem dL_foretold_196 : decode cL_foretold 196 = .ok (.istore 11, 2) := by decide +kernel
theorem dL_foretold_198 : decode cL_foretold 198 = .ok (.aload_n 0, 1) := by decide +kernel
theorem dL_foretold_199 : decode cL_foretold 199 = .ok (.iload 9, 2) := by decide +kernel
theorem dL_foretold_201 : decode cL_foretold 201 = .ok (.invokestatic 268, 3) := by decide +kernel
theorem dL_foretold_204 : decode cL_foretold 204 = .ok (.iconst 1, 1) := by decide +kernel
theorem dL_foretold_205 : decode cL_foretold 205 = .ok (.if_icmp .ne 7, 3) := by decide +kernel
theorem dL_foretold_208 : decode cL_foretold 208 = .ok (.iconst 1, 1) := by decide +kernel
theorem dL_foretold_209 : decode cL_foretold 209 = .ok (.goto 4, 3) := by decide +kernel
theorem dL_foretold_212 : decode cL_foretold 212 = .ok (.iconst 0, 1) := by decide +kernel
theorem dL_foretold_213 : decode cL_foretold 213 = .ok (.istore 12, 2) := by decide +kernel
theorem dL_foretold_215 : decode cL_foretold 215 = .ok (.aload_n 0, 1) := by decide +kernel
theorem dL_foretold_216 : decode cL_foretold 216 = .ok (.iload 9, 2) := by decide +kernel
theorem dL_foretold_218 : decode cL_foretold 218 = .ok (.invokestatic 202, 3) := by decide +kernel
theorem dL_foretold_221 : decode cL_foretold 221 = .ok (.istore 13, 2) := by decide +kernel
theorem dL_foretold_223 : decode cL_foretold 223 = .ok (.iload_n 2, 1) := by decide +kernel
theorem dL_foretold_224 : decode cL_foretold 224 = .ok (.iload 12, 2) := by decide +kernel
theorem dL_foretold_226 : decode cL_foretold 226 = .ok (.ifCond .eq 18, 3) := by decide +kernel
theorem dL_foretold_229 : decode cL_foretold 229 = .ok (.iload 13, 2) := by decide +kernel
theorem dL_foretold_231 : decode cL_foretold 231 = .ok (.bipush (-2), 2) := by decide +kernel
theorem dL_foretold_233 : decode cL_foretold 233 = .ok (.if_icmp .ne 7, 3) := by decide +kernel
theorem dL_foretold_236 : decode cL_foretold 236 = .ok (.iconst 1, 1) := by decide +kernel
theorem dL_foretold_237 : decode cL_foretold 237 = .ok (.goto 67, 3) := by decide +kernel
theorem dL_foretold_240 : decode cL_foretold 240 = .ok (.iconst 0, 1) := by decide +kernel
theorem dL_foretold_241 : decode cL_foretold 241 = .ok (.goto 63, 3) := by decide +kernel
theorem dL_foretold_244 : decode cL_foretold 244 = .ok (.iload 13, 2) := by decide +kernel
theorem dL_foretold_246 : decode cL_foretold 246 = .ok (.bipush (-3), 2) := by decide +kernel
theorem dL_foretold_248 : decode cL_foretold 248 = .ok (.if_icmp .ne 22, 3) := by decide +kernel
theorem dL_foretold_251 : decode cL_foretold 251 = .ok (.aload_n 0, 1) := by decide +kernel
theorem dL_foretold_252 : decode cL_foretold 252 = .ok (.iload 9, 2) := by decide +kernel
theorem dL_foretold_254 : decode cL_foretold 254 = .ok (.invokestatic 278, 3) := by decide +kernel
theorem dL_foretold_257 : decode cL_foretold 257 = .ok (.iload 10, 2) := by decide +kernel
theorem dL_foretold_259 : decode cL_foretold 259 = .ok (.if_icmp .ne 7, 3) := by decide +kernel
theorem dL_foretold_262 : decode cL_foretold 262 = .ok (.iconst 1, 1) := by decide +kernel
theorem dL_foretold_263 : decode cL_foretold 263 = .ok (.goto 41, 3) := by decide +kernel
theorem dL_foretold_266 : decode cL_foretold 266 = .ok (.iconst 0, 1) := by decide +kernel
theorem dL_foretold_267 : decode cL_foretold 267 = .ok (.goto 37, 3) := by decide +kernel
theorem dL_foretold_270 : decode cL_foretold 270 = .ok (.iload 13, 2) := by decide +kernel
theorem dL_foretold_272 : decode cL_foretold 272 = .ok (.iload 11, 2) := by decide +kernel
theorem dL_foretold_274 : decode cL_foretold 274 = .ok (.if_icmp .ne 29, 3) := by decide +kernel
theorem dL_foretold_277 : decode cL_foretold 277 = .ok (.aload_n 0, 1) := by decide +kernel
theorem dL_foretold_278 : decode cL_foretold 278 = .ok (.iload 9, 2) := by decide +kernel
theorem dL_foretold_280 : decode cL_foretold 280 = .ok (.invokestatic 278, 3) := by decide +kernel
theorem dL_foretold_283 : decode cL_foretold 283 = .ok (.iload 10, 2) := by decide +kernel
theorem dL_foretold_285 : decode cL_foretold 285 = .ok (.if_icmp .gt 18, 3) := by decide +kernel
theorem dL_foretold_288 : decode cL_foretold 288 = .ok (.aload_n 0, 1) := by decide +kernel
theorem dL_foretold_289 : decode cL_foretold 289 = .ok (.iload 9, 2) := by decide +kernel
theorem dL_foretold_291 : decode cL_foretold 291 = .ok (.invokestatic 276, 3) := by decide +kernel
theorem dL_foretold_294 : decode cL_foretold 294 = .ok (.bipush 100, 2) := by decide +kernel
theorem dL_foretold_296 : decode cL_foretold 296 = .ok (.if_icmp .ne 7, 3) := by decide +kernel
theorem dL_foretold_299 : decode cL_foretold 299 = .ok (.iconst 1, 1) := by decide +kernel
theorem dL_foretold_300 : decode cL_foretold 300 = .ok (.goto 4, 3) := by decide +kernel
theorem dL_foretold_303 : decode cL_foretold 303 = .ok (.iconst 0, 1) := by decide +kernel
theorem dL_foretold_304 : decode cL_foretold 304 = .ok (.iand, 1) := by decide +kernel
theorem dL_foretold_305 : decode cL_foretold 305 = .ok (.istore_n 2, 1) := by decide +kernel
theorem dL_foretold_306 : decode cL_foretold 306 = .ok (.iinc 9 1, 3) := by decide +kernel
theorem dL_foretold_309 : decode cL_foretold 309 = .ok (.goto (-140), 3) := by decide +kernel
theorem dL_foretold_312 : decode cL_foretold 312 = .ok (.aload_n 0, 1) := by decide +kernel
theorem dL_foretold_313 : decode cL_foretold 313 = .ok (.invokestatic 366, 3) := by decide +kernel
theorem dL_foretold_316 : decode cL_foretold 316 = .ok (.iload_n 1, 1) := by decide +kernel
theorem dL_foretold_317 : decode cL_foretold 317 = .ok (.if_icmp .ne 11, 3) := by decide +kernel
theorem dL_foretold_320 : decode cL_foretold 320 = .ok (.iload_n 2, 1) := by decide +kernel
theorem dL_foretold_321 : decode cL_foretold 321 = .ok (.ifCond .eq 7, 3) := by decide +kernel
theorem dL_foretold_324 : decode cL_foretold 324 = .ok (.iconst 1, 1) := by decide +kernel
theorem dL_foretold_325 : decode cL_foretold 325 = .ok (.goto 4, 3) := by decide +kernel
theorem dL_foretold_328 : decode cL_foretold 328 = .ok (.iconst 0, 1) := by decide +kernel
theorem dL_foretold_329 : decode cL_foretold 329 = .ok (.ireturn, 1) := by decide +kernel
