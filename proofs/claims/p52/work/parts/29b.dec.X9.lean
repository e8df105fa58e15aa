theorem dX9_init_0 : decode cX9_init 0 = .ok (.aload_n 0, 1) := by decide +kernel
theorem dX9_init_1 : decode cX9_init 1 = .ok (.invokespecial 3, 3) := by decide +kernel
theorem dX9_init_4 : decode cX9_init 4 = .ok (.aload_n 0, 1) := by decide +kernel
theorem dX9_init_5 : decode cX9_init 5 = .ok (.new 9, 3) := by decide +kernel
theorem dX9_init_8 : decode cX9_init 8 = .ok (.dup, 1) := by decide +kernel
theorem dX9_init_9 : decode cX9_init 9 = .ok (.invokespecial 11, 3) := by decide +kernel
theorem dX9_init_12 : decode cX9_init 12 = .ok (.putfield 12, 3) := by decide +kernel
theorem dX9_init_15 : decode cX9_init 15 = .ok (.aload_n 0, 1) := by decide +kernel
theorem dX9_init_16 : decode cX9_init 16 = .ok (.new 18, 3) := by decide +kernel
theorem dX9_init_19 : decode cX9_init 19 = .ok (.dup, 1) := by decide +kernel
theorem dX9_init_20 : decode cX9_init 20 = .ok (.invokespecial 20, 3) := by decide +kernel
theorem dX9_init_23 : decode cX9_init 23 = .ok (.putfield 21, 3) := by decide +kernel
theorem dX9_init_26 : decode cX9_init 26 = .ok (.return_, 1) := by decide +kernel
theorem dX9_copyFrom_0 : decode cX9_copyFrom 0 = .ok (.aload_n 0, 1) := by decide +kernel
theorem dX9_copyFrom_1 : decode cX9_copyFrom 1 = .ok (.getfield 12, 3) := by decide +kernel
theorem dX9_copyFrom_4 : decode cX9_copyFrom 4 = .ok (.aload_n 1, 1) := by decide +kernel
theorem dX9_copyFrom_5 : decode cX9_copyFrom 5 = .ok (.getfield 12, 3) := by decide +kernel
theorem dX9_copyFrom_8 : decode cX9_copyFrom 8 = .ok (.invokevirtual 25, 3) := by decide +kernel
theorem dX9_copyFrom_11 : decode cX9_copyFrom 11 = .ok (.aload_n 0, 1) := by decide +kernel
theorem dX9_copyFrom_12 : decode cX9_copyFrom 12 = .ok (.getfield 21, 3) := by decide +kernel
theorem dX9_copyFrom_15 : decode cX9_copyFrom 15 = .ok (.aload_n 1, 1) := by decide +kernel
theorem dX9_copyFrom_16 : decode cX9_copyFrom 16 = .ok (.getfield 21, 3) := by decide +kernel
theorem dX9_copyFrom_19 : decode cX9_copyFrom 19 = .ok (.invokevirtual 29, 3) := by decide +kernel
theorem dX9_copyFrom_22 : decode cX9_copyFrom 22 = .ok (.return_, 1) := by decide +kernel
theorem dX9_whyNot_0 : decode cX9_whyNot 0 = .ok (.getstatic 32, 3) := by decide +kernel
theorem dX9_whyNot_3 : decode cX9_whyNot 3 = .ok (.aload_n 1, 1) := by decide +kernel
theorem dX9_whyNot_4 : decode cX9_whyNot 4 = .ok (.invokevirtual 38, 3) := by decide +kernel
theorem dX9_whyNot_7 : decode cX9_whyNot 7 = .ok (.iaload, 1) := by decide +kernel
theorem dX9_whyNot_8 : decode cX9_whyNot 8 = .ok (.tableswitch 154 1 9 #[52, 61, 73, 83, 92, 101, 121, 133, 133], 52) := by decide +kernel
theorem dX9_whyNot_60 : decode cX9_whyNot 60 = .ok (.aload_n 0, 1) := by decide +kernel
theorem dX9_whyNot_61 : decode cX9_whyNot 61 = .ok (.getfield 12, 3) := by decide +kernel
theorem dX9_whyNot_64 : decode cX9_whyNot 64 = .ok (.iload_n 2, 1) := by decide +kernel
theorem dX9_whyNot_65 : decode cX9_whyNot 65 = .ok (.invokevirtual 44, 3) := by decide +kernel
theorem dX9_whyNot_68 : decode cX9_whyNot 68 = .ok (.areturn, 1) := by decide +kernel
theorem dX9_whyNot_69 : decode cX9_whyNot 69 = .ok (.aload_n 0, 1) := by decide +kernel
theorem dX9_whyNot_70 : decode cX9_whyNot 70 = .ok (.getfield 12, 3) := by decide +kernel
theorem dX9_whyNot_73 : decode cX9_whyNot 73 = .ok (.iload_n 2, 1) := by decide +kernel
theorem dX9_whyNot_74 : decode cX9_whyNot 74 = .ok (.iload_n 3, 1) := by decide +kernel
theorem dX9_whyNot_75 : decode cX9_whyNot 75 = .ok (.iload 4, 2) := by decide +kernel
theorem dX9_whyNot_77 : decode cX9_whyNot 77 = .ok (.invokevirtual 48, 3) := by decide +kernel
theorem dX9_whyNot_80 : decode cX9_whyNot 80 = .ok (.areturn, 1) := by decide +kernel
theorem dX9_whyNot_81 : decode cX9_whyNot 81 = .ok (.aload_n 0, 1) := by decide +kernel
theorem dX9_whyNot_82 : decode cX9_whyNot 82 = .ok (.getfield 12, 3) := by decide +kernel
theorem dX9_whyNot_85 : decode cX9_whyNot 85 = .ok (.iload_n 2, 1) := by decide +kernel
theorem dX9_whyNot_86 : decode cX9_whyNot 86 = .ok (.iload_n 3, 1) := by decide +kernel
theorem dX9_whyNot_87 : decode cX9_whyNot 87 = .ok (.invokevirtual 52, 3) := by decide +kernel
theorem dX9_whyNot_90 : decode cX9_whyNot 90 = .ok (.areturn, 1) := by decide +kernel
theorem dX9_whyNot_91 : decode cX9_whyNot 91 = .ok (.aload_n 0, 1) := by decide +kernel
theorem dX9_whyNot_92 : decode cX9_whyNot 92 = .ok (.getfield 12, 3) := by decide +kernel
theorem dX9_whyNot_95 : decode cX9_whyNot 95 = .ok (.iload_n 2, 1) := by decide +kernel
theorem dX9_whyNot_96 : decode cX9_whyNot 96 = .ok (.invokevirtual 56, 3) := by decide +kernel
theorem dX9_whyNot_99 : decode cX9_whyNot 99 = .ok (.areturn, 1) := by decide +kernel
theorem dX9_whyNot_100 : decode cX9_whyNot 100 = .ok (.aload_n 0, 1) := by decide +kernel
theorem dX9_whyNot_101 : decode cX9_whyNot 101 = .ok (.getfield 12, 3) := by decide +kernel
theorem dX9_whyNot_104 : decode cX9_whyNot 104 = .ok (.iload_n 2, 1) := by decide +kernel
theorem dX9_whyNot_105 : decode cX9_whyNot 105 = .ok (.invokevirtual 59, 3) := by decide +kernel
theorem dX9_whyNot_108 : decode cX9_whyNot 108 = .ok (.areturn, 1) := by decide +kernel
theorem dX9_whyNot_109 : decode cX9_whyNot 109 = .ok (.iload_n 2, 1) := by decide +kernel
theorem dX9_whyNot_110 : decode cX9_whyNot 110 = .ok (.iconst 0, 1) := by decide +kernel
theorem dX9_whyNot_111 : decode cX9_whyNot 111 = .ok (.bipush 20, 2) := by decide +kernel
theorem dX9_whyNot_113 : decode cX9_whyNot 113 = .ok (.invokestatic 62, 3) := by decide +kernel
theorem dX9_whyNot_116 : decode cX9_whyNot 116 = .ok (.ifCond .eq 9, 3) := by decide +kernel
theorem dX9_whyNot_119 : decode cX9_whyNot 119 = .ok (.getstatic 66, 3) := by decide +kernel
theorem dX9_whyNot_122 : decode cX9_whyNot 122 = .ok (.goto 6, 3) := by decide +kernel
theorem dX9_whyNot_125 : decode cX9_whyNot 125 = .ok (.getstatic 72, 3) := by decide +kernel
theorem dX9_whyNot_128 : decode cX9_whyNot 128 = .ok (.areturn, 1) := by decide +kernel
theorem dX9_whyNot_129 : decode cX9_whyNot 129 = .ok (.aload_n 0, 1) := by decide +kernel
theorem dX9_whyNot_130 : decode cX9_whyNot 130 = .ok (.getfield 21, 3) := by decide +kernel
theorem dX9_whyNot_133 : decode cX9_whyNot 133 = .ok (.iload_n 2, 1) := by decide +kernel
theorem dX9_whyNot_134 : decode cX9_whyNot 134 = .ok (.iload_n 3, 1) := by decide +kernel
theorem dX9_whyNot_135 : decode cX9_whyNot 135 = .ok (.iload 4, 2) := by decide +kernel
theorem dX9_whyNot_137 : decode cX9_whyNot 137 = .ok (.invokevirtual 75, 3) := by decide +kernel
theorem dX9_whyNot_140 : decode cX9_whyNot 140 = .ok (.areturn, 1) := by decide +kernel
theorem dX9_whyNot_141 : decode cX9_whyNot 141 = .ok (.aload_n 0, 1) := by decide +kernel
theorem dX9_whyNot_142 : decode cX9_whyNot 142 = .ok (.getfield 21, 3) := by decide +kernel
theorem dX9_whyNot_145 : decode cX9_whyNot 145 = .ok (.iload_n 2, 1) := by decide +kernel
theorem dX9_whyNot_146 : decode cX9_whyNot 146 = .ok (.invokevirtual 77, 3) := by decide +kernel
theorem dX9_whyNot_149 : decode cX9_whyNot 149 = .ok (.ifCond .ge 9, 3) := by decide +kernel
theorem dX9_whyNot_152 : decode cX9_whyNot 152 = .ok (.getstatic 81, 3) := by decide +kernel
theorem dX9_whyNot_155 : decode cX9_whyNot 155 = .ok (.goto 6, 3) := by decide +kernel
theorem dX9_whyNot_158 : decode cX9_whyNot 158 = .ok (.getstatic 72, 3) := by decide +kernel
theorem dX9_whyNot_161 : decode cX9_whyNot 161 = .ok (.areturn, 1) := by decide +kernel
theorem dX9_whyNot_162 : decode cX9_whyNot 162 = .ok (.iload_n 2, 1) := by decide +kernel
theorem dX9_whyNot_163 : decode cX9_whyNot 163 = .ok (.iconst 1, 1) := by decide +kernel
theorem dX9_whyNot_164 : decode cX9_whyNot 164 = .ok (.bipush 60, 2) := by decide +kernel
theorem dX9_whyNot_166 : decode cX9_whyNot 166 = .ok (.invokestatic 62, 3) := by decide +kernel
theorem dX9_whyNot_169 : decode cX9_whyNot 169 = .ok (.ifCond .eq 9, 3) := by decide +kernel
theorem dX9_whyNot_172 : decode cX9_whyNot 172 = .ok (.getstatic 66, 3) := by decide +kernel
theorem dX9_whyNot_175 : decode cX9_whyNot 175 = .ok (.goto 6, 3) := by decide +kernel
theorem dX9_whyNot_178 : decode cX9_whyNot 178 = .ok (.getstatic 72, 3) := by decide +kernel
theorem dX9_whyNot_181 : decode cX9_whyNot 181 = .ok (.areturn, 1) := by decide +kernel
theorem dX9_perform_0 : decode cX9_perform 0 = .ok (.getstatic 32, 3) := by decide +kernel
theorem dX9_perform_3 : decode cX9_perform 3 = .ok (.aload_n 1, 1) := by decide +kernel
theorem dX9_perform_4 : decode cX9_perform 4 = .ok (.invokevirtual 38, 3) := by decide +kernel
theorem dX9_perform_7 : decode cX9_perform 7 = .ok (.iaload, 1) := by decide +kernel
theorem dX9_perform_8 : decode cX9_perform 8 = .ok (.tableswitch 177 1 9 #[52, 61, 73, 92, 101, 110, 126, 138, 161], 52) := by decide +kernel
theorem dX9_perform_60 : decode cX9_perform 60 = .ok (.aload_n 0, 1) := by decide +kernel
theorem dX9_perform_61 : decode cX9_perform 61 = .ok (.getfield 12, 3) := by decide +kernel
theorem dX9_perform_64 : decode cX9_perform 64 = .ok (.iload_n 2, 1) := by decide +kernel
theorem dX9_perform_65 : decode cX9_perform 65 = .ok (.invokevirtual 84, 3) := by decide +kernel
theorem dX9_perform_68 : decode cX9_perform 68 = .ok (.ireturn, 1) := by decide +kernel
theorem dX9_perform_69 : decode cX9_perform 69 = .ok (.aload_n 0, 1) := by decide +kernel
theorem dX9_perform_70 : decode cX9_perform 70 = .ok (.getfield 12, 3) := by decide +kernel
theorem dX9_perform_73 : decode cX9_perform 73 = .ok (.iload_n 2, 1) := by decide +kernel
theorem dX9_perform_74 : decode cX9_perform 74 = .ok (.iload_n 3, 1) := by decide +kernel
theorem dX9_perform_75 : decode cX9_perform 75 = .ok (.iload 4, 2) := by decide +kernel
theorem dX9_perform_77 : decode cX9_perform 77 = .ok (.invokevirtual 87, 3) := by decide +kernel
theorem dX9_perform_80 : decode cX9_perform 80 = .ok (.ireturn, 1) := by decide +kernel
theorem dX9_perform_81 : decode cX9_perform 81 = .ok (.aload_n 0, 1) := by decide +kernel
theorem dX9_perform_82 : decode cX9_perform 82 = .ok (.getfield 12, 3) := by decide +kernel
theorem dX9_perform_85 : decode cX9_perform 85 = .ok (.iload_n 2, 1) := by decide +kernel
theorem dX9_perform_86 : decode cX9_perform 86 = .ok (.iload_n 3, 1) := by decide +kernel
theorem dX9_perform_87 : decode cX9_perform 87 = .ok (.invokevirtual 91, 3) := by decide +kernel
theorem dX9_perform_90 : decode cX9_perform 90 = .ok (.aload_n 0, 1) := by decide +kernel
theorem dX9_perform_91 : decode cX9_perform 91 = .ok (.getfield 12, 3) := by decide +kernel
theorem dX9_perform_94 : decode cX9_perform 94 = .ok (.iload_n 2, 1) := by decide +kernel
theorem dX9_perform_95 : decode cX9_perform 95 = .ok (.iconst 0, 1) := by decide +kernel
theorem dX9_perform_96 : decode cX9_perform 96 = .ok (.invokevirtual 95, 3) := by decide +kernel
theorem dX9_perform_99 : decode cX9_perform 99 = .ok (.ireturn, 1) := by decide +kernel
theorem dX9_perform_100 : decode cX9_perform 100 = .ok (.aload_n 0, 1) := by decide +kernel
theorem dX9_perform_101 : decode cX9_perform 101 = .ok (.getfield 12, 3) := by decide +kernel
theorem dX9_perform_104 : decode cX9_perform 104 = .ok (.iload_n 2, 1) := by decide +kernel
theorem dX9_perform_105 : decode cX9_perform 105 = .ok (.invokevirtual 99, 3) := by decide +kernel
theorem dX9_perform_108 : decode cX9_perform 108 = .ok (.ireturn, 1) := by decide +kernel
theorem dX9_perform_109 : decode cX9_perform 109 = .ok (.aload_n 0, 1) := by decide +kernel
theorem dX9_perform_110 : decode cX9_perform 110 = .ok (.getfield 12, 3) := by decide +kernel
theorem dX9_perform_113 : decode cX9_perform 113 = .ok (.iload_n 2, 1) := by decide +kernel
theorem dX9_perform_114 : decode cX9_perform 114 = .ok (.invokevirtual 102, 3) := by decide +kernel
theorem dX9_perform_117 : decode cX9_perform 117 = .ok (.ireturn, 1) := by decide +kernel
theorem dX9_perform_118 : decode cX9_perform 118 = .ok (.aload_n 0, 1) := by decide +kernel
theorem dX9_perform_119 : decode cX9_perform 119 = .ok (.getfield 12, 3) := by decide +kernel
theorem dX9_perform_122 : decode cX9_perform 122 = .ok (.iload_n 2, 1) := by decide +kernel
theorem dX9_perform_123 : decode cX9_perform 123 = .ok (.putfield 105, 3) := by decide +kernel
theorem dX9_perform_126 : decode cX9_perform 126 = .ok (.aload_n 0, 1) := by decide +kernel
theorem dX9_perform_127 : decode cX9_perform 127 = .ok (.getfield 12, 3) := by decide +kernel
theorem dX9_perform_130 : decode cX9_perform 130 = .ok (.invokevirtual 109, 3) := by decide +kernel
theorem dX9_perform_133 : decode cX9_perform 133 = .ok (.ireturn, 1) := by decide +kernel
theorem dX9_perform_134 : decode cX9_perform 134 = .ok (.aload_n 0, 1) := by decide +kernel
theorem dX9_perform_135 : decode cX9_perform 135 = .ok (.getfield 21, 3) := by decide +kernel
theorem dX9_perform_138 : decode cX9_perform 138 = .ok (.iload_n 2, 1) := by decide +kernel
theorem dX9_perform_139 : decode cX9_perform 139 = .ok (.iload_n 3, 1) := by decide +kernel
theorem dX9_perform_140 : decode cX9_perform 140 = .ok (.iload 4, 2) := by decide +kernel
theorem dX9_perform_142 : decode cX9_perform 142 = .ok (.invokevirtual 112, 3) := by decide +kernel
theorem dX9_perform_145 : decode cX9_perform 145 = .ok (.ireturn, 1) := by decide +kernel
theorem dX9_perform_146 : decode cX9_perform 146 = .ok (.aload_n 0, 1) := by decide +kernel
theorem dX9_perform_147 : decode cX9_perform 147 = .ok (.getfield 21, 3) := by decide +kernel
theorem dX9_perform_150 : decode cX9_perform 150 = .ok (.aload_n 0, 1) := by decide +kernel
theorem dX9_perform_151 : decode cX9_perform 151 = .ok (.getfield 21, 3) := by decide +kernel
theorem dX9_perform_154 : decode cX9_perform 154 = .ok (.iload_n 2, 1) := by decide +kernel
theorem dX9_perform_155 : decode cX9_perform 155 = .ok (.invokevirtual 77, 3) := by decide +kernel
theorem dX9_perform_158 : decode cX9_perform 158 = .ok (.invokevirtual 114, 3) := by decide +kernel
theorem dX9_perform_161 : decode cX9_perform 161 = .ok (.aload_n 0, 1) := by decide +kernel
theorem dX9_perform_162 : decode cX9_perform 162 = .ok (.getfield 21, 3) := by decide +kernel
theorem dX9_perform_165 : decode cX9_perform 165 = .ok (.getfield 118, 3) := by decide +kernel
theorem dX9_perform_168 : decode cX9_perform 168 = .ok (.ireturn, 1) := by decide +kernel
theorem dX9_perform_169 : decode cX9_perform 169 = .ok (.aload_n 0, 1) := by decide +kernel
theorem dX9_perform_170 : decode cX9_perform 170 = .ok (.getfield 21, 3) := by decide +kernel
theorem dX9_perform_173 : decode cX9_perform 173 = .ok (.aload_n 0, 1) := by decide +kernel
theorem dX9_perform_174 : decode cX9_perform 174 = .ok (.getfield 21, 3) := by decide +kernel
theorem dX9_perform_177 : decode cX9_perform 177 = .ok (.iload_n 2, 1) := by decide +kernel
theorem dX9_perform_178 : decode cX9_perform 178 = .ok (.invokevirtual 77, 3) := by decide +kernel
theorem dX9_perform_181 : decode cX9_perform 181 = .ok (.invokevirtual 121, 3) := by decide +kernel
theorem dX9_perform_184 : decode cX9_perform 184 = .ok (.ireturn, 1) := by decide +kernel
theorem dX9_perform_185 : decode cX9_perform 185 = .ok (.aload_n 0, 1) := by decide +kernel
theorem dX9_perform_186 : decode cX9_perform 186 = .ok (.getfield 21, 3) := by decide +kernel
theorem dX9_perform_189 : decode cX9_perform 189 = .ok (.dup, 1) := by decide +kernel
theorem dX9_perform_190 : decode cX9_perform 190 = .ok (.getfield 124, 3) := by decide +kernel
theorem dX9_perform_193 : decode cX9_perform 193 = .ok (.iload_n 2, 1) := by decide +kernel
theorem dX9_perform_194 : decode cX9_perform 194 = .ok (.iadd, 1) := by decide +kernel
theorem dX9_perform_195 : decode cX9_perform 195 = .ok (.putfield 124, 3) := by decide +kernel
theorem dX9_perform_198 : decode cX9_perform 198 = .ok (.aload_n 0, 1) := by decide +kernel
theorem dX9_perform_199 : decode cX9_perform 199 = .ok (.getfield 21, 3) := by decide +kernel
theorem dX9_perform_202 : decode cX9_perform 202 = .ok (.getfield 124, 3) := by decide +kernel
theorem dX9_perform_205 : decode cX9_perform 205 = .ok (.ireturn, 1) := by decide +kernel
