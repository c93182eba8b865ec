theorem dL_act_0 : decode cL_act 0 = .ok (.aload_n 0, 1) := by decide +kernel
theorem dL_act_1 : decode cL_act 1 = .ok (.iconst 2, 1) := by decide +kernel
theorem dL_act_2 : decode cL_act 2 = .ok (.iconst 0, 1) := by decide +kernel
theorem dL_act_3 : decode cL_act 3 = .ok (.iconst 0, 1) := by decide +kernel
theorem dL_act_4 : decode cL_act 4 = .ok (.iconst 0, 1) := by decide +kernel
theorem dL_act_5 : decode cL_act 5 = .ok (.invokestatic 138, 3) := by decide +kernel
theorem dL_act_8 : decode cL_act 8 = .ok (.istore_n 2, 1) := by decide +kernel
theorem dL_act_9 : decode cL_act 9 = .ok (.iload_n 1, 1) := by decide +kernel
theorem dL_act_10 : decode cL_act 10 = .ok (.bipush 16, 2) := by decide +kernel
theorem dL_act_12 : decode cL_act 12 = .ok (.idiv, 1) := by decide +kernel
theorem dL_act_13 : decode cL_act 13 = .ok (.iload_n 2, 1) := by decide +kernel
theorem dL_act_14 : decode cL_act 14 = .ok (.irem, 1) := by decide +kernel
theorem dL_act_15 : decode cL_act 15 = .ok (.istore_n 3, 1) := by decide +kernel
theorem dL_act_16 : decode cL_act 16 = .ok (.iload_n 1, 1) := by decide +kernel
theorem dL_act_17 : decode cL_act 17 = .ok (.sipush 480, 3) := by decide +kernel
theorem dL_act_20 : decode cL_act 20 = .ok (.idiv, 1) := by decide +kernel
theorem dL_act_21 : decode cL_act 21 = .ok (.sipush 300, 3) := by decide +kernel
theorem dL_act_24 : decode cL_act 24 = .ok (.irem, 1) := by decide +kernel
theorem dL_act_25 : decode cL_act 25 = .ok (.sipush 250, 3) := by decide +kernel
theorem dL_act_28 : decode cL_act 28 = .ok (.isub, 1) := by decide +kernel
theorem dL_act_29 : decode cL_act 29 = .ok (.istore 4, 2) := by decide +kernel
theorem dL_act_31 : decode cL_act 31 = .ok (.iload_n 1, 1) := by decide +kernel
theorem dL_act_32 : decode cL_act 32 = .ok (.bipush 16, 2) := by decide +kernel
theorem dL_act_34 : decode cL_act 34 = .ok (.irem, 1) := by decide +kernel
theorem dL_act_35 : decode cL_act 35 = .ok (.tableswitch 231 0 10 #[57, 96, 96, 96, 116, 116, 144, 144, 182, 201, 216], 57) := by decide +kernel
theorem dL_act_92 : decode cL_act 92 = .ok (.iload_n 2, 1) := by decide +kernel
theorem dL_act_93 : decode cL_act 93 = .ok (.iconst 5, 1) := by decide +kernel
theorem dL_act_94 : decode cL_act 94 = .ok (.if_icmp .ge 35, 3) := by decide +kernel
theorem dL_act_97 : decode cL_act 97 = .ok (.aload_n 0, 1) := by decide +kernel
theorem dL_act_98 : decode cL_act 98 = .ok (.bipush 6, 2) := by decide +kernel
theorem dL_act_100 : decode cL_act 100 = .ok (.iconst 1, 1) := by decide +kernel
theorem dL_act_101 : decode cL_act 101 = .ok (.iload_n 1, 1) := by decide +kernel
theorem dL_act_102 : decode cL_act 102 = .ok (.bipush 16, 2) := by decide +kernel
theorem dL_act_104 : decode cL_act 104 = .ok (.idiv, 1) := by decide +kernel
theorem dL_act_105 : decode cL_act 105 = .ok (.bipush 30, 2) := by decide +kernel
theorem dL_act_107 : decode cL_act 107 = .ok (.irem, 1) := by decide +kernel
theorem dL_act_108 : decode cL_act 108 = .ok (.iadd, 1) := by decide +kernel
theorem dL_act_109 : decode cL_act 109 = .ok (.iload 4, 2) := by decide +kernel
theorem dL_act_111 : decode cL_act 111 = .ok (.iload 4, 2) := by decide +kernel
theorem dL_act_113 : decode cL_act 113 = .ok (.iconst 1, 1) := by decide +kernel
theorem dL_act_114 : decode cL_act 114 = .ok (.iadd, 1) := by decide +kernel
theorem dL_act_115 : decode cL_act 115 = .ok (.iload_n 1, 1) := by decide +kernel
theorem dL_act_116 : decode cL_act 116 = .ok (.ldc 162, 2) := by decide +kernel
theorem dL_act_118 : decode cL_act 118 = .ok (.idiv, 1) := by decide +kernel
theorem dL_act_119 : decode cL_act 119 = .ok (.bipush 50, 2) := by decide +kernel
theorem dL_act_121 : decode cL_act 121 = .ok (.irem, 1) := by decide +kernel
theorem dL_act_122 : decode cL_act 122 = .ok (.iadd, 1) := by decide +kernel
theorem dL_act_123 : decode cL_act 123 = .ok (.invokestatic 138, 3) := by decide +kernel
theorem dL_act_126 : decode cL_act 126 = .ok (.goto 4, 3) := by decide +kernel
theorem dL_act_129 : decode cL_act 129 = .ok (.iconst (-1), 1) := by decide +kernel
theorem dL_act_130 : decode cL_act 130 = .ok (.ireturn, 1) := by decide +kernel
theorem dL_act_131 : decode cL_act 131 = .ok (.aload_n 0, 1) := by decide +kernel
theorem dL_act_132 : decode cL_act 132 = .ok (.iload_n 3, 1) := by decide +kernel
theorem dL_act_133 : decode cL_act 133 = .ok (.iload_n 1, 1) := by decide +kernel
theorem dL_act_134 : decode cL_act 134 = .ok (.bipush 96, 2) := by decide +kernel
theorem dL_act_136 : decode cL_act 136 = .ok (.idiv, 1) := by decide +kernel
theorem dL_act_137 : decode cL_act 137 = .ok (.iconst 3, 1) := by decide +kernel
theorem dL_act_138 : decode cL_act 138 = .ok (.irem, 1) := by decide +kernel
theorem dL_act_139 : decode cL_act 139 = .ok (.ifCond .le 7, 3) := by decide +kernel
theorem dL_act_142 : decode cL_act 142 = .ok (.iconst 1, 1) := by decide +kernel
theorem dL_act_143 : decode cL_act 143 = .ok (.goto 4, 3) := by decide +kernel
theorem dL_act_146 : decode cL_act 146 = .ok (.iconst 0, 1) := by decide +kernel
theorem dL_act_147 : decode cL_act 147 = .ok (.invokestatic 142, 3) := by decide +kernel
theorem dL_act_150 : decode cL_act 150 = .ok (.ireturn, 1) := by decide +kernel
theorem dL_act_151 : decode cL_act 151 = .ok (.aload_n 0, 1) := by decide +kernel
theorem dL_act_152 : decode cL_act 152 = .ok (.bipush 7, 2) := by decide +kernel
theorem dL_act_154 : decode cL_act 154 = .ok (.iload_n 3, 1) := by decide +kernel
theorem dL_act_155 : decode cL_act 155 = .ok (.aload_n 0, 1) := by decide +kernel
theorem dL_act_156 : decode cL_act 156 = .ok (.iconst 3, 1) := by decide +kernel
theorem dL_act_157 : decode cL_act 157 = .ok (.iload_n 3, 1) := by decide +kernel
theorem dL_act_158 : decode cL_act 158 = .ok (.iconst 1, 1) := by decide +kernel
theorem dL_act_159 : decode cL_act 159 = .ok (.iconst 0, 1) := by decide +kernel
theorem dL_act_160 : decode cL_act 160 = .ok (.invokestatic 138, 3) := by decide +kernel
theorem dL_act_163 : decode cL_act 163 = .ok (.iload_n 1, 1) := by decide +kernel
theorem dL_act_164 : decode cL_act 164 = .ok (.bipush 96, 2) := by decide +kernel
theorem dL_act_166 : decode cL_act 166 = .ok (.idiv, 1) := by decide +kernel
theorem dL_act_167 : decode cL_act 167 = .ok (.bipush 100, 2) := by decide +kernel
theorem dL_act_169 : decode cL_act 169 = .ok (.irem, 1) := by decide +kernel
theorem dL_act_170 : decode cL_act 170 = .ok (.iadd, 1) := by decide +kernel
theorem dL_act_171 : decode cL_act 171 = .ok (.bipush 30, 2) := by decide +kernel
theorem dL_act_173 : decode cL_act 173 = .ok (.isub, 1) := by decide +kernel
theorem dL_act_174 : decode cL_act 174 = .ok (.iconst 0, 1) := by decide +kernel
theorem dL_act_175 : decode cL_act 175 = .ok (.invokestatic 138, 3) := by decide +kernel
theorem dL_act_178 : decode cL_act 178 = .ok (.ireturn, 1) := by decide +kernel
theorem dL_act_179 : decode cL_act 179 = .ok (.aload_n 0, 1) := by decide +kernel
theorem dL_act_180 : decode cL_act 180 = .ok (.bipush 9, 2) := by decide +kernel
theorem dL_act_182 : decode cL_act 182 = .ok (.iload_n 1, 1) := by decide +kernel
theorem dL_act_183 : decode cL_act 183 = .ok (.bipush 16, 2) := by decide +kernel
theorem dL_act_185 : decode cL_act 185 = .ok (.idiv, 1) := by decide +kernel
theorem dL_act_186 : decode cL_act 186 = .ok (.bipush 6, 2) := by decide +kernel
theorem dL_act_188 : decode cL_act 188 = .ok (.irem, 1) := by decide +kernel
theorem dL_act_189 : decode cL_act 189 = .ok (.iload_n 1, 1) := by decide +kernel
theorem dL_act_190 : decode cL_act 190 = .ok (.bipush 96, 2) := by decide +kernel
theorem dL_act_192 : decode cL_act 192 = .ok (.idiv, 1) := by decide +kernel
theorem dL_act_193 : decode cL_act 193 = .ok (.iload_n 1, 1) := by decide +kernel
theorem dL_act_194 : decode cL_act 194 = .ok (.bipush 16, 2) := by decide +kernel
theorem dL_act_196 : decode cL_act 196 = .ok (.idiv, 1) := by decide +kernel
theorem dL_act_197 : decode cL_act 197 = .ok (.bipush 6, 2) := by decide +kernel
theorem dL_act_199 : decode cL_act 199 = .ok (.irem, 1) := by decide +kernel
theorem dL_act_200 : decode cL_act 200 = .ok (.ifCond .ne 9, 3) := by decide +kernel
theorem dL_act_203 : decode cL_act 203 = .ok (.sipush 1200, 3) := by decide +kernel
theorem dL_act_206 : decode cL_act 206 = .ok (.goto 5, 3) := by decide +kernel
theorem dL_act_209 : decode cL_act 209 = .ok (.bipush 40, 2) := by decide +kernel
theorem dL_act_211 : decode cL_act 211 = .ok (.irem, 1) := by decide +kernel
theorem dL_act_212 : decode cL_act 212 = .ok (.iconst 0, 1) := by decide +kernel
theorem dL_act_213 : decode cL_act 213 = .ok (.invokestatic 138, 3) := by decide +kernel
theorem dL_act_216 : decode cL_act 216 = .ok (.ireturn, 1) := by decide +kernel
theorem dL_act_217 : decode cL_act 217 = .ok (.iload_n 2, 1) := by decide +kernel
theorem dL_act_218 : decode cL_act 218 = .ok (.iconst 2, 1) := by decide +kernel
theorem dL_act_219 : decode cL_act 219 = .ok (.if_icmp .ge 7, 3) := by decide +kernel
