theorem dL_limit_0 : decode cL_limit 0 = .ok (.aload_n 0, 1) := by decide +kernel
theorem dL_limit_1 : decode cL_limit 1 = .ok (.bipush 13, 2) := by decide +kernel
theorem dL_limit_3 : decode cL_limit 3 = .ok (.iload_n 2, 1) := by decide +kernel
theorem dL_limit_4 : decode cL_limit 4 = .ok (.iconst 0, 1) := by decide +kernel
theorem dL_limit_5 : decode cL_limit 5 = .ok (.iconst 0, 1) := by decide +kernel
theorem dL_limit_6 : decode cL_limit 6 = .ok (.invokestatic 138, 3) := by decide +kernel
theorem dL_limit_9 : decode cL_limit 9 = .ok (.istore_n 3, 1) := by decide +kernel
theorem dL_limit_10 : decode cL_limit 10 = .ok (.aload_n 0, 1) := by decide +kernel
theorem dL_limit_11 : decode cL_limit 11 = .ok (.iconst 2, 1) := by decide +kernel
theorem dL_limit_12 : decode cL_limit 12 = .ok (.iconst 4, 1) := by decide +kernel
theorem dL_limit_13 : decode cL_limit 13 = .ok (.iconst 0, 1) := by decide +kernel
theorem dL_limit_14 : decode cL_limit 14 = .ok (.iconst 0, 1) := by decide +kernel
theorem dL_limit_15 : decode cL_limit 15 = .ok (.invokestatic 138, 3) := by decide +kernel
theorem dL_limit_18 : decode cL_limit 18 = .ok (.istore 4, 2) := by decide +kernel
theorem dL_limit_20 : decode cL_limit 20 = .ok (.iconst 1, 1) := by decide +kernel
theorem dL_limit_21 : decode cL_limit 21 = .ok (.istore 5, 2) := by decide +kernel
theorem dL_limit_23 : decode cL_limit 23 = .ok (.iconst 0, 1) := by decide +kernel
theorem dL_limit_24 : decode cL_limit 24 = .ok (.istore 6, 2) := by decide +kernel
theorem dL_limit_26 : decode cL_limit 26 = .ok (.iload 6, 2) := by decide +kernel
theorem dL_limit_28 : decode cL_limit 28 = .ok (.iconst 2, 1) := by decide +kernel
theorem dL_limit_29 : decode cL_limit 29 = .ok (.if_icmp .ge 208, 3) := by decide +kernel
theorem dL_limit_32 : decode cL_limit 32 = .ok (.iload 5, 2) := by decide +kernel
theorem dL_limit_34 : decode cL_limit 34 = .ok (.ifCond .eq 203, 3) := by decide +kernel
theorem dL_limit_37 : decode cL_limit 37 = .ok (.iload_n 3, 1) := by decide +kernel
theorem dL_limit_38 : decode cL_limit 38 = .ok (.iconst (-1), 1) := by decide +kernel
theorem dL_limit_39 : decode cL_limit 39 = .ok (.if_icmp .ne 9, 3) := by decide +kernel
theorem dL_limit_42 : decode cL_limit 42 = .ok (.sipush 9900, 3) := by decide +kernel
theorem dL_limit_45 : decode cL_limit 45 = .ok (.goto 10, 3) := by decide +kernel
theorem dL_limit_48 : decode cL_limit 48 = .ok (.iload_n 3, 1) := by decide +kernel
theorem dL_limit_49 : decode cL_limit 49 = .ok (.bipush 100, 2) := by decide +kernel
theorem dL_limit_51 : decode cL_limit 51 = .ok (.iload 6, 2) := by decide +kernel
theorem dL_limit_53 : decode cL_limit 53 = .ok (.imul, 1) := by decide +kernel
theorem dL_limit_54 : decode cL_limit 54 = .ok (.isub, 1) := by decide +kernel
theorem dL_limit_55 : decode cL_limit 55 = .ok (.istore 7, 2) := by decide +kernel
theorem dL_limit_57 : decode cL_limit 57 = .ok (.iload 7, 2) := by decide +kernel
theorem dL_limit_59 : decode cL_limit 59 = .ok (.ifCond .lt 172, 3) := by decide +kernel
theorem dL_limit_62 : decode cL_limit 62 = .ok (.aload_n 0, 1) := by decide +kernel
theorem dL_limit_63 : decode cL_limit 63 = .ok (.bipush 9, 2) := by decide +kernel
theorem dL_limit_65 : decode cL_limit 65 = .ok (.iconst 0, 1) := by decide +kernel
theorem dL_limit_66 : decode cL_limit 66 = .ok (.iload 7, 2) := by decide +kernel
theorem dL_limit_68 : decode cL_limit 68 = .ok (.iconst 0, 1) := by decide +kernel
theorem dL_limit_69 : decode cL_limit 69 = .ok (.invokestatic 138, 3) := by decide +kernel
theorem dL_limit_72 : decode cL_limit 72 = .ok (.invokestatic 190, 3) := by decide +kernel
theorem dL_limit_75 : decode cL_limit 75 = .ok (.ifCond .ne 153, 3) := by decide +kernel
theorem dL_limit_78 : decode cL_limit 78 = .ok (.aload_n 1, 1) := by decide +kernel
theorem dL_limit_79 : decode cL_limit 79 = .ok (.bipush 9, 2) := by decide +kernel
theorem dL_limit_81 : decode cL_limit 81 = .ok (.iconst 0, 1) := by decide +kernel
theorem dL_limit_82 : decode cL_limit 82 = .ok (.iload 7, 2) := by decide +kernel
theorem dL_limit_84 : decode cL_limit 84 = .ok (.iconst 0, 1) := by decide +kernel
theorem dL_limit_85 : decode cL_limit 85 = .ok (.invokestatic 138, 3) := by decide +kernel
theorem dL_limit_88 : decode cL_limit 88 = .ok (.invokestatic 190, 3) := by decide +kernel
theorem dL_limit_91 : decode cL_limit 91 = .ok (.ifCond .ne 137, 3) := by decide +kernel
theorem dL_limit_94 : decode cL_limit 94 = .ok (.aload_n 0, 1) := by decide +kernel
theorem dL_limit_95 : decode cL_limit 95 = .ok (.bipush 8, 2) := by decide +kernel
theorem dL_limit_97 : decode cL_limit 97 = .ok (.iload_n 2, 1) := by decide +kernel
theorem dL_limit_98 : decode cL_limit 98 = .ok (.iconst 0, 1) := by decide +kernel
theorem dL_limit_99 : decode cL_limit 99 = .ok (.iconst 0, 1) := by decide +kernel
theorem dL_limit_100 : decode cL_limit 100 = .ok (.invokestatic 138, 3) := by decide +kernel
theorem dL_limit_103 : decode cL_limit 103 = .ok (.aload_n 1, 1) := by decide +kernel
theorem dL_limit_104 : decode cL_limit 104 = .ok (.bipush 8, 2) := by decide +kernel
theorem dL_limit_106 : decode cL_limit 106 = .ok (.iload_n 2, 1) := by decide +kernel
theorem dL_limit_107 : decode cL_limit 107 = .ok (.iconst 0, 1) := by decide +kernel
theorem dL_limit_108 : decode cL_limit 108 = .ok (.iconst 0, 1) := by decide +kernel
theorem dL_limit_109 : decode cL_limit 109 = .ok (.invokestatic 138, 3) := by decide +kernel
theorem dL_limit_112 : decode cL_limit 112 = .ok (.if_icmp .ne 116, 3) := by decide +kernel
theorem dL_limit_115 : decode cL_limit 115 = .ok (.aload_n 0, 1) := by decide +kernel
theorem dL_limit_116 : decode cL_limit 116 = .ok (.iconst 2, 1) := by decide +kernel
theorem dL_limit_117 : decode cL_limit 117 = .ok (.iconst 4, 1) := by decide +kernel
theorem dL_limit_118 : decode cL_limit 118 = .ok (.iconst 0, 1) := by decide +kernel
theorem dL_limit_119 : decode cL_limit 119 = .ok (.iconst 0, 1) := by decide +kernel
theorem dL_limit_120 : decode cL_limit 120 = .ok (.invokestatic 138, 3) := by decide +kernel
theorem dL_limit_123 : decode cL_limit 123 = .ok (.iload 4, 2) := by decide +kernel
theorem dL_limit_125 : decode cL_limit 125 = .ok (.if_icmp .ne 7, 3) := by decide +kernel
theorem dL_limit_128 : decode cL_limit 128 = .ok (.iconst 1, 1) := by decide +kernel
theorem dL_limit_129 : decode cL_limit 129 = .ok (.goto 4, 3) := by decide +kernel
theorem dL_limit_132 : decode cL_limit 132 = .ok (.iconst 0, 1) := by decide +kernel
theorem dL_limit_133 : decode cL_limit 133 = .ok (.iload_n 3, 1) := by decide +kernel
theorem dL_limit_134 : decode cL_limit 134 = .ok (.iconst (-1), 1) := by decide +kernel
theorem dL_limit_135 : decode cL_limit 135 = .ok (.if_icmp .eq 12, 3) := by decide +kernel
theorem dL_limit_138 : decode cL_limit 138 = .ok (.iload 6, 2) := by decide +kernel
theorem dL_limit_140 : decode cL_limit 140 = .ok (.ifCond .ne 7, 3) := by decide +kernel
theorem dL_limit_143 : decode cL_limit 143 = .ok (.iconst 1, 1) := by decide +kernel
theorem dL_limit_144 : decode cL_limit 144 = .ok (.goto 4, 3) := by decide +kernel
theorem dL_limit_147 : decode cL_limit 147 = .ok (.iconst 0, 1) := by decide +kernel
theorem dL_limit_148 : decode cL_limit 148 = .ok (.if_icmp .ne 80, 3) := by decide +kernel
theorem dL_limit_151 : decode cL_limit 151 = .ok (.aload_n 0, 1) := by decide +kernel
theorem dL_limit_152 : decode cL_limit 152 = .ok (.bipush 10, 2) := by decide +kernel
theorem dL_limit_154 : decode cL_limit 154 = .ok (.iconst 0, 1) := by decide +kernel
theorem dL_limit_155 : decode cL_limit 155 = .ok (.iconst 0, 1) := by decide +kernel
theorem dL_limit_156 : decode cL_limit 156 = .ok (.iconst 0, 1) := by decide +kernel
theorem dL_limit_157 : decode cL_limit 157 = .ok (.invokestatic 138, 3) := by decide +kernel
theorem dL_limit_160 : decode cL_limit 160 = .ok (.invokestatic 190, 3) := by decide +kernel
theorem dL_limit_163 : decode cL_limit 163 = .ok (.ifCond .ne 65, 3) := by decide +kernel
theorem dL_limit_166 : decode cL_limit 166 = .ok (.aload_n 0, 1) := by decide +kernel
theorem dL_limit_167 : decode cL_limit 167 = .ok (.bipush 10, 2) := by decide +kernel
theorem dL_limit_169 : decode cL_limit 169 = .ok (.iconst 0, 1) := by decide +kernel
theorem dL_limit_170 : decode cL_limit 170 = .ok (.iconst 0, 1) := by decide +kernel
theorem dL_limit_171 : decode cL_limit 171 = .ok (.iconst 0, 1) := by decide +kernel
theorem dL_limit_172 : decode cL_limit 172 = .ok (.invokestatic 138, 3) := by decide +kernel
theorem dL_limit_175 : decode cL_limit 175 = .ok (.invokestatic 190, 3) := by decide +kernel
theorem dL_limit_178 : decode cL_limit 178 = .ok (.ifCond .ne 50, 3) := by decide +kernel
theorem dL_limit_181 : decode cL_limit 181 = .ok (.aload_n 1, 1) := by decide +kernel
theorem dL_limit_182 : decode cL_limit 182 = .ok (.bipush 10, 2) := by decide +kernel
theorem dL_limit_184 : decode cL_limit 184 = .ok (.iconst 0, 1) := by decide +kernel
theorem dL_limit_185 : decode cL_limit 185 = .ok (.iconst 0, 1) := by decide +kernel
theorem dL_limit_186 : decode cL_limit 186 = .ok (.iconst 0, 1) := by decide +kernel
theorem dL_limit_187 : decode cL_limit 187 = .ok (.invokestatic 138, 3) := by decide +kernel
theorem dL_limit_190 : decode cL_limit 190 = .ok (.invokestatic 190, 3) := by decide +kernel
theorem dL_limit_193 : decode cL_limit 193 = .ok (.ifCond .ne 35, 3) := by decide +kernel
theorem dL_limit_196 : decode cL_limit 196 = .ok (.aload_n 1, 1) := by decide +kernel
