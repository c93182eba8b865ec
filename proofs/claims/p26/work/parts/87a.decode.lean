theorem dL_alike_0 : decode cL_alike 0 = .ok (.aload_n 0, 1) := by decide +kernel
theorem dL_alike_1 : decode cL_alike 1 = .ok (.iconst 2, 1) := by decide +kernel
theorem dL_alike_2 : decode cL_alike 2 = .ok (.iconst 0, 1) := by decide +kernel
theorem dL_alike_3 : decode cL_alike 3 = .ok (.iconst 0, 1) := by decide +kernel
theorem dL_alike_4 : decode cL_alike 4 = .ok (.iconst 0, 1) := by decide +kernel
theorem dL_alike_5 : decode cL_alike 5 = .ok (.invokestatic 138, 3) := by decide +kernel
theorem dL_alike_8 : decode cL_alike 8 = .ok (.istore_n 3, 1) := by decide +kernel
theorem dL_alike_9 : decode cL_alike 9 = .ok (.aload_n 0, 1) := by decide +kernel
theorem dL_alike_10 : decode cL_alike 10 = .ok (.iload_n 2, 1) := by decide +kernel
theorem dL_alike_11 : decode cL_alike 11 = .ok (.i2l, 1) := by decide +kernel
theorem dL_alike_12 : decode cL_alike 12 = .ok (.iconst 1, 1) := by decide +kernel
theorem dL_alike_13 : decode cL_alike 13 = .ok (.iload_n 2, 1) := by decide +kernel
theorem dL_alike_14 : decode cL_alike 14 = .ok (.bipush 20, 2) := by decide +kernel
theorem dL_alike_16 : decode cL_alike 16 = .ok (.irem, 1) := by decide +kernel
theorem dL_alike_17 : decode cL_alike 17 = .ok (.iadd, 1) := by decide +kernel
theorem dL_alike_18 : decode cL_alike 18 = .ok (.invokestatic 152, 3) := by decide +kernel
theorem dL_alike_21 : decode cL_alike 21 = .ok (.aload_n 1, 1) := by decide +kernel
theorem dL_alike_22 : decode cL_alike 22 = .ok (.iload_n 2, 1) := by decide +kernel
theorem dL_alike_23 : decode cL_alike 23 = .ok (.i2l, 1) := by decide +kernel
theorem dL_alike_24 : decode cL_alike 24 = .ok (.iconst 1, 1) := by decide +kernel
theorem dL_alike_25 : decode cL_alike 25 = .ok (.iload_n 2, 1) := by decide +kernel
theorem dL_alike_26 : decode cL_alike 26 = .ok (.bipush 20, 2) := by decide +kernel
theorem dL_alike_28 : decode cL_alike 28 = .ok (.irem, 1) := by decide +kernel
theorem dL_alike_29 : decode cL_alike 29 = .ok (.iadd, 1) := by decide +kernel
theorem dL_alike_30 : decode cL_alike 30 = .ok (.invokestatic 152, 3) := by decide +kernel
theorem dL_alike_33 : decode cL_alike 33 = .ok (.if_icmp .ne 29, 3) := by decide +kernel
theorem dL_alike_36 : decode cL_alike 36 = .ok (.aload_n 0, 1) := by decide +kernel
theorem dL_alike_37 : decode cL_alike 37 = .ok (.invokevirtual 156, 3) := by decide +kernel
theorem dL_alike_40 : decode cL_alike 40 = .ok (.aload_n 1, 1) := by decide +kernel
theorem dL_alike_41 : decode cL_alike 41 = .ok (.invokevirtual 156, 3) := by decide +kernel
theorem dL_alike_44 : decode cL_alike 44 = .ok (.if_icmp .ne 18, 3) := by decide +kernel
theorem dL_alike_47 : decode cL_alike 47 = .ok (.aload_n 0, 1) := by decide +kernel
theorem dL_alike_48 : decode cL_alike 48 = .ok (.invokevirtual 159, 3) := by decide +kernel
theorem dL_alike_51 : decode cL_alike 51 = .ok (.aload_n 1, 1) := by decide +kernel
theorem dL_alike_52 : decode cL_alike 52 = .ok (.invokevirtual 159, 3) := by decide +kernel
theorem dL_alike_55 : decode cL_alike 55 = .ok (.if_icmp .ne 7, 3) := by decide +kernel
theorem dL_alike_58 : decode cL_alike 58 = .ok (.iconst 1, 1) := by decide +kernel
theorem dL_alike_59 : decode cL_alike 59 = .ok (.goto 4, 3) := by decide +kernel
theorem dL_alike_62 : decode cL_alike 62 = .ok (.iconst 0, 1) := by decide +kernel
theorem dL_alike_63 : decode cL_alike 63 = .ok (.istore 4, 2) := by decide +kernel
theorem dL_alike_65 : decode cL_alike 65 = .ok (.iconst 0, 1) := by decide +kernel
theorem dL_alike_66 : decode cL_alike 66 = .ok (.istore 5, 2) := by decide +kernel
theorem dL_alike_68 : decode cL_alike 68 = .ok (.iload 5, 2) := by decide +kernel
theorem dL_alike_70 : decode cL_alike 70 = .ok (.bipush 11, 2) := by decide +kernel
theorem dL_alike_72 : decode cL_alike 72 = .ok (.if_icmp .ge 63, 3) := by decide +kernel
theorem dL_alike_75 : decode cL_alike 75 = .ok (.iload 4, 2) := by decide +kernel
theorem dL_alike_77 : decode cL_alike 77 = .ok (.ifCond .eq 58, 3) := by decide +kernel
theorem dL_alike_80 : decode cL_alike 80 = .ok (.aload_n 0, 1) := by decide +kernel
theorem dL_alike_81 : decode cL_alike 81 = .ok (.iconst 2, 1) := by decide +kernel
theorem dL_alike_82 : decode cL_alike 82 = .ok (.iload 5, 2) := by decide +kernel
theorem dL_alike_84 : decode cL_alike 84 = .ok (.iconst 0, 1) := by decide +kernel
theorem dL_alike_85 : decode cL_alike 85 = .ok (.iconst 0, 1) := by decide +kernel
theorem dL_alike_86 : decode cL_alike 86 = .ok (.invokestatic 138, 3) := by decide +kernel
theorem dL_alike_89 : decode cL_alike 89 = .ok (.aload_n 1, 1) := by decide +kernel
theorem dL_alike_90 : decode cL_alike 90 = .ok (.iconst 2, 1) := by decide +kernel
theorem dL_alike_91 : decode cL_alike 91 = .ok (.iload 5, 2) := by decide +kernel
theorem dL_alike_93 : decode cL_alike 93 = .ok (.iconst 0, 1) := by decide +kernel
theorem dL_alike_94 : decode cL_alike 94 = .ok (.iconst 0, 1) := by decide +kernel
theorem dL_alike_95 : decode cL_alike 95 = .ok (.invokestatic 138, 3) := by decide +kernel
theorem dL_alike_98 : decode cL_alike 98 = .ok (.if_icmp .ne 28, 3) := by decide +kernel
theorem dL_alike_101 : decode cL_alike 101 = .ok (.aload_n 0, 1) := by decide +kernel
theorem dL_alike_102 : decode cL_alike 102 = .ok (.iconst 5, 1) := by decide +kernel
theorem dL_alike_103 : decode cL_alike 103 = .ok (.iload 5, 2) := by decide +kernel
theorem dL_alike_105 : decode cL_alike 105 = .ok (.iconst 0, 1) := by decide +kernel
theorem dL_alike_106 : decode cL_alike 106 = .ok (.iconst 0, 1) := by decide +kernel
theorem dL_alike_107 : decode cL_alike 107 = .ok (.invokestatic 138, 3) := by decide +kernel
theorem dL_alike_110 : decode cL_alike 110 = .ok (.aload_n 1, 1) := by decide +kernel
theorem dL_alike_111 : decode cL_alike 111 = .ok (.iconst 5, 1) := by decide +kernel
theorem dL_alike_112 : decode cL_alike 112 = .ok (.iload 5, 2) := by decide +kernel
theorem dL_alike_114 : decode cL_alike 114 = .ok (.iconst 0, 1) := by decide +kernel
theorem dL_alike_115 : decode cL_alike 115 = .ok (.iconst 0, 1) := by decide +kernel
theorem dL_alike_116 : decode cL_alike 116 = .ok (.invokestatic 138, 3) := by decide +kernel
theorem dL_alike_119 : decode cL_alike 119 = .ok (.if_icmp .ne 7, 3) := by decide +kernel
theorem dL_alike_122 : decode cL_alike 122 = .ok (.iconst 1, 1) := by decide +kernel
theorem dL_alike_123 : decode cL_alike 123 = .ok (.goto 4, 3) := by decide +kernel
theorem dL_alike_126 : decode cL_alike 126 = .ok (.iconst 0, 1) := by decide +kernel
theorem dL_alike_127 : decode cL_alike 127 = .ok (.istore 4, 2) := by decide +kernel
theorem dL_alike_129 : decode cL_alike 129 = .ok (.iinc 5 1, 3) := by decide +kernel
theorem dL_alike_132 : decode cL_alike 132 = .ok (.goto (-64), 3) := by decide +kernel
theorem dL_alike_135 : decode cL_alike 135 = .ok (.iconst 0, 1) := by decide +kernel
theorem dL_alike_136 : decode cL_alike 136 = .ok (.istore 5, 2) := by decide +kernel
theorem dL_alike_138 : decode cL_alike 138 = .ok (.iload 5, 2) := by decide +kernel
theorem dL_alike_140 : decode cL_alike 140 = .ok (.iload_n 3, 1) := by decide +kernel
theorem dL_alike_141 : decode cL_alike 141 = .ok (.if_icmp .ge 111, 3) := by decide +kernel
theorem dL_alike_144 : decode cL_alike 144 = .ok (.iload 4, 2) := by decide +kernel
theorem dL_alike_146 : decode cL_alike 146 = .ok (.ifCond .eq 106, 3) := by decide +kernel
theorem dL_alike_149 : decode cL_alike 149 = .ok (.aload_n 0, 1) := by decide +kernel
theorem dL_alike_150 : decode cL_alike 150 = .ok (.iconst 3, 1) := by decide +kernel
theorem dL_alike_151 : decode cL_alike 151 = .ok (.iload 5, 2) := by decide +kernel
theorem dL_alike_153 : decode cL_alike 153 = .ok (.iconst 3, 1) := by decide +kernel
theorem dL_alike_154 : decode cL_alike 154 = .ok (.iconst 0, 1) := by decide +kernel
theorem dL_alike_155 : decode cL_alike 155 = .ok (.invokestatic 138, 3) := by decide +kernel
theorem dL_alike_158 : decode cL_alike 158 = .ok (.aload_n 1, 1) := by decide +kernel
theorem dL_alike_159 : decode cL_alike 159 = .ok (.iconst 3, 1) := by decide +kernel
theorem dL_alike_160 : decode cL_alike 160 = .ok (.iload 5, 2) := by decide +kernel
theorem dL_alike_162 : decode cL_alike 162 = .ok (.iconst 3, 1) := by decide +kernel
theorem dL_alike_163 : decode cL_alike 163 = .ok (.iconst 0, 1) := by decide +kernel
theorem dL_alike_164 : decode cL_alike 164 = .ok (.invokestatic 138, 3) := by decide +kernel
theorem dL_alike_167 : decode cL_alike 167 = .ok (.if_icmp .ne 76, 3) := by decide +kernel
theorem dL_alike_170 : decode cL_alike 170 = .ok (.aload_n 0, 1) := by decide +kernel
theorem dL_alike_171 : decode cL_alike 171 = .ok (.iconst 3, 1) := by decide +kernel
theorem dL_alike_172 : decode cL_alike 172 = .ok (.iload 5, 2) := by decide +kernel
theorem dL_alike_174 : decode cL_alike 174 = .ok (.iconst 5, 1) := by decide +kernel
theorem dL_alike_175 : decode cL_alike 175 = .ok (.iconst 0, 1) := by decide +kernel
theorem dL_alike_176 : decode cL_alike 176 = .ok (.invokestatic 138, 3) := by decide +kernel
theorem dL_alike_179 : decode cL_alike 179 = .ok (.aload_n 1, 1) := by decide +kernel
theorem dL_alike_180 : decode cL_alike 180 = .ok (.iconst 3, 1) := by decide +kernel
theorem dL_alike_181 : decode cL_alike 181 = .ok (.iload 5, 2) := by decide +kernel
theorem dL_alike_183 : decode cL_alike 183 = .ok (.iconst 5, 1) := by decide +kernel
theorem dL_alike_184 : decode cL_alike 184 = .ok (.iconst 0, 1) := by decide +kernel
