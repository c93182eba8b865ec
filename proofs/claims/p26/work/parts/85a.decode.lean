theorem dL_refuses_0 : decode cL_refuses 0 = .ok (.aload_n 0, 1) := by decide +kernel
theorem dL_refuses_1 : decode cL_refuses 1 = .ok (.iconst 2, 1) := by decide +kernel
theorem dL_refuses_2 : decode cL_refuses 2 = .ok (.iconst 0, 1) := by decide +kernel
theorem dL_refuses_3 : decode cL_refuses 3 = .ok (.iconst 0, 1) := by decide +kernel
theorem dL_refuses_4 : decode cL_refuses 4 = .ok (.iconst 0, 1) := by decide +kernel
theorem dL_refuses_5 : decode cL_refuses 5 = .ok (.invokestatic 138, 3) := by decide +kernel
theorem dL_refuses_8 : decode cL_refuses 8 = .ok (.iload_n 1, 1) := by decide +kernel
theorem dL_refuses_9 : decode cL_refuses 9 = .ok (.bipush 50, 2) := by decide +kernel
theorem dL_refuses_11 : decode cL_refuses 11 = .ok (.irem, 1) := by decide +kernel
theorem dL_refuses_12 : decode cL_refuses 12 = .ok (.iadd, 1) := by decide +kernel
theorem dL_refuses_13 : decode cL_refuses 13 = .ok (.istore_n 2, 1) := by decide +kernel
theorem dL_refuses_14 : decode cL_refuses 14 = .ok (.iload_n 1, 1) := by decide +kernel
theorem dL_refuses_15 : decode cL_refuses 15 = .ok (.sipush 500, 3) := by decide +kernel
theorem dL_refuses_18 : decode cL_refuses 18 = .ok (.irem, 1) := by decide +kernel
theorem dL_refuses_19 : decode cL_refuses 19 = .ok (.sipush 300, 3) := by decide +kernel
theorem dL_refuses_22 : decode cL_refuses 22 = .ok (.isub, 1) := by decide +kernel
theorem dL_refuses_23 : decode cL_refuses 23 = .ok (.istore_n 3, 1) := by decide +kernel
theorem dL_refuses_24 : decode cL_refuses 24 = .ok (.aload_n 0, 1) := by decide +kernel
theorem dL_refuses_25 : decode cL_refuses 25 = .ok (.iconst 0, 1) := by decide +kernel
theorem dL_refuses_26 : decode cL_refuses 26 = .ok (.iload_n 1, 1) := by decide +kernel
theorem dL_refuses_27 : decode cL_refuses 27 = .ok (.iconst 2, 1) := by decide +kernel
theorem dL_refuses_28 : decode cL_refuses 28 = .ok (.irem, 1) := by decide +kernel
theorem dL_refuses_29 : decode cL_refuses 29 = .ok (.ifCond .ne 12, 3) := by decide +kernel
theorem dL_refuses_32 : decode cL_refuses 32 = .ok (.iconst (-1), 1) := by decide +kernel
theorem dL_refuses_33 : decode cL_refuses 33 = .ok (.iload_n 1, 1) := by decide +kernel
theorem dL_refuses_34 : decode cL_refuses 34 = .ok (.bipush 9, 2) := by decide +kernel
theorem dL_refuses_36 : decode cL_refuses 36 = .ok (.irem, 1) := by decide +kernel
theorem dL_refuses_37 : decode cL_refuses 37 = .ok (.isub, 1) := by decide +kernel
theorem dL_refuses_38 : decode cL_refuses 38 = .ok (.goto 11, 3) := by decide +kernel
theorem dL_refuses_41 : decode cL_refuses 41 = .ok (.sipush 256, 3) := by decide +kernel
theorem dL_refuses_44 : decode cL_refuses 44 = .ok (.iload_n 1, 1) := by decide +kernel
theorem dL_refuses_45 : decode cL_refuses 45 = .ok (.bipush 9, 2) := by decide +kernel
theorem dL_refuses_47 : decode cL_refuses 47 = .ok (.irem, 1) := by decide +kernel
theorem dL_refuses_48 : decode cL_refuses 48 = .ok (.iadd, 1) := by decide +kernel
theorem dL_refuses_49 : decode cL_refuses 49 = .ok (.iconst 0, 1) := by decide +kernel
theorem dL_refuses_50 : decode cL_refuses 50 = .ok (.iconst 0, 1) := by decide +kernel
theorem dL_refuses_51 : decode cL_refuses 51 = .ok (.invokestatic 138, 3) := by decide +kernel
theorem dL_refuses_54 : decode cL_refuses 54 = .ok (.ldc 22, 2) := by decide +kernel
theorem dL_refuses_56 : decode cL_refuses 56 = .ok (.if_icmp .ne 529, 3) := by decide +kernel
theorem dL_refuses_59 : decode cL_refuses 59 = .ok (.aload_n 0, 1) := by decide +kernel
theorem dL_refuses_60 : decode cL_refuses 60 = .ok (.iconst 2, 1) := by decide +kernel
theorem dL_refuses_61 : decode cL_refuses 61 = .ok (.bipush 11, 2) := by decide +kernel
theorem dL_refuses_63 : decode cL_refuses 63 = .ok (.iload_n 1, 1) := by decide +kernel
theorem dL_refuses_64 : decode cL_refuses 64 = .ok (.bipush 50, 2) := by decide +kernel
theorem dL_refuses_66 : decode cL_refuses 66 = .ok (.irem, 1) := by decide +kernel
theorem dL_refuses_67 : decode cL_refuses 67 = .ok (.iadd, 1) := by decide +kernel
theorem dL_refuses_68 : decode cL_refuses 68 = .ok (.iconst 0, 1) := by decide +kernel
theorem dL_refuses_69 : decode cL_refuses 69 = .ok (.iconst 0, 1) := by decide +kernel
theorem dL_refuses_70 : decode cL_refuses 70 = .ok (.invokestatic 138, 3) := by decide +kernel
theorem dL_refuses_73 : decode cL_refuses 73 = .ok (.ldc 22, 2) := by decide +kernel
theorem dL_refuses_75 : decode cL_refuses 75 = .ok (.if_icmp .ne 510, 3) := by decide +kernel
theorem dL_refuses_78 : decode cL_refuses 78 = .ok (.aload_n 0, 1) := by decide +kernel
theorem dL_refuses_79 : decode cL_refuses 79 = .ok (.iconst 3, 1) := by decide +kernel
theorem dL_refuses_80 : decode cL_refuses 80 = .ok (.iload_n 2, 1) := by decide +kernel
theorem dL_refuses_81 : decode cL_refuses 81 = .ok (.bipush 9, 2) := by decide +kernel
theorem dL_refuses_83 : decode cL_refuses 83 = .ok (.iconst 0, 1) := by decide +kernel
theorem dL_refuses_84 : decode cL_refuses 84 = .ok (.invokestatic 138, 3) := by decide +kernel
theorem dL_refuses_87 : decode cL_refuses 87 = .ok (.ldc 15, 2) := by decide +kernel
theorem dL_refuses_89 : decode cL_refuses 89 = .ok (.if_icmp .ne 496, 3) := by decide +kernel
theorem dL_refuses_92 : decode cL_refuses 92 = .ok (.aload_n 0, 1) := by decide +kernel
theorem dL_refuses_93 : decode cL_refuses 93 = .ok (.iconst 3, 1) := by decide +kernel
theorem dL_refuses_94 : decode cL_refuses 94 = .ok (.iconst 0, 1) := by decide +kernel
theorem dL_refuses_95 : decode cL_refuses 95 = .ok (.bipush 8, 2) := by decide +kernel
theorem dL_refuses_97 : decode cL_refuses 97 = .ok (.iload_n 1, 1) := by decide +kernel
theorem dL_refuses_98 : decode cL_refuses 98 = .ok (.bipush 9, 2) := by decide +kernel
theorem dL_refuses_100 : decode cL_refuses 100 = .ok (.irem, 1) := by decide +kernel
theorem dL_refuses_101 : decode cL_refuses 101 = .ok (.iadd, 1) := by decide +kernel
theorem dL_refuses_102 : decode cL_refuses 102 = .ok (.iconst 0, 1) := by decide +kernel
theorem dL_refuses_103 : decode cL_refuses 103 = .ok (.invokestatic 138, 3) := by decide +kernel
theorem dL_refuses_106 : decode cL_refuses 106 = .ok (.ldc 22, 2) := by decide +kernel
theorem dL_refuses_108 : decode cL_refuses 108 = .ok (.if_icmp .ne 477, 3) := by decide +kernel
theorem dL_refuses_111 : decode cL_refuses 111 = .ok (.aload_n 0, 1) := by decide +kernel
theorem dL_refuses_112 : decode cL_refuses 112 = .ok (.iconst 4, 1) := by decide +kernel
theorem dL_refuses_113 : decode cL_refuses 113 = .ok (.iload_n 2, 1) := by decide +kernel
theorem dL_refuses_114 : decode cL_refuses 114 = .ok (.iconst 0, 1) := by decide +kernel
theorem dL_refuses_115 : decode cL_refuses 115 = .ok (.iconst 0, 1) := by decide +kernel
theorem dL_refuses_116 : decode cL_refuses 116 = .ok (.invokestatic 138, 3) := by decide +kernel
theorem dL_refuses_119 : decode cL_refuses 119 = .ok (.ldc 15, 2) := by decide +kernel
theorem dL_refuses_121 : decode cL_refuses 121 = .ok (.if_icmp .ne 464, 3) := by decide +kernel
theorem dL_refuses_124 : decode cL_refuses 124 = .ok (.aload_n 0, 1) := by decide +kernel
theorem dL_refuses_125 : decode cL_refuses 125 = .ok (.iconst 5, 1) := by decide +kernel
theorem dL_refuses_126 : decode cL_refuses 126 = .ok (.bipush 6, 2) := by decide +kernel
theorem dL_refuses_128 : decode cL_refuses 128 = .ok (.iload_n 1, 1) := by decide +kernel
theorem dL_refuses_129 : decode cL_refuses 129 = .ok (.bipush 9, 2) := by decide +kernel
theorem dL_refuses_131 : decode cL_refuses 131 = .ok (.irem, 1) := by decide +kernel
theorem dL_refuses_132 : decode cL_refuses 132 = .ok (.iadd, 1) := by decide +kernel
theorem dL_refuses_133 : decode cL_refuses 133 = .ok (.iconst 0, 1) := by decide +kernel
theorem dL_refuses_134 : decode cL_refuses 134 = .ok (.iconst 0, 1) := by decide +kernel
theorem dL_refuses_135 : decode cL_refuses 135 = .ok (.invokestatic 138, 3) := by decide +kernel
theorem dL_refuses_138 : decode cL_refuses 138 = .ok (.ldc 22, 2) := by decide +kernel
theorem dL_refuses_140 : decode cL_refuses 140 = .ok (.if_icmp .ne 445, 3) := by decide +kernel
theorem dL_refuses_143 : decode cL_refuses 143 = .ok (.aload_n 0, 1) := by decide +kernel
theorem dL_refuses_144 : decode cL_refuses 144 = .ok (.bipush 6, 2) := by decide +kernel
theorem dL_refuses_146 : decode cL_refuses 146 = .ok (.iload_n 1, 1) := by decide +kernel
theorem dL_refuses_147 : decode cL_refuses 147 = .ok (.iconst 2, 1) := by decide +kernel
theorem dL_refuses_148 : decode cL_refuses 148 = .ok (.irem, 1) := by decide +kernel
theorem dL_refuses_149 : decode cL_refuses 149 = .ok (.ifCond .ne 7, 3) := by decide +kernel
theorem dL_refuses_152 : decode cL_refuses 152 = .ok (.iconst 0, 1) := by decide +kernel
theorem dL_refuses_153 : decode cL_refuses 153 = .ok (.goto 10, 3) := by decide +kernel
theorem dL_refuses_156 : decode cL_refuses 156 = .ok (.bipush 51, 2) := by decide +kernel
theorem dL_refuses_158 : decode cL_refuses 158 = .ok (.iload_n 1, 1) := by decide +kernel
theorem dL_refuses_159 : decode cL_refuses 159 = .ok (.bipush 9, 2) := by decide +kernel
theorem dL_refuses_161 : decode cL_refuses 161 = .ok (.irem, 1) := by decide +kernel
theorem dL_refuses_162 : decode cL_refuses 162 = .ok (.iadd, 1) := by decide +kernel
theorem dL_refuses_163 : decode cL_refuses 163 = .ok (.iconst 0, 1) := by decide +kernel
theorem dL_refuses_164 : decode cL_refuses 164 = .ok (.bipush 100, 2) := by decide +kernel
theorem dL_refuses_166 : decode cL_refuses 166 = .ok (.invokestatic 138, 3) := by decide +kernel
theorem dL_refuses_169 : decode cL_refuses 169 = .ok (.ldc 22, 2) := by decide +kernel
theorem dL_refuses_171 : decode cL_refuses 171 = .ok (.if_icmp .ne 414, 3) := by decide +kernel
theorem dL_refuses_174 : decode cL_refuses 174 = .ok (.aload_n 0, 1) := by decide +kernel
