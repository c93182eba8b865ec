theorem dL_minute_0 : decode cL_minute 0 = .ok (.aload_n 0, 1) := by decide +kernel
theorem dL_minute_1 : decode cL_minute 1 = .ok (.iconst 2, 1) := by decide +kernel
theorem dL_minute_2 : decode cL_minute 2 = .ok (.iconst 0, 1) := by decide +kernel
theorem dL_minute_3 : decode cL_minute 3 = .ok (.iconst 0, 1) := by decide +kernel
theorem dL_minute_4 : decode cL_minute 4 = .ok (.iconst 0, 1) := by decide +kernel
theorem dL_minute_5 : decode cL_minute 5 = .ok (.invokestatic 138, 3) := by decide +kernel
theorem dL_minute_8 : decode cL_minute 8 = .ok (.istore_n 3, 1) := by decide +kernel
theorem dL_minute_9 : decode cL_minute 9 = .ok (.iload_n 2, 1) := by decide +kernel
theorem dL_minute_10 : decode cL_minute 10 = .ok (.iload_n 3, 1) := by decide +kernel
theorem dL_minute_11 : decode cL_minute 11 = .ok (.irem, 1) := by decide +kernel
theorem dL_minute_12 : decode cL_minute 12 = .ok (.istore 4, 2) := by decide +kernel
theorem dL_minute_14 : decode cL_minute 14 = .ok (.aload_n 0, 1) := by decide +kernel
theorem dL_minute_15 : decode cL_minute 15 = .ok (.iconst 4, 1) := by decide +kernel
theorem dL_minute_16 : decode cL_minute 16 = .ok (.iload 4, 2) := by decide +kernel
theorem dL_minute_18 : decode cL_minute 18 = .ok (.iconst 0, 1) := by decide +kernel
theorem dL_minute_19 : decode cL_minute 19 = .ok (.iconst 0, 1) := by decide +kernel
theorem dL_minute_20 : decode cL_minute 20 = .ok (.invokestatic 138, 3) := by decide +kernel
theorem dL_minute_23 : decode cL_minute 23 = .ok (.istore 5, 2) := by decide +kernel
theorem dL_minute_25 : decode cL_minute 25 = .ok (.aload_n 0, 1) := by decide +kernel
theorem dL_minute_26 : decode cL_minute 26 = .ok (.iconst 3, 1) := by decide +kernel
theorem dL_minute_27 : decode cL_minute 27 = .ok (.iload 4, 2) := by decide +kernel
theorem dL_minute_29 : decode cL_minute 29 = .ok (.iconst 3, 1) := by decide +kernel
theorem dL_minute_30 : decode cL_minute 30 = .ok (.iconst 0, 1) := by decide +kernel
theorem dL_minute_31 : decode cL_minute 31 = .ok (.invokestatic 138, 3) := by decide +kernel
theorem dL_minute_34 : decode cL_minute 34 = .ok (.istore 6, 2) := by decide +kernel
theorem dL_minute_36 : decode cL_minute 36 = .ok (.aload_n 0, 1) := by decide +kernel
theorem dL_minute_37 : decode cL_minute 37 = .ok (.iconst 3, 1) := by decide +kernel
theorem dL_minute_38 : decode cL_minute 38 = .ok (.iload 4, 2) := by decide +kernel
theorem dL_minute_40 : decode cL_minute 40 = .ok (.iconst 5, 1) := by decide +kernel
theorem dL_minute_41 : decode cL_minute 41 = .ok (.iconst 0, 1) := by decide +kernel
theorem dL_minute_42 : decode cL_minute 42 = .ok (.invokestatic 138, 3) := by decide +kernel
theorem dL_minute_45 : decode cL_minute 45 = .ok (.istore 7, 2) := by decide +kernel
theorem dL_minute_47 : decode cL_minute 47 = .ok (.aload_n 0, 1) := by decide +kernel
theorem dL_minute_48 : decode cL_minute 48 = .ok (.iconst 3, 1) := by decide +kernel
theorem dL_minute_49 : decode cL_minute 49 = .ok (.iload 4, 2) := by decide +kernel
theorem dL_minute_51 : decode cL_minute 51 = .ok (.bipush 7, 2) := by decide +kernel
theorem dL_minute_53 : decode cL_minute 53 = .ok (.iconst 0, 1) := by decide +kernel
theorem dL_minute_54 : decode cL_minute 54 = .ok (.invokestatic 138, 3) := by decide +kernel
theorem dL_minute_57 : decode cL_minute 57 = .ok (.istore 8, 2) := by decide +kernel
theorem dL_minute_59 : decode cL_minute 59 = .ok (.aload_n 0, 1) := by decide +kernel
theorem dL_minute_60 : decode cL_minute 60 = .ok (.iconst 3, 1) := by decide +kernel
theorem dL_minute_61 : decode cL_minute 61 = .ok (.iload 4, 2) := by decide +kernel
theorem dL_minute_63 : decode cL_minute 63 = .ok (.iconst 4, 1) := by decide +kernel
theorem dL_minute_64 : decode cL_minute 64 = .ok (.iconst 0, 1) := by decide +kernel
theorem dL_minute_65 : decode cL_minute 65 = .ok (.invokestatic 138, 3) := by decide +kernel
theorem dL_minute_68 : decode cL_minute 68 = .ok (.istore 9, 2) := by decide +kernel
theorem dL_minute_70 : decode cL_minute 70 = .ok (.aload_n 0, 1) := by decide +kernel
theorem dL_minute_71 : decode cL_minute 71 = .ok (.bipush 12, 2) := by decide +kernel
theorem dL_minute_73 : decode cL_minute 73 = .ok (.iconst 1, 1) := by decide +kernel
theorem dL_minute_74 : decode cL_minute 74 = .ok (.iconst 0, 1) := by decide +kernel
theorem dL_minute_75 : decode cL_minute 75 = .ok (.iconst 0, 1) := by decide +kernel
theorem dL_minute_76 : decode cL_minute 76 = .ok (.invokestatic 138, 3) := by decide +kernel
theorem dL_minute_79 : decode cL_minute 79 = .ok (.istore 10, 2) := by decide +kernel
theorem dL_minute_81 : decode cL_minute 81 = .ok (.aload_n 0, 1) := by decide +kernel
theorem dL_minute_82 : decode cL_minute 82 = .ok (.iconst 2, 1) := by decide +kernel
theorem dL_minute_83 : decode cL_minute 83 = .ok (.bipush 8, 2) := by decide +kernel
theorem dL_minute_85 : decode cL_minute 85 = .ok (.iconst 0, 1) := by decide +kernel
theorem dL_minute_86 : decode cL_minute 86 = .ok (.iconst 0, 1) := by decide +kernel
theorem dL_minute_87 : decode cL_minute 87 = .ok (.invokestatic 138, 3) := by decide +kernel
theorem dL_minute_90 : decode cL_minute 90 = .ok (.aload_n 0, 1) := by decide +kernel
theorem dL_minute_91 : decode cL_minute 91 = .ok (.bipush 12, 2) := by decide +kernel
theorem dL_minute_93 : decode cL_minute 93 = .ok (.iconst 1, 1) := by decide +kernel
theorem dL_minute_94 : decode cL_minute 94 = .ok (.iconst 3, 1) := by decide +kernel
theorem dL_minute_95 : decode cL_minute 95 = .ok (.iconst 0, 1) := by decide +kernel
theorem dL_minute_96 : decode cL_minute 96 = .ok (.invokestatic 138, 3) := by decide +kernel
theorem dL_minute_99 : decode cL_minute 99 = .ok (.iadd, 1) := by decide +kernel
theorem dL_minute_100 : decode cL_minute 100 = .ok (.istore 11, 2) := by decide +kernel
theorem dL_minute_102 : decode cL_minute 102 = .ok (.aload_n 0, 1) := by decide +kernel
theorem dL_minute_103 : decode cL_minute 103 = .ok (.bipush 11, 2) := by decide +kernel
theorem dL_minute_105 : decode cL_minute 105 = .ok (.iload 4, 2) := by decide +kernel
theorem dL_minute_107 : decode cL_minute 107 = .ok (.iconst 0, 1) := by decide +kernel
theorem dL_minute_108 : decode cL_minute 108 = .ok (.iconst 0, 1) := by decide +kernel
theorem dL_minute_109 : decode cL_minute 109 = .ok (.invokestatic 138, 3) := by decide +kernel
theorem dL_minute_112 : decode cL_minute 112 = .ok (.istore 12, 2) := by decide +kernel
theorem dL_minute_114 : decode cL_minute 114 = .ok (.iload 5, 2) := by decide +kernel
theorem dL_minute_116 : decode cL_minute 116 = .ok (.iconst 1, 1) := by decide +kernel
theorem dL_minute_117 : decode cL_minute 117 = .ok (.if_icmp .eq 9, 3) := by decide +kernel
theorem dL_minute_120 : decode cL_minute 120 = .ok (.iload 5, 2) := by decide +kernel
theorem dL_minute_122 : decode cL_minute 122 = .ok (.iconst 3, 1) := by decide +kernel
theorem dL_minute_123 : decode cL_minute 123 = .ok (.if_icmp .ne 7, 3) := by decide +kernel
theorem dL_minute_126 : decode cL_minute 126 = .ok (.iconst 1, 1) := by decide +kernel
theorem dL_minute_127 : decode cL_minute 127 = .ok (.goto 4, 3) := by decide +kernel
theorem dL_minute_130 : decode cL_minute 130 = .ok (.iconst 0, 1) := by decide +kernel
theorem dL_minute_131 : decode cL_minute 131 = .ok (.istore 13, 2) := by decide +kernel
theorem dL_minute_133 : decode cL_minute 133 = .ok (.iload 5, 2) := by decide +kernel
theorem dL_minute_135 : decode cL_minute 135 = .ok (.ifCond .eq 15, 3) := by decide +kernel
theorem dL_minute_138 : decode cL_minute 138 = .ok (.iload 5, 2) := by decide +kernel
theorem dL_minute_140 : decode cL_minute 140 = .ok (.iconst 2, 1) := by decide +kernel
theorem dL_minute_141 : decode cL_minute 141 = .ok (.if_icmp .eq 9, 3) := by decide +kernel
theorem dL_minute_144 : decode cL_minute 144 = .ok (.iload 5, 2) := by decide +kernel
theorem dL_minute_146 : decode cL_minute 146 = .ok (.iconst 5, 1) := by decide +kernel
theorem dL_minute_147 : decode cL_minute 147 = .ok (.if_icmp .ne 7, 3) := by decide +kernel
theorem dL_minute_150 : decode cL_minute 150 = .ok (.iconst 1, 1) := by decide +kernel
theorem dL_minute_151 : decode cL_minute 151 = .ok (.goto 4, 3) := by decide +kernel
theorem dL_minute_154 : decode cL_minute 154 = .ok (.iconst 0, 1) := by decide +kernel
theorem dL_minute_155 : decode cL_minute 155 = .ok (.istore 14, 2) := by decide +kernel
theorem dL_minute_157 : decode cL_minute 157 = .ok (.iload 6, 2) := by decide +kernel
theorem dL_minute_159 : decode cL_minute 159 = .ok (.iload 13, 2) := by decide +kernel
theorem dL_minute_161 : decode cL_minute 161 = .ok (.ifCond .eq 14, 3) := by decide +kernel
theorem dL_minute_164 : decode cL_minute 164 = .ok (.iload 7, 2) := by decide +kernel
theorem dL_minute_166 : decode cL_minute 166 = .ok (.bipush 20, 2) := by decide +kernel
theorem dL_minute_168 : decode cL_minute 168 = .ok (.idiv, 1) := by decide +kernel
theorem dL_minute_169 : decode cL_minute 169 = .ok (.bipush 8, 2) := by decide +kernel
theorem dL_minute_171 : decode cL_minute 171 = .ok (.isub, 1) := by decide +kernel
theorem dL_minute_172 : decode cL_minute 172 = .ok (.goto 14, 3) := by decide +kernel
theorem dL_minute_175 : decode cL_minute 175 = .ok (.iload 14, 2) := by decide +kernel
theorem dL_minute_177 : decode cL_minute 177 = .ok (.ifCond .eq 8, 3) := by decide +kernel
theorem dL_minute_180 : decode cL_minute 180 = .ok (.bipush 6, 2) := by decide +kernel
theorem dL_minute_182 : decode cL_minute 182 = .ok (.goto 4, 3) := by decide +kernel
theorem dL_minute_185 : decode cL_minute 185 = .ok (.iconst 1, 1) := by decide +kernel
