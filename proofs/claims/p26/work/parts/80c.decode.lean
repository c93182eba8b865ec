theorem dL_doors_0 : decode cL_doors 0 = .ok (.aload_n 0, 1) := by decide +kernel
theorem dL_doors_1 : decode cL_doors 1 = .ok (.iload_n 1, 1) := by decide +kernel
theorem dL_doors_2 : decode cL_doors 2 = .ok (.iload_n 2, 1) := by decide +kernel
theorem dL_doors_3 : decode cL_doors 3 = .ok (.invokevirtual 7, 3) := by decide +kernel
theorem dL_doors_6 : decode cL_doors 6 = .ok (.ireturn, 1) := by decide +kernel
theorem dL_doors_7 : decode cL_doors 7 = .ok (.astore_n 3, 1) := by decide +kernel
theorem dL_doors_8 : decode cL_doors 8 = .ok (.ldc 15, 2) := by decide +kernel
theorem dL_doors_10 : decode cL_doors 10 = .ok (.ireturn, 1) := by decide +kernel
theorem dL_doScript_0 : decode cL_doScript 0 = .ok (.aload_n 0, 1) := by decide +kernel
theorem dL_doScript_1 : decode cL_doScript 1 = .ok (.iload_n 1, 1) := by decide +kernel
theorem dL_doScript_2 : decode cL_doScript 2 = .ok (.lload_n 2, 1) := by decide +kernel
theorem dL_doScript_3 : decode cL_doScript 3 = .ok (.invokevirtual 16, 3) := by decide +kernel
theorem dL_doScript_6 : decode cL_doScript 6 = .ok (.ireturn, 1) := by decide +kernel
theorem dL_doScript_7 : decode cL_doScript 7 = .ok (.astore 4, 2) := by decide +kernel
theorem dL_doScript_9 : decode cL_doScript 9 = .ok (.ldc 22, 2) := by decide +kernel
theorem dL_doScript_11 : decode cL_doScript 11 = .ok (.ireturn, 1) := by decide +kernel
theorem dL_doSimulate_0 : decode cL_doSimulate 0 = .ok (.aload_n 0, 1) := by decide +kernel
theorem dL_doSimulate_1 : decode cL_doSimulate 1 = .ok (.lload_n 1, 1) := by decide +kernel
theorem dL_doSimulate_2 : decode cL_doSimulate 2 = .ok (.iload_n 3, 1) := by decide +kernel
theorem dL_doSimulate_3 : decode cL_doSimulate 3 = .ok (.invokevirtual 23, 3) := by decide +kernel
theorem dL_doSimulate_6 : decode cL_doSimulate 6 = .ok (.ireturn, 1) := by decide +kernel
theorem dL_doSimulate_7 : decode cL_doSimulate 7 = .ok (.astore 4, 2) := by decide +kernel
theorem dL_doSimulate_9 : decode cL_doSimulate 9 = .ok (.ldc 22, 2) := by decide +kernel
theorem dL_doSimulate_11 : decode cL_doSimulate 11 = .ok (.ireturn, 1) := by decide +kernel
theorem dL_tryAppend_0 : decode cL_tryAppend 0 = .ok (.aload_n 0, 1) := by decide +kernel
theorem dL_tryAppend_1 : decode cL_tryAppend 1 = .ok (.iload_n 1, 1) := by decide +kernel
theorem dL_tryAppend_2 : decode cL_tryAppend 2 = .ok (.invokevirtual 27, 3) := by decide +kernel
theorem dL_tryAppend_5 : decode cL_tryAppend 5 = .ok (.ireturn, 1) := by decide +kernel
theorem dL_tryAppend_6 : decode cL_tryAppend 6 = .ok (.astore_n 2, 1) := by decide +kernel
theorem dL_tryAppend_7 : decode cL_tryAppend 7 = .ok (.ldc 22, 2) := by decide +kernel
theorem dL_tryAppend_9 : decode cL_tryAppend 9 = .ok (.ireturn, 1) := by decide +kernel
theorem dL_tryAppend_10 : decode cL_tryAppend 10 = .ok (.astore_n 2, 1) := by decide +kernel
theorem dL_tryAppend_11 : decode cL_tryAppend 11 = .ok (.ldc 33, 2) := by decide +kernel
theorem dL_tryAppend_13 : decode cL_tryAppend 13 = .ok (.ireturn, 1) := by decide +kernel
theorem dL_tryLoad_0 : decode cL_tryLoad 0 = .ok (.aload_n 0, 1) := by decide +kernel
theorem dL_tryLoad_1 : decode cL_tryLoad 1 = .ok (.invokevirtual 34, 3) := by decide +kernel
theorem dL_tryLoad_4 : decode cL_tryLoad 4 = .ok (.ireturn, 1) := by decide +kernel
theorem dL_tryLoad_5 : decode cL_tryLoad 5 = .ok (.astore_n 1, 1) := by decide +kernel
theorem dL_tryLoad_6 : decode cL_tryLoad 6 = .ok (.ldc 33, 2) := by decide +kernel
theorem dL_tryLoad_8 : decode cL_tryLoad 8 = .ok (.ireturn, 1) := by decide +kernel
theorem dL_tryAbout_0 : decode cL_tryAbout 0 = .ok (.aload_n 0, 1) := by decide +kernel
theorem dL_tryAbout_1 : decode cL_tryAbout 1 = .ok (.iload_n 1, 1) := by decide +kernel
theorem dL_tryAbout_2 : decode cL_tryAbout 2 = .ok (.invokevirtual 38, 3) := by decide +kernel
theorem dL_tryAbout_5 : decode cL_tryAbout 5 = .ok (.ireturn, 1) := by decide +kernel
theorem dL_tryAbout_6 : decode cL_tryAbout 6 = .ok (.astore_n 2, 1) := by decide +kernel
theorem dL_tryAbout_7 : decode cL_tryAbout 7 = .ok (.ldc 22, 2) := by decide +kernel
theorem dL_tryAbout_9 : decode cL_tryAbout 9 = .ok (.ireturn, 1) := by decide +kernel
theorem dL_tryRoom_0 : decode cL_tryRoom 0 = .ok (.aload_n 0, 1) := by decide +kernel
theorem dL_tryRoom_1 : decode cL_tryRoom 1 = .ok (.iload_n 1, 1) := by decide +kernel
theorem dL_tryRoom_2 : decode cL_tryRoom 2 = .ok (.iload_n 2, 1) := by decide +kernel
theorem dL_tryRoom_3 : decode cL_tryRoom 3 = .ok (.invokevirtual 41, 3) := by decide +kernel
theorem dL_tryRoom_6 : decode cL_tryRoom 6 = .ok (.ireturn, 1) := by decide +kernel
theorem dL_tryRoom_7 : decode cL_tryRoom 7 = .ok (.astore_n 3, 1) := by decide +kernel
theorem dL_tryRoom_8 : decode cL_tryRoom 8 = .ok (.ldc 15, 2) := by decide +kernel
theorem dL_tryRoom_10 : decode cL_tryRoom 10 = .ok (.ireturn, 1) := by decide +kernel
theorem dL_tryRoom_11 : decode cL_tryRoom 11 = .ok (.astore_n 3, 1) := by decide +kernel
theorem dL_tryRoom_12 : decode cL_tryRoom 12 = .ok (.ldc 22, 2) := by decide +kernel
theorem dL_tryRoom_14 : decode cL_tryRoom 14 = .ok (.ireturn, 1) := by decide +kernel
theorem dL_tryDoes_0 : decode cL_tryDoes 0 = .ok (.aload_n 0, 1) := by decide +kernel
theorem dL_tryDoes_1 : decode cL_tryDoes 1 = .ok (.iload_n 1, 1) := by decide +kernel
theorem dL_tryDoes_2 : decode cL_tryDoes 2 = .ok (.invokevirtual 45, 3) := by decide +kernel
theorem dL_tryDoes_5 : decode cL_tryDoes 5 = .ok (.ireturn, 1) := by decide +kernel
theorem dL_tryDoes_6 : decode cL_tryDoes 6 = .ok (.astore_n 2, 1) := by decide +kernel
theorem dL_tryDoes_7 : decode cL_tryDoes 7 = .ok (.ldc 15, 2) := by decide +kernel
theorem dL_tryDoes_9 : decode cL_tryDoes 9 = .ok (.ireturn, 1) := by decide +kernel
theorem dL_trySetting_0 : decode cL_trySetting 0 = .ok (.aload_n 0, 1) := by decide +kernel
theorem dL_trySetting_1 : decode cL_trySetting 1 = .ok (.iload_n 1, 1) := by decide +kernel
theorem dL_trySetting_2 : decode cL_trySetting 2 = .ok (.invokevirtual 48, 3) := by decide +kernel
theorem dL_trySetting_5 : decode cL_trySetting 5 = .ok (.ireturn, 1) := by decide +kernel
theorem dL_trySetting_6 : decode cL_trySetting 6 = .ok (.astore_n 2, 1) := by decide +kernel
theorem dL_trySetting_7 : decode cL_trySetting 7 = .ok (.ldc 22, 2) := by decide +kernel
theorem dL_trySetting_9 : decode cL_trySetting 9 = .ok (.ireturn, 1) := by decide +kernel
theorem dL_tryAdd_0 : decode cL_tryAdd 0 = .ok (.aload_n 0, 1) := by decide +kernel
theorem dL_tryAdd_1 : decode cL_tryAdd 1 = .ok (.iload_n 1, 1) := by decide +kernel
theorem dL_tryAdd_2 : decode cL_tryAdd 2 = .ok (.iload_n 2, 1) := by decide +kernel
theorem dL_tryAdd_3 : decode cL_tryAdd 3 = .ok (.iload_n 3, 1) := by decide +kernel
theorem dL_tryAdd_4 : decode cL_tryAdd 4 = .ok (.invokevirtual 51, 3) := by decide +kernel
theorem dL_tryAdd_7 : decode cL_tryAdd 7 = .ok (.ireturn, 1) := by decide +kernel
theorem dL_tryAdd_8 : decode cL_tryAdd 8 = .ok (.astore 4, 2) := by decide +kernel
theorem dL_tryAdd_10 : decode cL_tryAdd 10 = .ok (.ldc 22, 2) := by decide +kernel
theorem dL_tryAdd_12 : decode cL_tryAdd 12 = .ok (.ireturn, 1) := by decide +kernel
theorem dL_tryAdd_13 : decode cL_tryAdd 13 = .ok (.astore 4, 2) := by decide +kernel
theorem dL_tryAdd_15 : decode cL_tryAdd 15 = .ok (.ldc 33, 2) := by decide +kernel
theorem dL_tryAdd_17 : decode cL_tryAdd 17 = .ok (.ireturn, 1) := by decide +kernel
theorem dL_tryGoods_0 : decode cL_tryGoods 0 = .ok (.aload_n 0, 1) := by decide +kernel
theorem dL_tryGoods_1 : decode cL_tryGoods 1 = .ok (.iload_n 1, 1) := by decide +kernel
theorem dL_tryGoods_2 : decode cL_tryGoods 2 = .ok (.iload_n 2, 1) := by decide +kernel
theorem dL_tryGoods_3 : decode cL_tryGoods 3 = .ok (.invokevirtual 55, 3) := by decide +kernel
theorem dL_tryGoods_6 : decode cL_tryGoods 6 = .ok (.ireturn, 1) := by decide +kernel
theorem dL_tryGoods_7 : decode cL_tryGoods 7 = .ok (.astore_n 3, 1) := by decide +kernel
theorem dL_tryGoods_8 : decode cL_tryGoods 8 = .ok (.ldc 15, 2) := by decide +kernel
theorem dL_tryGoods_10 : decode cL_tryGoods 10 = .ok (.ireturn, 1) := by decide +kernel
theorem dL_tryGoods_11 : decode cL_tryGoods 11 = .ok (.astore_n 3, 1) := by decide +kernel
theorem dL_tryGoods_12 : decode cL_tryGoods 12 = .ok (.ldc 22, 2) := by decide +kernel
theorem dL_tryGoods_14 : decode cL_tryGoods 14 = .ok (.ireturn, 1) := by decide +kernel
theorem dL_tryRun_0 : decode cL_tryRun 0 = .ok (.aload_n 0, 1) := by decide +kernel
theorem dL_tryRun_1 : decode cL_tryRun 1 = .ok (.iload_n 1, 1) := by decide +kernel
theorem dL_tryRun_2 : decode cL_tryRun 2 = .ok (.invokevirtual 58, 3) := by decide +kernel
theorem dL_tryRun_5 : decode cL_tryRun 5 = .ok (.ireturn, 1) := by decide +kernel
theorem dL_tryRun_6 : decode cL_tryRun 6 = .ok (.astore_n 2, 1) := by decide +kernel
theorem dL_tryRun_7 : decode cL_tryRun 7 = .ok (.ldc 22, 2) := by decide +kernel
theorem dL_tryRun_9 : decode cL_tryRun 9 = .ok (.ireturn, 1) := by decide +kernel
theorem dL_tryLay_0 : decode cL_tryLay 0 = .ok (.aload_n 0, 1) := by decide +kernel
theorem dL_tryLay_1 : decode cL_tryLay 1 = .ok (.iload_n 1, 1) := by decide +kernel
theorem dL_tryLay_2 : decode cL_tryLay 2 = .ok (.iload_n 2, 1) := by decide +kernel
theorem dL_tryLay_3 : decode cL_tryLay 3 = .ok (.invokevirtual 61, 3) := by decide +kernel
theorem dL_tryLay_6 : decode cL_tryLay 6 = .ok (.ireturn, 1) := by decide +kernel
theorem dL_tryLay_7 : decode cL_tryLay 7 = .ok (.astore_n 3, 1) := by decide +kernel
theorem dL_tryLay_8 : decode cL_tryLay 8 = .ok (.ldc 22, 2) := by decide +kernel
theorem dL_tryLay_10 : decode cL_tryLay 10 = .ok (.ireturn, 1) := by decide +kernel
theorem dL_tryUndo_0 : decode cL_tryUndo 0 = .ok (.aload_n 0, 1) := by decide +kernel
theorem dL_tryUndo_1 : decode cL_tryUndo 1 = .ok (.invokevirtual 64, 3) := by decide +kernel
theorem dL_tryUndo_4 : decode cL_tryUndo 4 = .ok (.ireturn, 1) := by decide +kernel
theorem dL_tryUndo_5 : decode cL_tryUndo 5 = .ok (.astore_n 1, 1) := by decide +kernel
theorem dL_tryUndo_6 : decode cL_tryUndo 6 = .ok (.ldc 33, 2) := by decide +kernel
theorem dL_tryUndo_8 : decode cL_tryUndo 8 = .ok (.ireturn, 1) := by decide +kernel
theorem dL_tryWarm_0 : decode cL_tryWarm 0 = .ok (.aload_n 0, 1) := by decide +kernel
theorem dL_tryWarm_1 : decode cL_tryWarm 1 = .ok (.iload_n 1, 1) := by decide +kernel
theorem dL_tryWarm_2 : decode cL_tryWarm 2 = .ok (.invokevirtual 67, 3) := by decide +kernel
theorem dL_tryWarm_5 : decode cL_tryWarm 5 = .ok (.ireturn, 1) := by decide +kernel
theorem dL_tryWarm_6 : decode cL_tryWarm 6 = .ok (.astore_n 2, 1) := by decide +kernel
theorem dL_tryWarm_7 : decode cL_tryWarm 7 = .ok (.ldc 15, 2) := by decide +kernel
theorem dL_tryWarm_9 : decode cL_tryWarm 9 = .ok (.ireturn, 1) := by decide +kernel
theorem dL_tryComing_0 : decode cL_tryComing 0 = .ok (.aload_n 0, 1) := by decide +kernel
theorem dL_tryComing_1 : decode cL_tryComing 1 = .ok (.iload_n 1, 1) := by decide +kernel
theorem dL_tryComing_2 : decode cL_tryComing 2 = .ok (.iload_n 2, 1) := by decide +kernel
theorem dL_tryComing_3 : decode cL_tryComing 3 = .ok (.invokevirtual 70, 3) := by decide +kernel
theorem dL_tryComing_6 : decode cL_tryComing 6 = .ok (.ireturn, 1) := by decide +kernel
theorem dL_tryComing_7 : decode cL_tryComing 7 = .ok (.astore_n 3, 1) := by decide +kernel
theorem dL_tryComing_8 : decode cL_tryComing 8 = .ok (.ldc 22, 2) := by decide +kernel
theorem dL_tryComing_10 : decode cL_tryComing 10 = .ok (.ireturn, 1) := by decide +kernel
theorem dL_tryLimit_0 : decode cL_tryLimit 0 = .ok (.aload_n 0, 1) := by decide +kernel
theorem dL_tryLimit_1 : decode cL_tryLimit 1 = .ok (.iload_n 1, 1) := by decide +kernel
theorem dL_tryLimit_2 : decode cL_tryLimit 2 = .ok (.invokevirtual 73, 3) := by decide +kernel
theorem dL_tryLimit_5 : decode cL_tryLimit 5 = .ok (.ireturn, 1) := by decide +kernel
theorem dL_tryLimit_6 : decode cL_tryLimit 6 = .ok (.astore_n 2, 1) := by decide +kernel
theorem dL_tryLimit_7 : decode cL_tryLimit 7 = .ok (.ldc 22, 2) := by decide +kernel
theorem dL_tryLimit_9 : decode cL_tryLimit 9 = .ok (.ireturn, 1) := by decide +kernel
theorem dL_tryKeep_0 : decode cL_tryKeep 0 = .ok (.aload_n 0, 1) := by decide +kernel
theorem dL_tryKeep_1 : decode cL_tryKeep 1 = .ok (.iload_n 1, 1) := by decide +kernel
theorem dL_tryKeep_2 : decode cL_tryKeep 2 = .ok (.invokevirtual 76, 3) := by decide +kernel
theorem dL_tryKeep_5 : decode cL_tryKeep 5 = .ok (.ireturn, 1) := by decide +kernel
theorem dL_tryKeep_6 : decode cL_tryKeep 6 = .ok (.astore_n 2, 1) := by decide +kernel
theorem dL_tryKeep_7 : decode cL_tryKeep 7 = .ok (.ldc 15, 2) := by decide +kernel
theorem dL_tryKeep_9 : decode cL_tryKeep 9 = .ok (.ireturn, 1) := by decide +kernel
theorem dL_tryBack_0 : decode cL_tryBack 0 = .ok (.aload_n 0, 1) := by decide +kernel
theorem dL_tryBack_1 : decode cL_tryBack 1 = .ok (.iload_n 1, 1) := by decide +kernel
theorem dL_tryBack_2 : decode cL_tryBack 2 = .ok (.invokevirtual 79, 3) := by decide +kernel
theorem dL_tryBack_5 : decode cL_tryBack 5 = .ok (.ireturn, 1) := by decide +kernel
theorem dL_tryBack_6 : decode cL_tryBack 6 = .ok (.astore_n 2, 1) := by decide +kernel
theorem dL_tryBack_7 : decode cL_tryBack 7 = .ok (.ldc 15, 2) := by decide +kernel
theorem dL_tryBack_9 : decode cL_tryBack 9 = .ok (.ireturn, 1) := by decide +kernel
theorem dL_tryBack_10 : decode cL_tryBack 10 = .ok (.astore_n 2, 1) := by decide +kernel
theorem dL_tryBack_11 : decode cL_tryBack 11 = .ok (.ldc 33, 2) := by decide +kernel
theorem dL_tryBack_13 : decode cL_tryBack 13 = .ok (.ireturn, 1) := by decide +kernel
theorem dL_call_0 : decode cL_call 0 = .ok (.iload_n 1, 1) := by decide +kernel
theorem dL_call_1 : decode cL_call 1 = .ok (.tableswitch 170 0 14 #[75, 81, 86, 92, 99, 105, 111, 120, 127, 133, 140, 145, 151, 158, 164], 75) := by decide +kernel
theorem dL_call_76 : decode cL_call 76 = .ok (.aload_n 0, 1) := by decide +kernel
theorem dL_call_77 : decode cL_call 77 = .ok (.iload_n 2, 1) := by decide +kernel
theorem dL_call_78 : decode cL_call 78 = .ok (.invokestatic 82, 3) := by decide +kernel
theorem dL_call_81 : decode cL_call 81 = .ok (.ireturn, 1) := by decide +kernel
theorem dL_call_82 : decode cL_call 82 = .ok (.aload_n 0, 1) := by decide +kernel
theorem dL_call_83 : decode cL_call 83 = .ok (.invokestatic 88, 3) := by decide +kernel
theorem dL_call_86 : decode cL_call 86 = .ok (.ireturn, 1) := by decide +kernel
theorem dL_call_87 : decode cL_call 87 = .ok (.aload_n 0, 1) := by decide +kernel
theorem dL_call_88 : decode cL_call 88 = .ok (.iload_n 2, 1) := by decide +kernel
theorem dL_call_89 : decode cL_call 89 = .ok (.invokestatic 92, 3) := by decide +kernel
theorem dL_call_92 : decode cL_call 92 = .ok (.ireturn, 1) := by decide +kernel
theorem dL_call_93 : decode cL_call 93 = .ok (.aload_n 0, 1) := by decide +kernel
theorem dL_call_94 : decode cL_call 94 = .ok (.iload_n 2, 1) := by decide +kernel
theorem dL_call_95 : decode cL_call 95 = .ok (.iload_n 3, 1) := by decide +kernel
theorem dL_call_96 : decode cL_call 96 = .ok (.invokestatic 95, 3) := by decide +kernel
theorem dL_call_99 : decode cL_call 99 = .ok (.ireturn, 1) := by decide +kernel
theorem dL_call_100 : decode cL_call 100 = .ok (.aload_n 0, 1) := by decide +kernel
theorem dL_call_101 : decode cL_call 101 = .ok (.iload_n 2, 1) := by decide +kernel
theorem dL_call_102 : decode cL_call 102 = .ok (.invokestatic 99, 3) := by decide +kernel
theorem dL_call_105 : decode cL_call 105 = .ok (.ireturn, 1) := by decide +kernel
theorem dL_call_106 : decode cL_call 106 = .ok (.aload_n 0, 1) := by decide +kernel
theorem dL_call_107 : decode cL_call 107 = .ok (.iload_n 2, 1) := by decide +kernel
theorem dL_call_108 : decode cL_call 108 = .ok (.invokestatic 102, 3) := by decide +kernel
theorem dL_call_111 : decode cL_call 111 = .ok (.ireturn, 1) := by decide +kernel
theorem dL_call_112 : decode cL_call 112 = .ok (.aload_n 0, 1) := by decide +kernel
theorem dL_call_113 : decode cL_call 113 = .ok (.iload_n 2, 1) := by decide +kernel
theorem dL_call_114 : decode cL_call 114 = .ok (.iload_n 3, 1) := by decide +kernel
theorem dL_call_115 : decode cL_call 115 = .ok (.iload 4, 2) := by decide +kernel
theorem dL_call_117 : decode cL_call 117 = .ok (.invokestatic 105, 3) := by decide +kernel
theorem dL_call_120 : decode cL_call 120 = .ok (.ireturn, 1) := by decide +kernel
theorem dL_call_121 : decode cL_call 121 = .ok (.aload_n 0, 1) := by decide +kernel
theorem dL_call_122 : decode cL_call 122 = .ok (.iload_n 2, 1) := by decide +kernel
theorem dL_call_123 : decode cL_call 123 = .ok (.iload_n 3, 1) := by decide +kernel
theorem dL_call_124 : decode cL_call 124 = .ok (.invokestatic 109, 3) := by decide +kernel
theorem dL_call_127 : decode cL_call 127 = .ok (.ireturn, 1) := by decide +kernel
theorem dL_call_128 : decode cL_call 128 = .ok (.aload_n 0, 1) := by decide +kernel
theorem dL_call_129 : decode cL_call 129 = .ok (.iload_n 2, 1) := by decide +kernel
theorem dL_call_130 : decode cL_call 130 = .ok (.invokestatic 112, 3) := by decide +kernel
theorem dL_call_133 : decode cL_call 133 = .ok (.ireturn, 1) := by decide +kernel
theorem dL_call_134 : decode cL_call 134 = .ok (.aload_n 0, 1) := by decide +kernel
theorem dL_call_135 : decode cL_call 135 = .ok (.iload_n 2, 1) := by decide +kernel
theorem dL_call_136 : decode cL_call 136 = .ok (.iload_n 3, 1) := by decide +kernel
theorem dL_call_137 : decode cL_call 137 = .ok (.invokestatic 115, 3) := by decide +kernel
theorem dL_call_140 : decode cL_call 140 = .ok (.ireturn, 1) := by decide +kernel
theorem dL_call_141 : decode cL_call 141 = .ok (.aload_n 0, 1) := by decide +kernel
theorem dL_call_142 : decode cL_call 142 = .ok (.invokestatic 118, 3) := by decide +kernel
theorem dL_call_145 : decode cL_call 145 = .ok (.ireturn, 1) := by decide +kernel
theorem dL_call_146 : decode cL_call 146 = .ok (.aload_n 0, 1) := by decide +kernel
theorem dL_call_147 : decode cL_call 147 = .ok (.iload_n 2, 1) := by decide +kernel
theorem dL_call_148 : decode cL_call 148 = .ok (.invokestatic 121, 3) := by decide +kernel
theorem dL_call_151 : decode cL_call 151 = .ok (.ireturn, 1) := by decide +kernel
theorem dL_call_152 : decode cL_call 152 = .ok (.aload_n 0, 1) := by decide +kernel
theorem dL_call_153 : decode cL_call 153 = .ok (.iload_n 2, 1) := by decide +kernel
theorem dL_call_154 : decode cL_call 154 = .ok (.iload_n 3, 1) := by decide +kernel
theorem dL_call_155 : decode cL_call 155 = .ok (.invokestatic 124, 3) := by decide +kernel
theorem dL_call_158 : decode cL_call 158 = .ok (.ireturn, 1) := by decide +kernel
theorem dL_call_159 : decode cL_call 159 = .ok (.aload_n 0, 1) := by decide +kernel
theorem dL_call_160 : decode cL_call 160 = .ok (.iload_n 2, 1) := by decide +kernel
theorem dL_call_161 : decode cL_call 161 = .ok (.invokestatic 127, 3) := by decide +kernel
theorem dL_call_164 : decode cL_call 164 = .ok (.ireturn, 1) := by decide +kernel
theorem dL_call_165 : decode cL_call 165 = .ok (.aload_n 0, 1) := by decide +kernel
theorem dL_call_166 : decode cL_call 166 = .ok (.iload_n 2, 1) := by decide +kernel
theorem dL_call_167 : decode cL_call 167 = .ok (.invokestatic 130, 3) := by decide +kernel
theorem dL_call_170 : decode cL_call 170 = .ok (.ireturn, 1) := by decide +kernel
theorem dL_call_171 : decode cL_call 171 = .ok (.aload_n 0, 1) := by decide +kernel
theorem dL_call_172 : decode cL_call 172 = .ok (.iload_n 2, 1) := by decide +kernel
theorem dL_call_173 : decode cL_call 173 = .ok (.invokestatic 133, 3) := by decide +kernel
theorem dL_call_176 : decode cL_call 176 = .ok (.ireturn, 1) := by decide +kernel
theorem dL_cell_0 : decode cL_cell 0 = .ok (.iload_n 1, 1) := by decide +kernel
theorem dL_cell_1 : decode cL_cell 1 = .ok (.aload_n 0, 1) := by decide +kernel
theorem dL_cell_2 : decode cL_cell 2 = .ok (.arraylength, 1) := by decide +kernel
theorem dL_cell_3 : decode cL_cell 3 = .ok (.if_icmp .ge 9, 3) := by decide +kernel
theorem dL_cell_6 : decode cL_cell 6 = .ok (.aload_n 0, 1) := by decide +kernel
theorem dL_cell_7 : decode cL_cell 7 = .ok (.iload_n 1, 1) := by decide +kernel
theorem dL_cell_8 : decode cL_cell 8 = .ok (.iaload, 1) := by decide +kernel
theorem dL_cell_9 : decode cL_cell 9 = .ok (.goto 13, 3) := by decide +kernel
theorem dL_cell_12 : decode cL_cell 12 = .ok (.ldc 136, 2) := by decide +kernel
theorem dL_cell_14 : decode cL_cell 14 = .ok (.iload_n 1, 1) := by decide +kernel
theorem dL_cell_15 : decode cL_cell 15 = .ok (.iconst 3, 1) := by decide +kernel
theorem dL_cell_16 : decode cL_cell 16 = .ok (.iadd, 1) := by decide +kernel
theorem dL_cell_17 : decode cL_cell 17 = .ok (.imul, 1) := by decide +kernel
theorem dL_cell_18 : decode cL_cell 18 = .ok (.sipush 11257, 3) := by decide +kernel
theorem dL_cell_21 : decode cL_cell 21 = .ok (.iadd, 1) := by decide +kernel
theorem dL_cell_22 : decode cL_cell 22 = .ok (.ldc 137, 2) := by decide +kernel
theorem dL_cell_24 : decode cL_cell 24 = .ok (.iand, 1) := by decide +kernel
theorem dL_cell_25 : decode cL_cell 25 = .ok (.ireturn, 1) := by decide +kernel
theorem dL_thrown_0 : decode cL_thrown 0 = .ok (.iload_n 0, 1) := by decide +kernel
theorem dL_thrown_1 : decode cL_thrown 1 = .ok (.ldc 15, 2) := by decide +kernel
theorem dL_thrown_3 : decode cL_thrown 3 = .ok (.if_icmp .eq 15, 3) := by decide +kernel
theorem dL_thrown_6 : decode cL_thrown 6 = .ok (.iload_n 0, 1) := by decide +kernel
theorem dL_thrown_7 : decode cL_thrown 7 = .ok (.ldc 22, 2) := by decide +kernel
theorem dL_thrown_9 : decode cL_thrown 9 = .ok (.if_icmp .eq 9, 3) := by decide +kernel
theorem dL_thrown_12 : decode cL_thrown 12 = .ok (.iload_n 0, 1) := by decide +kernel
theorem dL_thrown_13 : decode cL_thrown 13 = .ok (.ldc 33, 2) := by decide +kernel
theorem dL_thrown_15 : decode cL_thrown 15 = .ok (.if_icmp .ne 7, 3) := by decide +kernel
theorem dL_thrown_18 : decode cL_thrown 18 = .ok (.iconst 1, 1) := by decide +kernel
theorem dL_thrown_19 : decode cL_thrown 19 = .ok (.goto 4, 3) := by decide +kernel
theorem dL_thrown_22 : decode cL_thrown 22 = .ok (.iconst 0, 1) := by decide +kernel
theorem dL_thrown_23 : decode cL_thrown 23 = .ok (.ireturn, 1) := by decide +kernel
