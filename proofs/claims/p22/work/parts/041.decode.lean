theorem dX6_valueWord_69 : decode cX6_valueWord 69 = .ok (.iload_n 1, 1) := by decide +kernel
theorem dX6_valueWord_70 : decode cX6_valueWord 70 = .ok (.iload_n 2, 1) := by decide +kernel
theorem dX6_valueWord_71 : decode cX6_valueWord 71 = .ok (.ldc 92, 2) := by decide +kernel
theorem dX6_valueWord_73 : decode cX6_valueWord 73 = .ok (.invokestatic 67, 3) := by decide +kernel
theorem dX6_valueWord_76 : decode cX6_valueWord 76 = .ok (.ifCond .eq 9, 3) := by decide +kernel
theorem dX6_valueWord_79 : decode cX6_valueWord 79 = .ok (.sipush 316, 3) := by decide +kernel
theorem dX6_valueWord_82 : decode cX6_valueWord 82 = .ok (.goto 74, 3) := by decide +kernel
theorem dX6_valueWord_85 : decode cX6_valueWord 85 = .ok (.aload_n 0, 1) := by decide +kernel
theorem dX6_valueWord_86 : decode cX6_valueWord 86 = .ok (.iload_n 1, 1) := by decide +kernel
theorem dX6_valueWord_87 : decode cX6_valueWord 87 = .ok (.iload_n 2, 1) := by decide +kernel
theorem dX6_valueWord_88 : decode cX6_valueWord 88 = .ok (.ldc 94, 2) := by decide +kernel
theorem dX6_valueWord_90 : decode cX6_valueWord 90 = .ok (.invokestatic 67, 3) := by decide +kernel
theorem dX6_valueWord_93 : decode cX6_valueWord 93 = .ok (.ifCond .eq 9, 3) := by decide +kernel
theorem dX6_valueWord_96 : decode cX6_valueWord 96 = .ok (.sipush 317, 3) := by decide +kernel
theorem dX6_valueWord_99 : decode cX6_valueWord 99 = .ok (.goto 57, 3) := by decide +kernel
theorem dX6_valueWord_102 : decode cX6_valueWord 102 = .ok (.aload_n 0, 1) := by decide +kernel
theorem dX6_valueWord_103 : decode cX6_valueWord 103 = .ok (.iload_n 1, 1) := by decide +kernel
theorem dX6_valueWord_104 : decode cX6_valueWord 104 = .ok (.iload_n 2, 1) := by decide +kernel
theorem dX6_valueWord_105 : decode cX6_valueWord 105 = .ok (.ldc 96, 2) := by decide +kernel
theorem dX6_valueWord_107 : decode cX6_valueWord 107 = .ok (.invokestatic 67, 3) := by decide +kernel
theorem dX6_valueWord_110 : decode cX6_valueWord 110 = .ok (.ifCond .eq 9, 3) := by decide +kernel
theorem dX6_valueWord_113 : decode cX6_valueWord 113 = .ok (.sipush 318, 3) := by decide +kernel
theorem dX6_valueWord_116 : decode cX6_valueWord 116 = .ok (.goto 40, 3) := by decide +kernel
theorem dX6_valueWord_119 : decode cX6_valueWord 119 = .ok (.aload_n 0, 1) := by decide +kernel
theorem dX6_valueWord_120 : decode cX6_valueWord 120 = .ok (.iload_n 1, 1) := by decide +kernel
theorem dX6_valueWord_121 : decode cX6_valueWord 121 = .ok (.iload_n 2, 1) := by decide +kernel
theorem dX6_valueWord_122 : decode cX6_valueWord 122 = .ok (.ldc 98, 2) := by decide +kernel
theorem dX6_valueWord_124 : decode cX6_valueWord 124 = .ok (.invokestatic 67, 3) := by decide +kernel
theorem dX6_valueWord_127 : decode cX6_valueWord 127 = .ok (.ifCond .eq 9, 3) := by decide +kernel
theorem dX6_valueWord_130 : decode cX6_valueWord 130 = .ok (.sipush 319, 3) := by decide +kernel
theorem dX6_valueWord_133 : decode cX6_valueWord 133 = .ok (.goto 23, 3) := by decide +kernel
theorem dX6_valueWord_136 : decode cX6_valueWord 136 = .ok (.aload_n 0, 1) := by decide +kernel
theorem dX6_valueWord_137 : decode cX6_valueWord 137 = .ok (.iload_n 1, 1) := by decide +kernel
theorem dX6_valueWord_138 : decode cX6_valueWord 138 = .ok (.iload_n 2, 1) := by decide +kernel
theorem dX6_valueWord_139 : decode cX6_valueWord 139 = .ok (.ldc 100, 2) := by decide +kernel
theorem dX6_valueWord_141 : decode cX6_valueWord 141 = .ok (.invokestatic 67, 3) := by decide +kernel
theorem dX6_valueWord_144 : decode cX6_valueWord 144 = .ok (.ifCond .eq 9, 3) := by decide +kernel
theorem dX6_valueWord_147 : decode cX6_valueWord 147 = .ok (.sipush 320, 3) := by decide +kernel
theorem dX6_valueWord_150 : decode cX6_valueWord 150 = .ok (.goto 6, 3) := by decide +kernel
theorem dX6_valueWord_153 : decode cX6_valueWord 153 = .ok (.sipush 303, 3) := by decide +kernel
theorem dX6_valueWord_156 : decode cX6_valueWord 156 = .ok (.ireturn, 1) := by decide +kernel
theorem dX8_at_0 : decode cX8_at 0 = .ok (.iload_n 1, 1) := by decide +kernel
theorem dX8_at_1 : decode cX8_at 1 = .ok (.ifCond .lt 15, 3) := by decide +kernel
theorem dX8_at_4 : decode cX8_at 4 = .ok (.iload_n 1, 1) := by decide +kernel
theorem dX8_at_5 : decode cX8_at 5 = .ok (.aload_n 0, 1) := by decide +kernel
theorem dX8_at_6 : decode cX8_at 6 = .ok (.arraylength, 1) := by decide +kernel
theorem dX8_at_7 : decode cX8_at 7 = .ok (.if_icmp .ge 9, 3) := by decide +kernel
theorem dX8_at_10 : decode cX8_at 10 = .ok (.aload_n 0, 1) := by decide +kernel
theorem dX8_at_11 : decode cX8_at 11 = .ok (.iload_n 1, 1) := by decide +kernel
theorem dX8_at_12 : decode cX8_at 12 = .ok (.iaload, 1) := by decide +kernel
theorem dX8_at_13 : decode cX8_at 13 = .ok (.goto 4, 3) := by decide +kernel
theorem dX8_at_16 : decode cX8_at 16 = .ok (.iconst 0, 1) := by decide +kernel
theorem dX8_at_17 : decode cX8_at 17 = .ok (.ireturn, 1) := by decide +kernel

