theorem dJ6_getChars_ba4f3_110 : decode cJ6_getChars_ba4f3 110 = .ok (.iinc 5 (-1), 3) := by decide +kernel
theorem dJ6_getChars_ba4f3_113 : decode cJ6_getChars_ba4f3 113 = .ok (.iload 5, 2) := by decide +kernel
theorem dJ6_getChars_ba4f3_115 : decode cJ6_getChars_ba4f3 115 = .ok (.bipush 45, 2) := by decide +kernel
theorem dJ6_getChars_ba4f3_117 : decode cJ6_getChars_ba4f3 117 = .ok (.bastore, 1) := by decide +kernel
theorem dJ6_getChars_ba4f3_118 : decode cJ6_getChars_ba4f3 118 = .ok (.iload 5, 2) := by decide +kernel
theorem dJ6_getChars_ba4f3_120 : decode cJ6_getChars_ba4f3 120 = .ok (.ireturn, 1) := by decide +kernel
theorem dJ6_stringSize_0f7a4_0 : decode cJ6_stringSize_0f7a4 0 = .ok (.iconst 1, 1) := by decide +kernel
theorem dJ6_stringSize_0f7a4_1 : decode cJ6_stringSize_0f7a4 1 = .ok (.istore_n 1, 1) := by decide +kernel
theorem dJ6_stringSize_0f7a4_2 : decode cJ6_stringSize_0f7a4 2 = .ok (.iload_n 0, 1) := by decide +kernel
theorem dJ6_stringSize_0f7a4_3 : decode cJ6_stringSize_0f7a4 3 = .ok (.ifCond .lt 8, 3) := by decide +kernel
theorem dJ6_stringSize_0f7a4_6 : decode cJ6_stringSize_0f7a4 6 = .ok (.iconst 0, 1) := by decide +kernel
theorem dJ6_stringSize_0f7a4_7 : decode cJ6_stringSize_0f7a4 7 = .ok (.istore_n 1, 1) := by decide +kernel
theorem dJ6_stringSize_0f7a4_8 : decode cJ6_stringSize_0f7a4 8 = .ok (.iload_n 0, 1) := by decide +kernel
theorem dJ6_stringSize_0f7a4_9 : decode cJ6_stringSize_0f7a4 9 = .ok (.ineg, 1) := by decide +kernel
theorem dJ6_stringSize_0f7a4_10 : decode cJ6_stringSize_0f7a4 10 = .ok (.istore_n 0, 1) := by decide +kernel
theorem dJ6_stringSize_0f7a4_11 : decode cJ6_stringSize_0f7a4 11 = .ok (.bipush (-10), 2) := by decide +kernel
theorem dJ6_stringSize_0f7a4_13 : decode cJ6_stringSize_0f7a4 13 = .ok (.istore_n 2, 1) := by decide +kernel
theorem dJ6_stringSize_0f7a4_14 : decode cJ6_stringSize_0f7a4 14 = .ok (.iconst 1, 1) := by decide +kernel
theorem dJ6_stringSize_0f7a4_15 : decode cJ6_stringSize_0f7a4 15 = .ok (.istore_n 3, 1) := by decide +kernel
theorem dJ6_stringSize_0f7a4_16 : decode cJ6_stringSize_0f7a4 16 = .ok (.iload_n 3, 1) := by decide +kernel
theorem dJ6_stringSize_0f7a4_17 : decode cJ6_stringSize_0f7a4 17 = .ok (.bipush 10, 2) := by decide +kernel
theorem dJ6_stringSize_0f7a4_19 : decode cJ6_stringSize_0f7a4 19 = .ok (.if_icmp .ge 23, 3) := by decide +kernel
theorem dJ6_stringSize_0f7a4_22 : decode cJ6_stringSize_0f7a4 22 = .ok (.iload_n 0, 1) := by decide +kernel
theorem dJ6_stringSize_0f7a4_23 : decode cJ6_stringSize_0f7a4 23 = .ok (.iload_n 2, 1) := by decide +kernel
theorem dJ6_stringSize_0f7a4_24 : decode cJ6_stringSize_0f7a4 24 = .ok (.if_icmp .le 7, 3) := by decide +kernel
theorem dJ6_stringSize_0f7a4_27 : decode cJ6_stringSize_0f7a4 27 = .ok (.iload_n 3, 1) := by decide +kernel
theorem dJ6_stringSize_0f7a4_28 : decode cJ6_stringSize_0f7a4 28 = .ok (.iload_n 1, 1) := by decide +kernel
theorem dJ6_stringSize_0f7a4_29 : decode cJ6_stringSize_0f7a4 29 = .ok (.iadd, 1) := by decide +kernel
theorem dJ6_stringSize_0f7a4_30 : decode cJ6_stringSize_0f7a4 30 = .ok (.ireturn, 1) := by decide +kernel
theorem dJ6_stringSize_0f7a4_31 : decode cJ6_stringSize_0f7a4 31 = .ok (.bipush 10, 2) := by decide +kernel
theorem dJ6_stringSize_0f7a4_33 : decode cJ6_stringSize_0f7a4 33 = .ok (.iload_n 2, 1) := by decide +kernel
theorem dJ6_stringSize_0f7a4_34 : decode cJ6_stringSize_0f7a4 34 = .ok (.imul, 1) := by decide +kernel
theorem dJ6_stringSize_0f7a4_35 : decode cJ6_stringSize_0f7a4 35 = .ok (.istore_n 2, 1) := by decide +kernel
theorem dJ6_stringSize_0f7a4_36 : decode cJ6_stringSize_0f7a4 36 = .ok (.iinc 3 1, 3) := by decide +kernel
theorem dJ6_stringSize_0f7a4_39 : decode cJ6_stringSize_0f7a4 39 = .ok (.goto (-23), 3) := by decide +kernel
theorem dJ6_stringSize_0f7a4_42 : decode cJ6_stringSize_0f7a4 42 = .ok (.bipush 10, 2) := by decide +kernel
theorem dJ6_stringSize_0f7a4_44 : decode cJ6_stringSize_0f7a4 44 = .ok (.iload_n 1, 1) := by decide +kernel
theorem dJ6_stringSize_0f7a4_45 : decode cJ6_stringSize_0f7a4 45 = .ok (.iadd, 1) := by decide +kernel
theorem dJ6_stringSize_0f7a4_46 : decode cJ6_stringSize_0f7a4 46 = .ok (.ireturn, 1) := by decide +kernel
theorem dJ13_getChars_11360_0 : decode cJ13_getChars_11360 0 = .ok (.iload_n 2, 1) := by decide +kernel
theorem dJ13_getChars_11360_1 : decode cJ13_getChars_11360 1 = .ok (.istore 7, 2) := by decide +kernel
theorem dJ13_getChars_11360_3 : decode cJ13_getChars_11360 3 = .ok (.lload_n 0, 1) := by decide +kernel
theorem dJ13_getChars_11360_4 : decode cJ13_getChars_11360 4 = .ok (.lconst 0, 1) := by decide +kernel
theorem dJ13_getChars_11360_5 : decode cJ13_getChars_11360 5 = .ok (.lcmp, 1) := by decide +kernel
theorem dJ13_getChars_11360_6 : decode cJ13_getChars_11360 6 = .ok (.ifCond .ge 7, 3) := by decide +kernel
theorem dJ13_getChars_11360_9 : decode cJ13_getChars_11360 9 = .ok (.iconst 1, 1) := by decide +kernel
theorem dJ13_getChars_11360_10 : decode cJ13_getChars_11360 10 = .ok (.goto 4, 3) := by decide +kernel
theorem dJ13_getChars_11360_13 : decode cJ13_getChars_11360 13 = .ok (.iconst 0, 1) := by decide +kernel
theorem dJ13_getChars_11360_14 : decode cJ13_getChars_11360 14 = .ok (.istore 8, 2) := by decide +kernel
theorem dJ13_getChars_11360_16 : decode cJ13_getChars_11360 16 = .ok (.iload 8, 2) := by decide +kernel
theorem dJ13_getChars_11360_18 : decode cJ13_getChars_11360 18 = .ok (.ifCond .ne 6, 3) := by decide +kernel
theorem dJ13_getChars_11360_21 : decode cJ13_getChars_11360 21 = .ok (.lload_n 0, 1) := by decide +kernel
theorem dJ13_getChars_11360_22 : decode cJ13_getChars_11360 22 = .ok (.lneg, 1) := by decide +kernel
theorem dJ13_getChars_11360_23 : decode cJ13_getChars_11360 23 = .ok (.lstore_n 0, 1) := by decide +kernel
theorem dJ13_getChars_11360_24 : decode cJ13_getChars_11360 24 = .ok (.lload_n 0, 1) := by decide +kernel
theorem dJ13_getChars_11360_25 : decode cJ13_getChars_11360 25 = .ok (.ldc2_w 129, 3) := by decide +kernel
theorem dJ13_getChars_11360_28 : decode cJ13_getChars_11360 28 = .ok (.lcmp, 1) := by decide +kernel
theorem dJ13_getChars_11360_29 : decode cJ13_getChars_11360 29 = .ok (.ifCond .gt 53, 3) := by decide +kernel
theorem dJ13_getChars_11360_32 : decode cJ13_getChars_11360 32 = .ok (.lload_n 0, 1) := by decide +kernel
theorem dJ13_getChars_11360_33 : decode cJ13_getChars_11360 33 = .ok (.ldc2_w 131, 3) := by decide +kernel
theorem dJ13_getChars_11360_36 : decode cJ13_getChars_11360 36 = .ok (.ldiv, 1) := by decide +kernel
theorem dJ13_getChars_11360_37 : decode cJ13_getChars_11360 37 = .ok (.lstore 4, 2) := by decide +kernel
theorem dJ13_getChars_11360_39 : decode cJ13_getChars_11360 39 = .ok (.lload 4, 2) := by decide +kernel
theorem dJ13_getChars_11360_41 : decode cJ13_getChars_11360 41 = .ok (.ldc2_w 131, 3) := by decide +kernel
theorem dJ13_getChars_11360_44 : decode cJ13_getChars_11360 44 = .ok (.lmul, 1) := by decide +kernel
theorem dJ13_getChars_11360_45 : decode cJ13_getChars_11360 45 = .ok (.lload_n 0, 1) := by decide +kernel
theorem dJ13_getChars_11360_46 : decode cJ13_getChars_11360 46 = .ok (.lsub, 1) := by decide +kernel
theorem dJ13_getChars_11360_47 : decode cJ13_getChars_11360 47 = .ok (.l2i, 1) := by decide +kernel
theorem dJ13_getChars_11360_48 : decode cJ13_getChars_11360 48 = .ok (.istore 6, 2) := by decide +kernel
theorem dJ13_getChars_11360_50 : decode cJ13_getChars_11360 50 = .ok (.lload 4, 2) := by decide +kernel
theorem dJ13_getChars_11360_52 : decode cJ13_getChars_11360 52 = .ok (.lstore_n 0, 1) := by decide +kernel
theorem dJ13_getChars_11360_53 : decode cJ13_getChars_11360 53 = .ok (.aload_n 3, 1) := by decide +kernel
theorem dJ13_getChars_11360_54 : decode cJ13_getChars_11360 54 = .ok (.iinc 7 (-1), 3) := by decide +kernel
theorem dJ13_getChars_11360_57 : decode cJ13_getChars_11360 57 = .ok (.iload 7, 2) := by decide +kernel
theorem dJ13_getChars_11360_59 : decode cJ13_getChars_11360 59 = .ok (.getstatic 133, 3) := by decide +kernel
theorem dJ13_getChars_11360_62 : decode cJ13_getChars_11360 62 = .ok (.iload 6, 2) := by decide +kernel
theorem dJ13_getChars_11360_64 : decode cJ13_getChars_11360 64 = .ok (.baload, 1) := by decide +kernel
theorem dJ13_getChars_11360_65 : decode cJ13_getChars_11360 65 = .ok (.bastore, 1) := by decide +kernel
theorem dJ13_getChars_11360_66 : decode cJ13_getChars_11360 66 = .ok (.aload_n 3, 1) := by decide +kernel
theorem dJ13_getChars_11360_67 : decode cJ13_getChars_11360 67 = .ok (.iinc 7 (-1), 3) := by decide +kernel
theorem dJ13_getChars_11360_70 : decode cJ13_getChars_11360 70 = .ok (.iload 7, 2) := by decide +kernel
theorem dJ13_getChars_11360_72 : decode cJ13_getChars_11360 72 = .ok (.getstatic 137, 3) := by decide +kernel
theorem dJ13_getChars_11360_75 : decode cJ13_getChars_11360 75 = .ok (.iload 6, 2) := by decide +kernel
theorem dJ13_getChars_11360_77 : decode cJ13_getChars_11360 77 = .ok (.baload, 1) := by decide +kernel
theorem dJ13_getChars_11360_78 : decode cJ13_getChars_11360 78 = .ok (.bastore, 1) := by decide +kernel
theorem dJ13_getChars_11360_79 : decode cJ13_getChars_11360 79 = .ok (.goto (-55), 3) := by decide +kernel
theorem dJ13_getChars_11360_82 : decode cJ13_getChars_11360 82 = .ok (.lload_n 0, 1) := by decide +kernel
theorem dJ13_getChars_11360_83 : decode cJ13_getChars_11360 83 = .ok (.l2i, 1) := by decide +kernel
theorem dJ13_getChars_11360_84 : decode cJ13_getChars_11360 84 = .ok (.istore 10, 2) := by decide +kernel
theorem dJ13_getChars_11360_86 : decode cJ13_getChars_11360 86 = .ok (.iload 10, 2) := by decide +kernel
theorem dJ13_getChars_11360_88 : decode cJ13_getChars_11360 88 = .ok (.bipush (-100), 2) := by decide +kernel
theorem dJ13_getChars_11360_90 : decode cJ13_getChars_11360 90 = .ok (.if_icmp .gt 53, 3) := by decide +kernel
theorem dJ13_getChars_11360_93 : decode cJ13_getChars_11360 93 = .ok (.iload 10, 2) := by decide +kernel
theorem dJ13_getChars_11360_95 : decode cJ13_getChars_11360 95 = .ok (.bipush 100, 2) := by decide +kernel
theorem dJ13_getChars_11360_97 : decode cJ13_getChars_11360 97 = .ok (.idiv, 1) := by decide +kernel
theorem dJ13_getChars_11360_98 : decode cJ13_getChars_11360 98 = .ok (.istore 9, 2) := by decide +kernel
theorem dJ13_getChars_11360_100 : decode cJ13_getChars_11360 100 = .ok (.iload 9, 2) := by decide +kernel
theorem dJ13_getChars_11360_102 : decode cJ13_getChars_11360 102 = .ok (.bipush 100, 2) := by decide +kernel
theorem dJ13_getChars_11360_104 : decode cJ13_getChars_11360 104 = .ok (.imul, 1) := by decide +kernel
theorem dJ13_getChars_11360_105 : decode cJ13_getChars_11360 105 = .ok (.iload 10, 2) := by decide +kernel
theorem dJ13_getChars_11360_107 : decode cJ13_getChars_11360 107 = .ok (.isub, 1) := by decide +kernel
theorem dJ13_getChars_11360_108 : decode cJ13_getChars_11360 108 = .ok (.istore 6, 2) := by decide +kernel
theorem dJ13_getChars_11360_110 : decode cJ13_getChars_11360 110 = .ok (.iload 9, 2) := by decide +kernel
theorem dJ13_getChars_11360_112 : decode cJ13_getChars_11360 112 = .ok (.istore 10, 2) := by decide +kernel
theorem dJ13_getChars_11360_114 : decode cJ13_getChars_11360 114 = .ok (.aload_n 3, 1) := by decide +kernel
theorem dJ13_getChars_11360_115 : decode cJ13_getChars_11360 115 = .ok (.iinc 7 (-1), 3) := by decide +kernel
theorem dJ13_getChars_11360_118 : decode cJ13_getChars_11360 118 = .ok (.iload 7, 2) := by decide +kernel
theorem dJ13_getChars_11360_120 : decode cJ13_getChars_11360 120 = .ok (.getstatic 133, 3) := by decide +kernel
theorem dJ13_getChars_11360_123 : decode cJ13_getChars_11360 123 = .ok (.iload 6, 2) := by decide +kernel
theorem dJ13_getChars_11360_125 : decode cJ13_getChars_11360 125 = .ok (.baload, 1) := by decide +kernel
theorem dJ13_getChars_11360_126 : decode cJ13_getChars_11360 126 = .ok (.bastore, 1) := by decide +kernel
theorem dJ13_getChars_11360_127 : decode cJ13_getChars_11360 127 = .ok (.aload_n 3, 1) := by decide +kernel
theorem dJ13_getChars_11360_128 : decode cJ13_getChars_11360 128 = .ok (.iinc 7 (-1), 3) := by decide +kernel
theorem dJ13_getChars_11360_131 : decode cJ13_getChars_11360 131 = .ok (.iload 7, 2) := by decide +kernel
theorem dJ13_getChars_11360_133 : decode cJ13_getChars_11360 133 = .ok (.getstatic 137, 3) := by decide +kernel
theorem dJ13_getChars_11360_136 : decode cJ13_getChars_11360 136 = .ok (.iload 6, 2) := by decide +kernel
theorem dJ13_getChars_11360_138 : decode cJ13_getChars_11360 138 = .ok (.baload, 1) := by decide +kernel
theorem dJ13_getChars_11360_139 : decode cJ13_getChars_11360 139 = .ok (.bastore, 1) := by decide +kernel
theorem dJ13_getChars_11360_140 : decode cJ13_getChars_11360 140 = .ok (.goto (-54), 3) := by decide +kernel
theorem dJ13_getChars_11360_143 : decode cJ13_getChars_11360 143 = .ok (.aload_n 3, 1) := by decide +kernel
theorem dJ13_getChars_11360_144 : decode cJ13_getChars_11360 144 = .ok (.iinc 7 (-1), 3) := by decide +kernel
theorem dJ13_getChars_11360_147 : decode cJ13_getChars_11360 147 = .ok (.iload 7, 2) := by decide +kernel
theorem dJ13_getChars_11360_149 : decode cJ13_getChars_11360 149 = .ok (.getstatic 133, 3) := by decide +kernel
theorem dJ13_getChars_11360_152 : decode cJ13_getChars_11360 152 = .ok (.iload 10, 2) := by decide +kernel
theorem dJ13_getChars_11360_154 : decode cJ13_getChars_11360 154 = .ok (.ineg, 1) := by decide +kernel
theorem dJ13_getChars_11360_155 : decode cJ13_getChars_11360 155 = .ok (.baload, 1) := by decide +kernel
theorem dJ13_getChars_11360_156 : decode cJ13_getChars_11360 156 = .ok (.bastore, 1) := by decide +kernel
theorem dJ13_getChars_11360_157 : decode cJ13_getChars_11360 157 = .ok (.iload 10, 2) := by decide +kernel
theorem dJ13_getChars_11360_159 : decode cJ13_getChars_11360 159 = .ok (.bipush (-9), 2) := by decide +kernel
theorem dJ13_getChars_11360_161 : decode cJ13_getChars_11360 161 = .ok (.if_icmp .ge 17, 3) := by decide +kernel
theorem dJ13_getChars_11360_164 : decode cJ13_getChars_11360 164 = .ok (.aload_n 3, 1) := by decide +kernel
theorem dJ13_getChars_11360_165 : decode cJ13_getChars_11360 165 = .ok (.iinc 7 (-1), 3) := by decide +kernel
theorem dJ13_getChars_11360_168 : decode cJ13_getChars_11360 168 = .ok (.iload 7, 2) := by decide +kernel
theorem dJ13_getChars_11360_170 : decode cJ13_getChars_11360 170 = .ok (.getstatic 137, 3) := by decide +kernel
theorem dJ13_getChars_11360_173 : decode cJ13_getChars_11360 173 = .ok (.iload 10, 2) := by decide +kernel
theorem dJ13_getChars_11360_175 : decode cJ13_getChars_11360 175 = .ok (.ineg, 1) := by decide +kernel
theorem dJ13_getChars_11360_176 : decode cJ13_getChars_11360 176 = .ok (.baload, 1) := by decide +kernel
theorem dJ13_getChars_11360_177 : decode cJ13_getChars_11360 177 = .ok (.bastore, 1) := by decide +kernel
theorem dJ13_getChars_11360_178 : decode cJ13_getChars_11360 178 = .ok (.iload 8, 2) := by decide +kernel
theorem dJ13_getChars_11360_180 : decode cJ13_getChars_11360 180 = .ok (.ifCond .eq 12, 3) := by decide +kernel
theorem dJ13_getChars_11360_183 : decode cJ13_getChars_11360 183 = .ok (.aload_n 3, 1) := by decide +kernel
theorem dJ13_getChars_11360_184 : decode cJ13_getChars_11360 184 = .ok (.iinc 7 (-1), 3) := by decide +kernel
theorem dJ13_getChars_11360_187 : decode cJ13_getChars_11360 187 = .ok (.iload 7, 2) := by decide +kernel
theorem dJ13_getChars_11360_189 : decode cJ13_getChars_11360 189 = .ok (.bipush 45, 2) := by decide +kernel
theorem dJ13_getChars_11360_191 : decode cJ13_getChars_11360 191 = .ok (.bastore, 1) := by decide +kernel
theorem dJ13_getChars_11360_192 : decode cJ13_getChars_11360 192 = .ok (.iload 7, 2) := by decide +kernel
theorem dJ13_getChars_11360_194 : decode cJ13_getChars_11360 194 = .ok (.ireturn, 1) := by decide +kernel
theorem dJ13_stringSize_95d88_0 : decode cJ13_stringSize_95d88 0 = .ok (.iconst 1, 1) := by decide +kernel
theorem dJ13_stringSize_95d88_1 : decode cJ13_stringSize_95d88 1 = .ok (.istore_n 2, 1) := by decide +kernel
theorem dJ13_stringSize_95d88_2 : decode cJ13_stringSize_95d88 2 = .ok (.lload_n 0, 1) := by decide +kernel
theorem dJ13_stringSize_95d88_3 : decode cJ13_stringSize_95d88 3 = .ok (.lconst 0, 1) := by decide +kernel
theorem dJ13_stringSize_95d88_4 : decode cJ13_stringSize_95d88 4 = .ok (.lcmp, 1) := by decide +kernel
theorem dJ13_stringSize_95d88_5 : decode cJ13_stringSize_95d88 5 = .ok (.ifCond .lt 8, 3) := by decide +kernel
theorem dJ13_stringSize_95d88_8 : decode cJ13_stringSize_95d88 8 = .ok (.iconst 0, 1) := by decide +kernel
theorem dJ13_stringSize_95d88_9 : decode cJ13_stringSize_95d88 9 = .ok (.istore_n 2, 1) := by decide +kernel
theorem dJ13_stringSize_95d88_10 : decode cJ13_stringSize_95d88 10 = .ok (.lload_n 0, 1) := by decide +kernel
theorem dJ13_stringSize_95d88_11 : decode cJ13_stringSize_95d88 11 = .ok (.lneg, 1) := by decide +kernel
theorem dJ13_stringSize_95d88_12 : decode cJ13_stringSize_95d88 12 = .ok (.lstore_n 0, 1) := by decide +kernel
theorem dJ13_stringSize_95d88_13 : decode cJ13_stringSize_95d88 13 = .ok (.ldc2_w 140, 3) := by decide +kernel
theorem dJ13_stringSize_95d88_16 : decode cJ13_stringSize_95d88 16 = .ok (.lstore_n 3, 1) := by decide +kernel
theorem dJ13_stringSize_95d88_17 : decode cJ13_stringSize_95d88 17 = .ok (.iconst 1, 1) := by decide +kernel
theorem dJ13_stringSize_95d88_18 : decode cJ13_stringSize_95d88 18 = .ok (.istore 5, 2) := by decide +kernel
theorem dJ13_stringSize_95d88_20 : decode cJ13_stringSize_95d88 20 = .ok (.iload 5, 2) := by decide +kernel
theorem dJ13_stringSize_95d88_22 : decode cJ13_stringSize_95d88 22 = .ok (.bipush 19, 2) := by decide +kernel
theorem dJ13_stringSize_95d88_24 : decode cJ13_stringSize_95d88 24 = .ok (.if_icmp .ge 26, 3) := by decide +kernel
theorem dJ13_stringSize_95d88_27 : decode cJ13_stringSize_95d88 27 = .ok (.lload_n 0, 1) := by decide +kernel
theorem dJ13_stringSize_95d88_28 : decode cJ13_stringSize_95d88 28 = .ok (.lload_n 3, 1) := by decide +kernel
theorem dJ13_stringSize_95d88_29 : decode cJ13_stringSize_95d88 29 = .ok (.lcmp, 1) := by decide +kernel
theorem dJ13_stringSize_95d88_30 : decode cJ13_stringSize_95d88 30 = .ok (.ifCond .le 8, 3) := by decide +kernel
theorem dJ13_stringSize_95d88_33 : decode cJ13_stringSize_95d88 33 = .ok (.iload 5, 2) := by decide +kernel
theorem dJ13_stringSize_95d88_35 : decode cJ13_stringSize_95d88 35 = .ok (.iload_n 2, 1) := by decide +kernel
theorem dJ13_stringSize_95d88_36 : decode cJ13_stringSize_95d88 36 = .ok (.iadd, 1) := by decide +kernel
theorem dJ13_stringSize_95d88_37 : decode cJ13_stringSize_95d88 37 = .ok (.ireturn, 1) := by decide +kernel
theorem dJ13_stringSize_95d88_38 : decode cJ13_stringSize_95d88 38 = .ok (.ldc2_w 53, 3) := by decide +kernel
theorem dJ13_stringSize_95d88_41 : decode cJ13_stringSize_95d88 41 = .ok (.lload_n 3, 1) := by decide +kernel
theorem dJ13_stringSize_95d88_42 : decode cJ13_stringSize_95d88 42 = .ok (.lmul, 1) := by decide +kernel
theorem dJ13_stringSize_95d88_43 : decode cJ13_stringSize_95d88 43 = .ok (.lstore_n 3, 1) := by decide +kernel
theorem dJ13_stringSize_95d88_44 : decode cJ13_stringSize_95d88 44 = .ok (.iinc 5 1, 3) := by decide +kernel
theorem dJ13_stringSize_95d88_47 : decode cJ13_stringSize_95d88 47 = .ok (.goto (-27), 3) := by decide +kernel
theorem dJ13_stringSize_95d88_50 : decode cJ13_stringSize_95d88 50 = .ok (.bipush 19, 2) := by decide +kernel
theorem dJ13_stringSize_95d88_52 : decode cJ13_stringSize_95d88 52 = .ok (.iload_n 2, 1) := by decide +kernel
theorem dJ13_stringSize_95d88_53 : decode cJ13_stringSize_95d88 53 = .ok (.iadd, 1) := by decide +kernel
theorem dJ13_stringSize_95d88_54 : decode cJ13_stringSize_95d88 54 = .ok (.ireturn, 1) := by decide +kernel
theorem dJ9_floorDiv_f86c9_0 : decode cJ9_floorDiv_f86c9 0 = .ok (.lload_n 0, 1) := by decide +kernel
theorem dJ9_floorDiv_f86c9_1 : decode cJ9_floorDiv_f86c9 1 = .ok (.lload_n 2, 1) := by decide +kernel
theorem dJ9_floorDiv_f86c9_2 : decode cJ9_floorDiv_f86c9 2 = .ok (.ldiv, 1) := by decide +kernel
theorem dJ9_floorDiv_f86c9_3 : decode cJ9_floorDiv_f86c9 3 = .ok (.lstore 4, 2) := by decide +kernel
theorem dJ9_floorDiv_f86c9_5 : decode cJ9_floorDiv_f86c9 5 = .ok (.lload_n 0, 1) := by decide +kernel
theorem dJ9_floorDiv_f86c9_6 : decode cJ9_floorDiv_f86c9 6 = .ok (.lload_n 2, 1) := by decide +kernel
theorem dJ9_floorDiv_f86c9_7 : decode cJ9_floorDiv_f86c9 7 = .ok (.lxor, 1) := by decide +kernel
theorem dJ9_floorDiv_f86c9_8 : decode cJ9_floorDiv_f86c9 8 = .ok (.lconst 0, 1) := by decide +kernel
theorem dJ9_floorDiv_f86c9_9 : decode cJ9_floorDiv_f86c9 9 = .ok (.lcmp, 1) := by decide +kernel
theorem dJ9_floorDiv_f86c9_10 : decode cJ9_floorDiv_f86c9 10 = .ok (.ifCond .ge 17, 3) := by decide +kernel
theorem dJ9_floorDiv_f86c9_13 : decode cJ9_floorDiv_f86c9 13 = .ok (.lload 4, 2) := by decide +kernel
theorem dJ9_floorDiv_f86c9_15 : decode cJ9_floorDiv_f86c9 15 = .ok (.lload_n 2, 1) := by decide +kernel
theorem dJ9_floorDiv_f86c9_16 : decode cJ9_floorDiv_f86c9 16 = .ok (.lmul, 1) := by decide +kernel
theorem dJ9_floorDiv_f86c9_17 : decode cJ9_floorDiv_f86c9 17 = .ok (.lload_n 0, 1) := by decide +kernel
theorem dJ9_floorDiv_f86c9_18 : decode cJ9_floorDiv_f86c9 18 = .ok (.lcmp, 1) := by decide +kernel
theorem dJ9_floorDiv_f86c9_19 : decode cJ9_floorDiv_f86c9 19 = .ok (.ifCond .eq 8, 3) := by decide +kernel
theorem dJ9_floorDiv_f86c9_22 : decode cJ9_floorDiv_f86c9 22 = .ok (.lload 4, 2) := by decide +kernel
theorem dJ9_floorDiv_f86c9_24 : decode cJ9_floorDiv_f86c9 24 = .ok (.lconst 1, 1) := by decide +kernel
theorem dJ9_floorDiv_f86c9_25 : decode cJ9_floorDiv_f86c9 25 = .ok (.lsub, 1) := by decide +kernel
theorem dJ9_floorDiv_f86c9_26 : decode cJ9_floorDiv_f86c9 26 = .ok (.lreturn, 1) := by decide +kernel
theorem dJ9_floorDiv_f86c9_27 : decode cJ9_floorDiv_f86c9 27 = .ok (.lload 4, 2) := by decide +kernel
theorem dJ9_floorDiv_f86c9_29 : decode cJ9_floorDiv_f86c9 29 = .ok (.lreturn, 1) := by decide +kernel
theorem dJ9_floorMod_7cf53_0 : decode cJ9_floorMod_7cf53 0 = .ok (.iload_n 0, 1) := by decide +kernel
theorem dJ9_floorMod_7cf53_1 : decode cJ9_floorMod_7cf53 1 = .ok (.iload_n 1, 1) := by decide +kernel
theorem dJ9_floorMod_7cf53_2 : decode cJ9_floorMod_7cf53 2 = .ok (.irem, 1) := by decide +kernel
theorem dJ9_floorMod_7cf53_3 : decode cJ9_floorMod_7cf53 3 = .ok (.istore_n 2, 1) := by decide +kernel
theorem dJ9_floorMod_7cf53_4 : decode cJ9_floorMod_7cf53 4 = .ok (.iload_n 0, 1) := by decide +kernel
theorem dJ9_floorMod_7cf53_5 : decode cJ9_floorMod_7cf53 5 = .ok (.iload_n 1, 1) := by decide +kernel
theorem dJ9_floorMod_7cf53_6 : decode cJ9_floorMod_7cf53 6 = .ok (.ixor, 1) := by decide +kernel
theorem dJ9_floorMod_7cf53_7 : decode cJ9_floorMod_7cf53 7 = .ok (.ifCond .ge 11, 3) := by decide +kernel
theorem dJ9_floorMod_7cf53_10 : decode cJ9_floorMod_7cf53 10 = .ok (.iload_n 2, 1) := by decide +kernel
theorem dJ9_floorMod_7cf53_11 : decode cJ9_floorMod_7cf53 11 = .ok (.ifCond .eq 7, 3) := by decide +kernel
theorem dJ9_floorMod_7cf53_14 : decode cJ9_floorMod_7cf53 14 = .ok (.iload_n 2, 1) := by decide +kernel
theorem dJ9_floorMod_7cf53_15 : decode cJ9_floorMod_7cf53 15 = .ok (.iload_n 1, 1) := by decide +kernel
theorem dJ9_floorMod_7cf53_16 : decode cJ9_floorMod_7cf53 16 = .ok (.iadd, 1) := by decide +kernel
theorem dJ9_floorMod_7cf53_17 : decode cJ9_floorMod_7cf53 17 = .ok (.ireturn, 1) := by decide +kernel
theorem dJ9_floorMod_7cf53_18 : decode cJ9_floorMod_7cf53 18 = .ok (.iload_n 2, 1) := by decide +kernel
theorem dJ9_floorMod_7cf53_19 : decode cJ9_floorMod_7cf53 19 = .ok (.ireturn, 1) := by decide +kernel
theorem dJ9_floorMod_f86c9_0 : decode cJ9_floorMod_f86c9 0 = .ok (.lload_n 0, 1) := by decide +kernel
theorem dJ9_floorMod_f86c9_1 : decode cJ9_floorMod_f86c9 1 = .ok (.lload_n 2, 1) := by decide +kernel
theorem dJ9_floorMod_f86c9_2 : decode cJ9_floorMod_f86c9 2 = .ok (.lrem, 1) := by decide +kernel
theorem dJ9_floorMod_f86c9_3 : decode cJ9_floorMod_f86c9 3 = .ok (.lstore 4, 2) := by decide +kernel
theorem dJ9_floorMod_f86c9_5 : decode cJ9_floorMod_f86c9 5 = .ok (.lload_n 0, 1) := by decide +kernel
theorem dJ9_floorMod_f86c9_6 : decode cJ9_floorMod_f86c9 6 = .ok (.lload_n 2, 1) := by decide +kernel
theorem dJ9_floorMod_f86c9_7 : decode cJ9_floorMod_f86c9 7 = .ok (.lxor, 1) := by decide +kernel
theorem dJ9_floorMod_f86c9_8 : decode cJ9_floorMod_f86c9 8 = .ok (.lconst 0, 1) := by decide +kernel
theorem dJ9_floorMod_f86c9_9 : decode cJ9_floorMod_f86c9 9 = .ok (.lcmp, 1) := by decide +kernel
theorem dJ9_floorMod_f86c9_10 : decode cJ9_floorMod_f86c9 10 = .ok (.ifCond .ge 15, 3) := by decide +kernel
theorem dJ9_floorMod_f86c9_13 : decode cJ9_floorMod_f86c9 13 = .ok (.lload 4, 2) := by decide +kernel
theorem dJ9_floorMod_f86c9_15 : decode cJ9_floorMod_f86c9 15 = .ok (.lconst 0, 1) := by decide +kernel
theorem dJ9_floorMod_f86c9_16 : decode cJ9_floorMod_f86c9 16 = .ok (.lcmp, 1) := by decide +kernel
theorem dJ9_floorMod_f86c9_17 : decode cJ9_floorMod_f86c9 17 = .ok (.ifCond .eq 8, 3) := by decide +kernel
theorem dJ9_floorMod_f86c9_20 : decode cJ9_floorMod_f86c9 20 = .ok (.lload 4, 2) := by decide +kernel
theorem dJ9_floorMod_f86c9_22 : decode cJ9_floorMod_f86c9 22 = .ok (.lload_n 2, 1) := by decide +kernel
theorem dJ9_floorMod_f86c9_23 : decode cJ9_floorMod_f86c9 23 = .ok (.ladd, 1) := by decide +kernel
theorem dJ9_floorMod_f86c9_24 : decode cJ9_floorMod_f86c9 24 = .ok (.lreturn, 1) := by decide +kernel
theorem dJ9_floorMod_f86c9_25 : decode cJ9_floorMod_f86c9 25 = .ok (.lload 4, 2) := by decide +kernel
theorem dJ9_floorMod_f86c9_27 : decode cJ9_floorMod_f86c9 27 = .ok (.lreturn, 1) := by decide +kernel
theorem dJ9_max_7cf53_0 : decode cJ9_max_7cf53 0 = .ok (.iload_n 0, 1) := by decide +kernel
theorem dJ9_max_7cf53_1 : decode cJ9_max_7cf53 1 = .ok (.iload_n 1, 1) := by decide +kernel
theorem dJ9_max_7cf53_2 : decode cJ9_max_7cf53 2 = .ok (.if_icmp .lt 7, 3) := by decide +kernel
theorem dJ9_max_7cf53_5 : decode cJ9_max_7cf53 5 = .ok (.iload_n 0, 1) := by decide +kernel
theorem dJ9_max_7cf53_6 : decode cJ9_max_7cf53 6 = .ok (.goto 4, 3) := by decide +kernel
theorem dJ9_max_7cf53_9 : decode cJ9_max_7cf53 9 = .ok (.iload_n 1, 1) := by decide +kernel
theorem dJ9_max_7cf53_10 : decode cJ9_max_7cf53 10 = .ok (.ireturn, 1) := by decide +kernel
theorem dJ9_min_7cf53_0 : decode cJ9_min_7cf53 0 = .ok (.iload_n 0, 1) := by decide +kernel
theorem dJ9_min_7cf53_1 : decode cJ9_min_7cf53 1 = .ok (.iload_n 1, 1) := by decide +kernel
theorem dJ9_min_7cf53_2 : decode cJ9_min_7cf53 2 = .ok (.if_icmp .gt 7, 3) := by decide +kernel
theorem dJ9_min_7cf53_5 : decode cJ9_min_7cf53 5 = .ok (.iload_n 0, 1) := by decide +kernel
theorem dJ9_min_7cf53_6 : decode cJ9_min_7cf53 6 = .ok (.goto 4, 3) := by decide +kernel
theorem dJ9_min_7cf53_9 : decode cJ9_min_7cf53 9 = .ok (.iload_n 1, 1) := by decide +kernel
theorem dJ9_min_7cf53_10 : decode cJ9_min_7cf53 10 = .ok (.ireturn, 1) := by decide +kernel
theorem dJ0_init_81219_0 : decode cJ0_init_81219 0 = .ok (.aload_n 0, 1) := by decide +kernel
theorem dJ0_init_81219_1 : decode cJ0_init_81219 1 = .ok (.aload_n 1, 1) := by decide +kernel
theorem dJ0_init_81219_2 : decode cJ0_init_81219 2 = .ok (.aconst_null, 1) := by decide +kernel
theorem dJ0_init_81219_3 : decode cJ0_init_81219 3 = .ok (.invokespecial 489, 3) := by decide +kernel
theorem dJ0_init_81219_6 : decode cJ0_init_81219 6 = .ok (.return_, 1) := by decide +kernel
theorem dJ0_length_8abf5_0 : decode cJ0_length_8abf5 0 = .ok (.aload_n 0, 1) := by decide +kernel
theorem dJ0_length_8abf5_1 : decode cJ0_length_8abf5 1 = .ok (.getfield 9, 3) := by decide +kernel
theorem dJ0_length_8abf5_4 : decode cJ0_length_8abf5 4 = .ok (.arraylength, 1) := by decide +kernel
theorem dJ0_length_8abf5_5 : decode cJ0_length_8abf5 5 = .ok (.aload_n 0, 1) := by decide +kernel
theorem dJ0_length_8abf5_6 : decode cJ0_length_8abf5 6 = .ok (.invokevirtual 335, 3) := by decide +kernel
theorem dJ0_length_8abf5_9 : decode cJ0_length_8abf5 9 = .ok (.ishr, 1) := by decide +kernel
theorem dJ0_length_8abf5_10 : decode cJ0_length_8abf5 10 = .ok (.ireturn, 1) := by decide +kernel
theorem dJ0_charAt_5068e_0 : decode cJ0_charAt_5068e 0 = .ok (.aload_n 0, 1) := by decide +kernel
theorem dJ0_charAt_5068e_1 : decode cJ0_charAt_5068e 1 = .ok (.invokevirtual 492, 3) := by decide +kernel
theorem dJ0_charAt_5068e_4 : decode cJ0_charAt_5068e 4 = .ok (.ifCond .eq 12, 3) := by decide +kernel
theorem dJ0_charAt_5068e_7 : decode cJ0_charAt_5068e 7 = .ok (.aload_n 0, 1) := by decide +kernel
theorem dJ0_charAt_5068e_8 : decode cJ0_charAt_5068e 8 = .ok (.getfield 9, 3) := by decide +kernel
theorem dJ0_charAt_5068e_11 : decode cJ0_charAt_5068e 11 = .ok (.iload_n 1, 1) := by decide +kernel
theorem dJ0_charAt_5068e_12 : decode cJ0_charAt_5068e 12 = .ok (.invokestatic 495, 3) := by decide +kernel
theorem dJ0_charAt_5068e_15 : decode cJ0_charAt_5068e 15 = .ok (.ireturn, 1) := by decide +kernel
theorem dJ0_charAt_5068e_16 : decode cJ0_charAt_5068e 16 = .ok (.aload_n 0, 1) := by decide +kernel
theorem dJ0_charAt_5068e_17 : decode cJ0_charAt_5068e 17 = .ok (.getfield 9, 3) := by decide +kernel
theorem dJ0_charAt_5068e_20 : decode cJ0_charAt_5068e 20 = .ok (.iload_n 1, 1) := by decide +kernel
theorem dJ0_charAt_5068e_21 : decode cJ0_charAt_5068e 21 = .ok (.invokestatic 498, 3) := by decide +kernel
theorem dJ0_charAt_5068e_24 : decode cJ0_charAt_5068e 24 = .ok (.ireturn, 1) := by decide +kernel
theorem dJ0_getBytes_840e7_0 : decode cJ0_getBytes_840e7 0 = .ok (.aload_n 0, 1) := by decide +kernel
theorem dJ0_getBytes_840e7_1 : decode cJ0_getBytes_840e7 1 = .ok (.invokevirtual 335, 3) := by decide +kernel
theorem dJ0_getBytes_840e7_4 : decode cJ0_getBytes_840e7 4 = .ok (.iload_n 3, 1) := by decide +kernel
theorem dJ0_getBytes_840e7_5 : decode cJ0_getBytes_840e7 5 = .ok (.if_icmp .ne 23, 3) := by decide +kernel
theorem dJ0_getBytes_840e7_8 : decode cJ0_getBytes_840e7 8 = .ok (.aload_n 0, 1) := by decide +kernel
theorem dJ0_getBytes_840e7_9 : decode cJ0_getBytes_840e7 9 = .ok (.getfield 9, 3) := by decide +kernel
theorem dJ0_getBytes_840e7_12 : decode cJ0_getBytes_840e7 12 = .ok (.iconst 0, 1) := by decide +kernel
theorem dJ0_getBytes_840e7_13 : decode cJ0_getBytes_840e7 13 = .ok (.aload_n 1, 1) := by decide +kernel
theorem dJ0_getBytes_840e7_14 : decode cJ0_getBytes_840e7 14 = .ok (.iload_n 2, 1) := by decide +kernel
theorem dJ0_getBytes_840e7_15 : decode cJ0_getBytes_840e7 15 = .ok (.iload_n 3, 1) := by decide +kernel
theorem dJ0_getBytes_840e7_16 : decode cJ0_getBytes_840e7 16 = .ok (.ishl, 1) := by decide +kernel
theorem dJ0_getBytes_840e7_17 : decode cJ0_getBytes_840e7 17 = .ok (.aload_n 0, 1) := by decide +kernel
theorem dJ0_getBytes_840e7_18 : decode cJ0_getBytes_840e7 18 = .ok (.getfield 9, 3) := by decide +kernel
theorem dJ0_getBytes_840e7_21 : decode cJ0_getBytes_840e7 21 = .ok (.arraylength, 1) := by decide +kernel
theorem dJ0_getBytes_840e7_22 : decode cJ0_getBytes_840e7 22 = .ok (.invokestatic 212, 3) := by decide +kernel
theorem dJ0_getBytes_840e7_25 : decode cJ0_getBytes_840e7 25 = .ok (.goto 18, 3) := by decide +kernel
theorem dJ0_getBytes_840e7_28 : decode cJ0_getBytes_840e7 28 = .ok (.aload_n 0, 1) := by decide +kernel
theorem dJ0_getBytes_840e7_29 : decode cJ0_getBytes_840e7 29 = .ok (.getfield 9, 3) := by decide +kernel
theorem dJ0_getBytes_840e7_32 : decode cJ0_getBytes_840e7 32 = .ok (.iconst 0, 1) := by decide +kernel
theorem dJ0_getBytes_840e7_33 : decode cJ0_getBytes_840e7 33 = .ok (.aload_n 1, 1) := by decide +kernel
theorem dJ0_getBytes_840e7_34 : decode cJ0_getBytes_840e7 34 = .ok (.iload_n 2, 1) := by decide +kernel
theorem dJ0_getBytes_840e7_35 : decode cJ0_getBytes_840e7 35 = .ok (.aload_n 0, 1) := by decide +kernel
theorem dJ0_getBytes_840e7_36 : decode cJ0_getBytes_840e7 36 = .ok (.getfield 9, 3) := by decide +kernel
theorem dJ0_getBytes_840e7_39 : decode cJ0_getBytes_840e7 39 = .ok (.arraylength, 1) := by decide +kernel
theorem dJ0_getBytes_840e7_40 : decode cJ0_getBytes_840e7 40 = .ok (.invokestatic 106, 3) := by decide +kernel
theorem dJ0_getBytes_840e7_43 : decode cJ0_getBytes_840e7 43 = .ok (.return_, 1) := by decide +kernel
theorem dJ0_init_db425_0 : decode cJ0_init_db425 0 = .ok (.aload_n 0, 1) := by decide +kernel
theorem dJ0_init_db425_1 : decode cJ0_init_db425 1 = .ok (.invokespecial 1, 3) := by decide +kernel
theorem dJ0_init_db425_4 : decode cJ0_init_db425 4 = .ok (.aload_n 1, 1) := by decide +kernel
theorem dJ0_init_db425_5 : decode cJ0_init_db425 5 = .ok (.invokevirtual 552, 3) := by decide +kernel
theorem dJ0_init_db425_8 : decode cJ0_init_db425 8 = .ok (.astore_n 3, 1) := by decide +kernel
theorem dJ0_init_db425_9 : decode cJ0_init_db425 9 = .ok (.aload_n 1, 1) := by decide +kernel
theorem dJ0_init_db425_10 : decode cJ0_init_db425 10 = .ok (.invokevirtual 549, 3) := by decide +kernel
theorem dJ0_init_db425_13 : decode cJ0_init_db425 13 = .ok (.istore 4, 2) := by decide +kernel
theorem dJ0_init_db425_15 : decode cJ0_init_db425 15 = .ok (.aload_n 1, 1) := by decide +kernel
theorem dJ0_init_db425_16 : decode cJ0_init_db425 16 = .ok (.invokevirtual 1047, 3) := by decide +kernel
theorem dJ0_init_db425_19 : decode cJ0_init_db425 19 = .ok (.ifCond .eq 22, 3) := by decide +kernel
theorem dJ0_init_db425_22 : decode cJ0_init_db425 22 = .ok (.aload_n 0, 1) := by decide +kernel
theorem dJ0_init_db425_23 : decode cJ0_init_db425 23 = .ok (.iconst 0, 1) := by decide +kernel
theorem dJ0_init_db425_24 : decode cJ0_init_db425 24 = .ok (.putfield 15, 3) := by decide +kernel
theorem dJ0_init_db425_27 : decode cJ0_init_db425 27 = .ok (.aload_n 0, 1) := by decide +kernel
theorem dJ0_init_db425_28 : decode cJ0_init_db425 28 = .ok (.aload_n 3, 1) := by decide +kernel
theorem dJ0_init_db425_29 : decode cJ0_init_db425 29 = .ok (.iconst 0, 1) := by decide +kernel
theorem dJ0_init_db425_30 : decode cJ0_init_db425 30 = .ok (.iload 4, 2) := by decide +kernel
theorem dJ0_init_db425_32 : decode cJ0_init_db425 32 = .ok (.invokestatic 54, 3) := by decide +kernel
theorem dJ0_init_db425_35 : decode cJ0_init_db425 35 = .ok (.putfield 9, 3) := by decide +kernel
theorem dJ0_init_db425_38 : decode cJ0_init_db425 38 = .ok (.goto 59, 3) := by decide +kernel
theorem dJ0_init_db425_41 : decode cJ0_init_db425 41 = .ok (.getstatic 38, 3) := by decide +kernel
theorem dJ0_init_db425_44 : decode cJ0_init_db425 44 = .ok (.ifCond .eq 35, 3) := by decide +kernel
theorem dJ0_init_db425_47 : decode cJ0_init_db425 47 = .ok (.aload_n 1, 1) := by decide +kernel
theorem dJ0_init_db425_48 : decode cJ0_init_db425 48 = .ok (.getfield 1048, 3) := by decide +kernel
theorem dJ0_init_db425_51 : decode cJ0_init_db425 51 = .ok (.ifCond .eq 28, 3) := by decide +kernel
theorem dJ0_init_db425_54 : decode cJ0_init_db425 54 = .ok (.aload_n 0, 1) := by decide +kernel
theorem dJ0_init_db425_55 : decode cJ0_init_db425 55 = .ok (.aload_n 3, 1) := by decide +kernel
theorem dJ0_init_db425_56 : decode cJ0_init_db425 56 = .ok (.iconst 0, 1) := by decide +kernel
theorem dJ0_init_db425_57 : decode cJ0_init_db425 57 = .ok (.iload 4, 2) := by decide +kernel
theorem dJ0_init_db425_59 : decode cJ0_init_db425 59 = .ok (.invokestatic 1051, 3) := by decide +kernel
theorem dJ0_init_db425_62 : decode cJ0_init_db425 62 = .ok (.putfield 9, 3) := by decide +kernel
theorem dJ0_init_db425_65 : decode cJ0_init_db425 65 = .ok (.aload_n 0, 1) := by decide +kernel
theorem dJ0_init_db425_66 : decode cJ0_init_db425 66 = .ok (.aload_n 0, 1) := by decide +kernel
theorem dJ0_init_db425_67 : decode cJ0_init_db425 67 = .ok (.getfield 9, 3) := by decide +kernel
theorem dJ0_init_db425_70 : decode cJ0_init_db425 70 = .ok (.iload 4, 2) := by decide +kernel
theorem dJ0_init_db425_72 : decode cJ0_init_db425 72 = .ok (.invokestatic 47, 3) := by decide +kernel
theorem dJ0_init_db425_75 : decode cJ0_init_db425 75 = .ok (.putfield 15, 3) := by decide +kernel
theorem dJ0_init_db425_78 : decode cJ0_init_db425 78 = .ok (.return_, 1) := by decide +kernel
theorem dJ0_init_db425_79 : decode cJ0_init_db425 79 = .ok (.aload_n 0, 1) := by decide +kernel
theorem dJ0_init_db425_80 : decode cJ0_init_db425 80 = .ok (.iconst 1, 1) := by decide +kernel
theorem dJ0_init_db425_81 : decode cJ0_init_db425 81 = .ok (.putfield 15, 3) := by decide +kernel
theorem dJ0_init_db425_84 : decode cJ0_init_db425 84 = .ok (.aload_n 0, 1) := by decide +kernel
theorem dJ0_init_db425_85 : decode cJ0_init_db425 85 = .ok (.aload_n 3, 1) := by decide +kernel
theorem dJ0_init_db425_86 : decode cJ0_init_db425 86 = .ok (.iconst 0, 1) := by decide +kernel
theorem dJ0_init_db425_87 : decode cJ0_init_db425 87 = .ok (.iload 4, 2) := by decide +kernel
theorem dJ0_init_db425_89 : decode cJ0_init_db425 89 = .ok (.iconst 1, 1) := by decide +kernel
theorem dJ0_init_db425_90 : decode cJ0_init_db425 90 = .ok (.ishl, 1) := by decide +kernel
theorem dJ0_init_db425_91 : decode cJ0_init_db425 91 = .ok (.invokestatic 54, 3) := by decide +kernel
theorem dJ0_init_db425_94 : decode cJ0_init_db425 94 = .ok (.putfield 9, 3) := by decide +kernel
theorem dJ0_init_db425_97 : decode cJ0_init_db425 97 = .ok (.return_, 1) := by decide +kernel
theorem dJ0_coder_7d493_0 : decode cJ0_coder_7d493 0 = .ok (.getstatic 38, 3) := by decide +kernel
theorem dJ0_coder_7d493_3 : decode cJ0_coder_7d493 3 = .ok (.ifCond .eq 10, 3) := by decide +kernel
theorem dJ0_coder_7d493_6 : decode cJ0_coder_7d493 6 = .ok (.aload_n 0, 1) := by decide +kernel
theorem dJ0_coder_7d493_7 : decode cJ0_coder_7d493 7 = .ok (.getfield 15, 3) := by decide +kernel
theorem dJ0_coder_7d493_10 : decode cJ0_coder_7d493 10 = .ok (.goto 4, 3) := by decide +kernel
theorem dJ0_coder_7d493_13 : decode cJ0_coder_7d493 13 = .ok (.iconst 1, 1) := by decide +kernel
theorem dJ0_coder_7d493_14 : decode cJ0_coder_7d493 14 = .ok (.ireturn, 1) := by decide +kernel
theorem dJ0_isLatin1_aae02_0 : decode cJ0_isLatin1_aae02 0 = .ok (.getstatic 38, 3) := by decide +kernel
theorem dJ0_isLatin1_aae02_3 : decode cJ0_isLatin1_aae02 3 = .ok (.ifCond .eq 14, 3) := by decide +kernel
theorem dJ0_isLatin1_aae02_6 : decode cJ0_isLatin1_aae02 6 = .ok (.aload_n 0, 1) := by decide +kernel
theorem dJ0_isLatin1_aae02_7 : decode cJ0_isLatin1_aae02 7 = .ok (.getfield 15, 3) := by decide +kernel
theorem dJ0_isLatin1_aae02_10 : decode cJ0_isLatin1_aae02 10 = .ok (.ifCond .ne 7, 3) := by decide +kernel
theorem dJ0_isLatin1_aae02_13 : decode cJ0_isLatin1_aae02 13 = .ok (.iconst 1, 1) := by decide +kernel
theorem dJ0_isLatin1_aae02_14 : decode cJ0_isLatin1_aae02 14 = .ok (.goto 4, 3) := by decide +kernel
theorem dJ0_isLatin1_aae02_17 : decode cJ0_isLatin1_aae02 17 = .ok (.iconst 0, 1) := by decide +kernel
theorem dJ0_isLatin1_aae02_18 : decode cJ0_isLatin1_aae02 18 = .ok (.ireturn, 1) := by decide +kernel
theorem dJ0_checkIndex_df160_0 : decode cJ0_checkIndex_df160 0 = .ok (.iload_n 0, 1) := by decide +kernel
theorem dJ0_checkIndex_df160_1 : decode cJ0_checkIndex_df160 1 = .ok (.iload_n 1, 1) := by decide +kernel
theorem dJ0_checkIndex_df160_2 : decode cJ0_checkIndex_df160 2 = .ok (.getstatic 1053, 3) := by decide +kernel
theorem dJ0_checkIndex_df160_5 : decode cJ0_checkIndex_df160 5 = .ok (.invokestatic 1059, 3) := by decide +kernel
theorem dJ0_checkIndex_df160_8 : decode cJ0_checkIndex_df160 8 = .ok (.pop, 1) := by decide +kernel
theorem dJ0_checkIndex_df160_9 : decode cJ0_checkIndex_df160 9 = .ok (.return_, 1) := by decide +kernel
theorem dJ0_checkOffset_df160_0 : decode cJ0_checkOffset_df160 0 = .ok (.iload_n 0, 1) := by decide +kernel
theorem dJ0_checkOffset_df160_1 : decode cJ0_checkOffset_df160 1 = .ok (.iload_n 1, 1) := by decide +kernel
theorem dJ0_checkOffset_df160_2 : decode cJ0_checkOffset_df160 2 = .ok (.iload_n 1, 1) := by decide +kernel
theorem dJ0_checkOffset_df160_3 : decode cJ0_checkOffset_df160 3 = .ok (.getstatic 1053, 3) := by decide +kernel
theorem dJ0_checkOffset_df160_6 : decode cJ0_checkOffset_df160 6 = .ok (.invokestatic 1062, 3) := by decide +kernel
theorem dJ0_checkOffset_df160_9 : decode cJ0_checkOffset_df160 9 = .ok (.pop, 1) := by decide +kernel
theorem dJ0_checkOffset_df160_10 : decode cJ0_checkOffset_df160 10 = .ok (.return_, 1) := by decide +kernel
theorem dJ0_checkBoundsOffCount_cabcc_0 : decode cJ0_checkBoundsOffCount_cabcc 0 = .ok (.iload_n 0, 1) := by decide +kernel
theorem dJ0_checkBoundsOffCount_cabcc_1 : decode cJ0_checkBoundsOffCount_cabcc 1 = .ok (.iload_n 1, 1) := by decide +kernel
theorem dJ0_checkBoundsOffCount_cabcc_2 : decode cJ0_checkBoundsOffCount_cabcc 2 = .ok (.iload_n 2, 1) := by decide +kernel
theorem dJ0_checkBoundsOffCount_cabcc_3 : decode cJ0_checkBoundsOffCount_cabcc 3 = .ok (.getstatic 1053, 3) := by decide +kernel
theorem dJ0_checkBoundsOffCount_cabcc_6 : decode cJ0_checkBoundsOffCount_cabcc 6 = .ok (.invokestatic 1065, 3) := by decide +kernel
theorem dJ0_checkBoundsOffCount_cabcc_9 : decode cJ0_checkBoundsOffCount_cabcc 9 = .ok (.ireturn, 1) := by decide +kernel
theorem dJ0_checkBoundsBeginEnd_23922_0 : decode cJ0_checkBoundsBeginEnd_23922 0 = .ok (.iload_n 0, 1) := by decide +kernel
theorem dJ0_checkBoundsBeginEnd_23922_1 : decode cJ0_checkBoundsBeginEnd_23922 1 = .ok (.iload_n 1, 1) := by decide +kernel
theorem dJ0_checkBoundsBeginEnd_23922_2 : decode cJ0_checkBoundsBeginEnd_23922 2 = .ok (.iload_n 2, 1) := by decide +kernel
theorem dJ0_checkBoundsBeginEnd_23922_3 : decode cJ0_checkBoundsBeginEnd_23922 3 = .ok (.getstatic 1053, 3) := by decide +kernel
theorem dJ0_checkBoundsBeginEnd_23922_6 : decode cJ0_checkBoundsBeginEnd_23922 6 = .ok (.invokestatic 1062, 3) := by decide +kernel
theorem dJ0_checkBoundsBeginEnd_23922_9 : decode cJ0_checkBoundsBeginEnd_23922 9 = .ok (.pop, 1) := by decide +kernel
theorem dJ0_checkBoundsBeginEnd_23922_10 : decode cJ0_checkBoundsBeginEnd_23922 10 = .ok (.return_, 1) := by decide +kernel
theorem dJ4_init_da8c8_0 : decode cJ4_init_da8c8 0 = .ok (.aload_n 0, 1) := by decide +kernel
theorem dJ4_init_da8c8_1 : decode cJ4_init_da8c8 1 = .ok (.bipush 16, 2) := by decide +kernel
theorem dJ4_init_da8c8_3 : decode cJ4_init_da8c8 3 = .ok (.invokespecial 1, 3) := by decide +kernel
theorem dJ4_init_da8c8_6 : decode cJ4_init_da8c8 6 = .ok (.return_, 1) := by decide +kernel
theorem dJ4_append_15ec4_0 : decode cJ4_append_15ec4 0 = .ok (.aload_n 0, 1) := by decide +kernel
theorem dJ4_append_15ec4_1 : decode cJ4_append_15ec4 1 = .ok (.aload_n 1, 1) := by decide +kernel
theorem dJ4_append_15ec4_2 : decode cJ4_append_15ec4 2 = .ok (.invokespecial 29, 3) := by decide +kernel
theorem dJ4_append_15ec4_5 : decode cJ4_append_15ec4 5 = .ok (.pop, 1) := by decide +kernel
theorem dJ4_append_15ec4_6 : decode cJ4_append_15ec4 6 = .ok (.aload_n 0, 1) := by decide +kernel
theorem dJ4_append_15ec4_7 : decode cJ4_append_15ec4 7 = .ok (.areturn, 1) := by decide +kernel
theorem dJ4_append_cf468_0 : decode cJ4_append_cf468 0 = .ok (.aload_n 0, 1) := by decide +kernel
theorem dJ4_append_cf468_1 : decode cJ4_append_cf468 1 = .ok (.iload_n 1, 1) := by decide +kernel
theorem dJ4_append_cf468_2 : decode cJ4_append_cf468 2 = .ok (.invokespecial 50, 3) := by decide +kernel
theorem dJ4_append_cf468_5 : decode cJ4_append_cf468 5 = .ok (.pop, 1) := by decide +kernel
theorem dJ4_append_cf468_6 : decode cJ4_append_cf468 6 = .ok (.aload_n 0, 1) := by decide +kernel
theorem dJ4_append_cf468_7 : decode cJ4_append_cf468 7 = .ok (.areturn, 1) := by decide +kernel
theorem dJ4_append_bf812_0 : decode cJ4_append_bf812 0 = .ok (.aload_n 0, 1) := by decide +kernel
theorem dJ4_append_bf812_1 : decode cJ4_append_bf812 1 = .ok (.iload_n 1, 1) := by decide +kernel
theorem dJ4_append_bf812_2 : decode cJ4_append_bf812 2 = .ok (.invokespecial 53, 3) := by decide +kernel
theorem dJ4_append_bf812_5 : decode cJ4_append_bf812 5 = .ok (.pop, 1) := by decide +kernel
theorem dJ4_append_bf812_6 : decode cJ4_append_bf812 6 = .ok (.aload_n 0, 1) := by decide +kernel
theorem dJ4_append_bf812_7 : decode cJ4_append_bf812 7 = .ok (.areturn, 1) := by decide +kernel
theorem dJ4_append_f7089_0 : decode cJ4_append_f7089 0 = .ok (.aload_n 0, 1) := by decide +kernel
theorem dJ4_append_f7089_1 : decode cJ4_append_f7089 1 = .ok (.lload_n 1, 1) := by decide +kernel
theorem dJ4_append_f7089_2 : decode cJ4_append_f7089 2 = .ok (.invokespecial 56, 3) := by decide +kernel
theorem dJ4_append_f7089_5 : decode cJ4_append_f7089 5 = .ok (.pop, 1) := by decide +kernel
theorem dJ4_append_f7089_6 : decode cJ4_append_f7089 6 = .ok (.aload_n 0, 1) := by decide +kernel
theorem dJ4_append_f7089_7 : decode cJ4_append_f7089 7 = .ok (.areturn, 1) := by decide +kernel
theorem dJ4_reverse_43fcb_0 : decode cJ4_reverse_43fcb 0 = .ok (.aload_n 0, 1) := by decide +kernel
theorem dJ4_reverse_43fcb_1 : decode cJ4_reverse_43fcb 1 = .ok (.invokespecial 127, 3) := by decide +kernel
theorem dJ4_reverse_43fcb_4 : decode cJ4_reverse_43fcb 4 = .ok (.pop, 1) := by decide +kernel
theorem dJ4_reverse_43fcb_5 : decode cJ4_reverse_43fcb 5 = .ok (.aload_n 0, 1) := by decide +kernel
theorem dJ4_reverse_43fcb_6 : decode cJ4_reverse_43fcb 6 = .ok (.areturn, 1) := by decide +kernel
theorem dJ4_toString_0e30d_0 : decode cJ4_toString_0e30d 0 = .ok (.new 18, 3) := by decide +kernel
theorem dJ4_toString_0e30d_3 : decode cJ4_toString_0e30d 3 = .ok (.dup, 1) := by decide +kernel
theorem dJ4_toString_0e30d_4 : decode cJ4_toString_0e30d 4 = .ok (.aload_n 0, 1) := by decide +kernel
theorem dJ4_toString_0e30d_5 : decode cJ4_toString_0e30d 5 = .ok (.invokespecial 137, 3) := by decide +kernel
theorem dJ4_toString_0e30d_8 : decode cJ4_toString_0e30d 8 = .ok (.areturn, 1) := by decide +kernel
theorem dJ4_charAt_5068e_0 : decode cJ4_charAt_5068e 0 = .ok (.aload_n 0, 1) := by decide +kernel
theorem dJ4_charAt_5068e_1 : decode cJ4_charAt_5068e 1 = .ok (.iload_n 1, 1) := by decide +kernel
theorem dJ4_charAt_5068e_2 : decode cJ4_charAt_5068e 2 = .ok (.invokespecial 329, 3) := by decide +kernel
theorem dJ4_charAt_5068e_5 : decode cJ4_charAt_5068e 5 = .ok (.ireturn, 1) := by decide +kernel
theorem dJ4_setLength_d00df_0 : decode cJ4_setLength_d00df 0 = .ok (.aload_n 0, 1) := by decide +kernel
theorem dJ4_setLength_d00df_1 : decode cJ4_setLength_d00df 1 = .ok (.iload_n 1, 1) := by decide +kernel
theorem dJ4_setLength_d00df_2 : decode cJ4_setLength_d00df 2 = .ok (.invokespecial 333, 3) := by decide +kernel
theorem dJ4_setLength_d00df_5 : decode cJ4_setLength_d00df 5 = .ok (.return_, 1) := by decide +kernel
theorem dJ4_length_8abf5_0 : decode cJ4_length_8abf5 0 = .ok (.aload_n 0, 1) := by decide +kernel
theorem dJ4_length_8abf5_1 : decode cJ4_length_8abf5 1 = .ok (.invokespecial 343, 3) := by decide +kernel
theorem dJ4_length_8abf5_4 : decode cJ4_length_8abf5 4 = .ok (.ireturn, 1) := by decide +kernel
theorem dJx7c733_init_d00df_0 : decode cJx7c733_init_d00df 0 = .ok (.aload_n 0, 1) := by decide +kernel
theorem dJx7c733_init_d00df_1 : decode cJx7c733_init_d00df 1 = .ok (.new 10, 3) := by decide +kernel
theorem dJx7c733_init_d00df_4 : decode cJx7c733_init_d00df 4 = .ok (.dup, 1) := by decide +kernel
theorem dJx7c733_init_d00df_5 : decode cJx7c733_init_d00df 5 = .ok (.invokespecial 12, 3) := by decide +kernel
theorem dJx7c733_init_d00df_8 : decode cJx7c733_init_d00df 8 = .ok (.ldc 13, 2) := by decide +kernel
theorem dJx7c733_init_d00df_10 : decode cJx7c733_init_d00df 10 = .ok (.invokevirtual 15, 3) := by decide +kernel
theorem dJx7c733_init_d00df_13 : decode cJx7c733_init_d00df 13 = .ok (.iload_n 1, 1) := by decide +kernel
theorem dJx7c733_init_d00df_14 : decode cJx7c733_init_d00df 14 = .ok (.invokevirtual 19, 3) := by decide +kernel
theorem dJx7c733_init_d00df_17 : decode cJx7c733_init_d00df 17 = .ok (.invokevirtual 22, 3) := by decide +kernel
theorem dJx7c733_init_d00df_20 : decode cJx7c733_init_d00df 20 = .ok (.invokespecial 7, 3) := by decide +kernel
theorem dJx7c733_init_d00df_23 : decode cJx7c733_init_d00df 23 = .ok (.return_, 1) := by decide +kernel
theorem dJ1_charAt_3b067_0 : decode cJ1_charAt_3b067 0 = .ok (.iload_n 1, 1) := by decide +kernel
theorem dJ1_charAt_3b067_1 : decode cJ1_charAt_3b067 1 = .ok (.aload_n 0, 1) := by decide +kernel
theorem dJ1_charAt_3b067_2 : decode cJ1_charAt_3b067 2 = .ok (.arraylength, 1) := by decide +kernel
theorem dJ1_charAt_3b067_3 : decode cJ1_charAt_3b067 3 = .ok (.invokestatic 9, 3) := by decide +kernel
theorem dJ1_charAt_3b067_6 : decode cJ1_charAt_3b067 6 = .ok (.aload_n 0, 1) := by decide +kernel
theorem dJ1_charAt_3b067_7 : decode cJ1_charAt_3b067 7 = .ok (.iload_n 1, 1) := by decide +kernel
theorem dJ1_charAt_3b067_8 : decode cJ1_charAt_3b067 8 = .ok (.baload, 1) := by decide +kernel
theorem dJ1_charAt_3b067_9 : decode cJ1_charAt_3b067 9 = .ok (.sipush 255, 3) := by decide +kernel
theorem dJ1_charAt_3b067_12 : decode cJ1_charAt_3b067 12 = .ok (.iand, 1) := by decide +kernel
theorem dJ1_charAt_3b067_13 : decode cJ1_charAt_3b067 13 = .ok (.i2c, 1) := by decide +kernel
theorem dJ1_charAt_3b067_14 : decode cJ1_charAt_3b067 14 = .ok (.ireturn, 1) := by decide +kernel
theorem dJ1_canEncode_fc78d_0 : decode cJ1_canEncode_fc78d 0 = .ok (.iload_n 0, 1) := by decide +kernel
theorem dJ1_canEncode_fc78d_1 : decode cJ1_canEncode_fc78d 1 = .ok (.sipush 255, 3) := by decide +kernel
theorem dJ1_canEncode_fc78d_4 : decode cJ1_canEncode_fc78d 4 = .ok (.if_icmp .gt 7, 3) := by decide +kernel
theorem dJ1_canEncode_fc78d_7 : decode cJ1_canEncode_fc78d 7 = .ok (.iconst 1, 1) := by decide +kernel
theorem dJ1_canEncode_fc78d_8 : decode cJ1_canEncode_fc78d 8 = .ok (.goto 4, 3) := by decide +kernel
theorem dJ1_canEncode_fc78d_11 : decode cJ1_canEncode_fc78d 11 = .ok (.iconst 0, 1) := by decide +kernel
theorem dJ1_canEncode_fc78d_12 : decode cJ1_canEncode_fc78d 12 = .ok (.ireturn, 1) := by decide +kernel
theorem dJ1_fillNull_b72d1_0 : decode cJ1_fillNull_b72d1 0 = .ok (.aload_n 0, 1) := by decide +kernel
theorem dJ1_fillNull_b72d1_1 : decode cJ1_fillNull_b72d1 1 = .ok (.iload_n 1, 1) := by decide +kernel
theorem dJ1_fillNull_b72d1_2 : decode cJ1_fillNull_b72d1 2 = .ok (.iload_n 2, 1) := by decide +kernel
theorem dJ1_fillNull_b72d1_3 : decode cJ1_fillNull_b72d1 3 = .ok (.iconst 0, 1) := by decide +kernel
theorem dJ1_fillNull_b72d1_4 : decode cJ1_fillNull_b72d1 4 = .ok (.invokestatic 236, 3) := by decide +kernel
theorem dJ1_fillNull_b72d1_7 : decode cJ1_fillNull_b72d1 7 = .ok (.return_, 1) := by decide +kernel
theorem dJ1_inflate_0e8fd_0 : decode cJ1_inflate_0e8fd 0 = .ok (.aload_n 0, 1) := by decide +kernel
theorem dJ1_inflate_0e8fd_1 : decode cJ1_inflate_0e8fd 1 = .ok (.iload_n 1, 1) := by decide +kernel
theorem dJ1_inflate_0e8fd_2 : decode cJ1_inflate_0e8fd 2 = .ok (.aload_n 2, 1) := by decide +kernel
theorem dJ1_inflate_0e8fd_3 : decode cJ1_inflate_0e8fd 3 = .ok (.iload_n 3, 1) := by decide +kernel
theorem dJ1_inflate_0e8fd_4 : decode cJ1_inflate_0e8fd 4 = .ok (.iload 4, 2) := by decide +kernel
theorem dJ1_inflate_0e8fd_6 : decode cJ1_inflate_0e8fd 6 = .ok (.invokestatic 240, 3) := by decide +kernel
theorem dJ1_inflate_0e8fd_9 : decode cJ1_inflate_0e8fd 9 = .ok (.return_, 1) := by decide +kernel
theorem dJ7_rangeCheck_23922_0 : decode cJ7_rangeCheck_23922 0 = .ok (.iload_n 1, 1) := by decide +kernel
theorem dJ7_rangeCheck_23922_1 : decode cJ7_rangeCheck_23922 1 = .ok (.iload_n 2, 1) := by decide +kernel
theorem dJ7_rangeCheck_23922_2 : decode cJ7_rangeCheck_23922 2 = .ok (.if_icmp .le 44, 3) := by decide +kernel
theorem dJ7_rangeCheck_23922_5 : decode cJ7_rangeCheck_23922 5 = .ok (.new 43, 3) := by decide +kernel
theorem dJ7_rangeCheck_23922_8 : decode cJ7_rangeCheck_23922 8 = .ok (.dup, 1) := by decide +kernel
theorem dJ7_rangeCheck_23922_9 : decode cJ7_rangeCheck_23922 9 = .ok (.new 45, 3) := by decide +kernel
theorem dJ7_rangeCheck_23922_12 : decode cJ7_rangeCheck_23922 12 = .ok (.dup, 1) := by decide +kernel
theorem dJ7_rangeCheck_23922_13 : decode cJ7_rangeCheck_23922 13 = .ok (.invokespecial 47, 3) := by decide +kernel
theorem dJ7_rangeCheck_23922_16 : decode cJ7_rangeCheck_23922 16 = .ok (.ldc 48, 2) := by decide +kernel
theorem dJ7_rangeCheck_23922_18 : decode cJ7_rangeCheck_23922 18 = .ok (.invokevirtual 50, 3) := by decide +kernel
theorem dJ7_rangeCheck_23922_21 : decode cJ7_rangeCheck_23922 21 = .ok (.iload_n 1, 1) := by decide +kernel
theorem dJ7_rangeCheck_23922_22 : decode cJ7_rangeCheck_23922 22 = .ok (.invokevirtual 54, 3) := by decide +kernel
theorem dJ7_rangeCheck_23922_25 : decode cJ7_rangeCheck_23922 25 = .ok (.ldc 57, 2) := by decide +kernel
theorem dJ7_rangeCheck_23922_27 : decode cJ7_rangeCheck_23922 27 = .ok (.invokevirtual 50, 3) := by decide +kernel
theorem dJ7_rangeCheck_23922_30 : decode cJ7_rangeCheck_23922 30 = .ok (.iload_n 2, 1) := by decide +kernel
theorem dJ7_rangeCheck_23922_31 : decode cJ7_rangeCheck_23922 31 = .ok (.invokevirtual 54, 3) := by decide +kernel
theorem dJ7_rangeCheck_23922_34 : decode cJ7_rangeCheck_23922 34 = .ok (.ldc 59, 2) := by decide +kernel
theorem dJ7_rangeCheck_23922_36 : decode cJ7_rangeCheck_23922 36 = .ok (.invokevirtual 50, 3) := by decide +kernel
theorem dJ7_rangeCheck_23922_39 : decode cJ7_rangeCheck_23922 39 = .ok (.invokevirtual 61, 3) := by decide +kernel
theorem dJ7_rangeCheck_23922_42 : decode cJ7_rangeCheck_23922 42 = .ok (.invokespecial 65, 3) := by decide +kernel
theorem dJ7_rangeCheck_23922_45 : decode cJ7_rangeCheck_23922 45 = .ok (.athrow, 1) := by decide +kernel
theorem dJ7_rangeCheck_23922_46 : decode cJ7_rangeCheck_23922 46 = .ok (.iload_n 1, 1) := by decide +kernel
theorem dJ7_rangeCheck_23922_47 : decode cJ7_rangeCheck_23922 47 = .ok (.ifCond .ge 12, 3) := by decide +kernel
theorem dJ7_rangeCheck_23922_50 : decode cJ7_rangeCheck_23922 50 = .ok (.new 68, 3) := by decide +kernel
theorem dJ7_rangeCheck_23922_53 : decode cJ7_rangeCheck_23922 53 = .ok (.dup, 1) := by decide +kernel
theorem dJ7_rangeCheck_23922_54 : decode cJ7_rangeCheck_23922 54 = .ok (.iload_n 1, 1) := by decide +kernel
theorem dJ7_rangeCheck_23922_55 : decode cJ7_rangeCheck_23922 55 = .ok (.invokespecial 70, 3) := by decide +kernel
theorem dJ7_rangeCheck_23922_58 : decode cJ7_rangeCheck_23922 58 = .ok (.athrow, 1) := by decide +kernel
theorem dJ7_rangeCheck_23922_59 : decode cJ7_rangeCheck_23922 59 = .ok (.iload_n 2, 1) := by decide +kernel
theorem dJ7_rangeCheck_23922_60 : decode cJ7_rangeCheck_23922 60 = .ok (.iload_n 0, 1) := by decide +kernel
theorem dJ7_rangeCheck_23922_61 : decode cJ7_rangeCheck_23922 61 = .ok (.if_icmp .le 12, 3) := by decide +kernel
theorem dJ7_rangeCheck_23922_64 : decode cJ7_rangeCheck_23922 64 = .ok (.new 68, 3) := by decide +kernel
theorem dJ7_rangeCheck_23922_67 : decode cJ7_rangeCheck_23922 67 = .ok (.dup, 1) := by decide +kernel
theorem dJ7_rangeCheck_23922_68 : decode cJ7_rangeCheck_23922 68 = .ok (.iload_n 2, 1) := by decide +kernel
theorem dJ7_rangeCheck_23922_69 : decode cJ7_rangeCheck_23922 69 = .ok (.invokespecial 70, 3) := by decide +kernel
theorem dJ7_rangeCheck_23922_72 : decode cJ7_rangeCheck_23922 72 = .ok (.athrow, 1) := by decide +kernel
theorem dJ7_rangeCheck_23922_73 : decode cJ7_rangeCheck_23922 73 = .ok (.return_, 1) := by decide +kernel
theorem dJ7_fill_eb02e_0 : decode cJ7_fill_eb02e 0 = .ok (.aload_n 0, 1) := by decide +kernel
theorem dJ7_fill_eb02e_1 : decode cJ7_fill_eb02e 1 = .ok (.arraylength, 1) := by decide +kernel
theorem dJ7_fill_eb02e_2 : decode cJ7_fill_eb02e 2 = .ok (.iload_n 1, 1) := by decide +kernel
theorem dJ7_fill_eb02e_3 : decode cJ7_fill_eb02e 3 = .ok (.iload_n 2, 1) := by decide +kernel
theorem dJ7_fill_eb02e_4 : decode cJ7_fill_eb02e 4 = .ok (.invokestatic 13, 3) := by decide +kernel
theorem dJ7_fill_eb02e_7 : decode cJ7_fill_eb02e 7 = .ok (.iload_n 1, 1) := by decide +kernel
theorem dJ7_fill_eb02e_8 : decode cJ7_fill_eb02e 8 = .ok (.istore 4, 2) := by decide +kernel
theorem dJ7_fill_eb02e_10 : decode cJ7_fill_eb02e 10 = .ok (.iload 4, 2) := by decide +kernel
theorem dJ7_fill_eb02e_12 : decode cJ7_fill_eb02e 12 = .ok (.iload_n 2, 1) := by decide +kernel
theorem dJ7_fill_eb02e_13 : decode cJ7_fill_eb02e 13 = .ok (.if_icmp .ge 14, 3) := by decide +kernel
theorem dJ7_fill_eb02e_16 : decode cJ7_fill_eb02e 16 = .ok (.aload_n 0, 1) := by decide +kernel
theorem dJ7_fill_eb02e_17 : decode cJ7_fill_eb02e 17 = .ok (.iload 4, 2) := by decide +kernel
theorem dJ7_fill_eb02e_19 : decode cJ7_fill_eb02e 19 = .ok (.iload_n 3, 1) := by decide +kernel
theorem dJ7_fill_eb02e_20 : decode cJ7_fill_eb02e 20 = .ok (.bastore, 1) := by decide +kernel
theorem dJ7_fill_eb02e_21 : decode cJ7_fill_eb02e 21 = .ok (.iinc 4 1, 3) := by decide +kernel
theorem dJ7_fill_eb02e_24 : decode cJ7_fill_eb02e 24 = .ok (.goto (-14), 3) := by decide +kernel
theorem dJ7_fill_eb02e_27 : decode cJ7_fill_eb02e 27 = .ok (.return_, 1) := by decide +kernel
theorem dJ7_copyOf_9075b_0 : decode cJ7_copyOf_9075b 0 = .ok (.iload_n 1, 1) := by decide +kernel
theorem dJ7_copyOf_9075b_1 : decode cJ7_copyOf_9075b 1 = .ok (.aload_n 0, 1) := by decide +kernel
theorem dJ7_copyOf_9075b_2 : decode cJ7_copyOf_9075b 2 = .ok (.arraylength, 1) := by decide +kernel
theorem dJ7_copyOf_9075b_3 : decode cJ7_copyOf_9075b 3 = .ok (.if_icmp .ne 11, 3) := by decide +kernel
theorem dJ7_copyOf_9075b_6 : decode cJ7_copyOf_9075b 6 = .ok (.aload_n 0, 1) := by decide +kernel
theorem dJ7_copyOf_9075b_7 : decode cJ7_copyOf_9075b 7 = .ok (.invokevirtual 310, 3) := by decide +kernel
theorem dJ7_copyOf_9075b_10 : decode cJ7_copyOf_9075b 10 = .ok (.checkcast 311, 3) := by decide +kernel
theorem dJ7_copyOf_9075b_13 : decode cJ7_copyOf_9075b 13 = .ok (.areturn, 1) := by decide +kernel
theorem dJ7_copyOf_9075b_14 : decode cJ7_copyOf_9075b 14 = .ok (.iload_n 1, 1) := by decide +kernel
theorem dJ7_copyOf_9075b_15 : decode cJ7_copyOf_9075b 15 = .ok (.newarray .byte, 2) := by decide +kernel
theorem dJ7_copyOf_9075b_17 : decode cJ7_copyOf_9075b 17 = .ok (.astore_n 2, 1) := by decide +kernel
theorem dJ7_copyOf_9075b_18 : decode cJ7_copyOf_9075b 18 = .ok (.aload_n 0, 1) := by decide +kernel
theorem dJ7_copyOf_9075b_19 : decode cJ7_copyOf_9075b 19 = .ok (.iconst 0, 1) := by decide +kernel
theorem dJ7_copyOf_9075b_20 : decode cJ7_copyOf_9075b 20 = .ok (.aload_n 2, 1) := by decide +kernel
theorem dJ7_copyOf_9075b_21 : decode cJ7_copyOf_9075b 21 = .ok (.iconst 0, 1) := by decide +kernel
theorem dJ7_copyOf_9075b_22 : decode cJ7_copyOf_9075b 22 = .ok (.aload_n 0, 1) := by decide +kernel
theorem dJ7_copyOf_9075b_23 : decode cJ7_copyOf_9075b 23 = .ok (.arraylength, 1) := by decide +kernel
theorem dJ7_copyOf_9075b_24 : decode cJ7_copyOf_9075b 24 = .ok (.iload_n 1, 1) := by decide +kernel
theorem dJ7_copyOf_9075b_25 : decode cJ7_copyOf_9075b 25 = .ok (.invokestatic 304, 3) := by decide +kernel
theorem dJ7_copyOf_9075b_28 : decode cJ7_copyOf_9075b 28 = .ok (.invokestatic 150, 3) := by decide +kernel
theorem dJ7_copyOf_9075b_31 : decode cJ7_copyOf_9075b 31 = .ok (.aload_n 2, 1) := by decide +kernel
theorem dJ7_copyOf_9075b_32 : decode cJ7_copyOf_9075b 32 = .ok (.areturn, 1) := by decide +kernel
theorem dJ7_checkLength_df160_0 : decode cJ7_checkLength_df160 0 = .ok (.iload_n 1, 1) := by decide +kernel
theorem dJ7_checkLength_df160_1 : decode cJ7_checkLength_df160 1 = .ok (.iload_n 0, 1) := by decide +kernel
theorem dJ7_checkLength_df160_2 : decode cJ7_checkLength_df160 2 = .ok (.if_icmp .ge 35, 3) := by decide +kernel
theorem dJ7_checkLength_df160_5 : decode cJ7_checkLength_df160 5 = .ok (.new 43, 3) := by decide +kernel
theorem dJ7_checkLength_df160_8 : decode cJ7_checkLength_df160 8 = .ok (.dup, 1) := by decide +kernel
theorem dJ7_checkLength_df160_9 : decode cJ7_checkLength_df160 9 = .ok (.new 45, 3) := by decide +kernel
theorem dJ7_checkLength_df160_12 : decode cJ7_checkLength_df160 12 = .ok (.dup, 1) := by decide +kernel
theorem dJ7_checkLength_df160_13 : decode cJ7_checkLength_df160 13 = .ok (.invokespecial 47, 3) := by decide +kernel
theorem dJ7_checkLength_df160_16 : decode cJ7_checkLength_df160 16 = .ok (.iload_n 0, 1) := by decide +kernel
theorem dJ7_checkLength_df160_17 : decode cJ7_checkLength_df160 17 = .ok (.invokevirtual 54, 3) := by decide +kernel
theorem dJ7_checkLength_df160_20 : decode cJ7_checkLength_df160 20 = .ok (.ldc_w 337, 3) := by decide +kernel
theorem dJ7_checkLength_df160_23 : decode cJ7_checkLength_df160 23 = .ok (.invokevirtual 50, 3) := by decide +kernel
theorem dJ7_checkLength_df160_26 : decode cJ7_checkLength_df160 26 = .ok (.iload_n 1, 1) := by decide +kernel
theorem dJ7_checkLength_df160_27 : decode cJ7_checkLength_df160 27 = .ok (.invokevirtual 54, 3) := by decide +kernel
theorem dJ7_checkLength_df160_30 : decode cJ7_checkLength_df160 30 = .ok (.invokevirtual 61, 3) := by decide +kernel
theorem dJ7_checkLength_df160_33 : decode cJ7_checkLength_df160 33 = .ok (.invokespecial 65, 3) := by decide +kernel
theorem dJ7_checkLength_df160_36 : decode cJ7_checkLength_df160 36 = .ok (.athrow, 1) := by decide +kernel
theorem dJ7_checkLength_df160_37 : decode cJ7_checkLength_df160 37 = .ok (.return_, 1) := by decide +kernel
theorem dJ7_copyOfRange_39247_0 : decode cJ7_copyOfRange_39247 0 = .ok (.iload_n 1, 1) := by decide +kernel
theorem dJ7_copyOfRange_39247_1 : decode cJ7_copyOfRange_39247 1 = .ok (.ifCond .ne 9, 3) := by decide +kernel
theorem dJ7_copyOfRange_39247_4 : decode cJ7_copyOfRange_39247 4 = .ok (.iload_n 2, 1) := by decide +kernel
theorem dJ7_copyOfRange_39247_5 : decode cJ7_copyOfRange_39247 5 = .ok (.aload_n 0, 1) := by decide +kernel
theorem dJ7_copyOfRange_39247_6 : decode cJ7_copyOfRange_39247 6 = .ok (.arraylength, 1) := by decide +kernel
theorem dJ7_copyOfRange_39247_7 : decode cJ7_copyOfRange_39247 7 = .ok (.if_icmp .eq 10, 3) := by decide +kernel
theorem dJ7_copyOfRange_39247_10 : decode cJ7_copyOfRange_39247 10 = .ok (.aload_n 0, 1) := by decide +kernel
theorem dJ7_copyOfRange_39247_11 : decode cJ7_copyOfRange_39247 11 = .ok (.iload_n 1, 1) := by decide +kernel
theorem dJ7_copyOfRange_39247_12 : decode cJ7_copyOfRange_39247 12 = .ok (.iload_n 2, 1) := by decide +kernel
theorem dJ7_copyOfRange_39247_13 : decode cJ7_copyOfRange_39247 13 = .ok (.invokestatic 339, 3) := by decide +kernel
theorem dJ7_copyOfRange_39247_16 : decode cJ7_copyOfRange_39247 16 = .ok (.areturn, 1) := by decide +kernel
theorem dJ7_copyOfRange_39247_17 : decode cJ7_copyOfRange_39247 17 = .ok (.aload_n 0, 1) := by decide +kernel
theorem dJ7_copyOfRange_39247_18 : decode cJ7_copyOfRange_39247 18 = .ok (.invokevirtual 310, 3) := by decide +kernel
theorem dJ7_copyOfRange_39247_21 : decode cJ7_copyOfRange_39247 21 = .ok (.checkcast 311, 3) := by decide +kernel
theorem dJ7_copyOfRange_39247_24 : decode cJ7_copyOfRange_39247 24 = .ok (.areturn, 1) := by decide +kernel
theorem dJ7_copyOfRangeByte_39247_0 : decode cJ7_copyOfRangeByte_39247 0 = .ok (.iload_n 1, 1) := by decide +kernel
theorem dJ7_copyOfRangeByte_39247_1 : decode cJ7_copyOfRangeByte_39247 1 = .ok (.iload_n 2, 1) := by decide +kernel
theorem dJ7_copyOfRangeByte_39247_2 : decode cJ7_copyOfRangeByte_39247 2 = .ok (.invokestatic 343, 3) := by decide +kernel
theorem dJ7_copyOfRangeByte_39247_5 : decode cJ7_copyOfRangeByte_39247 5 = .ok (.iload_n 2, 1) := by decide +kernel
theorem dJ7_copyOfRangeByte_39247_6 : decode cJ7_copyOfRangeByte_39247 6 = .ok (.iload_n 1, 1) := by decide +kernel
theorem dJ7_copyOfRangeByte_39247_7 : decode cJ7_copyOfRangeByte_39247 7 = .ok (.isub, 1) := by decide +kernel
theorem dJ7_copyOfRangeByte_39247_8 : decode cJ7_copyOfRangeByte_39247 8 = .ok (.istore_n 3, 1) := by decide +kernel
theorem dJ7_copyOfRangeByte_39247_9 : decode cJ7_copyOfRangeByte_39247 9 = .ok (.iload_n 3, 1) := by decide +kernel
theorem dJ7_copyOfRangeByte_39247_10 : decode cJ7_copyOfRangeByte_39247 10 = .ok (.newarray .byte, 2) := by decide +kernel
theorem dJ7_copyOfRangeByte_39247_12 : decode cJ7_copyOfRangeByte_39247 12 = .ok (.astore 4, 2) := by decide +kernel
theorem dJ7_copyOfRangeByte_39247_14 : decode cJ7_copyOfRangeByte_39247 14 = .ok (.aload_n 0, 1) := by decide +kernel
theorem dJ7_copyOfRangeByte_39247_15 : decode cJ7_copyOfRangeByte_39247 15 = .ok (.iload_n 1, 1) := by decide +kernel
theorem dJ7_copyOfRangeByte_39247_16 : decode cJ7_copyOfRangeByte_39247 16 = .ok (.aload 4, 2) := by decide +kernel
theorem dJ7_copyOfRangeByte_39247_18 : decode cJ7_copyOfRangeByte_39247 18 = .ok (.iconst 0, 1) := by decide +kernel
theorem dJ7_copyOfRangeByte_39247_19 : decode cJ7_copyOfRangeByte_39247 19 = .ok (.aload_n 0, 1) := by decide +kernel
theorem dJ7_copyOfRangeByte_39247_20 : decode cJ7_copyOfRangeByte_39247 20 = .ok (.arraylength, 1) := by decide +kernel
theorem dJ7_copyOfRangeByte_39247_21 : decode cJ7_copyOfRangeByte_39247 21 = .ok (.iload_n 1, 1) := by decide +kernel
theorem dJ7_copyOfRangeByte_39247_22 : decode cJ7_copyOfRangeByte_39247 22 = .ok (.isub, 1) := by decide +kernel
theorem dJ7_copyOfRangeByte_39247_23 : decode cJ7_copyOfRangeByte_39247 23 = .ok (.iload_n 3, 1) := by decide +kernel
theorem dJ7_copyOfRangeByte_39247_24 : decode cJ7_copyOfRangeByte_39247 24 = .ok (.invokestatic 304, 3) := by decide +kernel
theorem dJ7_copyOfRangeByte_39247_27 : decode cJ7_copyOfRangeByte_39247 27 = .ok (.invokestatic 150, 3) := by decide +kernel
theorem dJ7_copyOfRangeByte_39247_30 : decode cJ7_copyOfRangeByte_39247 30 = .ok (.aload 4, 2) := by decide +kernel
theorem dJ7_copyOfRangeByte_39247_32 : decode cJ7_copyOfRangeByte_39247 32 = .ok (.areturn, 1) := by decide +kernel
theorem dJ8_newLength_cabcc_0 : decode cJ8_newLength_cabcc 0 = .ok (.iload_n 0, 1) := by decide +kernel
theorem dJ8_newLength_cabcc_1 : decode cJ8_newLength_cabcc 1 = .ok (.iload_n 1, 1) := by decide +kernel
theorem dJ8_newLength_cabcc_2 : decode cJ8_newLength_cabcc 2 = .ok (.iload_n 2, 1) := by decide +kernel
theorem dJ8_newLength_cabcc_3 : decode cJ8_newLength_cabcc 3 = .ok (.invokestatic 194, 3) := by decide +kernel
theorem dJ8_newLength_cabcc_6 : decode cJ8_newLength_cabcc 6 = .ok (.iadd, 1) := by decide +kernel
theorem dJ8_newLength_cabcc_7 : decode cJ8_newLength_cabcc 7 = .ok (.istore_n 3, 1) := by decide +kernel
theorem dJ8_newLength_cabcc_8 : decode cJ8_newLength_cabcc 8 = .ok (.iconst 0, 1) := by decide +kernel
theorem dJ8_newLength_cabcc_9 : decode cJ8_newLength_cabcc 9 = .ok (.iload_n 3, 1) := by decide +kernel
theorem dJ8_newLength_cabcc_10 : decode cJ8_newLength_cabcc 10 = .ok (.if_icmp .ge 11, 3) := by decide +kernel
theorem dJ8_newLength_cabcc_13 : decode cJ8_newLength_cabcc 13 = .ok (.iload_n 3, 1) := by decide +kernel
theorem dJ8_newLength_cabcc_14 : decode cJ8_newLength_cabcc 14 = .ok (.ldc 200, 2) := by decide +kernel
theorem dJ8_newLength_cabcc_16 : decode cJ8_newLength_cabcc 16 = .ok (.if_icmp .gt 5, 3) := by decide +kernel
theorem dJ8_newLength_cabcc_19 : decode cJ8_newLength_cabcc 19 = .ok (.iload_n 3, 1) := by decide +kernel
theorem dJ8_newLength_cabcc_20 : decode cJ8_newLength_cabcc 20 = .ok (.ireturn, 1) := by decide +kernel
theorem dJ8_newLength_cabcc_21 : decode cJ8_newLength_cabcc 21 = .ok (.iload_n 0, 1) := by decide +kernel
theorem dJ8_newLength_cabcc_22 : decode cJ8_newLength_cabcc 22 = .ok (.iload_n 1, 1) := by decide +kernel
theorem dJ8_newLength_cabcc_23 : decode cJ8_newLength_cabcc 23 = .ok (.invokestatic 201, 3) := by decide +kernel
theorem dJ8_newLength_cabcc_26 : decode cJ8_newLength_cabcc 26 = .ok (.ireturn, 1) := by decide +kernel
theorem dJ8_hugeLength_7cf53_0 : decode cJ8_hugeLength_7cf53 0 = .ok (.iload_n 0, 1) := by decide +kernel
theorem dJ8_hugeLength_7cf53_1 : decode cJ8_hugeLength_7cf53 1 = .ok (.iload_n 1, 1) := by decide +kernel
theorem dJ8_hugeLength_7cf53_2 : decode cJ8_hugeLength_7cf53 2 = .ok (.iadd, 1) := by decide +kernel
theorem dJ8_hugeLength_7cf53_3 : decode cJ8_hugeLength_7cf53 3 = .ok (.istore_n 2, 1) := by decide +kernel
theorem dJ8_hugeLength_7cf53_4 : decode cJ8_hugeLength_7cf53 4 = .ok (.iload_n 2, 1) := by decide +kernel
theorem dJ8_hugeLength_7cf53_5 : decode cJ8_hugeLength_7cf53 5 = .ok (.ifCond .ge 44, 3) := by decide +kernel
theorem dJ8_hugeLength_7cf53_8 : decode cJ8_hugeLength_7cf53 8 = .ok (.new 204, 3) := by decide +kernel
theorem dJ8_hugeLength_7cf53_11 : decode cJ8_hugeLength_7cf53 11 = .ok (.dup, 1) := by decide +kernel
theorem dJ8_hugeLength_7cf53_12 : decode cJ8_hugeLength_7cf53 12 = .ok (.new 89, 3) := by decide +kernel
theorem dJ8_hugeLength_7cf53_15 : decode cJ8_hugeLength_7cf53 15 = .ok (.dup, 1) := by decide +kernel
theorem dJ8_hugeLength_7cf53_16 : decode cJ8_hugeLength_7cf53 16 = .ok (.invokespecial 91, 3) := by decide +kernel
theorem dJ8_hugeLength_7cf53_19 : decode cJ8_hugeLength_7cf53 19 = .ok (.ldc 206, 2) := by decide +kernel
theorem dJ8_hugeLength_7cf53_21 : decode cJ8_hugeLength_7cf53 21 = .ok (.invokevirtual 94, 3) := by decide +kernel
theorem dJ8_hugeLength_7cf53_24 : decode cJ8_hugeLength_7cf53 24 = .ok (.iload_n 0, 1) := by decide +kernel
theorem dJ8_hugeLength_7cf53_25 : decode cJ8_hugeLength_7cf53 25 = .ok (.invokevirtual 98, 3) := by decide +kernel
theorem dJ8_hugeLength_7cf53_28 : decode cJ8_hugeLength_7cf53 28 = .ok (.ldc 208, 2) := by decide +kernel
theorem dJ8_hugeLength_7cf53_30 : decode cJ8_hugeLength_7cf53 30 = .ok (.invokevirtual 94, 3) := by decide +kernel
theorem dJ8_hugeLength_7cf53_33 : decode cJ8_hugeLength_7cf53 33 = .ok (.iload_n 1, 1) := by decide +kernel
theorem dJ8_hugeLength_7cf53_34 : decode cJ8_hugeLength_7cf53 34 = .ok (.invokevirtual 98, 3) := by decide +kernel
theorem dJ8_hugeLength_7cf53_37 : decode cJ8_hugeLength_7cf53 37 = .ok (.ldc 210, 2) := by decide +kernel
theorem dJ8_hugeLength_7cf53_39 : decode cJ8_hugeLength_7cf53 39 = .ok (.invokevirtual 94, 3) := by decide +kernel
theorem dJ8_hugeLength_7cf53_42 : decode cJ8_hugeLength_7cf53 42 = .ok (.invokevirtual 101, 3) := by decide +kernel
theorem dJ8_hugeLength_7cf53_45 : decode cJ8_hugeLength_7cf53 45 = .ok (.invokespecial 212, 3) := by decide +kernel
theorem dJ8_hugeLength_7cf53_48 : decode cJ8_hugeLength_7cf53 48 = .ok (.athrow, 1) := by decide +kernel
theorem dJ8_hugeLength_7cf53_49 : decode cJ8_hugeLength_7cf53 49 = .ok (.iload_n 2, 1) := by decide +kernel
theorem dJ8_hugeLength_7cf53_50 : decode cJ8_hugeLength_7cf53 50 = .ok (.ldc 200, 2) := by decide +kernel
theorem dJ8_hugeLength_7cf53_52 : decode cJ8_hugeLength_7cf53 52 = .ok (.if_icmp .gt 6, 3) := by decide +kernel
theorem dJ8_hugeLength_7cf53_55 : decode cJ8_hugeLength_7cf53 55 = .ok (.ldc 200, 2) := by decide +kernel
theorem dJ8_hugeLength_7cf53_57 : decode cJ8_hugeLength_7cf53 57 = .ok (.ireturn, 1) := by decide +kernel
theorem dJ8_hugeLength_7cf53_58 : decode cJ8_hugeLength_7cf53 58 = .ok (.iload_n 2, 1) := by decide +kernel
theorem dJ8_hugeLength_7cf53_59 : decode cJ8_hugeLength_7cf53 59 = .ok (.ireturn, 1) := by decide +kernel
theorem dJ3_checkIndex_8e157_0 : decode cJ3_checkIndex_8e157 0 = .ok (.iload_n 0, 1) := by decide +kernel
theorem dJ3_checkIndex_8e157_1 : decode cJ3_checkIndex_8e157 1 = .ok (.ifCond .lt 8, 3) := by decide +kernel
theorem dJ3_checkIndex_8e157_4 : decode cJ3_checkIndex_8e157 4 = .ok (.iload_n 0, 1) := by decide +kernel
theorem dJ3_checkIndex_8e157_5 : decode cJ3_checkIndex_8e157 5 = .ok (.iload_n 1, 1) := by decide +kernel
theorem dJ3_checkIndex_8e157_6 : decode cJ3_checkIndex_8e157 6 = .ok (.if_icmp .lt 10, 3) := by decide +kernel
theorem dJ3_checkIndex_8e157_9 : decode cJ3_checkIndex_8e157 9 = .ok (.aload_n 2, 1) := by decide +kernel
theorem dJ3_checkIndex_8e157_10 : decode cJ3_checkIndex_8e157 10 = .ok (.iload_n 0, 1) := by decide +kernel
theorem dJ3_checkIndex_8e157_11 : decode cJ3_checkIndex_8e157 11 = .ok (.iload_n 1, 1) := by decide +kernel
theorem dJ3_checkIndex_8e157_12 : decode cJ3_checkIndex_8e157 12 = .ok (.invokestatic 95, 3) := by decide +kernel
theorem dJ3_checkIndex_8e157_15 : decode cJ3_checkIndex_8e157 15 = .ok (.athrow, 1) := by decide +kernel
theorem dJ3_checkIndex_8e157_16 : decode cJ3_checkIndex_8e157 16 = .ok (.iload_n 0, 1) := by decide +kernel
theorem dJ3_checkIndex_8e157_17 : decode cJ3_checkIndex_8e157 17 = .ok (.ireturn, 1) := by decide +kernel
theorem dJ3_checkFromToIndex_8c36e_0 : decode cJ3_checkFromToIndex_8c36e 0 = .ok (.iload_n 0, 1) := by decide +kernel
theorem dJ3_checkFromToIndex_8c36e_1 : decode cJ3_checkFromToIndex_8c36e 1 = .ok (.ifCond .lt 13, 3) := by decide +kernel
theorem dJ3_checkFromToIndex_8c36e_4 : decode cJ3_checkFromToIndex_8c36e 4 = .ok (.iload_n 0, 1) := by decide +kernel
theorem dJ3_checkFromToIndex_8c36e_5 : decode cJ3_checkFromToIndex_8c36e 5 = .ok (.iload_n 1, 1) := by decide +kernel
theorem dJ3_checkFromToIndex_8c36e_6 : decode cJ3_checkFromToIndex_8c36e 6 = .ok (.if_icmp .gt 8, 3) := by decide +kernel
theorem dJ3_checkFromToIndex_8c36e_9 : decode cJ3_checkFromToIndex_8c36e 9 = .ok (.iload_n 1, 1) := by decide +kernel
theorem dJ3_checkFromToIndex_8c36e_10 : decode cJ3_checkFromToIndex_8c36e 10 = .ok (.iload_n 2, 1) := by decide +kernel
theorem dJ3_checkFromToIndex_8c36e_11 : decode cJ3_checkFromToIndex_8c36e 11 = .ok (.if_icmp .le 11, 3) := by decide +kernel
theorem dJ3_checkFromToIndex_8c36e_14 : decode cJ3_checkFromToIndex_8c36e 14 = .ok (.aload_n 3, 1) := by decide +kernel
theorem dJ3_checkFromToIndex_8c36e_15 : decode cJ3_checkFromToIndex_8c36e 15 = .ok (.iload_n 0, 1) := by decide +kernel
theorem dJ3_checkFromToIndex_8c36e_16 : decode cJ3_checkFromToIndex_8c36e 16 = .ok (.iload_n 1, 1) := by decide +kernel
theorem dJ3_checkFromToIndex_8c36e_17 : decode cJ3_checkFromToIndex_8c36e 17 = .ok (.iload_n 2, 1) := by decide +kernel
theorem dJ3_checkFromToIndex_8c36e_18 : decode cJ3_checkFromToIndex_8c36e 18 = .ok (.invokestatic 99, 3) := by decide +kernel
theorem dJ3_checkFromToIndex_8c36e_21 : decode cJ3_checkFromToIndex_8c36e 21 = .ok (.athrow, 1) := by decide +kernel
theorem dJ3_checkFromToIndex_8c36e_22 : decode cJ3_checkFromToIndex_8c36e 22 = .ok (.iload_n 0, 1) := by decide +kernel
theorem dJ3_checkFromToIndex_8c36e_23 : decode cJ3_checkFromToIndex_8c36e 23 = .ok (.ireturn, 1) := by decide +kernel
theorem dJ3_checkFromIndexSize_8c36e_0 : decode cJ3_checkFromIndexSize_8c36e 0 = .ok (.iload_n 2, 1) := by decide +kernel
theorem dJ3_checkFromIndexSize_8c36e_1 : decode cJ3_checkFromIndexSize_8c36e 1 = .ok (.iload_n 0, 1) := by decide +kernel
theorem dJ3_checkFromIndexSize_8c36e_2 : decode cJ3_checkFromIndexSize_8c36e 2 = .ok (.ior, 1) := by decide +kernel
theorem dJ3_checkFromIndexSize_8c36e_3 : decode cJ3_checkFromIndexSize_8c36e 3 = .ok (.iload_n 1, 1) := by decide +kernel
theorem dJ3_checkFromIndexSize_8c36e_4 : decode cJ3_checkFromIndexSize_8c36e 4 = .ok (.ior, 1) := by decide +kernel
theorem dJ3_checkFromIndexSize_8c36e_5 : decode cJ3_checkFromIndexSize_8c36e 5 = .ok (.ifCond .lt 10, 3) := by decide +kernel
theorem dJ3_checkFromIndexSize_8c36e_8 : decode cJ3_checkFromIndexSize_8c36e 8 = .ok (.iload_n 1, 1) := by decide +kernel
theorem dJ3_checkFromIndexSize_8c36e_9 : decode cJ3_checkFromIndexSize_8c36e 9 = .ok (.iload_n 2, 1) := by decide +kernel
theorem dJ3_checkFromIndexSize_8c36e_10 : decode cJ3_checkFromIndexSize_8c36e 10 = .ok (.iload_n 0, 1) := by decide +kernel
theorem dJ3_checkFromIndexSize_8c36e_11 : decode cJ3_checkFromIndexSize_8c36e 11 = .ok (.isub, 1) := by decide +kernel
theorem dJ3_checkFromIndexSize_8c36e_12 : decode cJ3_checkFromIndexSize_8c36e 12 = .ok (.if_icmp .le 11, 3) := by decide +kernel
theorem dJ3_checkFromIndexSize_8c36e_15 : decode cJ3_checkFromIndexSize_8c36e 15 = .ok (.aload_n 3, 1) := by decide +kernel
theorem dJ3_checkFromIndexSize_8c36e_16 : decode cJ3_checkFromIndexSize_8c36e 16 = .ok (.iload_n 0, 1) := by decide +kernel
theorem dJ3_checkFromIndexSize_8c36e_17 : decode cJ3_checkFromIndexSize_8c36e 17 = .ok (.iload_n 1, 1) := by decide +kernel
theorem dJ3_checkFromIndexSize_8c36e_18 : decode cJ3_checkFromIndexSize_8c36e 18 = .ok (.iload_n 2, 1) := by decide +kernel
theorem dJ3_checkFromIndexSize_8c36e_19 : decode cJ3_checkFromIndexSize_8c36e 19 = .ok (.invokestatic 103, 3) := by decide +kernel
theorem dJ3_checkFromIndexSize_8c36e_22 : decode cJ3_checkFromIndexSize_8c36e 22 = .ok (.athrow, 1) := by decide +kernel
theorem dJ3_checkFromIndexSize_8c36e_23 : decode cJ3_checkFromIndexSize_8c36e 23 = .ok (.iload_n 0, 1) := by decide +kernel
theorem dJ3_checkFromIndexSize_8c36e_24 : decode cJ3_checkFromIndexSize_8c36e 24 = .ok (.ireturn, 1) := by decide +kernel
theorem dL_leaf_0 : decode cL_leaf 0 = .ok (.aload 4, 2) := by decide +kernel
theorem dL_leaf_2 : decode cL_leaf 2 = .ok (.aload_n 0, 1) := by decide +kernel
theorem dL_leaf_3 : decode cL_leaf 3 = .ok (.iload_n 1, 1) := by decide +kernel
theorem dL_leaf_4 : decode cL_leaf 4 = .ok (.iload_n 2, 1) := by decide +kernel
theorem dL_leaf_5 : decode cL_leaf 5 = .ok (.iload_n 3, 1) := by decide +kernel
theorem dL_leaf_6 : decode cL_leaf 6 = .ok (.invokevirtual 7, 3) := by decide +kernel
theorem dL_leaf_9 : decode cL_leaf 9 = .ok (.i2l, 1) := by decide +kernel
theorem dL_leaf_10 : decode cL_leaf 10 = .ok (.putfield 13, 3) := by decide +kernel
theorem dL_leaf_13 : decode cL_leaf 13 = .ok (.goto 11, 3) := by decide +kernel
theorem dL_leaf_16 : decode cL_leaf 16 = .ok (.astore 5, 2) := by decide +kernel
theorem dL_leaf_18 : decode cL_leaf 18 = .ok (.iconst 1, 1) := by decide +kernel
theorem dL_leaf_19 : decode cL_leaf 19 = .ok (.ireturn, 1) := by decide +kernel
theorem dL_leaf_20 : decode cL_leaf 20 = .ok (.astore 5, 2) := by decide +kernel
theorem dL_leaf_22 : decode cL_leaf 22 = .ok (.iconst 2, 1) := by decide +kernel
theorem dL_leaf_23 : decode cL_leaf 23 = .ok (.ireturn, 1) := by decide +kernel
theorem dL_leaf_24 : decode cL_leaf 24 = .ok (.iconst 0, 1) := by decide +kernel
theorem dL_leaf_25 : decode cL_leaf 25 = .ok (.ireturn, 1) := by decide +kernel
theorem dL_leafRound_0 : decode cL_leafRound 0 = .ok (.aload 4, 2) := by decide +kernel
theorem dL_leafRound_2 : decode cL_leafRound 2 = .ok (.aload_n 0, 1) := by decide +kernel
theorem dL_leafRound_3 : decode cL_leafRound 3 = .ok (.iload_n 1, 1) := by decide +kernel
theorem dL_leafRound_4 : decode cL_leafRound 4 = .ok (.iload_n 2, 1) := by decide +kernel
theorem dL_leafRound_5 : decode cL_leafRound 5 = .ok (.iload_n 3, 1) := by decide +kernel
theorem dL_leafRound_6 : decode cL_leafRound 6 = .ok (.invokevirtual 23, 3) := by decide +kernel
theorem dL_leafRound_9 : decode cL_leafRound 9 = .ok (.i2l, 1) := by decide +kernel
theorem dL_leafRound_10 : decode cL_leafRound 10 = .ok (.putfield 13, 3) := by decide +kernel
theorem dL_leafRound_13 : decode cL_leafRound 13 = .ok (.goto 11, 3) := by decide +kernel
theorem dL_leafRound_16 : decode cL_leafRound 16 = .ok (.astore 5, 2) := by decide +kernel
theorem dL_leafRound_18 : decode cL_leafRound 18 = .ok (.iconst 1, 1) := by decide +kernel
theorem dL_leafRound_19 : decode cL_leafRound 19 = .ok (.ireturn, 1) := by decide +kernel
theorem dL_leafRound_20 : decode cL_leafRound 20 = .ok (.astore 5, 2) := by decide +kernel
theorem dL_leafRound_22 : decode cL_leafRound 22 = .ok (.iconst 2, 1) := by decide +kernel
theorem dL_leafRound_23 : decode cL_leafRound 23 = .ok (.ireturn, 1) := by decide +kernel
theorem dL_leafRound_24 : decode cL_leafRound 24 = .ok (.iconst 0, 1) := by decide +kernel
theorem dL_leafRound_25 : decode cL_leafRound 25 = .ok (.ireturn, 1) := by decide +kernel
theorem dL_months_0 : decode cL_months 0 = .ok (.aload 4, 2) := by decide +kernel
theorem dL_months_2 : decode cL_months 2 = .ok (.aload_n 0, 1) := by decide +kernel
theorem dL_months_3 : decode cL_months 3 = .ok (.iload_n 1, 1) := by decide +kernel
theorem dL_months_4 : decode cL_months 4 = .ok (.iload_n 2, 1) := by decide +kernel
theorem dL_months_5 : decode cL_months 5 = .ok (.iload_n 3, 1) := by decide +kernel
theorem dL_months_6 : decode cL_months 6 = .ok (.invokevirtual 26, 3) := by decide +kernel
theorem dL_months_9 : decode cL_months 9 = .ok (.i2l, 1) := by decide +kernel
theorem dL_months_10 : decode cL_months 10 = .ok (.putfield 13, 3) := by decide +kernel
theorem dL_months_13 : decode cL_months 13 = .ok (.goto 7, 3) := by decide +kernel
theorem dL_months_16 : decode cL_months 16 = .ok (.astore 5, 2) := by decide +kernel
theorem dL_months_18 : decode cL_months 18 = .ok (.iconst 1, 1) := by decide +kernel
theorem dL_months_19 : decode cL_months 19 = .ok (.ireturn, 1) := by decide +kernel
theorem dL_months_20 : decode cL_months 20 = .ok (.iconst 0, 1) := by decide +kernel
theorem dL_months_21 : decode cL_months 21 = .ok (.ireturn, 1) := by decide +kernel
theorem dL_years_0 : decode cL_years 0 = .ok (.aload 4, 2) := by decide +kernel
theorem dL_years_2 : decode cL_years 2 = .ok (.aload_n 0, 1) := by decide +kernel
theorem dL_years_3 : decode cL_years 3 = .ok (.iload_n 1, 1) := by decide +kernel
theorem dL_years_4 : decode cL_years 4 = .ok (.iload_n 2, 1) := by decide +kernel
theorem dL_years_5 : decode cL_years 5 = .ok (.iload_n 3, 1) := by decide +kernel
theorem dL_years_6 : decode cL_years 6 = .ok (.invokevirtual 30, 3) := by decide +kernel
theorem dL_years_9 : decode cL_years 9 = .ok (.i2l, 1) := by decide +kernel
theorem dL_years_10 : decode cL_years 10 = .ok (.putfield 13, 3) := by decide +kernel
theorem dL_years_13 : decode cL_years 13 = .ok (.goto 7, 3) := by decide +kernel
theorem dL_years_16 : decode cL_years 16 = .ok (.astore 5, 2) := by decide +kernel
theorem dL_years_18 : decode cL_years 18 = .ok (.iconst 1, 1) := by decide +kernel
theorem dL_years_19 : decode cL_years 19 = .ok (.ireturn, 1) := by decide +kernel
theorem dL_years_20 : decode cL_years 20 = .ok (.iconst 0, 1) := by decide +kernel
theorem dL_years_21 : decode cL_years 21 = .ok (.ireturn, 1) := by decide +kernel
theorem dL_units_0 : decode cL_units 0 = .ok (.aload 5, 2) := by decide +kernel
theorem dL_units_2 : decode cL_units 2 = .ok (.aload_n 0, 1) := by decide +kernel
theorem dL_units_3 : decode cL_units 3 = .ok (.iload_n 1, 1) := by decide +kernel
theorem dL_units_4 : decode cL_units 4 = .ok (.iload_n 2, 1) := by decide +kernel
theorem dL_units_5 : decode cL_units 5 = .ok (.iload_n 3, 1) := by decide +kernel
theorem dL_units_6 : decode cL_units 6 = .ok (.iload 4, 2) := by decide +kernel
theorem dL_units_8 : decode cL_units 8 = .ok (.invokevirtual 33, 3) := by decide +kernel
theorem dL_units_11 : decode cL_units 11 = .ok (.i2l, 1) := by decide +kernel
theorem dL_units_12 : decode cL_units 12 = .ok (.putfield 13, 3) := by decide +kernel
theorem dL_units_15 : decode cL_units 15 = .ok (.goto 11, 3) := by decide +kernel
theorem dL_units_18 : decode cL_units 18 = .ok (.astore 6, 2) := by decide +kernel
theorem dL_units_20 : decode cL_units 20 = .ok (.iconst 1, 1) := by decide +kernel
theorem dL_units_21 : decode cL_units 21 = .ok (.ireturn, 1) := by decide +kernel
theorem dL_units_22 : decode cL_units 22 = .ok (.astore 6, 2) := by decide +kernel
theorem dL_units_24 : decode cL_units 24 = .ok (.iconst 2, 1) := by decide +kernel
theorem dL_units_25 : decode cL_units 25 = .ok (.ireturn, 1) := by decide +kernel
theorem dL_units_26 : decode cL_units 26 = .ok (.iconst 0, 1) := by decide +kernel
theorem dL_units_27 : decode cL_units 27 = .ok (.ireturn, 1) := by decide +kernel
theorem dL_both_0 : decode cL_both 0 = .ok (.aload 5, 2) := by decide +kernel
theorem dL_both_2 : decode cL_both 2 = .ok (.aload_n 0, 1) := by decide +kernel
theorem dL_both_3 : decode cL_both 3 = .ok (.iload_n 1, 1) := by decide +kernel
theorem dL_both_4 : decode cL_both 4 = .ok (.iload_n 2, 1) := by decide +kernel
theorem dL_both_5 : decode cL_both 5 = .ok (.iload_n 3, 1) := by decide +kernel
theorem dL_both_6 : decode cL_both 6 = .ok (.iload 4, 2) := by decide +kernel
theorem dL_both_8 : decode cL_both 8 = .ok (.invokevirtual 37, 3) := by decide +kernel
theorem dL_both_11 : decode cL_both 11 = .ok (.i2l, 1) := by decide +kernel
theorem dL_both_12 : decode cL_both 12 = .ok (.putfield 13, 3) := by decide +kernel
theorem dL_both_15 : decode cL_both 15 = .ok (.goto 11, 3) := by decide +kernel
theorem dL_both_18 : decode cL_both 18 = .ok (.astore 6, 2) := by decide +kernel
theorem dL_both_20 : decode cL_both 20 = .ok (.iconst 1, 1) := by decide +kernel
theorem dL_both_21 : decode cL_both 21 = .ok (.ireturn, 1) := by decide +kernel
theorem dL_both_22 : decode cL_both 22 = .ok (.astore 6, 2) := by decide +kernel
theorem dL_both_24 : decode cL_both 24 = .ok (.iconst 2, 1) := by decide +kernel
theorem dL_both_25 : decode cL_both 25 = .ok (.ireturn, 1) := by decide +kernel
theorem dL_both_26 : decode cL_both 26 = .ok (.iconst 0, 1) := by decide +kernel
theorem dL_both_27 : decode cL_both 27 = .ok (.ireturn, 1) := by decide +kernel
theorem dL_leafYear_0 : decode cL_leafYear 0 = .ok (.aload_n 3, 1) := by decide +kernel
theorem dL_leafYear_1 : decode cL_leafYear 1 = .ok (.aload_n 0, 1) := by decide +kernel
theorem dL_leafYear_2 : decode cL_leafYear 2 = .ok (.iload_n 1, 1) := by decide +kernel
theorem dL_leafYear_3 : decode cL_leafYear 3 = .ok (.iload_n 2, 1) := by decide +kernel
theorem dL_leafYear_4 : decode cL_leafYear 4 = .ok (.invokevirtual 40, 3) := by decide +kernel
theorem dL_leafYear_7 : decode cL_leafYear 7 = .ok (.i2l, 1) := by decide +kernel
theorem dL_leafYear_8 : decode cL_leafYear 8 = .ok (.putfield 13, 3) := by decide +kernel
theorem dL_leafYear_11 : decode cL_leafYear 11 = .ok (.goto 11, 3) := by decide +kernel
theorem dL_leafYear_14 : decode cL_leafYear 14 = .ok (.astore 4, 2) := by decide +kernel
theorem dL_leafYear_16 : decode cL_leafYear 16 = .ok (.iconst 1, 1) := by decide +kernel
theorem dL_leafYear_17 : decode cL_leafYear 17 = .ok (.ireturn, 1) := by decide +kernel
theorem dL_leafYear_18 : decode cL_leafYear 18 = .ok (.astore 4, 2) := by decide +kernel
theorem dL_leafYear_20 : decode cL_leafYear 20 = .ok (.iconst 2, 1) := by decide +kernel
theorem dL_leafYear_21 : decode cL_leafYear 21 = .ok (.ireturn, 1) := by decide +kernel
theorem dL_leafYear_22 : decode cL_leafYear 22 = .ok (.iconst 0, 1) := by decide +kernel
theorem dL_leafYear_23 : decode cL_leafYear 23 = .ok (.ireturn, 1) := by decide +kernel
theorem dL_leafMonth_0 : decode cL_leafMonth 0 = .ok (.aload_n 3, 1) := by decide +kernel
theorem dL_leafMonth_1 : decode cL_leafMonth 1 = .ok (.aload_n 0, 1) := by decide +kernel
theorem dL_leafMonth_2 : decode cL_leafMonth 2 = .ok (.iload_n 1, 1) := by decide +kernel
theorem dL_leafMonth_3 : decode cL_leafMonth 3 = .ok (.iload_n 2, 1) := by decide +kernel
theorem dL_leafMonth_4 : decode cL_leafMonth 4 = .ok (.invokevirtual 44, 3) := by decide +kernel
theorem dL_leafMonth_7 : decode cL_leafMonth 7 = .ok (.i2l, 1) := by decide +kernel
theorem dL_leafMonth_8 : decode cL_leafMonth 8 = .ok (.putfield 13, 3) := by decide +kernel
theorem dL_leafMonth_11 : decode cL_leafMonth 11 = .ok (.goto 11, 3) := by decide +kernel
theorem dL_leafMonth_14 : decode cL_leafMonth 14 = .ok (.astore 4, 2) := by decide +kernel
theorem dL_leafMonth_16 : decode cL_leafMonth 16 = .ok (.iconst 1, 1) := by decide +kernel
theorem dL_leafMonth_17 : decode cL_leafMonth 17 = .ok (.ireturn, 1) := by decide +kernel
theorem dL_leafMonth_18 : decode cL_leafMonth 18 = .ok (.astore 4, 2) := by decide +kernel
theorem dL_leafMonth_20 : decode cL_leafMonth 20 = .ok (.iconst 2, 1) := by decide +kernel
theorem dL_leafMonth_21 : decode cL_leafMonth 21 = .ok (.ireturn, 1) := by decide +kernel
theorem dL_leafMonth_22 : decode cL_leafMonth 22 = .ok (.iconst 0, 1) := by decide +kernel
theorem dL_leafMonth_23 : decode cL_leafMonth 23 = .ok (.ireturn, 1) := by decide +kernel
theorem dL_leafWith_0 : decode cL_leafWith 0 = .ok (.aload 4, 2) := by decide +kernel
theorem dL_leafWith_2 : decode cL_leafWith 2 = .ok (.aload_n 0, 1) := by decide +kernel
theorem dL_leafWith_3 : decode cL_leafWith 3 = .ok (.iload_n 1, 1) := by decide +kernel
theorem dL_leafWith_4 : decode cL_leafWith 4 = .ok (.iload_n 2, 1) := by decide +kernel
theorem dL_leafWith_5 : decode cL_leafWith 5 = .ok (.iload_n 3, 1) := by decide +kernel
theorem dL_leafWith_6 : decode cL_leafWith 6 = .ok (.invokevirtual 47, 3) := by decide +kernel
theorem dL_leafWith_9 : decode cL_leafWith 9 = .ok (.i2l, 1) := by decide +kernel
theorem dL_leafWith_10 : decode cL_leafWith 10 = .ok (.putfield 13, 3) := by decide +kernel
theorem dL_leafWith_13 : decode cL_leafWith 13 = .ok (.goto 11, 3) := by decide +kernel
theorem dL_leafWith_16 : decode cL_leafWith 16 = .ok (.astore 5, 2) := by decide +kernel
theorem dL_leafWith_18 : decode cL_leafWith 18 = .ok (.iconst 1, 1) := by decide +kernel
theorem dL_leafWith_19 : decode cL_leafWith 19 = .ok (.ireturn, 1) := by decide +kernel
theorem dL_leafWith_20 : decode cL_leafWith 20 = .ok (.astore 5, 2) := by decide +kernel
theorem dL_leafWith_22 : decode cL_leafWith 22 = .ok (.iconst 2, 1) := by decide +kernel
theorem dL_leafWith_23 : decode cL_leafWith 23 = .ok (.ireturn, 1) := by decide +kernel
theorem dL_leafWith_24 : decode cL_leafWith 24 = .ok (.iconst 0, 1) := by decide +kernel
theorem dL_leafWith_25 : decode cL_leafWith 25 = .ok (.ireturn, 1) := by decide +kernel
theorem dL_leafOf_0 : decode cL_leafOf 0 = .ok (.aload 4, 2) := by decide +kernel
theorem dL_leafOf_2 : decode cL_leafOf 2 = .ok (.aload_n 0, 1) := by decide +kernel
theorem dL_leafOf_3 : decode cL_leafOf 3 = .ok (.iload_n 1, 1) := by decide +kernel
theorem dL_leafOf_4 : decode cL_leafOf 4 = .ok (.iload_n 2, 1) := by decide +kernel
theorem dL_leafOf_5 : decode cL_leafOf 5 = .ok (.iload_n 3, 1) := by decide +kernel
theorem dL_leafOf_6 : decode cL_leafOf 6 = .ok (.invokevirtual 50, 3) := by decide +kernel
theorem dL_leafOf_9 : decode cL_leafOf 9 = .ok (.i2l, 1) := by decide +kernel
theorem dL_leafOf_10 : decode cL_leafOf 10 = .ok (.putfield 13, 3) := by decide +kernel
theorem dL_leafOf_13 : decode cL_leafOf 13 = .ok (.goto 11, 3) := by decide +kernel
theorem dL_leafOf_16 : decode cL_leafOf 16 = .ok (.astore 5, 2) := by decide +kernel
theorem dL_leafOf_18 : decode cL_leafOf 18 = .ok (.iconst 1, 1) := by decide +kernel
theorem dL_leafOf_19 : decode cL_leafOf 19 = .ok (.ireturn, 1) := by decide +kernel
theorem dL_leafOf_20 : decode cL_leafOf 20 = .ok (.astore 5, 2) := by decide +kernel
theorem dL_leafOf_22 : decode cL_leafOf 22 = .ok (.iconst 2, 1) := by decide +kernel
theorem dL_leafOf_23 : decode cL_leafOf 23 = .ok (.ireturn, 1) := by decide +kernel
theorem dL_leafOf_24 : decode cL_leafOf 24 = .ok (.iconst 0, 1) := by decide +kernel
theorem dL_leafOf_25 : decode cL_leafOf 25 = .ok (.ireturn, 1) := by decide +kernel
theorem dL_leafOfRound_0 : decode cL_leafOfRound 0 = .ok (.aload 4, 2) := by decide +kernel
theorem dL_leafOfRound_2 : decode cL_leafOfRound 2 = .ok (.aload_n 0, 1) := by decide +kernel
theorem dL_leafOfRound_3 : decode cL_leafOfRound 3 = .ok (.iload_n 1, 1) := by decide +kernel
theorem dL_leafOfRound_4 : decode cL_leafOfRound 4 = .ok (.iload_n 2, 1) := by decide +kernel
theorem dL_leafOfRound_5 : decode cL_leafOfRound 5 = .ok (.iload_n 3, 1) := by decide +kernel
theorem dL_leafOfRound_6 : decode cL_leafOfRound 6 = .ok (.invokevirtual 53, 3) := by decide +kernel
theorem dL_leafOfRound_9 : decode cL_leafOfRound 9 = .ok (.i2l, 1) := by decide +kernel
theorem dL_leafOfRound_10 : decode cL_leafOfRound 10 = .ok (.putfield 13, 3) := by decide +kernel
theorem dL_leafOfRound_13 : decode cL_leafOfRound 13 = .ok (.goto 7, 3) := by decide +kernel
theorem dL_leafOfRound_16 : decode cL_leafOfRound 16 = .ok (.astore 5, 2) := by decide +kernel
theorem dL_leafOfRound_18 : decode cL_leafOfRound 18 = .ok (.iconst 1, 1) := by decide +kernel
theorem dL_leafOfRound_19 : decode cL_leafOfRound 19 = .ok (.ireturn, 1) := by decide +kernel
theorem dL_leafOfRound_20 : decode cL_leafOfRound 20 = .ok (.iconst 0, 1) := by decide +kernel
theorem dL_leafOfRound_21 : decode cL_leafOfRound 21 = .ok (.ireturn, 1) := by decide +kernel
theorem dL_leafOfDay_0 : decode cL_leafOfDay 0 = .ok (.aload_n 3, 1) := by decide +kernel
theorem dL_leafOfDay_1 : decode cL_leafOfDay 1 = .ok (.aload_n 0, 1) := by decide +kernel
theorem dL_leafOfDay_2 : decode cL_leafOfDay 2 = .ok (.iload_n 1, 1) := by decide +kernel
theorem dL_leafOfDay_3 : decode cL_leafOfDay 3 = .ok (.iload_n 2, 1) := by decide +kernel
theorem dL_leafOfDay_4 : decode cL_leafOfDay 4 = .ok (.invokevirtual 56, 3) := by decide +kernel
theorem dL_leafOfDay_7 : decode cL_leafOfDay 7 = .ok (.i2l, 1) := by decide +kernel
theorem dL_leafOfDay_8 : decode cL_leafOfDay 8 = .ok (.putfield 13, 3) := by decide +kernel
theorem dL_leafOfDay_11 : decode cL_leafOfDay 11 = .ok (.goto 7, 3) := by decide +kernel
theorem dL_leafOfDay_14 : decode cL_leafOfDay 14 = .ok (.astore 4, 2) := by decide +kernel
theorem dL_leafOfDay_16 : decode cL_leafOfDay 16 = .ok (.iconst 1, 1) := by decide +kernel
theorem dL_leafOfDay_17 : decode cL_leafOfDay 17 = .ok (.ireturn, 1) := by decide +kernel
theorem dL_leafOfDay_18 : decode cL_leafOfDay 18 = .ok (.iconst 0, 1) := by decide +kernel
theorem dL_leafOfDay_19 : decode cL_leafOfDay 19 = .ok (.ireturn, 1) := by decide +kernel
theorem dL_leafLike_0 : decode cL_leafLike 0 = .ok (.aload_n 3, 1) := by decide +kernel
theorem dL_leafLike_1 : decode cL_leafLike 1 = .ok (.aload_n 0, 1) := by decide +kernel
theorem dL_leafLike_2 : decode cL_leafLike 2 = .ok (.iload_n 1, 1) := by decide +kernel
theorem dL_leafLike_3 : decode cL_leafLike 3 = .ok (.iload_n 2, 1) := by decide +kernel
theorem dL_leafLike_4 : decode cL_leafLike 4 = .ok (.invokevirtual 59, 3) := by decide +kernel
theorem dL_leafLike_7 : decode cL_leafLike 7 = .ok (.i2l, 1) := by decide +kernel
theorem dL_leafLike_8 : decode cL_leafLike 8 = .ok (.putfield 13, 3) := by decide +kernel
theorem dL_leafLike_11 : decode cL_leafLike 11 = .ok (.goto 7, 3) := by decide +kernel
theorem dL_leafLike_14 : decode cL_leafLike 14 = .ok (.astore 4, 2) := by decide +kernel
theorem dL_leafLike_16 : decode cL_leafLike 16 = .ok (.iconst 1, 1) := by decide +kernel
theorem dL_leafLike_17 : decode cL_leafLike 17 = .ok (.ireturn, 1) := by decide +kernel
theorem dL_leafLike_18 : decode cL_leafLike 18 = .ok (.iconst 0, 1) := by decide +kernel
theorem dL_leafLike_19 : decode cL_leafLike 19 = .ok (.ireturn, 1) := by decide +kernel
theorem dL_year_0 : decode cL_year 0 = .ok (.aload_n 3, 1) := by decide +kernel
theorem dL_year_1 : decode cL_year 1 = .ok (.aload_n 0, 1) := by decide +kernel
theorem dL_year_2 : decode cL_year 2 = .ok (.iload_n 1, 1) := by decide +kernel
theorem dL_year_3 : decode cL_year 3 = .ok (.iload_n 2, 1) := by decide +kernel
theorem dL_year_4 : decode cL_year 4 = .ok (.invokevirtual 62, 3) := by decide +kernel
theorem dL_year_7 : decode cL_year 7 = .ok (.i2l, 1) := by decide +kernel
theorem dL_year_8 : decode cL_year 8 = .ok (.putfield 13, 3) := by decide +kernel
theorem dL_year_11 : decode cL_year 11 = .ok (.goto 11, 3) := by decide +kernel
theorem dL_year_14 : decode cL_year 14 = .ok (.astore 4, 2) := by decide +kernel
theorem dL_year_16 : decode cL_year 16 = .ok (.iconst 1, 1) := by decide +kernel
theorem dL_year_17 : decode cL_year 17 = .ok (.ireturn, 1) := by decide +kernel
theorem dL_year_18 : decode cL_year 18 = .ok (.astore 4, 2) := by decide +kernel
theorem dL_year_20 : decode cL_year 20 = .ok (.iconst 2, 1) := by decide +kernel
theorem dL_year_21 : decode cL_year 21 = .ok (.ireturn, 1) := by decide +kernel
theorem dL_year_22 : decode cL_year 22 = .ok (.iconst 0, 1) := by decide +kernel
theorem dL_year_23 : decode cL_year 23 = .ok (.ireturn, 1) := by decide +kernel
theorem dL_later_0 : decode cL_later 0 = .ok (.aload 4, 2) := by decide +kernel
theorem dL_later_2 : decode cL_later 2 = .ok (.aload_n 0, 1) := by decide +kernel
theorem dL_later_3 : decode cL_later 3 = .ok (.iload_n 1, 1) := by decide +kernel
theorem dL_later_4 : decode cL_later 4 = .ok (.iload_n 2, 1) := by decide +kernel
theorem dL_later_5 : decode cL_later 5 = .ok (.iload_n 3, 1) := by decide +kernel
theorem dL_later_6 : decode cL_later 6 = .ok (.invokevirtual 65, 3) := by decide +kernel
theorem dL_later_9 : decode cL_later 9 = .ok (.i2l, 1) := by decide +kernel
theorem dL_later_10 : decode cL_later 10 = .ok (.putfield 13, 3) := by decide +kernel
theorem dL_later_13 : decode cL_later 13 = .ok (.goto 7, 3) := by decide +kernel
theorem dL_later_16 : decode cL_later 16 = .ok (.astore 5, 2) := by decide +kernel
theorem dL_later_18 : decode cL_later 18 = .ok (.iconst 1, 1) := by decide +kernel
theorem dL_later_19 : decode cL_later 19 = .ok (.ireturn, 1) := by decide +kernel
theorem dL_later_20 : decode cL_later 20 = .ok (.iconst 0, 1) := by decide +kernel
theorem dL_later_21 : decode cL_later 21 = .ok (.ireturn, 1) := by decide +kernel
theorem dL_yearUnits_0 : decode cL_yearUnits 0 = .ok (.aload 5, 2) := by decide +kernel
theorem dL_yearUnits_2 : decode cL_yearUnits 2 = .ok (.aload_n 0, 1) := by decide +kernel
theorem dL_yearUnits_3 : decode cL_yearUnits 3 = .ok (.iload_n 1, 1) := by decide +kernel
theorem dL_yearUnits_4 : decode cL_yearUnits 4 = .ok (.iload_n 2, 1) := by decide +kernel
theorem dL_yearUnits_5 : decode cL_yearUnits 5 = .ok (.iload_n 3, 1) := by decide +kernel
theorem dL_yearUnits_6 : decode cL_yearUnits 6 = .ok (.iload 4, 2) := by decide +kernel
theorem dL_yearUnits_8 : decode cL_yearUnits 8 = .ok (.invokevirtual 68, 3) := by decide +kernel
theorem dL_yearUnits_11 : decode cL_yearUnits 11 = .ok (.i2l, 1) := by decide +kernel
theorem dL_yearUnits_12 : decode cL_yearUnits 12 = .ok (.putfield 13, 3) := by decide +kernel
theorem dL_yearUnits_15 : decode cL_yearUnits 15 = .ok (.goto 11, 3) := by decide +kernel
theorem dL_yearUnits_18 : decode cL_yearUnits 18 = .ok (.astore 6, 2) := by decide +kernel
theorem dL_yearUnits_20 : decode cL_yearUnits 20 = .ok (.iconst 1, 1) := by decide +kernel
theorem dL_yearUnits_21 : decode cL_yearUnits 21 = .ok (.ireturn, 1) := by decide +kernel
theorem dL_yearUnits_22 : decode cL_yearUnits 22 = .ok (.astore 6, 2) := by decide +kernel
theorem dL_yearUnits_24 : decode cL_yearUnits 24 = .ok (.iconst 2, 1) := by decide +kernel
theorem dL_yearUnits_25 : decode cL_yearUnits 25 = .ok (.ireturn, 1) := by decide +kernel
theorem dL_yearUnits_26 : decode cL_yearUnits 26 = .ok (.iconst 0, 1) := by decide +kernel
theorem dL_yearUnits_27 : decode cL_yearUnits 27 = .ok (.ireturn, 1) := by decide +kernel
theorem dL_yearWith_0 : decode cL_yearWith 0 = .ok (.aload 4, 2) := by decide +kernel
theorem dL_yearWith_2 : decode cL_yearWith 2 = .ok (.aload_n 0, 1) := by decide +kernel
theorem dL_yearWith_3 : decode cL_yearWith 3 = .ok (.iload_n 1, 1) := by decide +kernel
theorem dL_yearWith_4 : decode cL_yearWith 4 = .ok (.iload_n 2, 1) := by decide +kernel
theorem dL_yearWith_5 : decode cL_yearWith 5 = .ok (.iload_n 3, 1) := by decide +kernel
theorem dL_yearWith_6 : decode cL_yearWith 6 = .ok (.invokevirtual 71, 3) := by decide +kernel
theorem dL_yearWith_9 : decode cL_yearWith 9 = .ok (.i2l, 1) := by decide +kernel
theorem dL_yearWith_10 : decode cL_yearWith 10 = .ok (.putfield 13, 3) := by decide +kernel
theorem dL_yearWith_13 : decode cL_yearWith 13 = .ok (.goto 11, 3) := by decide +kernel
theorem dL_yearWith_16 : decode cL_yearWith 16 = .ok (.astore 5, 2) := by decide +kernel
theorem dL_yearWith_18 : decode cL_yearWith 18 = .ok (.iconst 1, 1) := by decide +kernel
theorem dL_yearWith_19 : decode cL_yearWith 19 = .ok (.ireturn, 1) := by decide +kernel
theorem dL_yearWith_20 : decode cL_yearWith 20 = .ok (.astore 5, 2) := by decide +kernel
theorem dL_yearWith_22 : decode cL_yearWith 22 = .ok (.iconst 2, 1) := by decide +kernel
theorem dL_yearWith_23 : decode cL_yearWith 23 = .ok (.ireturn, 1) := by decide +kernel
theorem dL_yearWith_24 : decode cL_yearWith 24 = .ok (.iconst 0, 1) := by decide +kernel
theorem dL_yearWith_25 : decode cL_yearWith 25 = .ok (.ireturn, 1) := by decide +kernel
theorem dL_yearOf_0 : decode cL_yearOf 0 = .ok (.aload 4, 2) := by decide +kernel
theorem dL_yearOf_2 : decode cL_yearOf 2 = .ok (.aload_n 0, 1) := by decide +kernel
theorem dL_yearOf_3 : decode cL_yearOf 3 = .ok (.iload_n 1, 1) := by decide +kernel
theorem dL_yearOf_4 : decode cL_yearOf 4 = .ok (.iload_n 2, 1) := by decide +kernel
theorem dL_yearOf_5 : decode cL_yearOf 5 = .ok (.iload_n 3, 1) := by decide +kernel
theorem dL_yearOf_6 : decode cL_yearOf 6 = .ok (.invokevirtual 74, 3) := by decide +kernel
theorem dL_yearOf_9 : decode cL_yearOf 9 = .ok (.i2l, 1) := by decide +kernel
theorem dL_yearOf_10 : decode cL_yearOf 10 = .ok (.putfield 13, 3) := by decide +kernel
theorem dL_yearOf_13 : decode cL_yearOf 13 = .ok (.goto 7, 3) := by decide +kernel
theorem dL_yearOf_16 : decode cL_yearOf 16 = .ok (.astore 5, 2) := by decide +kernel
theorem dL_yearOf_18 : decode cL_yearOf 18 = .ok (.iconst 1, 1) := by decide +kernel
theorem dL_yearOf_19 : decode cL_yearOf 19 = .ok (.ireturn, 1) := by decide +kernel
theorem dL_yearOf_20 : decode cL_yearOf 20 = .ok (.iconst 0, 1) := by decide +kernel
theorem dL_yearOf_21 : decode cL_yearOf 21 = .ok (.ireturn, 1) := by decide +kernel
theorem dL_yearLike_0 : decode cL_yearLike 0 = .ok (.aload_n 3, 1) := by decide +kernel
theorem dL_yearLike_1 : decode cL_yearLike 1 = .ok (.aload_n 0, 1) := by decide +kernel
theorem dL_yearLike_2 : decode cL_yearLike 2 = .ok (.iload_n 1, 1) := by decide +kernel
theorem dL_yearLike_3 : decode cL_yearLike 3 = .ok (.iload_n 2, 1) := by decide +kernel
theorem dL_yearLike_4 : decode cL_yearLike 4 = .ok (.invokevirtual 78, 3) := by decide +kernel
theorem dL_yearLike_7 : decode cL_yearLike 7 = .ok (.i2l, 1) := by decide +kernel
theorem dL_yearLike_8 : decode cL_yearLike 8 = .ok (.putfield 13, 3) := by decide +kernel
theorem dL_yearLike_11 : decode cL_yearLike 11 = .ok (.goto 7, 3) := by decide +kernel
theorem dL_yearLike_14 : decode cL_yearLike 14 = .ok (.astore 4, 2) := by decide +kernel
theorem dL_yearLike_16 : decode cL_yearLike 16 = .ok (.iconst 1, 1) := by decide +kernel
theorem dL_yearLike_17 : decode cL_yearLike 17 = .ok (.ireturn, 1) := by decide +kernel
theorem dL_yearLike_18 : decode cL_yearLike 18 = .ok (.iconst 0, 1) := by decide +kernel
theorem dL_yearLike_19 : decode cL_yearLike 19 = .ok (.ireturn, 1) := by decide +kernel
theorem dL_feast_0 : decode cL_feast 0 = .ok (.aload 4, 2) := by decide +kernel
theorem dL_feast_2 : decode cL_feast 2 = .ok (.aload_n 0, 1) := by decide +kernel
theorem dL_feast_3 : decode cL_feast 3 = .ok (.iload_n 1, 1) := by decide +kernel
theorem dL_feast_4 : decode cL_feast 4 = .ok (.iload_n 2, 1) := by decide +kernel
theorem dL_feast_5 : decode cL_feast 5 = .ok (.iload_n 3, 1) := by decide +kernel
theorem dL_feast_6 : decode cL_feast 6 = .ok (.invokevirtual 81, 3) := by decide +kernel
theorem dL_feast_9 : decode cL_feast 9 = .ok (.i2l, 1) := by decide +kernel
theorem dL_feast_10 : decode cL_feast 10 = .ok (.putfield 13, 3) := by decide +kernel
theorem dL_feast_13 : decode cL_feast 13 = .ok (.goto 11, 3) := by decide +kernel
theorem dL_feast_16 : decode cL_feast 16 = .ok (.astore 5, 2) := by decide +kernel
theorem dL_feast_18 : decode cL_feast 18 = .ok (.iconst 1, 1) := by decide +kernel
theorem dL_feast_19 : decode cL_feast 19 = .ok (.ireturn, 1) := by decide +kernel
theorem dL_feast_20 : decode cL_feast 20 = .ok (.astore 5, 2) := by decide +kernel
theorem dL_feast_22 : decode cL_feast 22 = .ok (.iconst 2, 1) := by decide +kernel
theorem dL_feast_23 : decode cL_feast 23 = .ok (.ireturn, 1) := by decide +kernel
theorem dL_feast_24 : decode cL_feast 24 = .ok (.iconst 0, 1) := by decide +kernel
theorem dL_feast_25 : decode cL_feast 25 = .ok (.ireturn, 1) := by decide +kernel
theorem dL_feastRound_0 : decode cL_feastRound 0 = .ok (.aload 4, 2) := by decide +kernel
theorem dL_feastRound_2 : decode cL_feastRound 2 = .ok (.aload_n 0, 1) := by decide +kernel
theorem dL_feastRound_3 : decode cL_feastRound 3 = .ok (.iload_n 1, 1) := by decide +kernel
theorem dL_feastRound_4 : decode cL_feastRound 4 = .ok (.iload_n 2, 1) := by decide +kernel
theorem dL_feastRound_5 : decode cL_feastRound 5 = .ok (.iload_n 3, 1) := by decide +kernel
theorem dL_feastRound_6 : decode cL_feastRound 6 = .ok (.invokevirtual 84, 3) := by decide +kernel
theorem dL_feastRound_9 : decode cL_feastRound 9 = .ok (.i2l, 1) := by decide +kernel
theorem dL_feastRound_10 : decode cL_feastRound 10 = .ok (.putfield 13, 3) := by decide +kernel
theorem dL_feastRound_13 : decode cL_feastRound 13 = .ok (.goto 11, 3) := by decide +kernel
theorem dL_feastRound_16 : decode cL_feastRound 16 = .ok (.astore 5, 2) := by decide +kernel
theorem dL_feastRound_18 : decode cL_feastRound 18 = .ok (.iconst 1, 1) := by decide +kernel
theorem dL_feastRound_19 : decode cL_feastRound 19 = .ok (.ireturn, 1) := by decide +kernel
theorem dL_feastRound_20 : decode cL_feastRound 20 = .ok (.astore 5, 2) := by decide +kernel
theorem dL_feastRound_22 : decode cL_feastRound 22 = .ok (.iconst 2, 1) := by decide +kernel
theorem dL_feastRound_23 : decode cL_feastRound 23 = .ok (.ireturn, 1) := by decide +kernel
theorem dL_feastRound_24 : decode cL_feastRound 24 = .ok (.iconst 0, 1) := by decide +kernel
theorem dL_feastRound_25 : decode cL_feastRound 25 = .ok (.ireturn, 1) := by decide +kernel
theorem dL_feastMonth_0 : decode cL_feastMonth 0 = .ok (.aload 4, 2) := by decide +kernel
theorem dL_feastMonth_2 : decode cL_feastMonth 2 = .ok (.aload_n 0, 1) := by decide +kernel
theorem dL_feastMonth_3 : decode cL_feastMonth 3 = .ok (.iload_n 1, 1) := by decide +kernel
theorem dL_feastMonth_4 : decode cL_feastMonth 4 = .ok (.iload_n 2, 1) := by decide +kernel
theorem dL_feastMonth_5 : decode cL_feastMonth 5 = .ok (.iload_n 3, 1) := by decide +kernel
theorem dL_feastMonth_6 : decode cL_feastMonth 6 = .ok (.invokevirtual 87, 3) := by decide +kernel
theorem dL_feastMonth_9 : decode cL_feastMonth 9 = .ok (.i2l, 1) := by decide +kernel
theorem dL_feastMonth_10 : decode cL_feastMonth 10 = .ok (.putfield 13, 3) := by decide +kernel
theorem dL_feastMonth_13 : decode cL_feastMonth 13 = .ok (.goto 11, 3) := by decide +kernel
theorem dL_feastMonth_16 : decode cL_feastMonth 16 = .ok (.astore 5, 2) := by decide +kernel
theorem dL_feastMonth_18 : decode cL_feastMonth 18 = .ok (.iconst 1, 1) := by decide +kernel
theorem dL_feastMonth_19 : decode cL_feastMonth 19 = .ok (.ireturn, 1) := by decide +kernel
theorem dL_feastMonth_20 : decode cL_feastMonth 20 = .ok (.astore 5, 2) := by decide +kernel
theorem dL_feastMonth_22 : decode cL_feastMonth 22 = .ok (.iconst 2, 1) := by decide +kernel
theorem dL_feastMonth_23 : decode cL_feastMonth 23 = .ok (.ireturn, 1) := by decide +kernel
theorem dL_feastMonth_24 : decode cL_feastMonth 24 = .ok (.iconst 0, 1) := by decide +kernel
theorem dL_feastMonth_25 : decode cL_feastMonth 25 = .ok (.ireturn, 1) := by decide +kernel
theorem dL_feastDay_0 : decode cL_feastDay 0 = .ok (.aload 4, 2) := by decide +kernel
theorem dL_feastDay_2 : decode cL_feastDay 2 = .ok (.aload_n 0, 1) := by decide +kernel
theorem dL_feastDay_3 : decode cL_feastDay 3 = .ok (.iload_n 1, 1) := by decide +kernel
theorem dL_feastDay_4 : decode cL_feastDay 4 = .ok (.iload_n 2, 1) := by decide +kernel
theorem dL_feastDay_5 : decode cL_feastDay 5 = .ok (.iload_n 3, 1) := by decide +kernel
theorem dL_feastDay_6 : decode cL_feastDay 6 = .ok (.invokevirtual 90, 3) := by decide +kernel
theorem dL_feastDay_9 : decode cL_feastDay 9 = .ok (.i2l, 1) := by decide +kernel
theorem dL_feastDay_10 : decode cL_feastDay 10 = .ok (.putfield 13, 3) := by decide +kernel
theorem dL_feastDay_13 : decode cL_feastDay 13 = .ok (.goto 11, 3) := by decide +kernel
theorem dL_feastDay_16 : decode cL_feastDay 16 = .ok (.astore 5, 2) := by decide +kernel
theorem dL_feastDay_18 : decode cL_feastDay 18 = .ok (.iconst 1, 1) := by decide +kernel
theorem dL_feastDay_19 : decode cL_feastDay 19 = .ok (.ireturn, 1) := by decide +kernel
theorem dL_feastDay_20 : decode cL_feastDay 20 = .ok (.astore 5, 2) := by decide +kernel
theorem dL_feastDay_22 : decode cL_feastDay 22 = .ok (.iconst 2, 1) := by decide +kernel
theorem dL_feastDay_23 : decode cL_feastDay 23 = .ok (.ireturn, 1) := by decide +kernel
theorem dL_feastDay_24 : decode cL_feastDay 24 = .ok (.iconst 0, 1) := by decide +kernel
theorem dL_feastDay_25 : decode cL_feastDay 25 = .ok (.ireturn, 1) := by decide +kernel
theorem dL_feastOf_0 : decode cL_feastOf 0 = .ok (.aload_n 3, 1) := by decide +kernel
theorem dL_feastOf_1 : decode cL_feastOf 1 = .ok (.aload_n 0, 1) := by decide +kernel
theorem dL_feastOf_2 : decode cL_feastOf 2 = .ok (.iload_n 1, 1) := by decide +kernel
theorem dL_feastOf_3 : decode cL_feastOf 3 = .ok (.iload_n 2, 1) := by decide +kernel
theorem dL_feastOf_4 : decode cL_feastOf 4 = .ok (.invokevirtual 93, 3) := by decide +kernel
theorem dL_feastOf_7 : decode cL_feastOf 7 = .ok (.i2l, 1) := by decide +kernel
theorem dL_feastOf_8 : decode cL_feastOf 8 = .ok (.putfield 13, 3) := by decide +kernel
theorem dL_feastOf_11 : decode cL_feastOf 11 = .ok (.goto 7, 3) := by decide +kernel
theorem dL_feastOf_14 : decode cL_feastOf 14 = .ok (.astore 4, 2) := by decide +kernel
theorem dL_feastOf_16 : decode cL_feastOf 16 = .ok (.iconst 1, 1) := by decide +kernel
theorem dL_feastOf_17 : decode cL_feastOf 17 = .ok (.ireturn, 1) := by decide +kernel
theorem dL_feastOf_18 : decode cL_feastOf 18 = .ok (.iconst 0, 1) := by decide +kernel
theorem dL_feastOf_19 : decode cL_feastOf 19 = .ok (.ireturn, 1) := by decide +kernel
theorem dL_feastLike_0 : decode cL_feastLike 0 = .ok (.aload_n 3, 1) := by decide +kernel
theorem dL_feastLike_1 : decode cL_feastLike 1 = .ok (.aload_n 0, 1) := by decide +kernel
theorem dL_feastLike_2 : decode cL_feastLike 2 = .ok (.iload_n 1, 1) := by decide +kernel
theorem dL_feastLike_3 : decode cL_feastLike 3 = .ok (.iload_n 2, 1) := by decide +kernel
theorem dL_feastLike_4 : decode cL_feastLike 4 = .ok (.invokevirtual 96, 3) := by decide +kernel
theorem dL_feastLike_7 : decode cL_feastLike 7 = .ok (.i2l, 1) := by decide +kernel
theorem dL_feastLike_8 : decode cL_feastLike 8 = .ok (.putfield 13, 3) := by decide +kernel
theorem dL_feastLike_11 : decode cL_feastLike 11 = .ok (.goto 7, 3) := by decide +kernel
theorem dL_feastLike_14 : decode cL_feastLike 14 = .ok (.astore 4, 2) := by decide +kernel
theorem dL_feastLike_16 : decode cL_feastLike 16 = .ok (.iconst 1, 1) := by decide +kernel
theorem dL_feastLike_17 : decode cL_feastLike 17 = .ok (.ireturn, 1) := by decide +kernel
theorem dL_feastLike_18 : decode cL_feastLike 18 = .ok (.iconst 0, 1) := by decide +kernel
theorem dL_feastLike_19 : decode cL_feastLike 19 = .ok (.ireturn, 1) := by decide +kernel
theorem dL_dayAt_0 : decode cL_dayAt 0 = .ok (.aload 4, 2) := by decide +kernel
theorem dL_dayAt_2 : decode cL_dayAt 2 = .ok (.aload_n 0, 1) := by decide +kernel
theorem dL_dayAt_3 : decode cL_dayAt 3 = .ok (.iload_n 1, 1) := by decide +kernel
theorem dL_dayAt_4 : decode cL_dayAt 4 = .ok (.iload_n 2, 1) := by decide +kernel
theorem dL_dayAt_5 : decode cL_dayAt 5 = .ok (.iload_n 3, 1) := by decide +kernel
theorem dL_dayAt_6 : decode cL_dayAt 6 = .ok (.invokevirtual 99, 3) := by decide +kernel
theorem dL_dayAt_9 : decode cL_dayAt 9 = .ok (.i2l, 1) := by decide +kernel
theorem dL_dayAt_10 : decode cL_dayAt 10 = .ok (.putfield 13, 3) := by decide +kernel
theorem dL_dayAt_13 : decode cL_dayAt 13 = .ok (.goto 11, 3) := by decide +kernel
theorem dL_dayAt_16 : decode cL_dayAt 16 = .ok (.astore 5, 2) := by decide +kernel
theorem dL_dayAt_18 : decode cL_dayAt 18 = .ok (.iconst 1, 1) := by decide +kernel
theorem dL_dayAt_19 : decode cL_dayAt 19 = .ok (.ireturn, 1) := by decide +kernel
theorem dL_dayAt_20 : decode cL_dayAt 20 = .ok (.astore 5, 2) := by decide +kernel
theorem dL_dayAt_22 : decode cL_dayAt 22 = .ok (.iconst 2, 1) := by decide +kernel
theorem dL_dayAt_23 : decode cL_dayAt 23 = .ok (.ireturn, 1) := by decide +kernel
theorem dL_dayAt_24 : decode cL_dayAt 24 = .ok (.iconst 0, 1) := by decide +kernel
theorem dL_dayAt_25 : decode cL_dayAt 25 = .ok (.ireturn, 1) := by decide +kernel
theorem dL_dayEnd_0 : decode cL_dayEnd 0 = .ok (.aload_n 3, 1) := by decide +kernel
theorem dL_dayEnd_1 : decode cL_dayEnd 1 = .ok (.aload_n 0, 1) := by decide +kernel
theorem dL_dayEnd_2 : decode cL_dayEnd 2 = .ok (.iload_n 1, 1) := by decide +kernel
theorem dL_dayEnd_3 : decode cL_dayEnd 3 = .ok (.iload_n 2, 1) := by decide +kernel
theorem dL_dayEnd_4 : decode cL_dayEnd 4 = .ok (.invokevirtual 102, 3) := by decide +kernel
theorem dL_dayEnd_7 : decode cL_dayEnd 7 = .ok (.i2l, 1) := by decide +kernel
theorem dL_dayEnd_8 : decode cL_dayEnd 8 = .ok (.putfield 13, 3) := by decide +kernel
theorem dL_dayEnd_11 : decode cL_dayEnd 11 = .ok (.goto 7, 3) := by decide +kernel
theorem dL_dayEnd_14 : decode cL_dayEnd 14 = .ok (.astore 4, 2) := by decide +kernel
theorem dL_dayEnd_16 : decode cL_dayEnd 16 = .ok (.iconst 1, 1) := by decide +kernel
theorem dL_dayEnd_17 : decode cL_dayEnd 17 = .ok (.ireturn, 1) := by decide +kernel
theorem dL_dayEnd_18 : decode cL_dayEnd 18 = .ok (.iconst 0, 1) := by decide +kernel
theorem dL_dayEnd_19 : decode cL_dayEnd 19 = .ok (.ireturn, 1) := by decide +kernel
theorem dL_dayInYear_0 : decode cL_dayInYear 0 = .ok (.aload 4, 2) := by decide +kernel
theorem dL_dayInYear_2 : decode cL_dayInYear 2 = .ok (.aload_n 0, 1) := by decide +kernel
theorem dL_dayInYear_3 : decode cL_dayInYear 3 = .ok (.iload_n 1, 1) := by decide +kernel
theorem dL_dayInYear_4 : decode cL_dayInYear 4 = .ok (.iload_n 2, 1) := by decide +kernel
theorem dL_dayInYear_5 : decode cL_dayInYear 5 = .ok (.iload_n 3, 1) := by decide +kernel
theorem dL_dayInYear_6 : decode cL_dayInYear 6 = .ok (.invokevirtual 105, 3) := by decide +kernel
theorem dL_dayInYear_9 : decode cL_dayInYear 9 = .ok (.i2l, 1) := by decide +kernel
theorem dL_dayInYear_10 : decode cL_dayInYear 10 = .ok (.putfield 13, 3) := by decide +kernel
theorem dL_dayInYear_13 : decode cL_dayInYear 13 = .ok (.goto 11, 3) := by decide +kernel
theorem dL_dayInYear_16 : decode cL_dayInYear 16 = .ok (.astore 5, 2) := by decide +kernel
theorem dL_dayInYear_18 : decode cL_dayInYear 18 = .ok (.iconst 1, 1) := by decide +kernel
theorem dL_dayInYear_19 : decode cL_dayInYear 19 = .ok (.ireturn, 1) := by decide +kernel
theorem dL_dayInYear_20 : decode cL_dayInYear 20 = .ok (.astore 5, 2) := by decide +kernel
theorem dL_dayInYear_22 : decode cL_dayInYear 22 = .ok (.iconst 2, 1) := by decide +kernel
theorem dL_dayInYear_23 : decode cL_dayInYear 23 = .ok (.ireturn, 1) := by decide +kernel
theorem dL_dayInYear_24 : decode cL_dayInYear 24 = .ok (.iconst 0, 1) := by decide +kernel
theorem dL_dayInYear_25 : decode cL_dayInYear 25 = .ok (.ireturn, 1) := by decide +kernel
theorem dL_dayOfFeast_0 : decode cL_dayOfFeast 0 = .ok (.aload 4, 2) := by decide +kernel
theorem dL_dayOfFeast_2 : decode cL_dayOfFeast 2 = .ok (.aload_n 0, 1) := by decide +kernel
theorem dL_dayOfFeast_3 : decode cL_dayOfFeast 3 = .ok (.iload_n 1, 1) := by decide +kernel
theorem dL_dayOfFeast_4 : decode cL_dayOfFeast 4 = .ok (.iload_n 2, 1) := by decide +kernel
theorem dL_dayOfFeast_5 : decode cL_dayOfFeast 5 = .ok (.iload_n 3, 1) := by decide +kernel
theorem dL_dayOfFeast_6 : decode cL_dayOfFeast 6 = .ok (.invokevirtual 108, 3) := by decide +kernel
theorem dL_dayOfFeast_9 : decode cL_dayOfFeast 9 = .ok (.i2l, 1) := by decide +kernel
theorem dL_dayOfFeast_10 : decode cL_dayOfFeast 10 = .ok (.putfield 13, 3) := by decide +kernel
theorem dL_dayOfFeast_13 : decode cL_dayOfFeast 13 = .ok (.goto 11, 3) := by decide +kernel
theorem dL_dayOfFeast_16 : decode cL_dayOfFeast 16 = .ok (.astore 5, 2) := by decide +kernel
theorem dL_dayOfFeast_18 : decode cL_dayOfFeast 18 = .ok (.iconst 1, 1) := by decide +kernel
theorem dL_dayOfFeast_19 : decode cL_dayOfFeast 19 = .ok (.ireturn, 1) := by decide +kernel
theorem dL_dayOfFeast_20 : decode cL_dayOfFeast 20 = .ok (.astore 5, 2) := by decide +kernel
theorem dL_dayOfFeast_22 : decode cL_dayOfFeast 22 = .ok (.iconst 2, 1) := by decide +kernel
theorem dL_dayOfFeast_23 : decode cL_dayOfFeast 23 = .ok (.ireturn, 1) := by decide +kernel
theorem dL_dayOfFeast_24 : decode cL_dayOfFeast 24 = .ok (.iconst 0, 1) := by decide +kernel
theorem dL_dayOfFeast_25 : decode cL_dayOfFeast 25 = .ok (.ireturn, 1) := by decide +kernel
theorem dL_dayOfYear_0 : decode cL_dayOfYear 0 = .ok (.aload 4, 2) := by decide +kernel
theorem dL_dayOfYear_2 : decode cL_dayOfYear 2 = .ok (.aload_n 0, 1) := by decide +kernel
theorem dL_dayOfYear_3 : decode cL_dayOfYear 3 = .ok (.iload_n 1, 1) := by decide +kernel
theorem dL_dayOfYear_4 : decode cL_dayOfYear 4 = .ok (.iload_n 2, 1) := by decide +kernel
theorem dL_dayOfYear_5 : decode cL_dayOfYear 5 = .ok (.iload_n 3, 1) := by decide +kernel
theorem dL_dayOfYear_6 : decode cL_dayOfYear 6 = .ok (.invokevirtual 111, 3) := by decide +kernel
theorem dL_dayOfYear_9 : decode cL_dayOfYear 9 = .ok (.i2l, 1) := by decide +kernel
theorem dL_dayOfYear_10 : decode cL_dayOfYear 10 = .ok (.putfield 13, 3) := by decide +kernel
theorem dL_dayOfYear_13 : decode cL_dayOfYear 13 = .ok (.goto 7, 3) := by decide +kernel
theorem dL_dayOfYear_16 : decode cL_dayOfYear 16 = .ok (.astore 5, 2) := by decide +kernel
theorem dL_dayOfYear_18 : decode cL_dayOfYear 18 = .ok (.iconst 1, 1) := by decide +kernel
theorem dL_dayOfYear_19 : decode cL_dayOfYear 19 = .ok (.ireturn, 1) := by decide +kernel
theorem dL_dayOfYear_20 : decode cL_dayOfYear 20 = .ok (.iconst 0, 1) := by decide +kernel
theorem dL_dayOfYear_21 : decode cL_dayOfYear 21 = .ok (.ireturn, 1) := by decide +kernel
theorem dL_ofLeaf_0 : decode cL_ofLeaf 0 = .ok (.aload_n 3, 1) := by decide +kernel
theorem dL_ofLeaf_1 : decode cL_ofLeaf 1 = .ok (.aload_n 0, 1) := by decide +kernel
theorem dL_ofLeaf_2 : decode cL_ofLeaf 2 = .ok (.iload_n 1, 1) := by decide +kernel
theorem dL_ofLeaf_3 : decode cL_ofLeaf 3 = .ok (.iload_n 2, 1) := by decide +kernel
theorem dL_ofLeaf_4 : decode cL_ofLeaf 4 = .ok (.invokevirtual 114, 3) := by decide +kernel
theorem dL_ofLeaf_7 : decode cL_ofLeaf 7 = .ok (.i2l, 1) := by decide +kernel
theorem dL_ofLeaf_8 : decode cL_ofLeaf 8 = .ok (.putfield 13, 3) := by decide +kernel
theorem dL_ofLeaf_11 : decode cL_ofLeaf 11 = .ok (.goto 11, 3) := by decide +kernel
theorem dL_ofLeaf_14 : decode cL_ofLeaf 14 = .ok (.astore 4, 2) := by decide +kernel
theorem dL_ofLeaf_16 : decode cL_ofLeaf 16 = .ok (.iconst 1, 1) := by decide +kernel
theorem dL_ofLeaf_17 : decode cL_ofLeaf 17 = .ok (.ireturn, 1) := by decide +kernel
theorem dL_ofLeaf_18 : decode cL_ofLeaf 18 = .ok (.astore 4, 2) := by decide +kernel
theorem dL_ofLeaf_20 : decode cL_ofLeaf 20 = .ok (.iconst 2, 1) := by decide +kernel
theorem dL_ofLeaf_21 : decode cL_ofLeaf 21 = .ok (.ireturn, 1) := by decide +kernel
theorem dL_ofLeaf_22 : decode cL_ofLeaf 22 = .ok (.iconst 0, 1) := by decide +kernel
theorem dL_ofLeaf_23 : decode cL_ofLeaf 23 = .ok (.ireturn, 1) := by decide +kernel
theorem dL_count_0 : decode cL_count 0 = .ok (.aload_n 2, 1) := by decide +kernel
theorem dL_count_1 : decode cL_count 1 = .ok (.aload_n 0, 1) := by decide +kernel
theorem dL_count_2 : decode cL_count 2 = .ok (.iload_n 1, 1) := by decide +kernel
theorem dL_count_3 : decode cL_count 3 = .ok (.invokevirtual 117, 3) := by decide +kernel
theorem dL_count_6 : decode cL_count 6 = .ok (.putfield 121, 3) := by decide +kernel
theorem dL_count_9 : decode cL_count 9 = .ok (.goto 6, 3) := by decide +kernel
theorem dL_count_12 : decode cL_count 12 = .ok (.astore_n 3, 1) := by decide +kernel
theorem dL_count_13 : decode cL_count 13 = .ok (.iconst 1, 1) := by decide +kernel
theorem dL_count_14 : decode cL_count 14 = .ok (.ireturn, 1) := by decide +kernel
theorem dL_count_15 : decode cL_count 15 = .ok (.iconst 0, 1) := by decide +kernel
theorem dL_count_16 : decode cL_count 16 = .ok (.ireturn, 1) := by decide +kernel
theorem dL_hasDay_0 : decode cL_hasDay 0 = .ok (.aload_n 3, 1) := by decide +kernel
theorem dL_hasDay_1 : decode cL_hasDay 1 = .ok (.aload_n 0, 1) := by decide +kernel
theorem dL_hasDay_2 : decode cL_hasDay 2 = .ok (.iload_n 1, 1) := by decide +kernel
theorem dL_hasDay_3 : decode cL_hasDay 3 = .ok (.iload_n 2, 1) := by decide +kernel
theorem dL_hasDay_4 : decode cL_hasDay 4 = .ok (.invokevirtual 125, 3) := by decide +kernel
theorem dL_hasDay_7 : decode cL_hasDay 7 = .ok (.ifCond .eq 7, 3) := by decide +kernel
theorem dL_hasDay_10 : decode cL_hasDay 10 = .ok (.lconst 1, 1) := by decide +kernel
theorem dL_hasDay_11 : decode cL_hasDay 11 = .ok (.goto 4, 3) := by decide +kernel
theorem dL_hasDay_14 : decode cL_hasDay 14 = .ok (.lconst 0, 1) := by decide +kernel
theorem dL_hasDay_15 : decode cL_hasDay 15 = .ok (.putfield 13, 3) := by decide +kernel
theorem dL_hasDay_18 : decode cL_hasDay 18 = .ok (.goto 7, 3) := by decide +kernel
theorem dL_hasDay_21 : decode cL_hasDay 21 = .ok (.astore 4, 2) := by decide +kernel
theorem dL_hasDay_23 : decode cL_hasDay 23 = .ok (.iconst 1, 1) := by decide +kernel
theorem dL_hasDay_24 : decode cL_hasDay 24 = .ok (.ireturn, 1) := by decide +kernel
theorem dL_hasDay_25 : decode cL_hasDay 25 = .ok (.iconst 0, 1) := by decide +kernel
theorem dL_hasDay_26 : decode cL_hasDay 26 = .ok (.ireturn, 1) := by decide +kernel
theorem dL_leafOrder_0 : decode cL_leafOrder 0 = .ok (.aload 4, 2) := by decide +kernel
theorem dL_leafOrder_2 : decode cL_leafOrder 2 = .ok (.aload_n 0, 1) := by decide +kernel
theorem dL_leafOrder_3 : decode cL_leafOrder 3 = .ok (.iload_n 1, 1) := by decide +kernel
theorem dL_leafOrder_4 : decode cL_leafOrder 4 = .ok (.iload_n 2, 1) := by decide +kernel
theorem dL_leafOrder_5 : decode cL_leafOrder 5 = .ok (.iload_n 3, 1) := by decide +kernel
theorem dL_leafOrder_6 : decode cL_leafOrder 6 = .ok (.invokevirtual 129, 3) := by decide +kernel
theorem dL_leafOrder_9 : decode cL_leafOrder 9 = .ok (.i2l, 1) := by decide +kernel
theorem dL_leafOrder_10 : decode cL_leafOrder 10 = .ok (.putfield 13, 3) := by decide +kernel
theorem dL_leafOrder_13 : decode cL_leafOrder 13 = .ok (.goto 11, 3) := by decide +kernel
theorem dL_leafOrder_16 : decode cL_leafOrder 16 = .ok (.astore 5, 2) := by decide +kernel
theorem dL_leafOrder_18 : decode cL_leafOrder 18 = .ok (.iconst 1, 1) := by decide +kernel
theorem dL_leafOrder_19 : decode cL_leafOrder 19 = .ok (.ireturn, 1) := by decide +kernel
theorem dL_leafOrder_20 : decode cL_leafOrder 20 = .ok (.astore 5, 2) := by decide +kernel
theorem dL_leafOrder_22 : decode cL_leafOrder 22 = .ok (.iconst 2, 1) := by decide +kernel
theorem dL_leafOrder_23 : decode cL_leafOrder 23 = .ok (.ireturn, 1) := by decide +kernel
theorem dL_leafOrder_24 : decode cL_leafOrder 24 = .ok (.iconst 0, 1) := by decide +kernel
theorem dL_leafOrder_25 : decode cL_leafOrder 25 = .ok (.ireturn, 1) := by decide +kernel
theorem dL_isLeaf_0 : decode cL_isLeaf 0 = .ok (.aload 4, 2) := by decide +kernel
theorem dL_isLeaf_2 : decode cL_isLeaf 2 = .ok (.aload_n 0, 1) := by decide +kernel
theorem dL_isLeaf_3 : decode cL_isLeaf 3 = .ok (.iload_n 1, 1) := by decide +kernel
theorem dL_isLeaf_4 : decode cL_isLeaf 4 = .ok (.iload_n 2, 1) := by decide +kernel
theorem dL_isLeaf_5 : decode cL_isLeaf 5 = .ok (.iload_n 3, 1) := by decide +kernel
theorem dL_isLeaf_6 : decode cL_isLeaf 6 = .ok (.invokevirtual 132, 3) := by decide +kernel
theorem dL_isLeaf_9 : decode cL_isLeaf 9 = .ok (.ifCond .eq 7, 3) := by decide +kernel
theorem dL_isLeaf_12 : decode cL_isLeaf 12 = .ok (.lconst 1, 1) := by decide +kernel
theorem dL_isLeaf_13 : decode cL_isLeaf 13 = .ok (.goto 4, 3) := by decide +kernel
theorem dL_isLeaf_16 : decode cL_isLeaf 16 = .ok (.lconst 0, 1) := by decide +kernel
theorem dL_isLeaf_17 : decode cL_isLeaf 17 = .ok (.putfield 13, 3) := by decide +kernel
theorem dL_isLeaf_20 : decode cL_isLeaf 20 = .ok (.goto 11, 3) := by decide +kernel
theorem dL_isLeaf_23 : decode cL_isLeaf 23 = .ok (.astore 5, 2) := by decide +kernel
theorem dL_isLeaf_25 : decode cL_isLeaf 25 = .ok (.iconst 1, 1) := by decide +kernel
theorem dL_isLeaf_26 : decode cL_isLeaf 26 = .ok (.ireturn, 1) := by decide +kernel
theorem dL_isLeaf_27 : decode cL_isLeaf 27 = .ok (.astore 5, 2) := by decide +kernel
theorem dL_isLeaf_29 : decode cL_isLeaf 29 = .ok (.iconst 2, 1) := by decide +kernel
theorem dL_isLeaf_30 : decode cL_isLeaf 30 = .ok (.ireturn, 1) := by decide +kernel
theorem dL_isLeaf_31 : decode cL_isLeaf 31 = .ok (.iconst 0, 1) := by decide +kernel
theorem dL_isLeaf_32 : decode cL_isLeaf 32 = .ok (.ireturn, 1) := by decide +kernel
theorem dL_leafTo_0 : decode cL_leafTo 0 = .ok (.aload 5, 2) := by decide +kernel
theorem dL_leafTo_2 : decode cL_leafTo 2 = .ok (.aload_n 0, 1) := by decide +kernel
theorem dL_leafTo_3 : decode cL_leafTo 3 = .ok (.iload_n 1, 1) := by decide +kernel
theorem dL_leafTo_4 : decode cL_leafTo 4 = .ok (.iload_n 2, 1) := by decide +kernel
theorem dL_leafTo_5 : decode cL_leafTo 5 = .ok (.iload_n 3, 1) := by decide +kernel
theorem dL_leafTo_6 : decode cL_leafTo 6 = .ok (.iload 4, 2) := by decide +kernel
theorem dL_leafTo_8 : decode cL_leafTo 8 = .ok (.invokevirtual 136, 3) := by decide +kernel
theorem dL_leafTo_11 : decode cL_leafTo 11 = .ok (.putfield 121, 3) := by decide +kernel
theorem dL_leafTo_14 : decode cL_leafTo 14 = .ok (.goto 11, 3) := by decide +kernel
theorem dL_leafTo_17 : decode cL_leafTo 17 = .ok (.astore 6, 2) := by decide +kernel
theorem dL_leafTo_19 : decode cL_leafTo 19 = .ok (.iconst 1, 1) := by decide +kernel
theorem dL_leafTo_20 : decode cL_leafTo 20 = .ok (.ireturn, 1) := by decide +kernel
theorem dL_leafTo_21 : decode cL_leafTo 21 = .ok (.astore 6, 2) := by decide +kernel
theorem dL_leafTo_23 : decode cL_leafTo 23 = .ok (.iconst 2, 1) := by decide +kernel
theorem dL_leafTo_24 : decode cL_leafTo 24 = .ok (.ireturn, 1) := by decide +kernel
theorem dL_leafTo_25 : decode cL_leafTo 25 = .ok (.iconst 0, 1) := by decide +kernel
theorem dL_leafTo_26 : decode cL_leafTo 26 = .ok (.ireturn, 1) := by decide +kernel
theorem dL_ofYear_0 : decode cL_ofYear 0 = .ok (.aload_n 3, 1) := by decide +kernel
theorem dL_ofYear_1 : decode cL_ofYear 1 = .ok (.aload_n 0, 1) := by decide +kernel
theorem dL_ofYear_2 : decode cL_ofYear 2 = .ok (.iload_n 1, 1) := by decide +kernel
theorem dL_ofYear_3 : decode cL_ofYear 3 = .ok (.iload_n 2, 1) := by decide +kernel
theorem dL_ofYear_4 : decode cL_ofYear 4 = .ok (.invokevirtual 140, 3) := by decide +kernel
theorem dL_ofYear_7 : decode cL_ofYear 7 = .ok (.i2l, 1) := by decide +kernel
theorem dL_ofYear_8 : decode cL_ofYear 8 = .ok (.putfield 13, 3) := by decide +kernel
theorem dL_ofYear_11 : decode cL_ofYear 11 = .ok (.goto 11, 3) := by decide +kernel
theorem dL_ofYear_14 : decode cL_ofYear 14 = .ok (.astore 4, 2) := by decide +kernel
theorem dL_ofYear_16 : decode cL_ofYear 16 = .ok (.iconst 1, 1) := by decide +kernel
theorem dL_ofYear_17 : decode cL_ofYear 17 = .ok (.ireturn, 1) := by decide +kernel
theorem dL_ofYear_18 : decode cL_ofYear 18 = .ok (.astore 4, 2) := by decide +kernel
theorem dL_ofYear_20 : decode cL_ofYear 20 = .ok (.iconst 2, 1) := by decide +kernel
theorem dL_ofYear_21 : decode cL_ofYear 21 = .ok (.ireturn, 1) := by decide +kernel
theorem dL_ofYear_22 : decode cL_ofYear 22 = .ok (.iconst 0, 1) := by decide +kernel
theorem dL_ofYear_23 : decode cL_ofYear 23 = .ok (.ireturn, 1) := by decide +kernel
theorem dL_hasFeast_0 : decode cL_hasFeast 0 = .ok (.aload 4, 2) := by decide +kernel
theorem dL_hasFeast_2 : decode cL_hasFeast 2 = .ok (.aload_n 0, 1) := by decide +kernel
theorem dL_hasFeast_3 : decode cL_hasFeast 3 = .ok (.iload_n 1, 1) := by decide +kernel
theorem dL_hasFeast_4 : decode cL_hasFeast 4 = .ok (.iload_n 2, 1) := by decide +kernel
theorem dL_hasFeast_5 : decode cL_hasFeast 5 = .ok (.iload_n 3, 1) := by decide +kernel
theorem dL_hasFeast_6 : decode cL_hasFeast 6 = .ok (.invokevirtual 143, 3) := by decide +kernel
theorem dL_hasFeast_9 : decode cL_hasFeast 9 = .ok (.ifCond .eq 7, 3) := by decide +kernel
theorem dL_hasFeast_12 : decode cL_hasFeast 12 = .ok (.lconst 1, 1) := by decide +kernel
theorem dL_hasFeast_13 : decode cL_hasFeast 13 = .ok (.goto 4, 3) := by decide +kernel
theorem dL_hasFeast_16 : decode cL_hasFeast 16 = .ok (.lconst 0, 1) := by decide +kernel
theorem dL_hasFeast_17 : decode cL_hasFeast 17 = .ok (.putfield 13, 3) := by decide +kernel
theorem dL_hasFeast_20 : decode cL_hasFeast 20 = .ok (.goto 7, 3) := by decide +kernel
theorem dL_hasFeast_23 : decode cL_hasFeast 23 = .ok (.astore 5, 2) := by decide +kernel
theorem dL_hasFeast_25 : decode cL_hasFeast 25 = .ok (.iconst 1, 1) := by decide +kernel
theorem dL_hasFeast_26 : decode cL_hasFeast 26 = .ok (.ireturn, 1) := by decide +kernel
theorem dL_hasFeast_27 : decode cL_hasFeast 27 = .ok (.iconst 0, 1) := by decide +kernel
theorem dL_hasFeast_28 : decode cL_hasFeast 28 = .ok (.ireturn, 1) := by decide +kernel
theorem dL_yearOrder_0 : decode cL_yearOrder 0 = .ok (.aload 4, 2) := by decide +kernel
theorem dL_yearOrder_2 : decode cL_yearOrder 2 = .ok (.aload_n 0, 1) := by decide +kernel
theorem dL_yearOrder_3 : decode cL_yearOrder 3 = .ok (.iload_n 1, 1) := by decide +kernel
theorem dL_yearOrder_4 : decode cL_yearOrder 4 = .ok (.iload_n 2, 1) := by decide +kernel
theorem dL_yearOrder_5 : decode cL_yearOrder 5 = .ok (.iload_n 3, 1) := by decide +kernel
theorem dL_yearOrder_6 : decode cL_yearOrder 6 = .ok (.invokevirtual 147, 3) := by decide +kernel
theorem dL_yearOrder_9 : decode cL_yearOrder 9 = .ok (.i2l, 1) := by decide +kernel
theorem dL_yearOrder_10 : decode cL_yearOrder 10 = .ok (.putfield 13, 3) := by decide +kernel
theorem dL_yearOrder_13 : decode cL_yearOrder 13 = .ok (.goto 11, 3) := by decide +kernel
theorem dL_yearOrder_16 : decode cL_yearOrder 16 = .ok (.astore 5, 2) := by decide +kernel
theorem dL_yearOrder_18 : decode cL_yearOrder 18 = .ok (.iconst 1, 1) := by decide +kernel
theorem dL_yearOrder_19 : decode cL_yearOrder 19 = .ok (.ireturn, 1) := by decide +kernel
theorem dL_yearOrder_20 : decode cL_yearOrder 20 = .ok (.astore 5, 2) := by decide +kernel
theorem dL_yearOrder_22 : decode cL_yearOrder 22 = .ok (.iconst 2, 1) := by decide +kernel
theorem dL_yearOrder_23 : decode cL_yearOrder 23 = .ok (.ireturn, 1) := by decide +kernel
theorem dL_yearOrder_24 : decode cL_yearOrder 24 = .ok (.iconst 0, 1) := by decide +kernel
theorem dL_yearOrder_25 : decode cL_yearOrder 25 = .ok (.ireturn, 1) := by decide +kernel
theorem dL_isYear_0 : decode cL_isYear 0 = .ok (.aload 4, 2) := by decide +kernel
theorem dL_isYear_2 : decode cL_isYear 2 = .ok (.aload_n 0, 1) := by decide +kernel
theorem dL_isYear_3 : decode cL_isYear 3 = .ok (.iload_n 1, 1) := by decide +kernel
theorem dL_isYear_4 : decode cL_isYear 4 = .ok (.iload_n 2, 1) := by decide +kernel
theorem dL_isYear_5 : decode cL_isYear 5 = .ok (.iload_n 3, 1) := by decide +kernel
theorem dL_isYear_6 : decode cL_isYear 6 = .ok (.invokevirtual 150, 3) := by decide +kernel
theorem dL_isYear_9 : decode cL_isYear 9 = .ok (.ifCond .eq 7, 3) := by decide +kernel
theorem dL_isYear_12 : decode cL_isYear 12 = .ok (.lconst 1, 1) := by decide +kernel
theorem dL_isYear_13 : decode cL_isYear 13 = .ok (.goto 4, 3) := by decide +kernel
theorem dL_isYear_16 : decode cL_isYear 16 = .ok (.lconst 0, 1) := by decide +kernel
theorem dL_isYear_17 : decode cL_isYear 17 = .ok (.putfield 13, 3) := by decide +kernel
theorem dL_isYear_20 : decode cL_isYear 20 = .ok (.goto 11, 3) := by decide +kernel
theorem dL_isYear_23 : decode cL_isYear 23 = .ok (.astore 5, 2) := by decide +kernel
theorem dL_isYear_25 : decode cL_isYear 25 = .ok (.iconst 1, 1) := by decide +kernel
theorem dL_isYear_26 : decode cL_isYear 26 = .ok (.ireturn, 1) := by decide +kernel
theorem dL_isYear_27 : decode cL_isYear 27 = .ok (.astore 5, 2) := by decide +kernel
theorem dL_isYear_29 : decode cL_isYear 29 = .ok (.iconst 2, 1) := by decide +kernel
theorem dL_isYear_30 : decode cL_isYear 30 = .ok (.ireturn, 1) := by decide +kernel
theorem dL_isYear_31 : decode cL_isYear 31 = .ok (.iconst 0, 1) := by decide +kernel
theorem dL_isYear_32 : decode cL_isYear 32 = .ok (.ireturn, 1) := by decide +kernel
theorem dL_yearTo_0 : decode cL_yearTo 0 = .ok (.aload 5, 2) := by decide +kernel
theorem dL_yearTo_2 : decode cL_yearTo 2 = .ok (.aload_n 0, 1) := by decide +kernel
theorem dL_yearTo_3 : decode cL_yearTo 3 = .ok (.iload_n 1, 1) := by decide +kernel
theorem dL_yearTo_4 : decode cL_yearTo 4 = .ok (.iload_n 2, 1) := by decide +kernel
theorem dL_yearTo_5 : decode cL_yearTo 5 = .ok (.iload_n 3, 1) := by decide +kernel
theorem dL_yearTo_6 : decode cL_yearTo 6 = .ok (.iload 4, 2) := by decide +kernel
theorem dL_yearTo_8 : decode cL_yearTo 8 = .ok (.invokevirtual 153, 3) := by decide +kernel
theorem dL_yearTo_11 : decode cL_yearTo 11 = .ok (.putfield 121, 3) := by decide +kernel
theorem dL_yearTo_14 : decode cL_yearTo 14 = .ok (.goto 11, 3) := by decide +kernel
theorem dL_yearTo_17 : decode cL_yearTo 17 = .ok (.astore 6, 2) := by decide +kernel
theorem dL_yearTo_19 : decode cL_yearTo 19 = .ok (.iconst 1, 1) := by decide +kernel
theorem dL_yearTo_20 : decode cL_yearTo 20 = .ok (.ireturn, 1) := by decide +kernel
theorem dL_yearTo_21 : decode cL_yearTo 21 = .ok (.astore 6, 2) := by decide +kernel
theorem dL_yearTo_23 : decode cL_yearTo 23 = .ok (.iconst 2, 1) := by decide +kernel
theorem dL_yearTo_24 : decode cL_yearTo 24 = .ok (.ireturn, 1) := by decide +kernel
theorem dL_yearTo_25 : decode cL_yearTo 25 = .ok (.iconst 0, 1) := by decide +kernel
theorem dL_yearTo_26 : decode cL_yearTo 26 = .ok (.ireturn, 1) := by decide +kernel
theorem dL_ofFeast_0 : decode cL_ofFeast 0 = .ok (.aload_n 3, 1) := by decide +kernel
theorem dL_ofFeast_1 : decode cL_ofFeast 1 = .ok (.aload_n 0, 1) := by decide +kernel
theorem dL_ofFeast_2 : decode cL_ofFeast 2 = .ok (.iload_n 1, 1) := by decide +kernel
theorem dL_ofFeast_3 : decode cL_ofFeast 3 = .ok (.iload_n 2, 1) := by decide +kernel
theorem dL_ofFeast_4 : decode cL_ofFeast 4 = .ok (.invokevirtual 156, 3) := by decide +kernel
theorem dL_ofFeast_7 : decode cL_ofFeast 7 = .ok (.i2l, 1) := by decide +kernel
theorem dL_ofFeast_8 : decode cL_ofFeast 8 = .ok (.putfield 13, 3) := by decide +kernel
theorem dL_ofFeast_11 : decode cL_ofFeast 11 = .ok (.goto 11, 3) := by decide +kernel
theorem dL_ofFeast_14 : decode cL_ofFeast 14 = .ok (.astore 4, 2) := by decide +kernel
theorem dL_ofFeast_16 : decode cL_ofFeast 16 = .ok (.iconst 1, 1) := by decide +kernel
theorem dL_ofFeast_17 : decode cL_ofFeast 17 = .ok (.ireturn, 1) := by decide +kernel
theorem dL_ofFeast_18 : decode cL_ofFeast 18 = .ok (.astore 4, 2) := by decide +kernel
theorem dL_ofFeast_20 : decode cL_ofFeast 20 = .ok (.iconst 2, 1) := by decide +kernel
theorem dL_ofFeast_21 : decode cL_ofFeast 21 = .ok (.ireturn, 1) := by decide +kernel
theorem dL_ofFeast_22 : decode cL_ofFeast 22 = .ok (.iconst 0, 1) := by decide +kernel
theorem dL_ofFeast_23 : decode cL_ofFeast 23 = .ok (.ireturn, 1) := by decide +kernel
theorem dL_isInYear_0 : decode cL_isInYear 0 = .ok (.aload_n 3, 1) := by decide +kernel
theorem dL_isInYear_1 : decode cL_isInYear 1 = .ok (.aload_n 0, 1) := by decide +kernel
theorem dL_isInYear_2 : decode cL_isInYear 2 = .ok (.iload_n 1, 1) := by decide +kernel
theorem dL_isInYear_3 : decode cL_isInYear 3 = .ok (.iload_n 2, 1) := by decide +kernel
theorem dL_isInYear_4 : decode cL_isInYear 4 = .ok (.invokevirtual 159, 3) := by decide +kernel
theorem dL_isInYear_7 : decode cL_isInYear 7 = .ok (.ifCond .eq 7, 3) := by decide +kernel
theorem dL_isInYear_10 : decode cL_isInYear 10 = .ok (.lconst 1, 1) := by decide +kernel
theorem dL_isInYear_11 : decode cL_isInYear 11 = .ok (.goto 4, 3) := by decide +kernel
theorem dL_isInYear_14 : decode cL_isInYear 14 = .ok (.lconst 0, 1) := by decide +kernel
theorem dL_isInYear_15 : decode cL_isInYear 15 = .ok (.putfield 13, 3) := by decide +kernel
theorem dL_isInYear_18 : decode cL_isInYear 18 = .ok (.goto 11, 3) := by decide +kernel
theorem dL_isInYear_21 : decode cL_isInYear 21 = .ok (.astore 4, 2) := by decide +kernel
theorem dL_isInYear_23 : decode cL_isInYear 23 = .ok (.iconst 1, 1) := by decide +kernel
theorem dL_isInYear_24 : decode cL_isInYear 24 = .ok (.ireturn, 1) := by decide +kernel
theorem dL_isInYear_25 : decode cL_isInYear 25 = .ok (.astore 4, 2) := by decide +kernel
theorem dL_isInYear_27 : decode cL_isInYear 27 = .ok (.iconst 2, 1) := by decide +kernel
theorem dL_isInYear_28 : decode cL_isInYear 28 = .ok (.ireturn, 1) := by decide +kernel
theorem dL_isInYear_29 : decode cL_isInYear 29 = .ok (.iconst 0, 1) := by decide +kernel
theorem dL_isInYear_30 : decode cL_isInYear 30 = .ok (.ireturn, 1) := by decide +kernel
theorem dL_feastOrder_0 : decode cL_feastOrder 0 = .ok (.aload 4, 2) := by decide +kernel
theorem dL_feastOrder_2 : decode cL_feastOrder 2 = .ok (.aload_n 0, 1) := by decide +kernel
theorem dL_feastOrder_3 : decode cL_feastOrder 3 = .ok (.iload_n 1, 1) := by decide +kernel
theorem dL_feastOrder_4 : decode cL_feastOrder 4 = .ok (.iload_n 2, 1) := by decide +kernel
theorem dL_feastOrder_5 : decode cL_feastOrder 5 = .ok (.iload_n 3, 1) := by decide +kernel
theorem dL_feastOrder_6 : decode cL_feastOrder 6 = .ok (.invokevirtual 162, 3) := by decide +kernel
theorem dL_feastOrder_9 : decode cL_feastOrder 9 = .ok (.i2l, 1) := by decide +kernel
theorem dL_feastOrder_10 : decode cL_feastOrder 10 = .ok (.putfield 13, 3) := by decide +kernel
theorem dL_feastOrder_13 : decode cL_feastOrder 13 = .ok (.goto 11, 3) := by decide +kernel
theorem dL_feastOrder_16 : decode cL_feastOrder 16 = .ok (.astore 5, 2) := by decide +kernel
theorem dL_feastOrder_18 : decode cL_feastOrder 18 = .ok (.iconst 1, 1) := by decide +kernel
theorem dL_feastOrder_19 : decode cL_feastOrder 19 = .ok (.ireturn, 1) := by decide +kernel
theorem dL_feastOrder_20 : decode cL_feastOrder 20 = .ok (.astore 5, 2) := by decide +kernel
theorem dL_feastOrder_22 : decode cL_feastOrder 22 = .ok (.iconst 2, 1) := by decide +kernel
theorem dL_feastOrder_23 : decode cL_feastOrder 23 = .ok (.ireturn, 1) := by decide +kernel
theorem dL_feastOrder_24 : decode cL_feastOrder 24 = .ok (.iconst 0, 1) := by decide +kernel
theorem dL_feastOrder_25 : decode cL_feastOrder 25 = .ok (.ireturn, 1) := by decide +kernel
theorem dL_isFeast_0 : decode cL_isFeast 0 = .ok (.aload 4, 2) := by decide +kernel
theorem dL_isFeast_2 : decode cL_isFeast 2 = .ok (.aload_n 0, 1) := by decide +kernel
theorem dL_isFeast_3 : decode cL_isFeast 3 = .ok (.iload_n 1, 1) := by decide +kernel
theorem dL_isFeast_4 : decode cL_isFeast 4 = .ok (.iload_n 2, 1) := by decide +kernel
theorem dL_isFeast_5 : decode cL_isFeast 5 = .ok (.iload_n 3, 1) := by decide +kernel
theorem dL_isFeast_6 : decode cL_isFeast 6 = .ok (.invokevirtual 165, 3) := by decide +kernel
theorem dL_isFeast_9 : decode cL_isFeast 9 = .ok (.ifCond .eq 7, 3) := by decide +kernel
theorem dL_isFeast_12 : decode cL_isFeast 12 = .ok (.lconst 1, 1) := by decide +kernel
theorem dL_isFeast_13 : decode cL_isFeast 13 = .ok (.goto 4, 3) := by decide +kernel
theorem dL_isFeast_16 : decode cL_isFeast 16 = .ok (.lconst 0, 1) := by decide +kernel
theorem dL_isFeast_17 : decode cL_isFeast 17 = .ok (.putfield 13, 3) := by decide +kernel
theorem dL_isFeast_20 : decode cL_isFeast 20 = .ok (.goto 11, 3) := by decide +kernel
theorem dL_isFeast_23 : decode cL_isFeast 23 = .ok (.astore 5, 2) := by decide +kernel
theorem dL_isFeast_25 : decode cL_isFeast 25 = .ok (.iconst 1, 1) := by decide +kernel
theorem dL_isFeast_26 : decode cL_isFeast 26 = .ok (.ireturn, 1) := by decide +kernel
theorem dL_isFeast_27 : decode cL_isFeast 27 = .ok (.astore 5, 2) := by decide +kernel
theorem dL_isFeast_29 : decode cL_isFeast 29 = .ok (.iconst 2, 1) := by decide +kernel
theorem dL_isFeast_30 : decode cL_isFeast 30 = .ok (.ireturn, 1) := by decide +kernel
theorem dL_isFeast_31 : decode cL_isFeast 31 = .ok (.iconst 0, 1) := by decide +kernel
theorem dL_isFeast_32 : decode cL_isFeast 32 = .ok (.ireturn, 1) := by decide +kernel
theorem dL_ofDay_0 : decode cL_ofDay 0 = .ok (.aload_n 3, 1) := by decide +kernel
theorem dL_ofDay_1 : decode cL_ofDay 1 = .ok (.aload_n 0, 1) := by decide +kernel
theorem dL_ofDay_2 : decode cL_ofDay 2 = .ok (.iload_n 1, 1) := by decide +kernel
theorem dL_ofDay_3 : decode cL_ofDay 3 = .ok (.iload_n 2, 1) := by decide +kernel
theorem dL_ofDay_4 : decode cL_ofDay 4 = .ok (.invokevirtual 168, 3) := by decide +kernel
theorem dL_ofDay_7 : decode cL_ofDay 7 = .ok (.i2l, 1) := by decide +kernel
theorem dL_ofDay_8 : decode cL_ofDay 8 = .ok (.putfield 13, 3) := by decide +kernel
theorem dL_ofDay_11 : decode cL_ofDay 11 = .ok (.goto 11, 3) := by decide +kernel
theorem dL_ofDay_14 : decode cL_ofDay 14 = .ok (.astore 4, 2) := by decide +kernel
theorem dL_ofDay_16 : decode cL_ofDay 16 = .ok (.iconst 1, 1) := by decide +kernel
theorem dL_ofDay_17 : decode cL_ofDay 17 = .ok (.ireturn, 1) := by decide +kernel
theorem dL_ofDay_18 : decode cL_ofDay 18 = .ok (.astore 4, 2) := by decide +kernel
theorem dL_ofDay_20 : decode cL_ofDay 20 = .ok (.iconst 2, 1) := by decide +kernel
theorem dL_ofDay_21 : decode cL_ofDay 21 = .ok (.ireturn, 1) := by decide +kernel
theorem dL_ofDay_22 : decode cL_ofDay 22 = .ok (.iconst 0, 1) := by decide +kernel
theorem dL_ofDay_23 : decode cL_ofDay 23 = .ok (.ireturn, 1) := by decide +kernel
theorem dL_number_0 : decode cL_number 0 = .ok (.aload_n 2, 1) := by decide +kernel
theorem dL_number_1 : decode cL_number 1 = .ok (.aload_n 0, 1) := by decide +kernel
theorem dL_number_2 : decode cL_number 2 = .ok (.iload_n 1, 1) := by decide +kernel
theorem dL_number_3 : decode cL_number 3 = .ok (.invokevirtual 171, 3) := by decide +kernel
theorem dL_number_6 : decode cL_number 6 = .ok (.putfield 121, 3) := by decide +kernel
theorem dL_number_9 : decode cL_number 9 = .ok (.goto 6, 3) := by decide +kernel
theorem dL_number_12 : decode cL_number 12 = .ok (.astore_n 3, 1) := by decide +kernel
theorem dL_number_13 : decode cL_number 13 = .ok (.iconst 1, 1) := by decide +kernel
theorem dL_number_14 : decode cL_number 14 = .ok (.ireturn, 1) := by decide +kernel
theorem dL_number_15 : decode cL_number 15 = .ok (.iconst 0, 1) := by decide +kernel
theorem dL_number_16 : decode cL_number 16 = .ok (.ireturn, 1) := by decide +kernel
theorem dL_dayOrder_0 : decode cL_dayOrder 0 = .ok (.aload 4, 2) := by decide +kernel
theorem dL_dayOrder_2 : decode cL_dayOrder 2 = .ok (.aload_n 0, 1) := by decide +kernel
theorem dL_dayOrder_3 : decode cL_dayOrder 3 = .ok (.iload_n 1, 1) := by decide +kernel
theorem dL_dayOrder_4 : decode cL_dayOrder 4 = .ok (.iload_n 2, 1) := by decide +kernel
theorem dL_dayOrder_5 : decode cL_dayOrder 5 = .ok (.iload_n 3, 1) := by decide +kernel
theorem dL_dayOrder_6 : decode cL_dayOrder 6 = .ok (.invokevirtual 174, 3) := by decide +kernel
theorem dL_dayOrder_9 : decode cL_dayOrder 9 = .ok (.i2l, 1) := by decide +kernel
theorem dL_dayOrder_10 : decode cL_dayOrder 10 = .ok (.putfield 13, 3) := by decide +kernel
theorem dL_dayOrder_13 : decode cL_dayOrder 13 = .ok (.goto 11, 3) := by decide +kernel
theorem dL_dayOrder_16 : decode cL_dayOrder 16 = .ok (.astore 5, 2) := by decide +kernel
theorem dL_dayOrder_18 : decode cL_dayOrder 18 = .ok (.iconst 1, 1) := by decide +kernel
theorem dL_dayOrder_19 : decode cL_dayOrder 19 = .ok (.ireturn, 1) := by decide +kernel
theorem dL_dayOrder_20 : decode cL_dayOrder 20 = .ok (.astore 5, 2) := by decide +kernel
theorem dL_dayOrder_22 : decode cL_dayOrder 22 = .ok (.iconst 2, 1) := by decide +kernel
theorem dL_dayOrder_23 : decode cL_dayOrder 23 = .ok (.ireturn, 1) := by decide +kernel
theorem dL_dayOrder_24 : decode cL_dayOrder 24 = .ok (.iconst 0, 1) := by decide +kernel
theorem dL_dayOrder_25 : decode cL_dayOrder 25 = .ok (.ireturn, 1) := by decide +kernel
theorem dL_knows_0 : decode cL_knows 0 = .ok (.aload_n 3, 1) := by decide +kernel
theorem dL_knows_1 : decode cL_knows 1 = .ok (.aload_n 0, 1) := by decide +kernel
theorem dL_knows_2 : decode cL_knows 2 = .ok (.iload_n 1, 1) := by decide +kernel
theorem dL_knows_3 : decode cL_knows 3 = .ok (.iload_n 2, 1) := by decide +kernel
theorem dL_knows_4 : decode cL_knows 4 = .ok (.invokevirtual 177, 3) := by decide +kernel
theorem dL_knows_7 : decode cL_knows 7 = .ok (.ifCond .eq 7, 3) := by decide +kernel
theorem dL_knows_10 : decode cL_knows 10 = .ok (.lconst 1, 1) := by decide +kernel
theorem dL_knows_11 : decode cL_knows 11 = .ok (.goto 4, 3) := by decide +kernel
theorem dL_knows_14 : decode cL_knows 14 = .ok (.lconst 0, 1) := by decide +kernel
theorem dL_knows_15 : decode cL_knows 15 = .ok (.putfield 13, 3) := by decide +kernel
theorem dL_knows_18 : decode cL_knows 18 = .ok (.goto 7, 3) := by decide +kernel
theorem dL_knows_21 : decode cL_knows 21 = .ok (.astore 4, 2) := by decide +kernel
theorem dL_knows_23 : decode cL_knows 23 = .ok (.iconst 1, 1) := by decide +kernel
theorem dL_knows_24 : decode cL_knows 24 = .ok (.ireturn, 1) := by decide +kernel
