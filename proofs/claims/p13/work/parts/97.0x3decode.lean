theorem dModel_lookNumbers_0 : decode bModel_lookNumbers 0 = .ok (.aload_n 0, 1) := by decide +kernel
theorem dModel_lookNumbers_1 : decode bModel_lookNumbers 1 = .ok (.getfield 29, 3) := by decide +kernel
theorem dModel_lookNumbers_4 : decode bModel_lookNumbers 4 = .ok (.iload_n 3, 1) := by decide +kernel
theorem dModel_lookNumbers_5 : decode bModel_lookNumbers 5 = .ok (.iaload, 1) := by decide +kernel
theorem dModel_lookNumbers_6 : decode bModel_lookNumbers 6 = .ok (.iconst 2, 1) := by decide +kernel
theorem dModel_lookNumbers_7 : decode bModel_lookNumbers 7 = .ok (.if_icmp .ne 14, 3) := by decide +kernel
theorem dModel_lookNumbers_10 : decode bModel_lookNumbers 10 = .ok (.aload_n 0, 1) := by decide +kernel
theorem dModel_lookNumbers_11 : decode bModel_lookNumbers 11 = .ok (.getfield 29, 3) := by decide +kernel
theorem dModel_lookNumbers_14 : decode bModel_lookNumbers 14 = .ok (.iload 4, 2) := by decide +kernel
theorem dModel_lookNumbers_16 : decode bModel_lookNumbers 16 = .ok (.iaload, 1) := by decide +kernel
theorem dModel_lookNumbers_17 : decode bModel_lookNumbers 17 = .ok (.iconst 2, 1) := by decide +kernel
theorem dModel_lookNumbers_18 : decode bModel_lookNumbers 18 = .ok (.if_icmp .eq 5, 3) := by decide +kernel
theorem dModel_lookNumbers_21 : decode bModel_lookNumbers 21 = .ok (.iconst 3, 1) := by decide +kernel
theorem dModel_lookNumbers_22 : decode bModel_lookNumbers 22 = .ok (.ireturn, 1) := by decide +kernel
theorem dModel_lookNumbers_23 : decode bModel_lookNumbers 23 = .ok (.aload_n 0, 1) := by decide +kernel
theorem dModel_lookNumbers_24 : decode bModel_lookNumbers 24 = .ok (.getfield 35, 3) := by decide +kernel
theorem dModel_lookNumbers_27 : decode bModel_lookNumbers 27 = .ok (.iload_n 3, 1) := by decide +kernel
theorem dModel_lookNumbers_28 : decode bModel_lookNumbers 28 = .ok (.baload, 1) := by decide +kernel
theorem dModel_lookNumbers_29 : decode bModel_lookNumbers 29 = .ok (.ifCond .eq 17, 3) := by decide +kernel
theorem dModel_lookNumbers_32 : decode bModel_lookNumbers 32 = .ok (.aload_n 0, 1) := by decide +kernel
theorem dModel_lookNumbers_33 : decode bModel_lookNumbers 33 = .ok (.getfield 35, 3) := by decide +kernel
theorem dModel_lookNumbers_36 : decode bModel_lookNumbers 36 = .ok (.iload 4, 2) := by decide +kernel
theorem dModel_lookNumbers_38 : decode bModel_lookNumbers 38 = .ok (.baload, 1) := by decide +kernel
theorem dModel_lookNumbers_39 : decode bModel_lookNumbers 39 = .ok (.ifCond .eq 7, 3) := by decide +kernel
theorem dModel_lookNumbers_42 : decode bModel_lookNumbers 42 = .ok (.iconst 1, 1) := by decide +kernel
theorem dModel_lookNumbers_43 : decode bModel_lookNumbers 43 = .ok (.goto 4, 3) := by decide +kernel
theorem dModel_lookNumbers_46 : decode bModel_lookNumbers 46 = .ok (.iconst 0, 1) := by decide +kernel
theorem dModel_lookNumbers_47 : decode bModel_lookNumbers 47 = .ok (.istore 5, 2) := by decide +kernel
theorem dModel_lookNumbers_49 : decode bModel_lookNumbers 49 = .ok (.aload_n 0, 1) := by decide +kernel
theorem dModel_lookNumbers_50 : decode bModel_lookNumbers 50 = .ok (.getfield 42, 3) := by decide +kernel
theorem dModel_lookNumbers_53 : decode bModel_lookNumbers 53 = .ok (.iload_n 3, 1) := by decide +kernel
theorem dModel_lookNumbers_54 : decode bModel_lookNumbers 54 = .ok (.laload, 1) := by decide +kernel
theorem dModel_lookNumbers_55 : decode bModel_lookNumbers 55 = .ok (.lstore 6, 2) := by decide +kernel
theorem dModel_lookNumbers_57 : decode bModel_lookNumbers 57 = .ok (.aload_n 0, 1) := by decide +kernel
theorem dModel_lookNumbers_58 : decode bModel_lookNumbers 58 = .ok (.getfield 42, 3) := by decide +kernel
theorem dModel_lookNumbers_61 : decode bModel_lookNumbers 61 = .ok (.iload 4, 2) := by decide +kernel
theorem dModel_lookNumbers_63 : decode bModel_lookNumbers 63 = .ok (.laload, 1) := by decide +kernel
theorem dModel_lookNumbers_64 : decode bModel_lookNumbers 64 = .ok (.lstore 8, 2) := by decide +kernel
theorem dModel_lookNumbers_66 : decode bModel_lookNumbers 66 = .ok (.iload_n 2, 1) := by decide +kernel
theorem dModel_lookNumbers_67 : decode bModel_lookNumbers 67 = .ok (.bipush 15, 2) := by decide +kernel
theorem dModel_lookNumbers_69 : decode bModel_lookNumbers 69 = .ok (.if_icmp .eq 8, 3) := by decide +kernel
theorem dModel_lookNumbers_72 : decode bModel_lookNumbers 72 = .ok (.iload 5, 2) := by decide +kernel
theorem dModel_lookNumbers_74 : decode bModel_lookNumbers 74 = .ok (.ifCond .ne 16, 3) := by decide +kernel
theorem dModel_lookNumbers_77 : decode bModel_lookNumbers 77 = .ok (.aload_n 0, 1) := by decide +kernel
theorem dModel_lookNumbers_78 : decode bModel_lookNumbers 78 = .ok (.iload_n 1, 1) := by decide +kernel
theorem dModel_lookNumbers_79 : decode bModel_lookNumbers 79 = .ok (.iload 5, 2) := by decide +kernel
theorem dModel_lookNumbers_81 : decode bModel_lookNumbers 81 = .ok (.lload 6, 2) := by decide +kernel
theorem dModel_lookNumbers_83 : decode bModel_lookNumbers 83 = .ok (.lload 8, 2) := by decide +kernel
theorem dModel_lookNumbers_85 : decode bModel_lookNumbers 85 = .ok (.lmul, 1) := by decide +kernel
theorem dModel_lookNumbers_86 : decode bModel_lookNumbers 86 = .ok (.invokevirtual 227, 3) := by decide +kernel
theorem dModel_lookNumbers_89 : decode bModel_lookNumbers 89 = .ok (.ireturn, 1) := by decide +kernel
theorem dModel_lookNumbers_90 : decode bModel_lookNumbers 90 = .ok (.lload 8, 2) := by decide +kernel
theorem dModel_lookNumbers_92 : decode bModel_lookNumbers 92 = .ok (.lconst 0, 1) := by decide +kernel
theorem dModel_lookNumbers_93 : decode bModel_lookNumbers 93 = .ok (.lcmp, 1) := by decide +kernel
theorem dModel_lookNumbers_94 : decode bModel_lookNumbers 94 = .ok (.ifCond .ne 6, 3) := by decide +kernel
theorem dModel_lookNumbers_97 : decode bModel_lookNumbers 97 = .ok (.bipush 10, 2) := by decide +kernel
theorem dModel_lookNumbers_99 : decode bModel_lookNumbers 99 = .ok (.ireturn, 1) := by decide +kernel
theorem dModel_lookNumbers_100 : decode bModel_lookNumbers 100 = .ok (.lload 6, 2) := by decide +kernel
theorem dModel_lookNumbers_102 : decode bModel_lookNumbers 102 = .ok (.lload 8, 2) := by decide +kernel
theorem dModel_lookNumbers_104 : decode bModel_lookNumbers 104 = .ok (.ldiv, 1) := by decide +kernel
theorem dModel_lookNumbers_105 : decode bModel_lookNumbers 105 = .ok (.lstore 10, 2) := by decide +kernel
theorem dModel_lookNumbers_107 : decode bModel_lookNumbers 107 = .ok (.lload 6, 2) := by decide +kernel
theorem dModel_lookNumbers_109 : decode bModel_lookNumbers 109 = .ok (.lload 10, 2) := by decide +kernel
theorem dModel_lookNumbers_111 : decode bModel_lookNumbers 111 = .ok (.lload 8, 2) := by decide +kernel
theorem dModel_lookNumbers_113 : decode bModel_lookNumbers 113 = .ok (.lmul, 1) := by decide +kernel
theorem dModel_lookNumbers_114 : decode bModel_lookNumbers 114 = .ok (.lsub, 1) := by decide +kernel
theorem dModel_lookNumbers_115 : decode bModel_lookNumbers 115 = .ok (.lstore 12, 2) := by decide +kernel
theorem dModel_lookNumbers_117 : decode bModel_lookNumbers 117 = .ok (.lload 12, 2) := by decide +kernel
theorem dModel_lookNumbers_119 : decode bModel_lookNumbers 119 = .ok (.lconst 0, 1) := by decide +kernel
theorem dModel_lookNumbers_120 : decode bModel_lookNumbers 120 = .ok (.lcmp, 1) := by decide +kernel
theorem dModel_lookNumbers_121 : decode bModel_lookNumbers 121 = .ok (.ifCond .eq 38, 3) := by decide +kernel
theorem dModel_lookNumbers_124 : decode bModel_lookNumbers 124 = .ok (.lload 12, 2) := by decide +kernel
theorem dModel_lookNumbers_126 : decode bModel_lookNumbers 126 = .ok (.lconst 0, 1) := by decide +kernel
theorem dModel_lookNumbers_127 : decode bModel_lookNumbers 127 = .ok (.lcmp, 1) := by decide +kernel
theorem dModel_lookNumbers_128 : decode bModel_lookNumbers 128 = .ok (.ifCond .ge 7, 3) := by decide +kernel
theorem dModel_lookNumbers_131 : decode bModel_lookNumbers 131 = .ok (.iconst 1, 1) := by decide +kernel
theorem dModel_lookNumbers_132 : decode bModel_lookNumbers 132 = .ok (.goto 4, 3) := by decide +kernel
theorem dModel_lookNumbers_135 : decode bModel_lookNumbers 135 = .ok (.iconst 0, 1) := by decide +kernel
theorem dModel_lookNumbers_136 : decode bModel_lookNumbers 136 = .ok (.lload 8, 2) := by decide +kernel
theorem dModel_lookNumbers_138 : decode bModel_lookNumbers 138 = .ok (.lconst 0, 1) := by decide +kernel
theorem dModel_lookNumbers_139 : decode bModel_lookNumbers 139 = .ok (.lcmp, 1) := by decide +kernel
theorem dModel_lookNumbers_140 : decode bModel_lookNumbers 140 = .ok (.ifCond .ge 7, 3) := by decide +kernel
theorem dModel_lookNumbers_143 : decode bModel_lookNumbers 143 = .ok (.iconst 1, 1) := by decide +kernel
theorem dModel_lookNumbers_144 : decode bModel_lookNumbers 144 = .ok (.goto 4, 3) := by decide +kernel
theorem dModel_lookNumbers_147 : decode bModel_lookNumbers 147 = .ok (.iconst 0, 1) := by decide +kernel
theorem dModel_lookNumbers_148 : decode bModel_lookNumbers 148 = .ok (.if_icmp .eq 11, 3) := by decide +kernel
theorem dModel_lookNumbers_151 : decode bModel_lookNumbers 151 = .ok (.lload 12, 2) := by decide +kernel
theorem dModel_lookNumbers_153 : decode bModel_lookNumbers 153 = .ok (.lload 8, 2) := by decide +kernel
theorem dModel_lookNumbers_155 : decode bModel_lookNumbers 155 = .ok (.ladd, 1) := by decide +kernel
theorem dModel_lookNumbers_156 : decode bModel_lookNumbers 156 = .ok (.goto 5, 3) := by decide +kernel
theorem dModel_lookNumbers_159 : decode bModel_lookNumbers 159 = .ok (.lload 12, 2) := by decide +kernel
theorem dModel_lookNumbers_161 : decode bModel_lookNumbers 161 = .ok (.lstore 14, 2) := by decide +kernel
theorem dModel_lookNumbers_163 : decode bModel_lookNumbers 163 = .ok (.aload_n 0, 1) := by decide +kernel
theorem dModel_lookNumbers_164 : decode bModel_lookNumbers 164 = .ok (.iload_n 1, 1) := by decide +kernel
theorem dModel_lookNumbers_165 : decode bModel_lookNumbers 165 = .ok (.iconst 1, 1) := by decide +kernel
theorem dModel_lookNumbers_166 : decode bModel_lookNumbers 166 = .ok (.iload_n 2, 1) := by decide +kernel
theorem dModel_lookNumbers_167 : decode bModel_lookNumbers 167 = .ok (.bipush 16, 2) := by decide +kernel
theorem dModel_lookNumbers_169 : decode bModel_lookNumbers 169 = .ok (.if_icmp .ne 8, 3) := by decide +kernel
theorem dModel_lookNumbers_172 : decode bModel_lookNumbers 172 = .ok (.lload 10, 2) := by decide +kernel
theorem dModel_lookNumbers_174 : decode bModel_lookNumbers 174 = .ok (.goto 16, 3) := by decide +kernel
theorem dModel_lookNumbers_177 : decode bModel_lookNumbers 177 = .ok (.iload_n 2, 1) := by decide +kernel
theorem dModel_lookNumbers_178 : decode bModel_lookNumbers 178 = .ok (.bipush 17, 2) := by decide +kernel
theorem dModel_lookNumbers_180 : decode bModel_lookNumbers 180 = .ok (.if_icmp .ne 8, 3) := by decide +kernel
theorem dModel_lookNumbers_183 : decode bModel_lookNumbers 183 = .ok (.lload 14, 2) := by decide +kernel
theorem dModel_lookNumbers_185 : decode bModel_lookNumbers 185 = .ok (.goto 5, 3) := by decide +kernel
theorem dModel_lookNumbers_188 : decode bModel_lookNumbers 188 = .ok (.lload 12, 2) := by decide +kernel
theorem dModel_lookNumbers_190 : decode bModel_lookNumbers 190 = .ok (.invokevirtual 227, 3) := by decide +kernel
theorem dModel_lookNumbers_193 : decode bModel_lookNumbers 193 = .ok (.ireturn, 1) := by decide +kernel
theorem dModel_lookShift_0 : decode bModel_lookShift 0 = .ok (.aload_n 0, 1) := by decide +kernel
theorem dModel_lookShift_1 : decode bModel_lookShift 1 = .ok (.getfield 29, 3) := by decide +kernel
theorem dModel_lookShift_4 : decode bModel_lookShift 4 = .ok (.iload_n 3, 1) := by decide +kernel
theorem dModel_lookShift_5 : decode bModel_lookShift 5 = .ok (.iaload, 1) := by decide +kernel
theorem dModel_lookShift_6 : decode bModel_lookShift 6 = .ok (.iconst 3, 1) := by decide +kernel
theorem dModel_lookShift_7 : decode bModel_lookShift 7 = .ok (.if_icmp .ne 14, 3) := by decide +kernel
theorem dModel_lookShift_10 : decode bModel_lookShift 10 = .ok (.aload_n 0, 1) := by decide +kernel
theorem dModel_lookShift_11 : decode bModel_lookShift 11 = .ok (.getfield 29, 3) := by decide +kernel
theorem dModel_lookShift_14 : decode bModel_lookShift 14 = .ok (.iload 4, 2) := by decide +kernel
theorem dModel_lookShift_16 : decode bModel_lookShift 16 = .ok (.iaload, 1) := by decide +kernel
theorem dModel_lookShift_17 : decode bModel_lookShift 17 = .ok (.iconst 2, 1) := by decide +kernel
theorem dModel_lookShift_18 : decode bModel_lookShift 18 = .ok (.if_icmp .eq 5, 3) := by decide +kernel
theorem dModel_lookShift_21 : decode bModel_lookShift 21 = .ok (.iconst 3, 1) := by decide +kernel
theorem dModel_lookShift_22 : decode bModel_lookShift 22 = .ok (.ireturn, 1) := by decide +kernel
theorem dModel_lookShift_23 : decode bModel_lookShift 23 = .ok (.aload_n 0, 1) := by decide +kernel
theorem dModel_lookShift_24 : decode bModel_lookShift 24 = .ok (.iload_n 1, 1) := by decide +kernel
theorem dModel_lookShift_25 : decode bModel_lookShift 25 = .ok (.iconst 3, 1) := by decide +kernel
theorem dModel_lookShift_26 : decode bModel_lookShift 26 = .ok (.aload_n 0, 1) := by decide +kernel
theorem dModel_lookShift_27 : decode bModel_lookShift 27 = .ok (.getfield 32, 3) := by decide +kernel
theorem dModel_lookShift_30 : decode bModel_lookShift 30 = .ok (.iload_n 3, 1) := by decide +kernel
theorem dModel_lookShift_31 : decode bModel_lookShift 31 = .ok (.iaload, 1) := by decide +kernel
theorem dModel_lookShift_32 : decode bModel_lookShift 32 = .ok (.aload_n 0, 1) := by decide +kernel
theorem dModel_lookShift_33 : decode bModel_lookShift 33 = .ok (.getfield 35, 3) := by decide +kernel
theorem dModel_lookShift_36 : decode bModel_lookShift 36 = .ok (.iload_n 3, 1) := by decide +kernel
theorem dModel_lookShift_37 : decode bModel_lookShift 37 = .ok (.baload, 1) := by decide +kernel
theorem dModel_lookShift_38 : decode bModel_lookShift 38 = .ok (.ifCond .eq 17, 3) := by decide +kernel
theorem dModel_lookShift_41 : decode bModel_lookShift 41 = .ok (.aload_n 0, 1) := by decide +kernel
theorem dModel_lookShift_42 : decode bModel_lookShift 42 = .ok (.getfield 35, 3) := by decide +kernel
theorem dModel_lookShift_45 : decode bModel_lookShift 45 = .ok (.iload 4, 2) := by decide +kernel
theorem dModel_lookShift_47 : decode bModel_lookShift 47 = .ok (.baload, 1) := by decide +kernel
theorem dModel_lookShift_48 : decode bModel_lookShift 48 = .ok (.ifCond .eq 7, 3) := by decide +kernel
theorem dModel_lookShift_51 : decode bModel_lookShift 51 = .ok (.iconst 1, 1) := by decide +kernel
theorem dModel_lookShift_52 : decode bModel_lookShift 52 = .ok (.goto 4, 3) := by decide +kernel
theorem dModel_lookShift_55 : decode bModel_lookShift 55 = .ok (.iconst 0, 1) := by decide +kernel
theorem dModel_lookShift_56 : decode bModel_lookShift 56 = .ok (.invokevirtual 147, 3) := by decide +kernel
theorem dModel_lookShift_59 : decode bModel_lookShift 59 = .ok (.iload_n 2, 1) := by decide +kernel
theorem dModel_lookShift_60 : decode bModel_lookShift 60 = .ok (.ifCond .eq 13, 3) := by decide +kernel
theorem dModel_lookShift_63 : decode bModel_lookShift 63 = .ok (.aload_n 0, 1) := by decide +kernel
theorem dModel_lookShift_64 : decode bModel_lookShift 64 = .ok (.getfield 42, 3) := by decide +kernel
theorem dModel_lookShift_67 : decode bModel_lookShift 67 = .ok (.iload 4, 2) := by decide +kernel
theorem dModel_lookShift_69 : decode bModel_lookShift 69 = .ok (.laload, 1) := by decide +kernel
theorem dModel_lookShift_70 : decode bModel_lookShift 70 = .ok (.goto 11, 3) := by decide +kernel
theorem dModel_lookShift_73 : decode bModel_lookShift 73 = .ok (.aload_n 0, 1) := by decide +kernel
theorem dModel_lookShift_74 : decode bModel_lookShift 74 = .ok (.getfield 42, 3) := by decide +kernel
theorem dModel_lookShift_77 : decode bModel_lookShift 77 = .ok (.iload 4, 2) := by decide +kernel
theorem dModel_lookShift_79 : decode bModel_lookShift 79 = .ok (.laload, 1) := by decide +kernel
theorem dModel_lookShift_80 : decode bModel_lookShift 80 = .ok (.lneg, 1) := by decide +kernel
theorem dModel_lookShift_81 : decode bModel_lookShift 81 = .ok (.lstore 5, 2) := by decide +kernel
theorem dModel_lookShift_83 : decode bModel_lookShift 83 = .ok (.iconst 0, 1) := by decide +kernel
theorem dModel_lookShift_84 : decode bModel_lookShift 84 = .ok (.istore 7, 2) := by decide +kernel
theorem dModel_lookShift_86 : decode bModel_lookShift 86 = .ok (.iload 7, 2) := by decide +kernel
theorem dModel_lookShift_88 : decode bModel_lookShift 88 = .ok (.aload_n 0, 1) := by decide +kernel
theorem dModel_lookShift_89 : decode bModel_lookShift 89 = .ok (.getfield 32, 3) := by decide +kernel
theorem dModel_lookShift_92 : decode bModel_lookShift 92 = .ok (.iload_n 3, 1) := by decide +kernel
theorem dModel_lookShift_93 : decode bModel_lookShift 93 = .ok (.iaload, 1) := by decide +kernel
theorem dModel_lookShift_94 : decode bModel_lookShift 94 = .ok (.if_icmp .ge 56, 3) := by decide +kernel
theorem dModel_lookShift_97 : decode bModel_lookShift 97 = .ok (.iload 7, 2) := by decide +kernel
theorem dModel_lookShift_99 : decode bModel_lookShift 99 = .ok (.i2l, 1) := by decide +kernel
theorem dModel_lookShift_100 : decode bModel_lookShift 100 = .ok (.lload 5, 2) := by decide +kernel
theorem dModel_lookShift_102 : decode bModel_lookShift 102 = .ok (.lsub, 1) := by decide +kernel
theorem dModel_lookShift_103 : decode bModel_lookShift 103 = .ok (.lstore 8, 2) := by decide +kernel
theorem dModel_lookShift_105 : decode bModel_lookShift 105 = .ok (.aload_n 0, 1) := by decide +kernel
theorem dModel_lookShift_106 : decode bModel_lookShift 106 = .ok (.iload_n 1, 1) := by decide +kernel
theorem dModel_lookShift_107 : decode bModel_lookShift 107 = .ok (.iload 7, 2) := by decide +kernel
theorem dModel_lookShift_109 : decode bModel_lookShift 109 = .ok (.lload 8, 2) := by decide +kernel
theorem dModel_lookShift_111 : decode bModel_lookShift 111 = .ok (.lconst 0, 1) := by decide +kernel
theorem dModel_lookShift_112 : decode bModel_lookShift 112 = .ok (.lcmp, 1) := by decide +kernel
theorem dModel_lookShift_113 : decode bModel_lookShift 113 = .ok (.ifCond .lt 27, 3) := by decide +kernel
theorem dModel_lookShift_116 : decode bModel_lookShift 116 = .ok (.lload 8, 2) := by decide +kernel
theorem dModel_lookShift_118 : decode bModel_lookShift 118 = .ok (.aload_n 0, 1) := by decide +kernel
theorem dModel_lookShift_119 : decode bModel_lookShift 119 = .ok (.getfield 32, 3) := by decide +kernel
theorem dModel_lookShift_122 : decode bModel_lookShift 122 = .ok (.iload_n 3, 1) := by decide +kernel
theorem dModel_lookShift_123 : decode bModel_lookShift 123 = .ok (.iaload, 1) := by decide +kernel
theorem dModel_lookShift_124 : decode bModel_lookShift 124 = .ok (.i2l, 1) := by decide +kernel
theorem dModel_lookShift_125 : decode bModel_lookShift 125 = .ok (.lcmp, 1) := by decide +kernel
theorem dModel_lookShift_126 : decode bModel_lookShift 126 = .ok (.ifCond .ge 14, 3) := by decide +kernel
theorem dModel_lookShift_129 : decode bModel_lookShift 129 = .ok (.aload_n 0, 1) := by decide +kernel
theorem dModel_lookShift_130 : decode bModel_lookShift 130 = .ok (.iload_n 3, 1) := by decide +kernel
theorem dModel_lookShift_131 : decode bModel_lookShift 131 = .ok (.lload 8, 2) := by decide +kernel
theorem dModel_lookShift_133 : decode bModel_lookShift 133 = .ok (.l2i, 1) := by decide +kernel
theorem dModel_lookShift_134 : decode bModel_lookShift 134 = .ok (.invokevirtual 131, 3) := by decide +kernel
theorem dModel_lookShift_137 : decode bModel_lookShift 137 = .ok (.goto 4, 3) := by decide +kernel
theorem dModel_lookShift_140 : decode bModel_lookShift 140 = .ok (.iconst 2, 1) := by decide +kernel
theorem dModel_lookShift_141 : decode bModel_lookShift 141 = .ok (.invokevirtual 127, 3) := by decide +kernel
theorem dModel_lookShift_144 : decode bModel_lookShift 144 = .ok (.iinc 7 1, 3) := by decide +kernel
theorem dModel_lookShift_147 : decode bModel_lookShift 147 = .ok (.goto (-61), 3) := by decide +kernel
theorem dModel_lookShift_150 : decode bModel_lookShift 150 = .ok (.aload_n 0, 1) := by decide +kernel
theorem dModel_lookShift_151 : decode bModel_lookShift 151 = .ok (.iload_n 1, 1) := by decide +kernel
theorem dModel_lookShift_152 : decode bModel_lookShift 152 = .ok (.invokevirtual 190, 3) := by decide +kernel
theorem dModel_lookShift_155 : decode bModel_lookShift 155 = .ok (.ireturn, 1) := by decide +kernel
theorem dModel_within_0 : decode bModel_within 0 = .ok (.lload_n 2, 1) := by decide +kernel
theorem dModel_within_1 : decode bModel_within 1 = .ok (.aload_n 0, 1) := by decide +kernel
theorem dModel_within_2 : decode bModel_within 2 = .ok (.getfield 57, 3) := by decide +kernel
theorem dModel_within_5 : decode bModel_within 5 = .ok (.iload_n 1, 1) := by decide +kernel
theorem dModel_within_6 : decode bModel_within 6 = .ok (.iaload, 1) := by decide +kernel
theorem dModel_within_7 : decode bModel_within 7 = .ok (.aload_n 0, 1) := by decide +kernel
theorem dModel_within_8 : decode bModel_within 8 = .ok (.getfield 60, 3) := by decide +kernel
theorem dModel_within_11 : decode bModel_within 11 = .ok (.iload_n 1, 1) := by decide +kernel
theorem dModel_within_12 : decode bModel_within 12 = .ok (.iaload, 1) := by decide +kernel
theorem dModel_within_13 : decode bModel_within 13 = .ok (.invokestatic 239, 3) := by decide +kernel
theorem dModel_within_16 : decode bModel_within 16 = .ok (.i2l, 1) := by decide +kernel
theorem dModel_within_17 : decode bModel_within 17 = .ok (.lcmp, 1) := by decide +kernel
theorem dModel_within_18 : decode bModel_within 18 = .ok (.ifCond .lt 28, 3) := by decide +kernel
theorem dModel_within_21 : decode bModel_within 21 = .ok (.lload_n 2, 1) := by decide +kernel
theorem dModel_within_22 : decode bModel_within 22 = .ok (.aload_n 0, 1) := by decide +kernel
theorem dModel_within_23 : decode bModel_within 23 = .ok (.getfield 57, 3) := by decide +kernel
theorem dModel_within_26 : decode bModel_within 26 = .ok (.iload_n 1, 1) := by decide +kernel
theorem dModel_within_27 : decode bModel_within 27 = .ok (.iaload, 1) := by decide +kernel
theorem dModel_within_28 : decode bModel_within 28 = .ok (.aload_n 0, 1) := by decide +kernel
theorem dModel_within_29 : decode bModel_within 29 = .ok (.getfield 60, 3) := by decide +kernel
theorem dModel_within_32 : decode bModel_within 32 = .ok (.iload_n 1, 1) := by decide +kernel
theorem dModel_within_33 : decode bModel_within 33 = .ok (.iaload, 1) := by decide +kernel
theorem dModel_within_34 : decode bModel_within 34 = .ok (.invokestatic 244, 3) := by decide +kernel
theorem dModel_within_37 : decode bModel_within 37 = .ok (.i2l, 1) := by decide +kernel
theorem dModel_within_38 : decode bModel_within 38 = .ok (.lcmp, 1) := by decide +kernel
theorem dModel_within_39 : decode bModel_within 39 = .ok (.ifCond .gt 7, 3) := by decide +kernel
theorem dModel_within_42 : decode bModel_within 42 = .ok (.iconst 1, 1) := by decide +kernel
theorem dModel_within_43 : decode bModel_within 43 = .ok (.goto 4, 3) := by decide +kernel
theorem dModel_within_46 : decode bModel_within 46 = .ok (.iconst 0, 1) := by decide +kernel
theorem dModel_within_47 : decode bModel_within 47 = .ok (.ireturn, 1) := by decide +kernel
theorem dModel_rowObject_0 : decode bModel_rowObject 0 = .ok (.aload_n 0, 1) := by decide +kernel
theorem dModel_rowObject_1 : decode bModel_rowObject 1 = .ok (.iload_n 1, 1) := by decide +kernel
theorem dModel_rowObject_2 : decode bModel_rowObject 2 = .ok (.invokevirtual 173, 3) := by decide +kernel
theorem dModel_rowObject_5 : decode bModel_rowObject 5 = .ok (.aload_n 0, 1) := by decide +kernel
theorem dModel_rowObject_6 : decode bModel_rowObject 6 = .ok (.getfield 118, 3) := by decide +kernel
theorem dModel_rowObject_9 : decode bModel_rowObject 9 = .ok (.iconst 5, 1) := by decide +kernel
theorem dModel_rowObject_10 : decode bModel_rowObject 10 = .ok (.if_icmp .ne 5, 3) := by decide +kernel
theorem dModel_rowObject_13 : decode bModel_rowObject 13 = .ok (.iconst 1, 1) := by decide +kernel
theorem dModel_rowObject_14 : decode bModel_rowObject 14 = .ok (.ireturn, 1) := by decide +kernel
theorem dModel_rowObject_15 : decode bModel_rowObject 15 = .ok (.aload_n 0, 1) := by decide +kernel
theorem dModel_rowObject_16 : decode bModel_rowObject 16 = .ok (.getfield 118, 3) := by decide +kernel
theorem dModel_rowObject_19 : decode bModel_rowObject 19 = .ok (.iconst 1, 1) := by decide +kernel
theorem dModel_rowObject_20 : decode bModel_rowObject 20 = .ok (.if_icmp .ne 25, 3) := by decide +kernel
theorem dModel_rowObject_23 : decode bModel_rowObject 23 = .ok (.aload_n 0, 1) := by decide +kernel
theorem dModel_rowObject_24 : decode bModel_rowObject 24 = .ok (.getfield 54, 3) := by decide +kernel
theorem dModel_rowObject_27 : decode bModel_rowObject 27 = .ok (.aload_n 0, 1) := by decide +kernel
theorem dModel_rowObject_28 : decode bModel_rowObject 28 = .ok (.getfield 72, 3) := by decide +kernel
theorem dModel_rowObject_31 : decode bModel_rowObject 31 = .ok (.aload_n 0, 1) := by decide +kernel
theorem dModel_rowObject_32 : decode bModel_rowObject 32 = .ok (.getfield 121, 3) := by decide +kernel
theorem dModel_rowObject_35 : decode bModel_rowObject 35 = .ok (.iaload, 1) := by decide +kernel
theorem dModel_rowObject_36 : decode bModel_rowObject 36 = .ok (.iaload, 1) := by decide +kernel
theorem dModel_rowObject_37 : decode bModel_rowObject 37 = .ok (.iconst 3, 1) := by decide +kernel
theorem dModel_rowObject_38 : decode bModel_rowObject 38 = .ok (.if_icmp .ne 7, 3) := by decide +kernel
theorem dModel_rowObject_41 : decode bModel_rowObject 41 = .ok (.iconst 0, 1) := by decide +kernel
theorem dModel_rowObject_42 : decode bModel_rowObject 42 = .ok (.goto 4, 3) := by decide +kernel
theorem dModel_rowObject_45 : decode bModel_rowObject 45 = .ok (.iconst 2, 1) := by decide +kernel
theorem dModel_rowObject_46 : decode bModel_rowObject 46 = .ok (.ireturn, 1) := by decide +kernel
theorem dModel_lookApply_0 : decode bModel_lookApply 0 = .ok (.aload_n 0, 1) := by decide +kernel
theorem dModel_lookApply_1 : decode bModel_lookApply 1 = .ok (.aload_n 0, 1) := by decide +kernel
theorem dModel_lookApply_2 : decode bModel_lookApply 2 = .ok (.getfield 17, 3) := by decide +kernel
theorem dModel_lookApply_5 : decode bModel_lookApply 5 = .ok (.iload_n 1, 1) := by decide +kernel
theorem dModel_lookApply_6 : decode bModel_lookApply 6 = .ok (.iaload, 1) := by decide +kernel
theorem dModel_lookApply_7 : decode bModel_lookApply 7 = .ok (.invokevirtual 173, 3) := by decide +kernel
theorem dModel_lookApply_10 : decode bModel_lookApply 10 = .ok (.aload_n 0, 1) := by decide +kernel
theorem dModel_lookApply_11 : decode bModel_lookApply 11 = .ok (.getfield 118, 3) := by decide +kernel
theorem dModel_lookApply_14 : decode bModel_lookApply 14 = .ok (.iconst 4, 1) := by decide +kernel
theorem dModel_lookApply_15 : decode bModel_lookApply 15 = .ok (.if_icmp .ne 13, 3) := by decide +kernel
theorem dModel_lookApply_18 : decode bModel_lookApply 18 = .ok (.aload_n 0, 1) := by decide +kernel
theorem dModel_lookApply_19 : decode bModel_lookApply 19 = .ok (.iload_n 1, 1) := by decide +kernel
theorem dModel_lookApply_20 : decode bModel_lookApply 20 = .ok (.aload_n 0, 1) := by decide +kernel
theorem dModel_lookApply_21 : decode bModel_lookApply 21 = .ok (.getfield 121, 3) := by decide +kernel
theorem dModel_lookApply_24 : decode bModel_lookApply 24 = .ok (.invokevirtual 247, 3) := by decide +kernel
theorem dModel_lookApply_27 : decode bModel_lookApply 27 = .ok (.ireturn, 1) := by decide +kernel
theorem dModel_lookApply_28 : decode bModel_lookApply 28 = .ok (.aload_n 0, 1) := by decide +kernel
theorem dModel_lookApply_29 : decode bModel_lookApply 29 = .ok (.aload_n 0, 1) := by decide +kernel
theorem dModel_lookApply_30 : decode bModel_lookApply 30 = .ok (.getfield 17, 3) := by decide +kernel
theorem dModel_lookApply_33 : decode bModel_lookApply 33 = .ok (.iload_n 1, 1) := by decide +kernel
theorem dModel_lookApply_34 : decode bModel_lookApply 34 = .ok (.iaload, 1) := by decide +kernel
theorem dModel_lookApply_35 : decode bModel_lookApply 35 = .ok (.invokevirtual 250, 3) := by decide +kernel
theorem dModel_lookApply_38 : decode bModel_lookApply 38 = .ok (.istore_n 2, 1) := by decide +kernel
theorem dModel_lookApply_39 : decode bModel_lookApply 39 = .ok (.iload_n 2, 1) := by decide +kernel
theorem dModel_lookApply_40 : decode bModel_lookApply 40 = .ok (.ifCond .le 5, 3) := by decide +kernel
theorem dModel_lookApply_43 : decode bModel_lookApply 43 = .ok (.iload_n 2, 1) := by decide +kernel
theorem dModel_lookApply_44 : decode bModel_lookApply 44 = .ok (.ireturn, 1) := by decide +kernel
theorem dModel_lookApply_45 : decode bModel_lookApply 45 = .ok (.aload_n 0, 1) := by decide +kernel
theorem dModel_lookApply_46 : decode bModel_lookApply 46 = .ok (.getfield 20, 3) := by decide +kernel
theorem dModel_lookApply_49 : decode bModel_lookApply 49 = .ok (.iload_n 1, 1) := by decide +kernel
theorem dModel_lookApply_50 : decode bModel_lookApply 50 = .ok (.iaload, 1) := by decide +kernel
theorem dModel_lookApply_51 : decode bModel_lookApply 51 = .ok (.iconst 1, 1) := by decide +kernel
theorem dModel_lookApply_52 : decode bModel_lookApply 52 = .ok (.if_icmp .eq 6, 3) := by decide +kernel
theorem dModel_lookApply_55 : decode bModel_lookApply 55 = .ok (.bipush 11, 2) := by decide +kernel
theorem dModel_lookApply_57 : decode bModel_lookApply 57 = .ok (.ireturn, 1) := by decide +kernel
theorem dModel_lookApply_58 : decode bModel_lookApply 58 = .ok (.aload_n 0, 1) := by decide +kernel
theorem dModel_lookApply_59 : decode bModel_lookApply 59 = .ok (.iload_n 1, 1) := by decide +kernel
theorem dModel_lookApply_60 : decode bModel_lookApply 60 = .ok (.iconst 0, 1) := by decide +kernel
theorem dModel_lookApply_61 : decode bModel_lookApply 61 = .ok (.invokevirtual 154, 3) := by decide +kernel
theorem dModel_lookApply_64 : decode bModel_lookApply 64 = .ok (.istore_n 3, 1) := by decide +kernel
theorem dModel_lookApply_65 : decode bModel_lookApply 65 = .ok (.aload_n 0, 1) := by decide +kernel
theorem dModel_lookApply_66 : decode bModel_lookApply 66 = .ok (.getfield 121, 3) := by decide +kernel
theorem dModel_lookApply_69 : decode bModel_lookApply 69 = .ok (.istore 4, 2) := by decide +kernel
theorem dModel_lookApply_71 : decode bModel_lookApply 71 = .ok (.aload_n 0, 1) := by decide +kernel
theorem dModel_lookApply_72 : decode bModel_lookApply 72 = .ok (.getfield 72, 3) := by decide +kernel
theorem dModel_lookApply_75 : decode bModel_lookApply 75 = .ok (.iload 4, 2) := by decide +kernel
theorem dModel_lookApply_77 : decode bModel_lookApply 77 = .ok (.iaload, 1) := by decide +kernel
theorem dModel_lookApply_78 : decode bModel_lookApply 78 = .ok (.istore 5, 2) := by decide +kernel
theorem dModel_lookApply_80 : decode bModel_lookApply 80 = .ok (.aload_n 0, 1) := by decide +kernel
theorem dModel_lookApply_81 : decode bModel_lookApply 81 = .ok (.getfield 29, 3) := by decide +kernel
theorem dModel_lookApply_84 : decode bModel_lookApply 84 = .ok (.iload_n 3, 1) := by decide +kernel
theorem dModel_lookApply_85 : decode bModel_lookApply 85 = .ok (.iaload, 1) := by decide +kernel
theorem dModel_lookApply_86 : decode bModel_lookApply 86 = .ok (.iconst 2, 1) := by decide +kernel
theorem dModel_lookApply_87 : decode bModel_lookApply 87 = .ok (.if_icmp .eq 5, 3) := by decide +kernel
theorem dModel_lookApply_90 : decode bModel_lookApply 90 = .ok (.iconst 3, 1) := by decide +kernel
theorem dModel_lookApply_91 : decode bModel_lookApply 91 = .ok (.ireturn, 1) := by decide +kernel
theorem dModel_lookApply_92 : decode bModel_lookApply 92 = .ok (.aload_n 0, 1) := by decide +kernel
theorem dModel_lookApply_93 : decode bModel_lookApply 93 = .ok (.getfield 35, 3) := by decide +kernel
theorem dModel_lookApply_96 : decode bModel_lookApply 96 = .ok (.iload_n 3, 1) := by decide +kernel
theorem dModel_lookApply_97 : decode bModel_lookApply 97 = .ok (.baload, 1) := by decide +kernel
theorem dModel_lookApply_98 : decode bModel_lookApply 98 = .ok (.ifCond .eq 21, 3) := by decide +kernel
theorem dModel_lookApply_101 : decode bModel_lookApply 101 = .ok (.aload_n 0, 1) := by decide +kernel
theorem dModel_lookApply_102 : decode bModel_lookApply 102 = .ok (.iload 5, 2) := by decide +kernel
theorem dModel_lookApply_104 : decode bModel_lookApply 104 = .ok (.aload_n 0, 1) := by decide +kernel
theorem dModel_lookApply_105 : decode bModel_lookApply 105 = .ok (.getfield 42, 3) := by decide +kernel
theorem dModel_lookApply_108 : decode bModel_lookApply 108 = .ok (.iload_n 3, 1) := by decide +kernel
theorem dModel_lookApply_109 : decode bModel_lookApply 109 = .ok (.laload, 1) := by decide +kernel
theorem dModel_lookApply_110 : decode bModel_lookApply 110 = .ok (.invokevirtual 253, 3) := by decide +kernel
theorem dModel_lookApply_113 : decode bModel_lookApply 113 = .ok (.ifCond .ne 6, 3) := by decide +kernel
theorem dModel_lookApply_116 : decode bModel_lookApply 116 = .ok (.bipush 6, 2) := by decide +kernel
theorem dModel_lookApply_118 : decode bModel_lookApply 118 = .ok (.ireturn, 1) := by decide +kernel
theorem dModel_lookApply_119 : decode bModel_lookApply 119 = .ok (.aload_n 0, 1) := by decide +kernel
theorem dModel_lookApply_120 : decode bModel_lookApply 120 = .ok (.iload_n 1, 1) := by decide +kernel
theorem dModel_lookApply_121 : decode bModel_lookApply 121 = .ok (.iconst 0, 1) := by decide +kernel
theorem dModel_lookApply_122 : decode bModel_lookApply 122 = .ok (.iconst 0, 1) := by decide +kernel
theorem dModel_lookApply_123 : decode bModel_lookApply 123 = .ok (.aload_n 0, 1) := by decide +kernel
theorem dModel_lookApply_124 : decode bModel_lookApply 124 = .ok (.getfield 35, 3) := by decide +kernel
theorem dModel_lookApply_127 : decode bModel_lookApply 127 = .ok (.iload_n 3, 1) := by decide +kernel
theorem dModel_lookApply_128 : decode bModel_lookApply 128 = .ok (.baload, 1) := by decide +kernel
theorem dModel_lookApply_129 : decode bModel_lookApply 129 = .ok (.ifCond .eq 17, 3) := by decide +kernel
theorem dModel_lookApply_132 : decode bModel_lookApply 132 = .ok (.aload_n 0, 1) := by decide +kernel
theorem dModel_lookApply_133 : decode bModel_lookApply 133 = .ok (.getfield 69, 3) := by decide +kernel
theorem dModel_lookApply_136 : decode bModel_lookApply 136 = .ok (.iload 4, 2) := by decide +kernel
theorem dModel_lookApply_138 : decode bModel_lookApply 138 = .ok (.iaload, 1) := by decide +kernel
theorem dModel_lookApply_139 : decode bModel_lookApply 139 = .ok (.ifCond .ne 7, 3) := by decide +kernel
theorem dModel_lookApply_142 : decode bModel_lookApply 142 = .ok (.iconst 1, 1) := by decide +kernel
theorem dModel_lookApply_143 : decode bModel_lookApply 143 = .ok (.goto 4, 3) := by decide +kernel
theorem dModel_lookApply_146 : decode bModel_lookApply 146 = .ok (.iconst 0, 1) := by decide +kernel
theorem dModel_lookApply_147 : decode bModel_lookApply 147 = .ok (.invokevirtual 147, 3) := by decide +kernel
theorem dModel_lookApply_150 : decode bModel_lookApply 150 = .ok (.aload_n 0, 1) := by decide +kernel
theorem dModel_lookApply_151 : decode bModel_lookApply 151 = .ok (.getfield 35, 3) := by decide +kernel
theorem dModel_lookApply_154 : decode bModel_lookApply 154 = .ok (.iload_n 1, 1) := by decide +kernel
theorem dModel_lookApply_155 : decode bModel_lookApply 155 = .ok (.baload, 1) := by decide +kernel
theorem dModel_lookApply_156 : decode bModel_lookApply 156 = .ok (.ifCond .eq 72, 3) := by decide +kernel
theorem dModel_lookApply_159 : decode bModel_lookApply 159 = .ok (.aload_n 0, 1) := by decide +kernel
theorem dModel_lookApply_160 : decode bModel_lookApply 160 = .ok (.getfield 42, 3) := by decide +kernel
theorem dModel_lookApply_163 : decode bModel_lookApply 163 = .ok (.iload_n 1, 1) := by decide +kernel
theorem dModel_lookApply_164 : decode bModel_lookApply 164 = .ok (.aload_n 0, 1) := by decide +kernel
theorem dModel_lookApply_165 : decode bModel_lookApply 165 = .ok (.sipush 8000, 3) := by decide +kernel
theorem dModel_lookApply_168 : decode bModel_lookApply 168 = .ok (.iload 4, 2) := by decide +kernel
theorem dModel_lookApply_170 : decode bModel_lookApply 170 = .ok (.iadd, 1) := by decide +kernel
theorem dModel_lookApply_171 : decode bModel_lookApply 171 = .ok (.aload_n 0, 1) := by decide +kernel
theorem dModel_lookApply_172 : decode bModel_lookApply 172 = .ok (.getfield 60, 3) := by decide +kernel
theorem dModel_lookApply_175 : decode bModel_lookApply 175 = .ok (.iload 5, 2) := by decide +kernel
theorem dModel_lookApply_177 : decode bModel_lookApply 177 = .ok (.iaload, 1) := by decide +kernel
theorem dModel_lookApply_178 : decode bModel_lookApply 178 = .ok (.i2l, 1) := by decide +kernel
theorem dModel_lookApply_179 : decode bModel_lookApply 179 = .ok (.aload_n 0, 1) := by decide +kernel
theorem dModel_lookApply_180 : decode bModel_lookApply 180 = .ok (.getfield 42, 3) := by decide +kernel
theorem dModel_lookApply_183 : decode bModel_lookApply 183 = .ok (.iload_n 3, 1) := by decide +kernel
theorem dModel_lookApply_184 : decode bModel_lookApply 184 = .ok (.laload, 1) := by decide +kernel
theorem dModel_lookApply_185 : decode bModel_lookApply 185 = .ok (.lcmp, 1) := by decide +kernel
theorem dModel_lookApply_186 : decode bModel_lookApply 186 = .ok (.ifCond .le 21, 3) := by decide +kernel
theorem dModel_lookApply_189 : decode bModel_lookApply 189 = .ok (.aload_n 0, 1) := by decide +kernel
theorem dModel_lookApply_190 : decode bModel_lookApply 190 = .ok (.getfield 60, 3) := by decide +kernel
theorem dModel_lookApply_193 : decode bModel_lookApply 193 = .ok (.iload 5, 2) := by decide +kernel
theorem dModel_lookApply_195 : decode bModel_lookApply 195 = .ok (.iaload, 1) := by decide +kernel
theorem dModel_lookApply_196 : decode bModel_lookApply 196 = .ok (.i2l, 1) := by decide +kernel
theorem dModel_lookApply_197 : decode bModel_lookApply 197 = .ok (.aload_n 0, 1) := by decide +kernel
theorem dModel_lookApply_198 : decode bModel_lookApply 198 = .ok (.getfield 42, 3) := by decide +kernel
theorem dModel_lookApply_201 : decode bModel_lookApply 201 = .ok (.iload_n 3, 1) := by decide +kernel
theorem dModel_lookApply_202 : decode bModel_lookApply 202 = .ok (.laload, 1) := by decide +kernel
theorem dModel_lookApply_203 : decode bModel_lookApply 203 = .ok (.lsub, 1) := by decide +kernel
theorem dModel_lookApply_204 : decode bModel_lookApply 204 = .ok (.goto 18, 3) := by decide +kernel
theorem dModel_lookApply_207 : decode bModel_lookApply 207 = .ok (.aload_n 0, 1) := by decide +kernel
theorem dModel_lookApply_208 : decode bModel_lookApply 208 = .ok (.getfield 42, 3) := by decide +kernel
theorem dModel_lookApply_211 : decode bModel_lookApply 211 = .ok (.iload_n 3, 1) := by decide +kernel
theorem dModel_lookApply_212 : decode bModel_lookApply 212 = .ok (.laload, 1) := by decide +kernel
theorem dModel_lookApply_213 : decode bModel_lookApply 213 = .ok (.aload_n 0, 1) := by decide +kernel
theorem dModel_lookApply_214 : decode bModel_lookApply 214 = .ok (.getfield 60, 3) := by decide +kernel
theorem dModel_lookApply_217 : decode bModel_lookApply 217 = .ok (.iload 5, 2) := by decide +kernel
theorem dModel_lookApply_219 : decode bModel_lookApply 219 = .ok (.iaload, 1) := by decide +kernel
theorem dModel_lookApply_220 : decode bModel_lookApply 220 = .ok (.i2l, 1) := by decide +kernel
theorem dModel_lookApply_221 : decode bModel_lookApply 221 = .ok (.lsub, 1) := by decide +kernel
theorem dModel_lookApply_222 : decode bModel_lookApply 222 = .ok (.l2i, 1) := by decide +kernel
theorem dModel_lookApply_223 : decode bModel_lookApply 223 = .ok (.invokevirtual 131, 3) := by decide +kernel
theorem dModel_lookApply_226 : decode bModel_lookApply 226 = .ok (.i2l, 1) := by decide +kernel
theorem dModel_lookApply_227 : decode bModel_lookApply 227 = .ok (.lastore, 1) := by decide +kernel
theorem dModel_lookApply_228 : decode bModel_lookApply 228 = .ok (.aload_n 0, 1) := by decide +kernel
theorem dModel_lookApply_229 : decode bModel_lookApply 229 = .ok (.getfield 39, 3) := by decide +kernel
theorem dModel_lookApply_232 : decode bModel_lookApply 232 = .ok (.iload_n 1, 1) := by decide +kernel
theorem dModel_lookApply_233 : decode bModel_lookApply 233 = .ok (.iload 4, 2) := by decide +kernel
theorem dModel_lookApply_235 : decode bModel_lookApply 235 = .ok (.iastore, 1) := by decide +kernel
theorem dModel_lookApply_236 : decode bModel_lookApply 236 = .ok (.iconst 0, 1) := by decide +kernel
theorem dModel_lookApply_237 : decode bModel_lookApply 237 = .ok (.ireturn, 1) := by decide +kernel
theorem dModel_lookFunction_0 : decode bModel_lookFunction 0 = .ok (.aload_n 0, 1) := by decide +kernel
theorem dModel_lookFunction_1 : decode bModel_lookFunction 1 = .ok (.getfield 20, 3) := by decide +kernel
theorem dModel_lookFunction_4 : decode bModel_lookFunction 4 = .ok (.iload_n 1, 1) := by decide +kernel
theorem dModel_lookFunction_5 : decode bModel_lookFunction 5 = .ok (.iaload, 1) := by decide +kernel
theorem dModel_lookFunction_6 : decode bModel_lookFunction 6 = .ok (.iload_n 2, 1) := by decide +kernel
theorem dModel_lookFunction_7 : decode bModel_lookFunction 7 = .ok (.bipush 11, 2) := by decide +kernel
theorem dModel_lookFunction_9 : decode bModel_lookFunction 9 = .ok (.if_icmp .ne 7, 3) := by decide +kernel
theorem dModel_lookFunction_12 : decode bModel_lookFunction 12 = .ok (.iconst 2, 1) := by decide +kernel
theorem dModel_lookFunction_13 : decode bModel_lookFunction 13 = .ok (.goto 4, 3) := by decide +kernel
theorem dModel_lookFunction_16 : decode bModel_lookFunction 16 = .ok (.iconst 1, 1) := by decide +kernel
theorem dModel_lookFunction_17 : decode bModel_lookFunction 17 = .ok (.if_icmp .eq 6, 3) := by decide +kernel
theorem dModel_lookFunction_20 : decode bModel_lookFunction 20 = .ok (.bipush 11, 2) := by decide +kernel
theorem dModel_lookFunction_22 : decode bModel_lookFunction 22 = .ok (.ireturn, 1) := by decide +kernel
theorem dModel_lookFunction_23 : decode bModel_lookFunction 23 = .ok (.aload_n 0, 1) := by decide +kernel
theorem dModel_lookFunction_24 : decode bModel_lookFunction 24 = .ok (.iload_n 1, 1) := by decide +kernel
theorem dModel_lookFunction_25 : decode bModel_lookFunction 25 = .ok (.iconst 0, 1) := by decide +kernel
theorem dModel_lookFunction_26 : decode bModel_lookFunction 26 = .ok (.invokevirtual 154, 3) := by decide +kernel
theorem dModel_lookFunction_29 : decode bModel_lookFunction 29 = .ok (.istore_n 3, 1) := by decide +kernel
theorem dModel_lookFunction_30 : decode bModel_lookFunction 30 = .ok (.iload_n 2, 1) := by decide +kernel
theorem dModel_lookFunction_31 : decode bModel_lookFunction 31 = .ok (.bipush 10, 2) := by decide +kernel
theorem dModel_lookFunction_33 : decode bModel_lookFunction 33 = .ok (.if_icmp .ge 82, 3) := by decide +kernel
theorem dModel_lookFunction_36 : decode bModel_lookFunction 36 = .ok (.aload_n 0, 1) := by decide +kernel
theorem dModel_lookFunction_37 : decode bModel_lookFunction 37 = .ok (.getfield 13, 3) := by decide +kernel
theorem dModel_lookFunction_40 : decode bModel_lookFunction 40 = .ok (.iload_n 3, 1) := by decide +kernel
theorem dModel_lookFunction_41 : decode bModel_lookFunction 41 = .ok (.iaload, 1) := by decide +kernel
theorem dModel_lookFunction_42 : decode bModel_lookFunction 42 = .ok (.iconst 1, 1) := by decide +kernel
theorem dModel_lookFunction_43 : decode bModel_lookFunction 43 = .ok (.if_icmp .eq 6, 3) := by decide +kernel
theorem dModel_lookFunction_46 : decode bModel_lookFunction 46 = .ok (.bipush 11, 2) := by decide +kernel
theorem dModel_lookFunction_48 : decode bModel_lookFunction 48 = .ok (.ireturn, 1) := by decide +kernel
theorem dModel_lookFunction_49 : decode bModel_lookFunction 49 = .ok (.aload_n 0, 1) := by decide +kernel
theorem dModel_lookFunction_50 : decode bModel_lookFunction 50 = .ok (.getfield 39, 3) := by decide +kernel
theorem dModel_lookFunction_53 : decode bModel_lookFunction 53 = .ok (.iload_n 3, 1) := by decide +kernel
theorem dModel_lookFunction_54 : decode bModel_lookFunction 54 = .ok (.iaload, 1) := by decide +kernel
theorem dModel_lookFunction_55 : decode bModel_lookFunction 55 = .ok (.istore 4, 2) := by decide +kernel
theorem dModel_lookFunction_57 : decode bModel_lookFunction 57 = .ok (.iload 4, 2) := by decide +kernel
theorem dModel_lookFunction_59 : decode bModel_lookFunction 59 = .ok (.ifCond .lt 22, 3) := by decide +kernel
theorem dModel_lookFunction_62 : decode bModel_lookFunction 62 = .ok (.iload 4, 2) := by decide +kernel
theorem dModel_lookFunction_64 : decode bModel_lookFunction 64 = .ok (.sipush 2000, 3) := by decide +kernel
theorem dModel_lookFunction_67 : decode bModel_lookFunction 67 = .ok (.if_icmp .ge 14, 3) := by decide +kernel
theorem dModel_lookFunction_70 : decode bModel_lookFunction 70 = .ok (.aload_n 0, 1) := by decide +kernel
theorem dModel_lookFunction_71 : decode bModel_lookFunction 71 = .ok (.getfield 69, 3) := by decide +kernel
theorem dModel_lookFunction_74 : decode bModel_lookFunction 74 = .ok (.iload 4, 2) := by decide +kernel
theorem dModel_lookFunction_76 : decode bModel_lookFunction 76 = .ok (.iaload, 1) := by decide +kernel
theorem dModel_lookFunction_77 : decode bModel_lookFunction 77 = .ok (.iconst 1, 1) := by decide +kernel
theorem dModel_lookFunction_78 : decode bModel_lookFunction 78 = .ok (.if_icmp .eq 5, 3) := by decide +kernel
theorem dModel_lookFunction_81 : decode bModel_lookFunction 81 = .ok (.iconst 2, 1) := by decide +kernel
theorem dModel_lookFunction_82 : decode bModel_lookFunction 82 = .ok (.ireturn, 1) := by decide +kernel
theorem dModel_lookFunction_83 : decode bModel_lookFunction 83 = .ok (.aload_n 0, 1) := by decide +kernel
theorem dModel_lookFunction_84 : decode bModel_lookFunction 84 = .ok (.iload_n 1, 1) := by decide +kernel
theorem dModel_lookFunction_85 : decode bModel_lookFunction 85 = .ok (.iconst 1, 1) := by decide +kernel
theorem dModel_lookFunction_86 : decode bModel_lookFunction 86 = .ok (.iconst 0, 1) := by decide +kernel
theorem dModel_lookFunction_87 : decode bModel_lookFunction 87 = .ok (.iconst 0, 1) := by decide +kernel
theorem dModel_lookFunction_88 : decode bModel_lookFunction 88 = .ok (.invokevirtual 147, 3) := by decide +kernel
theorem dModel_lookFunction_91 : decode bModel_lookFunction 91 = .ok (.aload_n 0, 1) := by decide +kernel
theorem dModel_lookFunction_92 : decode bModel_lookFunction 92 = .ok (.getfield 39, 3) := by decide +kernel
theorem dModel_lookFunction_95 : decode bModel_lookFunction 95 = .ok (.iload_n 1, 1) := by decide +kernel
theorem dModel_lookFunction_96 : decode bModel_lookFunction 96 = .ok (.sipush 3000, 3) := by decide +kernel
theorem dModel_lookFunction_99 : decode bModel_lookFunction 99 = .ok (.iastore, 1) := by decide +kernel
theorem dModel_lookFunction_100 : decode bModel_lookFunction 100 = .ok (.aload_n 0, 1) := by decide +kernel
theorem dModel_lookFunction_101 : decode bModel_lookFunction 101 = .ok (.getfield 29, 3) := by decide +kernel
theorem dModel_lookFunction_104 : decode bModel_lookFunction 104 = .ok (.iload_n 3, 1) := by decide +kernel
theorem dModel_lookFunction_105 : decode bModel_lookFunction 105 = .ok (.iaload, 1) := by decide +kernel
theorem dModel_lookFunction_106 : decode bModel_lookFunction 106 = .ok (.ifCond .ne 7, 3) := by decide +kernel
theorem dModel_lookFunction_109 : decode bModel_lookFunction 109 = .ok (.iconst 0, 1) := by decide +kernel
theorem dModel_lookFunction_110 : decode bModel_lookFunction 110 = .ok (.goto 4, 3) := by decide +kernel
theorem dModel_lookFunction_113 : decode bModel_lookFunction 113 = .ok (.iconst 3, 1) := by decide +kernel
theorem dModel_lookFunction_114 : decode bModel_lookFunction 114 = .ok (.ireturn, 1) := by decide +kernel
theorem dModel_lookFunction_115 : decode bModel_lookFunction 115 = .ok (.iload_n 2, 1) := by decide +kernel
theorem dModel_lookFunction_116 : decode bModel_lookFunction 116 = .ok (.bipush 10, 2) := by decide +kernel
theorem dModel_lookFunction_118 : decode bModel_lookFunction 118 = .ok (.if_icmp .ne 94, 3) := by decide +kernel
theorem dModel_lookFunction_121 : decode bModel_lookFunction 121 = .ok (.aload_n 0, 1) := by decide +kernel
theorem dModel_lookFunction_122 : decode bModel_lookFunction 122 = .ok (.getfield 29, 3) := by decide +kernel
theorem dModel_lookFunction_125 : decode bModel_lookFunction 125 = .ok (.iload_n 3, 1) := by decide +kernel
theorem dModel_lookFunction_126 : decode bModel_lookFunction 126 = .ok (.iaload, 1) := by decide +kernel
theorem dModel_lookFunction_127 : decode bModel_lookFunction 127 = .ok (.iconst 3, 1) := by decide +kernel
theorem dModel_lookFunction_128 : decode bModel_lookFunction 128 = .ok (.if_icmp .eq 5, 3) := by decide +kernel
theorem dModel_lookFunction_131 : decode bModel_lookFunction 131 = .ok (.iconst 3, 1) := by decide +kernel
theorem dModel_lookFunction_132 : decode bModel_lookFunction 132 = .ok (.ireturn, 1) := by decide +kernel
theorem dModel_lookFunction_133 : decode bModel_lookFunction 133 = .ok (.aload_n 0, 1) := by decide +kernel
theorem dModel_lookFunction_134 : decode bModel_lookFunction 134 = .ok (.iload_n 1, 1) := by decide +kernel
theorem dModel_lookFunction_135 : decode bModel_lookFunction 135 = .ok (.iconst 2, 1) := by decide +kernel
theorem dModel_lookFunction_136 : decode bModel_lookFunction 136 = .ok (.iconst 0, 1) := by decide +kernel
theorem dModel_lookFunction_137 : decode bModel_lookFunction 137 = .ok (.aload_n 0, 1) := by decide +kernel
theorem dModel_lookFunction_138 : decode bModel_lookFunction 138 = .ok (.getfield 35, 3) := by decide +kernel
theorem dModel_lookFunction_141 : decode bModel_lookFunction 141 = .ok (.iload_n 3, 1) := by decide +kernel
theorem dModel_lookFunction_142 : decode bModel_lookFunction 142 = .ok (.baload, 1) := by decide +kernel
theorem dModel_lookFunction_143 : decode bModel_lookFunction 143 = .ok (.invokevirtual 147, 3) := by decide +kernel
theorem dModel_lookFunction_146 : decode bModel_lookFunction 146 = .ok (.aload_n 0, 1) := by decide +kernel
theorem dModel_lookFunction_147 : decode bModel_lookFunction 147 = .ok (.getfield 39, 3) := by decide +kernel
theorem dModel_lookFunction_150 : decode bModel_lookFunction 150 = .ok (.iload_n 1, 1) := by decide +kernel
theorem dModel_lookFunction_151 : decode bModel_lookFunction 151 = .ok (.sipush 3000, 3) := by decide +kernel
theorem dModel_lookFunction_154 : decode bModel_lookFunction 154 = .ok (.iastore, 1) := by decide +kernel
theorem dModel_lookFunction_155 : decode bModel_lookFunction 155 = .ok (.aload_n 0, 1) := by decide +kernel
theorem dModel_lookFunction_156 : decode bModel_lookFunction 156 = .ok (.getfield 35, 3) := by decide +kernel
theorem dModel_lookFunction_159 : decode bModel_lookFunction 159 = .ok (.iload_n 3, 1) := by decide +kernel
theorem dModel_lookFunction_160 : decode bModel_lookFunction 160 = .ok (.baload, 1) := by decide +kernel
theorem dModel_lookFunction_161 : decode bModel_lookFunction 161 = .ok (.ifCond .ne 5, 3) := by decide +kernel
theorem dModel_lookFunction_164 : decode bModel_lookFunction 164 = .ok (.iconst 0, 1) := by decide +kernel
theorem dModel_lookFunction_165 : decode bModel_lookFunction 165 = .ok (.ireturn, 1) := by decide +kernel
theorem dModel_lookFunction_166 : decode bModel_lookFunction 166 = .ok (.aload_n 0, 1) := by decide +kernel
theorem dModel_lookFunction_167 : decode bModel_lookFunction 167 = .ok (.iload_n 3, 1) := by decide +kernel
theorem dModel_lookFunction_168 : decode bModel_lookFunction 168 = .ok (.invokevirtual 231, 3) := by decide +kernel
theorem dModel_lookFunction_171 : decode bModel_lookFunction 171 = .ok (.lstore 4, 2) := by decide +kernel
theorem dModel_lookFunction_173 : decode bModel_lookFunction 173 = .ok (.aload_n 0, 1) := by decide +kernel
theorem dModel_lookFunction_174 : decode bModel_lookFunction 174 = .ok (.getfield 42, 3) := by decide +kernel
theorem dModel_lookFunction_177 : decode bModel_lookFunction 177 = .ok (.iload_n 1, 1) := by decide +kernel
theorem dModel_lookFunction_178 : decode bModel_lookFunction 178 = .ok (.lload 4, 2) := by decide +kernel
theorem dModel_lookFunction_180 : decode bModel_lookFunction 180 = .ok (.lastore, 1) := by decide +kernel
theorem dModel_lookFunction_181 : decode bModel_lookFunction 181 = .ok (.aload_n 0, 1) := by decide +kernel
theorem dModel_lookFunction_182 : decode bModel_lookFunction 182 = .ok (.iload_n 3, 1) := by decide +kernel
theorem dModel_lookFunction_183 : decode bModel_lookFunction 183 = .ok (.invokevirtual 220, 3) := by decide +kernel
theorem dModel_lookFunction_186 : decode bModel_lookFunction 186 = .ok (.ifCond .eq 19, 3) := by decide +kernel
theorem dModel_lookFunction_189 : decode bModel_lookFunction 189 = .ok (.lload 4, 2) := by decide +kernel
theorem dModel_lookFunction_191 : decode bModel_lookFunction 191 = .ok (.lconst 0, 1) := by decide +kernel
theorem dModel_lookFunction_192 : decode bModel_lookFunction 192 = .ok (.lcmp, 1) := by decide +kernel
theorem dModel_lookFunction_193 : decode bModel_lookFunction 193 = .ok (.ifCond .lt 12, 3) := by decide +kernel
theorem dModel_lookFunction_196 : decode bModel_lookFunction 196 = .ok (.lload 4, 2) := by decide +kernel
theorem dModel_lookFunction_198 : decode bModel_lookFunction 198 = .ok (.ldc2_w 223, 3) := by decide +kernel
theorem dModel_lookFunction_201 : decode bModel_lookFunction 201 = .ok (.lcmp, 1) := by decide +kernel
theorem dModel_lookFunction_202 : decode bModel_lookFunction 202 = .ok (.ifCond .le 8, 3) := by decide +kernel
theorem dModel_lookFunction_205 : decode bModel_lookFunction 205 = .ok (.bipush 9, 2) := by decide +kernel
theorem dModel_lookFunction_207 : decode bModel_lookFunction 207 = .ok (.goto 4, 3) := by decide +kernel
theorem dModel_lookFunction_210 : decode bModel_lookFunction 210 = .ok (.iconst 0, 1) := by decide +kernel
theorem dModel_lookFunction_211 : decode bModel_lookFunction 211 = .ok (.ireturn, 1) := by decide +kernel
theorem dModel_lookFunction_212 : decode bModel_lookFunction 212 = .ok (.aload_n 0, 1) := by decide +kernel
theorem dModel_lookFunction_213 : decode bModel_lookFunction 213 = .ok (.iload_n 1, 1) := by decide +kernel
theorem dModel_lookFunction_214 : decode bModel_lookFunction 214 = .ok (.iconst 1, 1) := by decide +kernel
theorem dModel_lookFunction_215 : decode bModel_lookFunction 215 = .ok (.invokevirtual 154, 3) := by decide +kernel
theorem dModel_lookFunction_218 : decode bModel_lookFunction 218 = .ok (.istore 4, 2) := by decide +kernel
theorem dModel_lookFunction_220 : decode bModel_lookFunction 220 = .ok (.aload_n 0, 1) := by decide +kernel
theorem dModel_lookFunction_221 : decode bModel_lookFunction 221 = .ok (.getfield 29, 3) := by decide +kernel
theorem dModel_lookFunction_224 : decode bModel_lookFunction 224 = .ok (.iload 4, 2) := by decide +kernel
theorem dModel_lookFunction_226 : decode bModel_lookFunction 226 = .ok (.iaload, 1) := by decide +kernel
theorem dModel_lookFunction_227 : decode bModel_lookFunction 227 = .ok (.iconst 2, 1) := by decide +kernel
theorem dModel_lookFunction_228 : decode bModel_lookFunction 228 = .ok (.if_icmp .ne 13, 3) := by decide +kernel
theorem dModel_lookFunction_231 : decode bModel_lookFunction 231 = .ok (.aload_n 0, 1) := by decide +kernel
theorem dModel_lookFunction_232 : decode bModel_lookFunction 232 = .ok (.getfield 29, 3) := by decide +kernel
theorem dModel_lookFunction_235 : decode bModel_lookFunction 235 = .ok (.iload_n 3, 1) := by decide +kernel
theorem dModel_lookFunction_236 : decode bModel_lookFunction 236 = .ok (.iaload, 1) := by decide +kernel
theorem dModel_lookFunction_237 : decode bModel_lookFunction 237 = .ok (.iconst 2, 1) := by decide +kernel
theorem dModel_lookFunction_238 : decode bModel_lookFunction 238 = .ok (.if_icmp .eq 5, 3) := by decide +kernel
theorem dModel_lookFunction_241 : decode bModel_lookFunction 241 = .ok (.iconst 3, 1) := by decide +kernel
theorem dModel_lookFunction_242 : decode bModel_lookFunction 242 = .ok (.ireturn, 1) := by decide +kernel
theorem dModel_lookFunction_243 : decode bModel_lookFunction 243 = .ok (.aload_n 0, 1) := by decide +kernel
theorem dModel_lookFunction_244 : decode bModel_lookFunction 244 = .ok (.getfield 35, 3) := by decide +kernel
theorem dModel_lookFunction_247 : decode bModel_lookFunction 247 = .ok (.iload_n 3, 1) := by decide +kernel
theorem dModel_lookFunction_248 : decode bModel_lookFunction 248 = .ok (.baload, 1) := by decide +kernel
theorem dModel_lookFunction_249 : decode bModel_lookFunction 249 = .ok (.ifCond .eq 29, 3) := by decide +kernel
theorem dModel_lookFunction_252 : decode bModel_lookFunction 252 = .ok (.aload_n 0, 1) := by decide +kernel
theorem dModel_lookFunction_253 : decode bModel_lookFunction 253 = .ok (.getfield 42, 3) := by decide +kernel
theorem dModel_lookFunction_256 : decode bModel_lookFunction 256 = .ok (.iload_n 3, 1) := by decide +kernel
theorem dModel_lookFunction_257 : decode bModel_lookFunction 257 = .ok (.laload, 1) := by decide +kernel
theorem dModel_lookFunction_258 : decode bModel_lookFunction 258 = .ok (.lconst 1, 1) := by decide +kernel
theorem dModel_lookFunction_259 : decode bModel_lookFunction 259 = .ok (.lcmp, 1) := by decide +kernel
theorem dModel_lookFunction_260 : decode bModel_lookFunction 260 = .ok (.ifCond .lt 16, 3) := by decide +kernel
theorem dModel_lookFunction_263 : decode bModel_lookFunction 263 = .ok (.aload_n 0, 1) := by decide +kernel
theorem dModel_lookFunction_264 : decode bModel_lookFunction 264 = .ok (.getfield 42, 3) := by decide +kernel
theorem dModel_lookFunction_267 : decode bModel_lookFunction 267 = .ok (.iload_n 3, 1) := by decide +kernel
theorem dModel_lookFunction_268 : decode bModel_lookFunction 268 = .ok (.laload, 1) := by decide +kernel
theorem dModel_lookFunction_269 : decode bModel_lookFunction 269 = .ok (.ldc2_w 257, 3) := by decide +kernel
theorem dModel_lookFunction_272 : decode bModel_lookFunction 272 = .ok (.lcmp, 1) := by decide +kernel
theorem dModel_lookFunction_273 : decode bModel_lookFunction 273 = .ok (.ifCond .le 5, 3) := by decide +kernel
theorem dModel_lookFunction_276 : decode bModel_lookFunction 276 = .ok (.iconst 4, 1) := by decide +kernel
theorem dModel_lookFunction_277 : decode bModel_lookFunction 277 = .ok (.ireturn, 1) := by decide +kernel
theorem dModel_lookFunction_278 : decode bModel_lookFunction 278 = .ok (.aload_n 0, 1) := by decide +kernel
theorem dModel_lookFunction_279 : decode bModel_lookFunction 279 = .ok (.getfield 35, 3) := by decide +kernel
theorem dModel_lookFunction_282 : decode bModel_lookFunction 282 = .ok (.iload_n 3, 1) := by decide +kernel
theorem dModel_lookFunction_283 : decode bModel_lookFunction 283 = .ok (.baload, 1) := by decide +kernel
theorem dModel_lookFunction_284 : decode bModel_lookFunction 284 = .ok (.ifCond .ne 5, 3) := by decide +kernel
theorem dModel_lookFunction_287 : decode bModel_lookFunction 287 = .ok (.iconst 5, 1) := by decide +kernel
theorem dModel_lookFunction_288 : decode bModel_lookFunction 288 = .ok (.ireturn, 1) := by decide +kernel
theorem dModel_lookFunction_289 : decode bModel_lookFunction 289 = .ok (.aload_n 0, 1) := by decide +kernel
theorem dModel_lookFunction_290 : decode bModel_lookFunction 290 = .ok (.iload_n 1, 1) := by decide +kernel
theorem dModel_lookFunction_291 : decode bModel_lookFunction 291 = .ok (.iconst 3, 1) := by decide +kernel
theorem dModel_lookFunction_292 : decode bModel_lookFunction 292 = .ok (.aload_n 0, 1) := by decide +kernel
theorem dModel_lookFunction_293 : decode bModel_lookFunction 293 = .ok (.getfield 42, 3) := by decide +kernel
theorem dModel_lookFunction_296 : decode bModel_lookFunction 296 = .ok (.iload_n 3, 1) := by decide +kernel
theorem dModel_lookFunction_297 : decode bModel_lookFunction 297 = .ok (.laload, 1) := by decide +kernel
theorem dModel_lookFunction_298 : decode bModel_lookFunction 298 = .ok (.l2i, 1) := by decide +kernel
theorem dModel_lookFunction_299 : decode bModel_lookFunction 299 = .ok (.aload_n 0, 1) := by decide +kernel
theorem dModel_lookFunction_300 : decode bModel_lookFunction 300 = .ok (.getfield 35, 3) := by decide +kernel
theorem dModel_lookFunction_303 : decode bModel_lookFunction 303 = .ok (.iload 4, 2) := by decide +kernel
theorem dModel_lookFunction_305 : decode bModel_lookFunction 305 = .ok (.baload, 1) := by decide +kernel
theorem dModel_lookFunction_306 : decode bModel_lookFunction 306 = .ok (.invokevirtual 147, 3) := by decide +kernel
theorem dModel_lookFunction_309 : decode bModel_lookFunction 309 = .ok (.aload_n 0, 1) := by decide +kernel
theorem dModel_lookFunction_310 : decode bModel_lookFunction 310 = .ok (.getfield 35, 3) := by decide +kernel
theorem dModel_lookFunction_313 : decode bModel_lookFunction 313 = .ok (.iload 4, 2) := by decide +kernel
theorem dModel_lookFunction_315 : decode bModel_lookFunction 315 = .ok (.baload, 1) := by decide +kernel
theorem dModel_lookFunction_316 : decode bModel_lookFunction 316 = .ok (.ifCond .eq 15, 3) := by decide +kernel
theorem dModel_lookFunction_319 : decode bModel_lookFunction 319 = .ok (.aload_n 0, 1) := by decide +kernel
theorem dModel_lookFunction_320 : decode bModel_lookFunction 320 = .ok (.iload_n 1, 1) := by decide +kernel
theorem dModel_lookFunction_321 : decode bModel_lookFunction 321 = .ok (.aload_n 0, 1) := by decide +kernel
theorem dModel_lookFunction_322 : decode bModel_lookFunction 322 = .ok (.getfield 42, 3) := by decide +kernel
theorem dModel_lookFunction_325 : decode bModel_lookFunction 325 = .ok (.iload 4, 2) := by decide +kernel
theorem dModel_lookFunction_327 : decode bModel_lookFunction 327 = .ok (.laload, 1) := by decide +kernel
theorem dModel_lookFunction_328 : decode bModel_lookFunction 328 = .ok (.invokevirtual 235, 3) := by decide +kernel
theorem dModel_lookFunction_331 : decode bModel_lookFunction 331 = .ok (.aload_n 0, 1) := by decide +kernel
theorem dModel_lookFunction_332 : decode bModel_lookFunction 332 = .ok (.getfield 39, 3) := by decide +kernel
theorem dModel_lookFunction_335 : decode bModel_lookFunction 335 = .ok (.iload_n 1, 1) := by decide +kernel
theorem dModel_lookFunction_336 : decode bModel_lookFunction 336 = .ok (.sipush 3000, 3) := by decide +kernel
theorem dModel_lookFunction_339 : decode bModel_lookFunction 339 = .ok (.iastore, 1) := by decide +kernel
theorem dModel_lookFunction_340 : decode bModel_lookFunction 340 = .ok (.iconst 0, 1) := by decide +kernel
theorem dModel_lookFunction_341 : decode bModel_lookFunction 341 = .ok (.ireturn, 1) := by decide +kernel
theorem dModel_lookSlice_0 : decode bModel_lookSlice 0 = .ok (.aload_n 0, 1) := by decide +kernel
theorem dModel_lookSlice_1 : decode bModel_lookSlice 1 = .ok (.aload_n 0, 1) := by decide +kernel
theorem dModel_lookSlice_2 : decode bModel_lookSlice 2 = .ok (.getfield 17, 3) := by decide +kernel
theorem dModel_lookSlice_5 : decode bModel_lookSlice 5 = .ok (.iload_n 1, 1) := by decide +kernel
theorem dModel_lookSlice_6 : decode bModel_lookSlice 6 = .ok (.iaload, 1) := by decide +kernel
theorem dModel_lookSlice_7 : decode bModel_lookSlice 7 = .ok (.invokevirtual 250, 3) := by decide +kernel
theorem dModel_lookSlice_10 : decode bModel_lookSlice 10 = .ok (.istore 4, 2) := by decide +kernel
theorem dModel_lookSlice_12 : decode bModel_lookSlice 12 = .ok (.iload 4, 2) := by decide +kernel
theorem dModel_lookSlice_14 : decode bModel_lookSlice 14 = .ok (.ifCond .le 6, 3) := by decide +kernel
theorem dModel_lookSlice_17 : decode bModel_lookSlice 17 = .ok (.iload 4, 2) := by decide +kernel
theorem dModel_lookSlice_19 : decode bModel_lookSlice 19 = .ok (.ireturn, 1) := by decide +kernel
theorem dModel_lookSlice_20 : decode bModel_lookSlice 20 = .ok (.aload_n 0, 1) := by decide +kernel
theorem dModel_lookSlice_21 : decode bModel_lookSlice 21 = .ok (.getfield 121, 3) := by decide +kernel
theorem dModel_lookSlice_24 : decode bModel_lookSlice 24 = .ok (.istore 5, 2) := by decide +kernel
theorem dModel_lookSlice_26 : decode bModel_lookSlice 26 = .ok (.aload_n 0, 1) := by decide +kernel
theorem dModel_lookSlice_27 : decode bModel_lookSlice 27 = .ok (.getfield 72, 3) := by decide +kernel
theorem dModel_lookSlice_30 : decode bModel_lookSlice 30 = .ok (.iload 5, 2) := by decide +kernel
theorem dModel_lookSlice_32 : decode bModel_lookSlice 32 = .ok (.iaload, 1) := by decide +kernel
theorem dModel_lookSlice_33 : decode bModel_lookSlice 33 = .ok (.istore 6, 2) := by decide +kernel
theorem dModel_lookSlice_35 : decode bModel_lookSlice 35 = .ok (.aload_n 0, 1) := by decide +kernel
theorem dModel_lookSlice_36 : decode bModel_lookSlice 36 = .ok (.getfield 29, 3) := by decide +kernel
theorem dModel_lookSlice_39 : decode bModel_lookSlice 39 = .ok (.iload_n 2, 1) := by decide +kernel
theorem dModel_lookSlice_40 : decode bModel_lookSlice 40 = .ok (.iaload, 1) := by decide +kernel
theorem dModel_lookSlice_41 : decode bModel_lookSlice 41 = .ok (.iconst 2, 1) := by decide +kernel
theorem dModel_lookSlice_42 : decode bModel_lookSlice 42 = .ok (.if_icmp .ne 13, 3) := by decide +kernel
theorem dModel_lookSlice_45 : decode bModel_lookSlice 45 = .ok (.aload_n 0, 1) := by decide +kernel
theorem dModel_lookSlice_46 : decode bModel_lookSlice 46 = .ok (.getfield 29, 3) := by decide +kernel
theorem dModel_lookSlice_49 : decode bModel_lookSlice 49 = .ok (.iload_n 3, 1) := by decide +kernel
theorem dModel_lookSlice_50 : decode bModel_lookSlice 50 = .ok (.iaload, 1) := by decide +kernel
theorem dModel_lookSlice_51 : decode bModel_lookSlice 51 = .ok (.iconst 2, 1) := by decide +kernel
theorem dModel_lookSlice_52 : decode bModel_lookSlice 52 = .ok (.if_icmp .eq 5, 3) := by decide +kernel
theorem dModel_lookSlice_55 : decode bModel_lookSlice 55 = .ok (.iconst 3, 1) := by decide +kernel
theorem dModel_lookSlice_56 : decode bModel_lookSlice 56 = .ok (.ireturn, 1) := by decide +kernel
theorem dModel_lookSlice_57 : decode bModel_lookSlice 57 = .ok (.aload_n 0, 1) := by decide +kernel
theorem dModel_lookSlice_58 : decode bModel_lookSlice 58 = .ok (.getfield 35, 3) := by decide +kernel
theorem dModel_lookSlice_61 : decode bModel_lookSlice 61 = .ok (.iload_n 2, 1) := by decide +kernel
theorem dModel_lookSlice_62 : decode bModel_lookSlice 62 = .ok (.baload, 1) := by decide +kernel
theorem dModel_lookSlice_63 : decode bModel_lookSlice 63 = .ok (.ifCond .eq 12, 3) := by decide +kernel
theorem dModel_lookSlice_66 : decode bModel_lookSlice 66 = .ok (.aload_n 0, 1) := by decide +kernel
theorem dModel_lookSlice_67 : decode bModel_lookSlice 67 = .ok (.getfield 35, 3) := by decide +kernel
theorem dModel_lookSlice_70 : decode bModel_lookSlice 70 = .ok (.iload_n 3, 1) := by decide +kernel
theorem dModel_lookSlice_71 : decode bModel_lookSlice 71 = .ok (.baload, 1) := by decide +kernel
theorem dModel_lookSlice_72 : decode bModel_lookSlice 72 = .ok (.ifCond .ne 5, 3) := by decide +kernel
theorem dModel_lookSlice_75 : decode bModel_lookSlice 75 = .ok (.iconst 5, 1) := by decide +kernel
theorem dModel_lookSlice_76 : decode bModel_lookSlice 76 = .ok (.ireturn, 1) := by decide +kernel
theorem dModel_lookSlice_77 : decode bModel_lookSlice 77 = .ok (.aload_n 0, 1) := by decide +kernel
theorem dModel_lookSlice_78 : decode bModel_lookSlice 78 = .ok (.getfield 13, 3) := by decide +kernel
theorem dModel_lookSlice_81 : decode bModel_lookSlice 81 = .ok (.iload_n 1, 1) := by decide +kernel
theorem dModel_lookSlice_82 : decode bModel_lookSlice 82 = .ok (.iaload, 1) := by decide +kernel
theorem dModel_lookSlice_83 : decode bModel_lookSlice 83 = .ok (.bipush 24, 2) := by decide +kernel
theorem dModel_lookSlice_85 : decode bModel_lookSlice 85 = .ok (.if_icmp .ne 7, 3) := by decide +kernel
theorem dModel_lookSlice_88 : decode bModel_lookSlice 88 = .ok (.iconst 1, 1) := by decide +kernel
theorem dModel_lookSlice_89 : decode bModel_lookSlice 89 = .ok (.goto 4, 3) := by decide +kernel
theorem dModel_lookSlice_92 : decode bModel_lookSlice 92 = .ok (.iconst 0, 1) := by decide +kernel
theorem dModel_lookSlice_93 : decode bModel_lookSlice 93 = .ok (.istore 7, 2) := by decide +kernel
theorem dModel_lookSlice_95 : decode bModel_lookSlice 95 = .ok (.iload 7, 2) := by decide +kernel
theorem dModel_lookSlice_97 : decode bModel_lookSlice 97 = .ok (.ifCond .eq 21, 3) := by decide +kernel
theorem dModel_lookSlice_100 : decode bModel_lookSlice 100 = .ok (.aload_n 0, 1) := by decide +kernel
theorem dModel_lookSlice_101 : decode bModel_lookSlice 101 = .ok (.getfield 42, 3) := by decide +kernel
theorem dModel_lookSlice_104 : decode bModel_lookSlice 104 = .ok (.iload_n 2, 1) := by decide +kernel
theorem dModel_lookSlice_105 : decode bModel_lookSlice 105 = .ok (.laload, 1) := by decide +kernel
theorem dModel_lookSlice_106 : decode bModel_lookSlice 106 = .ok (.aload_n 0, 1) := by decide +kernel
theorem dModel_lookSlice_107 : decode bModel_lookSlice 107 = .ok (.getfield 42, 3) := by decide +kernel
theorem dModel_lookSlice_110 : decode bModel_lookSlice 110 = .ok (.iload_n 3, 1) := by decide +kernel
theorem dModel_lookSlice_111 : decode bModel_lookSlice 111 = .ok (.laload, 1) := by decide +kernel
theorem dModel_lookSlice_112 : decode bModel_lookSlice 112 = .ok (.lsub, 1) := by decide +kernel
theorem dModel_lookSlice_113 : decode bModel_lookSlice 113 = .ok (.lconst 1, 1) := by decide +kernel
theorem dModel_lookSlice_114 : decode bModel_lookSlice 114 = .ok (.ladd, 1) := by decide +kernel
theorem dModel_lookSlice_115 : decode bModel_lookSlice 115 = .ok (.goto 18, 3) := by decide +kernel
theorem dModel_lookSlice_118 : decode bModel_lookSlice 118 = .ok (.aload_n 0, 1) := by decide +kernel
theorem dModel_lookSlice_119 : decode bModel_lookSlice 119 = .ok (.getfield 42, 3) := by decide +kernel
theorem dModel_lookSlice_122 : decode bModel_lookSlice 122 = .ok (.iload_n 3, 1) := by decide +kernel
theorem dModel_lookSlice_123 : decode bModel_lookSlice 123 = .ok (.laload, 1) := by decide +kernel
theorem dModel_lookSlice_124 : decode bModel_lookSlice 124 = .ok (.aload_n 0, 1) := by decide +kernel
theorem dModel_lookSlice_125 : decode bModel_lookSlice 125 = .ok (.getfield 42, 3) := by decide +kernel
theorem dModel_lookSlice_128 : decode bModel_lookSlice 128 = .ok (.iload_n 2, 1) := by decide +kernel
theorem dModel_lookSlice_129 : decode bModel_lookSlice 129 = .ok (.laload, 1) := by decide +kernel
theorem dModel_lookSlice_130 : decode bModel_lookSlice 130 = .ok (.lsub, 1) := by decide +kernel
theorem dModel_lookSlice_131 : decode bModel_lookSlice 131 = .ok (.lconst 1, 1) := by decide +kernel
theorem dModel_lookSlice_132 : decode bModel_lookSlice 132 = .ok (.ladd, 1) := by decide +kernel
theorem dModel_lookSlice_133 : decode bModel_lookSlice 133 = .ok (.lstore 8, 2) := by decide +kernel
theorem dModel_lookSlice_135 : decode bModel_lookSlice 135 = .ok (.iload 7, 2) := by decide +kernel
theorem dModel_lookSlice_137 : decode bModel_lookSlice 137 = .ok (.aload_n 0, 1) := by decide +kernel
theorem dModel_lookSlice_138 : decode bModel_lookSlice 138 = .ok (.getfield 66, 3) := by decide +kernel
theorem dModel_lookSlice_141 : decode bModel_lookSlice 141 = .ok (.iload 6, 2) := by decide +kernel
theorem dModel_lookSlice_143 : decode bModel_lookSlice 143 = .ok (.baload, 1) := by decide +kernel
theorem dModel_lookSlice_144 : decode bModel_lookSlice 144 = .ok (.if_icmp .ne 40, 3) := by decide +kernel
theorem dModel_lookSlice_147 : decode bModel_lookSlice 147 = .ok (.lload 8, 2) := by decide +kernel
theorem dModel_lookSlice_149 : decode bModel_lookSlice 149 = .ok (.lconst 1, 1) := by decide +kernel
theorem dModel_lookSlice_150 : decode bModel_lookSlice 150 = .ok (.lcmp, 1) := by decide +kernel
theorem dModel_lookSlice_151 : decode bModel_lookSlice 151 = .ok (.ifCond .lt 33, 3) := by decide +kernel
theorem dModel_lookSlice_154 : decode bModel_lookSlice 154 = .ok (.aload_n 0, 1) := by decide +kernel
theorem dModel_lookSlice_155 : decode bModel_lookSlice 155 = .ok (.iload 6, 2) := by decide +kernel
theorem dModel_lookSlice_157 : decode bModel_lookSlice 157 = .ok (.aload_n 0, 1) := by decide +kernel
theorem dModel_lookSlice_158 : decode bModel_lookSlice 158 = .ok (.getfield 42, 3) := by decide +kernel
theorem dModel_lookSlice_161 : decode bModel_lookSlice 161 = .ok (.iload_n 2, 1) := by decide +kernel
theorem dModel_lookSlice_162 : decode bModel_lookSlice 162 = .ok (.laload, 1) := by decide +kernel
theorem dModel_lookSlice_163 : decode bModel_lookSlice 163 = .ok (.invokevirtual 253, 3) := by decide +kernel
theorem dModel_lookSlice_166 : decode bModel_lookSlice 166 = .ok (.ifCond .eq 18, 3) := by decide +kernel
theorem dModel_lookSlice_169 : decode bModel_lookSlice 169 = .ok (.aload_n 0, 1) := by decide +kernel
theorem dModel_lookSlice_170 : decode bModel_lookSlice 170 = .ok (.iload 6, 2) := by decide +kernel
theorem dModel_lookSlice_172 : decode bModel_lookSlice 172 = .ok (.aload_n 0, 1) := by decide +kernel
theorem dModel_lookSlice_173 : decode bModel_lookSlice 173 = .ok (.getfield 42, 3) := by decide +kernel
theorem dModel_lookSlice_176 : decode bModel_lookSlice 176 = .ok (.iload_n 3, 1) := by decide +kernel
theorem dModel_lookSlice_177 : decode bModel_lookSlice 177 = .ok (.laload, 1) := by decide +kernel
theorem dModel_lookSlice_178 : decode bModel_lookSlice 178 = .ok (.invokevirtual 253, 3) := by decide +kernel
theorem dModel_lookSlice_181 : decode bModel_lookSlice 181 = .ok (.ifCond .ne 6, 3) := by decide +kernel
theorem dModel_lookSlice_184 : decode bModel_lookSlice 184 = .ok (.bipush 6, 2) := by decide +kernel
theorem dModel_lookSlice_186 : decode bModel_lookSlice 186 = .ok (.ireturn, 1) := by decide +kernel
theorem dModel_lookSlice_187 : decode bModel_lookSlice 187 = .ok (.aload_n 0, 1) := by decide +kernel
theorem dModel_lookSlice_188 : decode bModel_lookSlice 188 = .ok (.iload_n 1, 1) := by decide +kernel
theorem dModel_lookSlice_189 : decode bModel_lookSlice 189 = .ok (.iconst 3, 1) := by decide +kernel
theorem dModel_lookSlice_190 : decode bModel_lookSlice 190 = .ok (.lload 8, 2) := by decide +kernel
theorem dModel_lookSlice_192 : decode bModel_lookSlice 192 = .ok (.l2i, 1) := by decide +kernel
theorem dModel_lookSlice_193 : decode bModel_lookSlice 193 = .ok (.aload_n 0, 1) := by decide +kernel
theorem dModel_lookSlice_194 : decode bModel_lookSlice 194 = .ok (.getfield 69, 3) := by decide +kernel
theorem dModel_lookSlice_197 : decode bModel_lookSlice 197 = .ok (.iload 5, 2) := by decide +kernel
theorem dModel_lookSlice_199 : decode bModel_lookSlice 199 = .ok (.iaload, 1) := by decide +kernel
theorem dModel_lookSlice_200 : decode bModel_lookSlice 200 = .ok (.ifCond .ne 7, 3) := by decide +kernel
theorem dModel_lookSlice_203 : decode bModel_lookSlice 203 = .ok (.iconst 1, 1) := by decide +kernel
theorem dModel_lookSlice_204 : decode bModel_lookSlice 204 = .ok (.goto 4, 3) := by decide +kernel
theorem dModel_lookSlice_207 : decode bModel_lookSlice 207 = .ok (.iconst 0, 1) := by decide +kernel
theorem dModel_lookSlice_208 : decode bModel_lookSlice 208 = .ok (.invokevirtual 147, 3) := by decide +kernel
theorem dModel_lookSlice_211 : decode bModel_lookSlice 211 = .ok (.iload 7, 2) := by decide +kernel
theorem dModel_lookSlice_213 : decode bModel_lookSlice 213 = .ok (.ifCond .eq 21, 3) := by decide +kernel
theorem dModel_lookSlice_216 : decode bModel_lookSlice 216 = .ok (.aload_n 0, 1) := by decide +kernel
theorem dModel_lookSlice_217 : decode bModel_lookSlice 217 = .ok (.getfield 42, 3) := by decide +kernel
theorem dModel_lookSlice_220 : decode bModel_lookSlice 220 = .ok (.iload_n 3, 1) := by decide +kernel
theorem dModel_lookSlice_221 : decode bModel_lookSlice 221 = .ok (.laload, 1) := by decide +kernel
theorem dModel_lookSlice_222 : decode bModel_lookSlice 222 = .ok (.aload_n 0, 1) := by decide +kernel
theorem dModel_lookSlice_223 : decode bModel_lookSlice 223 = .ok (.getfield 60, 3) := by decide +kernel
theorem dModel_lookSlice_226 : decode bModel_lookSlice 226 = .ok (.iload 6, 2) := by decide +kernel
theorem dModel_lookSlice_228 : decode bModel_lookSlice 228 = .ok (.iaload, 1) := by decide +kernel
theorem dModel_lookSlice_229 : decode bModel_lookSlice 229 = .ok (.i2l, 1) := by decide +kernel
theorem dModel_lookSlice_230 : decode bModel_lookSlice 230 = .ok (.lsub, 1) := by decide +kernel
theorem dModel_lookSlice_231 : decode bModel_lookSlice 231 = .ok (.goto 18, 3) := by decide +kernel
theorem dModel_lookSlice_234 : decode bModel_lookSlice 234 = .ok (.aload_n 0, 1) := by decide +kernel
theorem dModel_lookSlice_235 : decode bModel_lookSlice 235 = .ok (.getfield 60, 3) := by decide +kernel
theorem dModel_lookSlice_238 : decode bModel_lookSlice 238 = .ok (.iload 6, 2) := by decide +kernel
theorem dModel_lookSlice_240 : decode bModel_lookSlice 240 = .ok (.iaload, 1) := by decide +kernel
theorem dModel_lookSlice_241 : decode bModel_lookSlice 241 = .ok (.i2l, 1) := by decide +kernel
theorem dModel_lookSlice_242 : decode bModel_lookSlice 242 = .ok (.aload_n 0, 1) := by decide +kernel
theorem dModel_lookSlice_243 : decode bModel_lookSlice 243 = .ok (.getfield 42, 3) := by decide +kernel
theorem dModel_lookSlice_246 : decode bModel_lookSlice 246 = .ok (.iload_n 3, 1) := by decide +kernel
theorem dModel_lookSlice_247 : decode bModel_lookSlice 247 = .ok (.laload, 1) := by decide +kernel
theorem dModel_lookSlice_248 : decode bModel_lookSlice 248 = .ok (.lsub, 1) := by decide +kernel
theorem dModel_lookSlice_249 : decode bModel_lookSlice 249 = .ok (.l2i, 1) := by decide +kernel
theorem dModel_lookSlice_250 : decode bModel_lookSlice 250 = .ok (.istore 10, 2) := by decide +kernel
theorem dModel_lookSlice_252 : decode bModel_lookSlice 252 = .ok (.iconst 0, 1) := by decide +kernel
theorem dModel_lookSlice_253 : decode bModel_lookSlice 253 = .ok (.istore 11, 2) := by decide +kernel
theorem dModel_lookSlice_255 : decode bModel_lookSlice 255 = .ok (.iload 11, 2) := by decide +kernel
theorem dModel_lookSlice_257 : decode bModel_lookSlice 257 = .ok (.i2l, 1) := by decide +kernel
theorem dModel_lookSlice_258 : decode bModel_lookSlice 258 = .ok (.lload 8, 2) := by decide +kernel
theorem dModel_lookSlice_260 : decode bModel_lookSlice 260 = .ok (.lcmp, 1) := by decide +kernel
theorem dModel_lookSlice_261 : decode bModel_lookSlice 261 = .ok (.ifCond .ge 41, 3) := by decide +kernel
theorem dModel_lookSlice_264 : decode bModel_lookSlice 264 = .ok (.aload_n 0, 1) := by decide +kernel
theorem dModel_lookSlice_265 : decode bModel_lookSlice 265 = .ok (.getfield 69, 3) := by decide +kernel
theorem dModel_lookSlice_268 : decode bModel_lookSlice 268 = .ok (.iload 5, 2) := by decide +kernel
theorem dModel_lookSlice_270 : decode bModel_lookSlice 270 = .ok (.iaload, 1) := by decide +kernel
theorem dModel_lookSlice_271 : decode bModel_lookSlice 271 = .ok (.ifCond .ne 31, 3) := by decide +kernel
theorem dModel_lookSlice_274 : decode bModel_lookSlice 274 = .ok (.aload_n 0, 1) := by decide +kernel
theorem dModel_lookSlice_275 : decode bModel_lookSlice 275 = .ok (.iload_n 1, 1) := by decide +kernel
theorem dModel_lookSlice_276 : decode bModel_lookSlice 276 = .ok (.iload 11, 2) := by decide +kernel
theorem dModel_lookSlice_278 : decode bModel_lookSlice 278 = .ok (.aload_n 0, 1) := by decide +kernel
theorem dModel_lookSlice_279 : decode bModel_lookSlice 279 = .ok (.sipush 8000, 3) := by decide +kernel
theorem dModel_lookSlice_282 : decode bModel_lookSlice 282 = .ok (.iload 5, 2) := by decide +kernel
theorem dModel_lookSlice_284 : decode bModel_lookSlice 284 = .ok (.iadd, 1) := by decide +kernel
theorem dModel_lookSlice_285 : decode bModel_lookSlice 285 = .ok (.iload 10, 2) := by decide +kernel
theorem dModel_lookSlice_287 : decode bModel_lookSlice 287 = .ok (.iload 11, 2) := by decide +kernel
theorem dModel_lookSlice_289 : decode bModel_lookSlice 289 = .ok (.iadd, 1) := by decide +kernel
theorem dModel_lookSlice_290 : decode bModel_lookSlice 290 = .ok (.invokevirtual 131, 3) := by decide +kernel
theorem dModel_lookSlice_293 : decode bModel_lookSlice 293 = .ok (.invokevirtual 127, 3) := by decide +kernel
theorem dModel_lookSlice_296 : decode bModel_lookSlice 296 = .ok (.iinc 11 1, 3) := by decide +kernel
theorem dModel_lookSlice_299 : decode bModel_lookSlice 299 = .ok (.goto (-44), 3) := by decide +kernel
theorem dModel_lookSlice_302 : decode bModel_lookSlice 302 = .ok (.aload_n 0, 1) := by decide +kernel
theorem dModel_lookSlice_303 : decode bModel_lookSlice 303 = .ok (.getfield 39, 3) := by decide +kernel
theorem dModel_lookSlice_306 : decode bModel_lookSlice 306 = .ok (.iload_n 1, 1) := by decide +kernel
theorem dModel_lookSlice_307 : decode bModel_lookSlice 307 = .ok (.iload 5, 2) := by decide +kernel
theorem dModel_lookSlice_309 : decode bModel_lookSlice 309 = .ok (.iastore, 1) := by decide +kernel
theorem dModel_lookSlice_310 : decode bModel_lookSlice 310 = .ok (.iconst 0, 1) := by decide +kernel
theorem dModel_lookSlice_311 : decode bModel_lookSlice 311 = .ok (.ireturn, 1) := by decide +kernel
