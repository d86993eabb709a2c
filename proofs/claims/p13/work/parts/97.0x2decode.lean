theorem dModel_lookBinary_0 : decode bModel_lookBinary 0 = .ok (.aload_n 0, 1) := by decide +kernel
theorem dModel_lookBinary_1 : decode bModel_lookBinary 1 = .ok (.getfield 17, 3) := by decide +kernel
theorem dModel_lookBinary_4 : decode bModel_lookBinary 4 = .ok (.iload_n 1, 1) := by decide +kernel
theorem dModel_lookBinary_5 : decode bModel_lookBinary 5 = .ok (.iaload, 1) := by decide +kernel
theorem dModel_lookBinary_6 : decode bModel_lookBinary 6 = .ok (.istore 4, 2) := by decide +kernel
theorem dModel_lookBinary_8 : decode bModel_lookBinary 8 = .ok (.iload 4, 2) := by decide +kernel
theorem dModel_lookBinary_10 : decode bModel_lookBinary 10 = .ok (.bipush 6, 2) := by decide +kernel
theorem dModel_lookBinary_12 : decode bModel_lookBinary 12 = .ok (.if_icmp .ge 13, 3) := by decide +kernel
theorem dModel_lookBinary_15 : decode bModel_lookBinary 15 = .ok (.aload_n 0, 1) := by decide +kernel
theorem dModel_lookBinary_16 : decode bModel_lookBinary 16 = .ok (.iload_n 1, 1) := by decide +kernel
theorem dModel_lookBinary_17 : decode bModel_lookBinary 17 = .ok (.iload 4, 2) := by decide +kernel
theorem dModel_lookBinary_19 : decode bModel_lookBinary 19 = .ok (.iload_n 2, 1) := by decide +kernel
theorem dModel_lookBinary_20 : decode bModel_lookBinary 20 = .ok (.iload_n 3, 1) := by decide +kernel
theorem dModel_lookBinary_21 : decode bModel_lookBinary 21 = .ok (.invokevirtual 193, 3) := by decide +kernel
theorem dModel_lookBinary_24 : decode bModel_lookBinary 24 = .ok (.ireturn, 1) := by decide +kernel
theorem dModel_lookBinary_25 : decode bModel_lookBinary 25 = .ok (.iload 4, 2) := by decide +kernel
theorem dModel_lookBinary_27 : decode bModel_lookBinary 27 = .ok (.bipush 12, 2) := by decide +kernel
theorem dModel_lookBinary_29 : decode bModel_lookBinary 29 = .ok (.if_icmp .ge 13, 3) := by decide +kernel
theorem dModel_lookBinary_32 : decode bModel_lookBinary 32 = .ok (.aload_n 0, 1) := by decide +kernel
theorem dModel_lookBinary_33 : decode bModel_lookBinary 33 = .ok (.iload_n 1, 1) := by decide +kernel
theorem dModel_lookBinary_34 : decode bModel_lookBinary 34 = .ok (.iload 4, 2) := by decide +kernel
theorem dModel_lookBinary_36 : decode bModel_lookBinary 36 = .ok (.iload_n 2, 1) := by decide +kernel
theorem dModel_lookBinary_37 : decode bModel_lookBinary 37 = .ok (.iload_n 3, 1) := by decide +kernel
theorem dModel_lookBinary_38 : decode bModel_lookBinary 38 = .ok (.invokevirtual 197, 3) := by decide +kernel
theorem dModel_lookBinary_41 : decode bModel_lookBinary 41 = .ok (.ireturn, 1) := by decide +kernel
theorem dModel_lookBinary_42 : decode bModel_lookBinary 42 = .ok (.iload 4, 2) := by decide +kernel
theorem dModel_lookBinary_44 : decode bModel_lookBinary 44 = .ok (.bipush 12, 2) := by decide +kernel
theorem dModel_lookBinary_46 : decode bModel_lookBinary 46 = .ok (.if_icmp .eq 10, 3) := by decide +kernel
theorem dModel_lookBinary_49 : decode bModel_lookBinary 49 = .ok (.iload 4, 2) := by decide +kernel
theorem dModel_lookBinary_51 : decode bModel_lookBinary 51 = .ok (.bipush 13, 2) := by decide +kernel
theorem dModel_lookBinary_53 : decode bModel_lookBinary 53 = .ok (.if_icmp .ne 23, 3) := by decide +kernel
theorem dModel_lookBinary_56 : decode bModel_lookBinary 56 = .ok (.aload_n 0, 1) := by decide +kernel
theorem dModel_lookBinary_57 : decode bModel_lookBinary 57 = .ok (.iload_n 1, 1) := by decide +kernel
theorem dModel_lookBinary_58 : decode bModel_lookBinary 58 = .ok (.iload 4, 2) := by decide +kernel
theorem dModel_lookBinary_60 : decode bModel_lookBinary 60 = .ok (.bipush 13, 2) := by decide +kernel
theorem dModel_lookBinary_62 : decode bModel_lookBinary 62 = .ok (.if_icmp .ne 7, 3) := by decide +kernel
theorem dModel_lookBinary_65 : decode bModel_lookBinary 65 = .ok (.iconst 1, 1) := by decide +kernel
theorem dModel_lookBinary_66 : decode bModel_lookBinary 66 = .ok (.goto 4, 3) := by decide +kernel
theorem dModel_lookBinary_69 : decode bModel_lookBinary 69 = .ok (.iconst 0, 1) := by decide +kernel
theorem dModel_lookBinary_70 : decode bModel_lookBinary 70 = .ok (.iload_n 2, 1) := by decide +kernel
theorem dModel_lookBinary_71 : decode bModel_lookBinary 71 = .ok (.iload_n 3, 1) := by decide +kernel
theorem dModel_lookBinary_72 : decode bModel_lookBinary 72 = .ok (.invokevirtual 200, 3) := by decide +kernel
theorem dModel_lookBinary_75 : decode bModel_lookBinary 75 = .ok (.ireturn, 1) := by decide +kernel
theorem dModel_lookBinary_76 : decode bModel_lookBinary 76 = .ok (.iload 4, 2) := by decide +kernel
theorem dModel_lookBinary_78 : decode bModel_lookBinary 78 = .ok (.bipush 14, 2) := by decide +kernel
theorem dModel_lookBinary_80 : decode bModel_lookBinary 80 = .ok (.if_icmp .ne 11, 3) := by decide +kernel
theorem dModel_lookBinary_83 : decode bModel_lookBinary 83 = .ok (.aload_n 0, 1) := by decide +kernel
theorem dModel_lookBinary_84 : decode bModel_lookBinary 84 = .ok (.iload_n 1, 1) := by decide +kernel
theorem dModel_lookBinary_85 : decode bModel_lookBinary 85 = .ok (.iload_n 2, 1) := by decide +kernel
theorem dModel_lookBinary_86 : decode bModel_lookBinary 86 = .ok (.iload_n 3, 1) := by decide +kernel
theorem dModel_lookBinary_87 : decode bModel_lookBinary 87 = .ok (.invokevirtual 204, 3) := by decide +kernel
theorem dModel_lookBinary_90 : decode bModel_lookBinary 90 = .ok (.ireturn, 1) := by decide +kernel
theorem dModel_lookBinary_91 : decode bModel_lookBinary 91 = .ok (.iload 4, 2) := by decide +kernel
theorem dModel_lookBinary_93 : decode bModel_lookBinary 93 = .ok (.bipush 19, 2) := by decide +kernel
theorem dModel_lookBinary_95 : decode bModel_lookBinary 95 = .ok (.if_icmp .ge 15, 3) := by decide +kernel
theorem dModel_lookBinary_98 : decode bModel_lookBinary 98 = .ok (.aload_n 0, 1) := by decide +kernel
theorem dModel_lookBinary_99 : decode bModel_lookBinary 99 = .ok (.iload_n 1, 1) := by decide +kernel
theorem dModel_lookBinary_100 : decode bModel_lookBinary 100 = .ok (.iload 4, 2) := by decide +kernel
theorem dModel_lookBinary_102 : decode bModel_lookBinary 102 = .ok (.iload_n 2, 1) := by decide +kernel
theorem dModel_lookBinary_103 : decode bModel_lookBinary 103 = .ok (.iload_n 3, 1) := by decide +kernel
theorem dModel_lookBinary_104 : decode bModel_lookBinary 104 = .ok (.invokevirtual 207, 3) := by decide +kernel
theorem dModel_lookBinary_107 : decode bModel_lookBinary 107 = .ok (.goto 22, 3) := by decide +kernel
theorem dModel_lookBinary_110 : decode bModel_lookBinary 110 = .ok (.aload_n 0, 1) := by decide +kernel
theorem dModel_lookBinary_111 : decode bModel_lookBinary 111 = .ok (.iload_n 1, 1) := by decide +kernel
theorem dModel_lookBinary_112 : decode bModel_lookBinary 112 = .ok (.iload 4, 2) := by decide +kernel
theorem dModel_lookBinary_114 : decode bModel_lookBinary 114 = .ok (.bipush 19, 2) := by decide +kernel
theorem dModel_lookBinary_116 : decode bModel_lookBinary 116 = .ok (.if_icmp .ne 7, 3) := by decide +kernel
theorem dModel_lookBinary_119 : decode bModel_lookBinary 119 = .ok (.iconst 1, 1) := by decide +kernel
theorem dModel_lookBinary_120 : decode bModel_lookBinary 120 = .ok (.goto 4, 3) := by decide +kernel
theorem dModel_lookBinary_123 : decode bModel_lookBinary 123 = .ok (.iconst 0, 1) := by decide +kernel
theorem dModel_lookBinary_124 : decode bModel_lookBinary 124 = .ok (.iload_n 2, 1) := by decide +kernel
theorem dModel_lookBinary_125 : decode bModel_lookBinary 125 = .ok (.iload_n 3, 1) := by decide +kernel
theorem dModel_lookBinary_126 : decode bModel_lookBinary 126 = .ok (.invokevirtual 210, 3) := by decide +kernel
theorem dModel_lookBinary_129 : decode bModel_lookBinary 129 = .ok (.ireturn, 1) := by decide +kernel
theorem dModel_lookLogic_0 : decode bModel_lookLogic 0 = .ok (.aload_n 0, 1) := by decide +kernel
theorem dModel_lookLogic_1 : decode bModel_lookLogic 1 = .ok (.getfield 29, 3) := by decide +kernel
theorem dModel_lookLogic_4 : decode bModel_lookLogic 4 = .ok (.iload_n 3, 1) := by decide +kernel
theorem dModel_lookLogic_5 : decode bModel_lookLogic 5 = .ok (.iaload, 1) := by decide +kernel
theorem dModel_lookLogic_6 : decode bModel_lookLogic 6 = .ok (.aload_n 0, 1) := by decide +kernel
theorem dModel_lookLogic_7 : decode bModel_lookLogic 7 = .ok (.getfield 29, 3) := by decide +kernel
theorem dModel_lookLogic_10 : decode bModel_lookLogic 10 = .ok (.iload 4, 2) := by decide +kernel
theorem dModel_lookLogic_12 : decode bModel_lookLogic 12 = .ok (.iaload, 1) := by decide +kernel
theorem dModel_lookLogic_13 : decode bModel_lookLogic 13 = .ok (.if_icmp .ne 23, 3) := by decide +kernel
theorem dModel_lookLogic_16 : decode bModel_lookLogic 16 = .ok (.aload_n 0, 1) := by decide +kernel
theorem dModel_lookLogic_17 : decode bModel_lookLogic 17 = .ok (.getfield 29, 3) := by decide +kernel
theorem dModel_lookLogic_20 : decode bModel_lookLogic 20 = .ok (.iload_n 3, 1) := by decide +kernel
theorem dModel_lookLogic_21 : decode bModel_lookLogic 21 = .ok (.iaload, 1) := by decide +kernel
theorem dModel_lookLogic_22 : decode bModel_lookLogic 22 = .ok (.iconst 2, 1) := by decide +kernel
theorem dModel_lookLogic_23 : decode bModel_lookLogic 23 = .ok (.if_icmp .eq 13, 3) := by decide +kernel
theorem dModel_lookLogic_26 : decode bModel_lookLogic 26 = .ok (.aload_n 0, 1) := by decide +kernel
theorem dModel_lookLogic_27 : decode bModel_lookLogic 27 = .ok (.getfield 29, 3) := by decide +kernel
theorem dModel_lookLogic_30 : decode bModel_lookLogic 30 = .ok (.iload_n 3, 1) := by decide +kernel
theorem dModel_lookLogic_31 : decode bModel_lookLogic 31 = .ok (.iaload, 1) := by decide +kernel
theorem dModel_lookLogic_32 : decode bModel_lookLogic 32 = .ok (.iconst 4, 1) := by decide +kernel
theorem dModel_lookLogic_33 : decode bModel_lookLogic 33 = .ok (.if_icmp .ne 5, 3) := by decide +kernel
theorem dModel_lookLogic_36 : decode bModel_lookLogic 36 = .ok (.iconst 3, 1) := by decide +kernel
theorem dModel_lookLogic_37 : decode bModel_lookLogic 37 = .ok (.ireturn, 1) := by decide +kernel
theorem dModel_lookLogic_38 : decode bModel_lookLogic 38 = .ok (.aload_n 0, 1) := by decide +kernel
theorem dModel_lookLogic_39 : decode bModel_lookLogic 39 = .ok (.getfield 32, 3) := by decide +kernel
theorem dModel_lookLogic_42 : decode bModel_lookLogic 42 = .ok (.iload_n 3, 1) := by decide +kernel
theorem dModel_lookLogic_43 : decode bModel_lookLogic 43 = .ok (.iaload, 1) := by decide +kernel
theorem dModel_lookLogic_44 : decode bModel_lookLogic 44 = .ok (.aload_n 0, 1) := by decide +kernel
theorem dModel_lookLogic_45 : decode bModel_lookLogic 45 = .ok (.getfield 32, 3) := by decide +kernel
theorem dModel_lookLogic_48 : decode bModel_lookLogic 48 = .ok (.iload 4, 2) := by decide +kernel
theorem dModel_lookLogic_50 : decode bModel_lookLogic 50 = .ok (.iaload, 1) := by decide +kernel
theorem dModel_lookLogic_51 : decode bModel_lookLogic 51 = .ok (.if_icmp .eq 5, 3) := by decide +kernel
theorem dModel_lookLogic_54 : decode bModel_lookLogic 54 = .ok (.iconst 4, 1) := by decide +kernel
theorem dModel_lookLogic_55 : decode bModel_lookLogic 55 = .ok (.ireturn, 1) := by decide +kernel
theorem dModel_lookLogic_56 : decode bModel_lookLogic 56 = .ok (.aload_n 0, 1) := by decide +kernel
theorem dModel_lookLogic_57 : decode bModel_lookLogic 57 = .ok (.iload_n 1, 1) := by decide +kernel
theorem dModel_lookLogic_58 : decode bModel_lookLogic 58 = .ok (.aload_n 0, 1) := by decide +kernel
theorem dModel_lookLogic_59 : decode bModel_lookLogic 59 = .ok (.getfield 29, 3) := by decide +kernel
theorem dModel_lookLogic_62 : decode bModel_lookLogic 62 = .ok (.iload_n 3, 1) := by decide +kernel
theorem dModel_lookLogic_63 : decode bModel_lookLogic 63 = .ok (.iaload, 1) := by decide +kernel
theorem dModel_lookLogic_64 : decode bModel_lookLogic 64 = .ok (.aload_n 0, 1) := by decide +kernel
theorem dModel_lookLogic_65 : decode bModel_lookLogic 65 = .ok (.getfield 32, 3) := by decide +kernel
theorem dModel_lookLogic_68 : decode bModel_lookLogic 68 = .ok (.iload_n 3, 1) := by decide +kernel
theorem dModel_lookLogic_69 : decode bModel_lookLogic 69 = .ok (.iaload, 1) := by decide +kernel
theorem dModel_lookLogic_70 : decode bModel_lookLogic 70 = .ok (.aload_n 0, 1) := by decide +kernel
theorem dModel_lookLogic_71 : decode bModel_lookLogic 71 = .ok (.getfield 35, 3) := by decide +kernel
theorem dModel_lookLogic_74 : decode bModel_lookLogic 74 = .ok (.iload_n 3, 1) := by decide +kernel
theorem dModel_lookLogic_75 : decode bModel_lookLogic 75 = .ok (.baload, 1) := by decide +kernel
theorem dModel_lookLogic_76 : decode bModel_lookLogic 76 = .ok (.ifCond .eq 17, 3) := by decide +kernel
theorem dModel_lookLogic_79 : decode bModel_lookLogic 79 = .ok (.aload_n 0, 1) := by decide +kernel
theorem dModel_lookLogic_80 : decode bModel_lookLogic 80 = .ok (.getfield 35, 3) := by decide +kernel
theorem dModel_lookLogic_83 : decode bModel_lookLogic 83 = .ok (.iload 4, 2) := by decide +kernel
theorem dModel_lookLogic_85 : decode bModel_lookLogic 85 = .ok (.baload, 1) := by decide +kernel
theorem dModel_lookLogic_86 : decode bModel_lookLogic 86 = .ok (.ifCond .eq 7, 3) := by decide +kernel
theorem dModel_lookLogic_89 : decode bModel_lookLogic 89 = .ok (.iconst 1, 1) := by decide +kernel
theorem dModel_lookLogic_90 : decode bModel_lookLogic 90 = .ok (.goto 4, 3) := by decide +kernel
theorem dModel_lookLogic_93 : decode bModel_lookLogic 93 = .ok (.iconst 0, 1) := by decide +kernel
theorem dModel_lookLogic_94 : decode bModel_lookLogic 94 = .ok (.invokevirtual 147, 3) := by decide +kernel
theorem dModel_lookLogic_97 : decode bModel_lookLogic 97 = .ok (.aload_n 0, 1) := by decide +kernel
theorem dModel_lookLogic_98 : decode bModel_lookLogic 98 = .ok (.getfield 29, 3) := by decide +kernel
theorem dModel_lookLogic_101 : decode bModel_lookLogic 101 = .ok (.iload_n 3, 1) := by decide +kernel
theorem dModel_lookLogic_102 : decode bModel_lookLogic 102 = .ok (.iaload, 1) := by decide +kernel
theorem dModel_lookLogic_103 : decode bModel_lookLogic 103 = .ok (.iconst 1, 1) := by decide +kernel
theorem dModel_lookLogic_104 : decode bModel_lookLogic 104 = .ok (.if_icmp .ne 57, 3) := by decide +kernel
theorem dModel_lookLogic_107 : decode bModel_lookLogic 107 = .ok (.aload_n 0, 1) := by decide +kernel
theorem dModel_lookLogic_108 : decode bModel_lookLogic 108 = .ok (.getfield 42, 3) := by decide +kernel
theorem dModel_lookLogic_111 : decode bModel_lookLogic 111 = .ok (.iload_n 1, 1) := by decide +kernel
theorem dModel_lookLogic_112 : decode bModel_lookLogic 112 = .ok (.iload_n 2, 1) := by decide +kernel
theorem dModel_lookLogic_113 : decode bModel_lookLogic 113 = .ok (.aload_n 0, 1) := by decide +kernel
theorem dModel_lookLogic_114 : decode bModel_lookLogic 114 = .ok (.getfield 42, 3) := by decide +kernel
theorem dModel_lookLogic_117 : decode bModel_lookLogic 117 = .ok (.iload_n 3, 1) := by decide +kernel
theorem dModel_lookLogic_118 : decode bModel_lookLogic 118 = .ok (.laload, 1) := by decide +kernel
theorem dModel_lookLogic_119 : decode bModel_lookLogic 119 = .ok (.lconst 1, 1) := by decide +kernel
theorem dModel_lookLogic_120 : decode bModel_lookLogic 120 = .ok (.lcmp, 1) := by decide +kernel
theorem dModel_lookLogic_121 : decode bModel_lookLogic 121 = .ok (.ifCond .ne 7, 3) := by decide +kernel
theorem dModel_lookLogic_124 : decode bModel_lookLogic 124 = .ok (.iconst 1, 1) := by decide +kernel
theorem dModel_lookLogic_125 : decode bModel_lookLogic 125 = .ok (.goto 4, 3) := by decide +kernel
theorem dModel_lookLogic_128 : decode bModel_lookLogic 128 = .ok (.iconst 0, 1) := by decide +kernel
theorem dModel_lookLogic_129 : decode bModel_lookLogic 129 = .ok (.aload_n 0, 1) := by decide +kernel
theorem dModel_lookLogic_130 : decode bModel_lookLogic 130 = .ok (.getfield 42, 3) := by decide +kernel
theorem dModel_lookLogic_133 : decode bModel_lookLogic 133 = .ok (.iload 4, 2) := by decide +kernel
theorem dModel_lookLogic_135 : decode bModel_lookLogic 135 = .ok (.laload, 1) := by decide +kernel
theorem dModel_lookLogic_136 : decode bModel_lookLogic 136 = .ok (.lconst 1, 1) := by decide +kernel
theorem dModel_lookLogic_137 : decode bModel_lookLogic 137 = .ok (.lcmp, 1) := by decide +kernel
theorem dModel_lookLogic_138 : decode bModel_lookLogic 138 = .ok (.ifCond .ne 7, 3) := by decide +kernel
theorem dModel_lookLogic_141 : decode bModel_lookLogic 141 = .ok (.iconst 1, 1) := by decide +kernel
theorem dModel_lookLogic_142 : decode bModel_lookLogic 142 = .ok (.goto 4, 3) := by decide +kernel
theorem dModel_lookLogic_145 : decode bModel_lookLogic 145 = .ok (.iconst 0, 1) := by decide +kernel
theorem dModel_lookLogic_146 : decode bModel_lookLogic 146 = .ok (.invokestatic 213, 3) := by decide +kernel
theorem dModel_lookLogic_149 : decode bModel_lookLogic 149 = .ok (.ifCond .eq 7, 3) := by decide +kernel
theorem dModel_lookLogic_152 : decode bModel_lookLogic 152 = .ok (.lconst 1, 1) := by decide +kernel
theorem dModel_lookLogic_153 : decode bModel_lookLogic 153 = .ok (.goto 4, 3) := by decide +kernel
theorem dModel_lookLogic_156 : decode bModel_lookLogic 156 = .ok (.lconst 0, 1) := by decide +kernel
theorem dModel_lookLogic_157 : decode bModel_lookLogic 157 = .ok (.lastore, 1) := by decide +kernel
theorem dModel_lookLogic_158 : decode bModel_lookLogic 158 = .ok (.goto 87, 3) := by decide +kernel
theorem dModel_lookLogic_161 : decode bModel_lookLogic 161 = .ok (.aload_n 0, 1) := by decide +kernel
theorem dModel_lookLogic_162 : decode bModel_lookLogic 162 = .ok (.getfield 29, 3) := by decide +kernel
theorem dModel_lookLogic_165 : decode bModel_lookLogic 165 = .ok (.iload_n 3, 1) := by decide +kernel
theorem dModel_lookLogic_166 : decode bModel_lookLogic 166 = .ok (.iaload, 1) := by decide +kernel
theorem dModel_lookLogic_167 : decode bModel_lookLogic 167 = .ok (.ifCond .ne 32, 3) := by decide +kernel
theorem dModel_lookLogic_170 : decode bModel_lookLogic 170 = .ok (.aload_n 0, 1) := by decide +kernel
theorem dModel_lookLogic_171 : decode bModel_lookLogic 171 = .ok (.getfield 42, 3) := by decide +kernel
theorem dModel_lookLogic_174 : decode bModel_lookLogic 174 = .ok (.iload_n 1, 1) := by decide +kernel
theorem dModel_lookLogic_175 : decode bModel_lookLogic 175 = .ok (.iload_n 2, 1) := by decide +kernel
theorem dModel_lookLogic_176 : decode bModel_lookLogic 176 = .ok (.aload_n 0, 1) := by decide +kernel
theorem dModel_lookLogic_177 : decode bModel_lookLogic 177 = .ok (.getfield 42, 3) := by decide +kernel
theorem dModel_lookLogic_180 : decode bModel_lookLogic 180 = .ok (.iload_n 3, 1) := by decide +kernel
theorem dModel_lookLogic_181 : decode bModel_lookLogic 181 = .ok (.laload, 1) := by decide +kernel
theorem dModel_lookLogic_182 : decode bModel_lookLogic 182 = .ok (.l2i, 1) := by decide +kernel
theorem dModel_lookLogic_183 : decode bModel_lookLogic 183 = .ok (.aload_n 0, 1) := by decide +kernel
theorem dModel_lookLogic_184 : decode bModel_lookLogic 184 = .ok (.getfield 42, 3) := by decide +kernel
theorem dModel_lookLogic_187 : decode bModel_lookLogic 187 = .ok (.iload 4, 2) := by decide +kernel
theorem dModel_lookLogic_189 : decode bModel_lookLogic 189 = .ok (.laload, 1) := by decide +kernel
theorem dModel_lookLogic_190 : decode bModel_lookLogic 190 = .ok (.l2i, 1) := by decide +kernel
theorem dModel_lookLogic_191 : decode bModel_lookLogic 191 = .ok (.invokestatic 217, 3) := by decide +kernel
theorem dModel_lookLogic_194 : decode bModel_lookLogic 194 = .ok (.i2l, 1) := by decide +kernel
theorem dModel_lookLogic_195 : decode bModel_lookLogic 195 = .ok (.lastore, 1) := by decide +kernel
theorem dModel_lookLogic_196 : decode bModel_lookLogic 196 = .ok (.goto 49, 3) := by decide +kernel
theorem dModel_lookLogic_199 : decode bModel_lookLogic 199 = .ok (.iconst 0, 1) := by decide +kernel
theorem dModel_lookLogic_200 : decode bModel_lookLogic 200 = .ok (.istore 5, 2) := by decide +kernel
theorem dModel_lookLogic_202 : decode bModel_lookLogic 202 = .ok (.iload 5, 2) := by decide +kernel
theorem dModel_lookLogic_204 : decode bModel_lookLogic 204 = .ok (.aload_n 0, 1) := by decide +kernel
theorem dModel_lookLogic_205 : decode bModel_lookLogic 205 = .ok (.getfield 32, 3) := by decide +kernel
theorem dModel_lookLogic_208 : decode bModel_lookLogic 208 = .ok (.iload_n 3, 1) := by decide +kernel
theorem dModel_lookLogic_209 : decode bModel_lookLogic 209 = .ok (.iaload, 1) := by decide +kernel
theorem dModel_lookLogic_210 : decode bModel_lookLogic 210 = .ok (.if_icmp .ge 35, 3) := by decide +kernel
theorem dModel_lookLogic_213 : decode bModel_lookLogic 213 = .ok (.aload_n 0, 1) := by decide +kernel
theorem dModel_lookLogic_214 : decode bModel_lookLogic 214 = .ok (.iload_n 1, 1) := by decide +kernel
theorem dModel_lookLogic_215 : decode bModel_lookLogic 215 = .ok (.iload 5, 2) := by decide +kernel
theorem dModel_lookLogic_217 : decode bModel_lookLogic 217 = .ok (.iload_n 2, 1) := by decide +kernel
theorem dModel_lookLogic_218 : decode bModel_lookLogic 218 = .ok (.aload_n 0, 1) := by decide +kernel
theorem dModel_lookLogic_219 : decode bModel_lookLogic 219 = .ok (.iload_n 3, 1) := by decide +kernel
theorem dModel_lookLogic_220 : decode bModel_lookLogic 220 = .ok (.iload 5, 2) := by decide +kernel
theorem dModel_lookLogic_222 : decode bModel_lookLogic 222 = .ok (.invokevirtual 131, 3) := by decide +kernel
theorem dModel_lookLogic_225 : decode bModel_lookLogic 225 = .ok (.aload_n 0, 1) := by decide +kernel
theorem dModel_lookLogic_226 : decode bModel_lookLogic 226 = .ok (.iload 4, 2) := by decide +kernel
theorem dModel_lookLogic_228 : decode bModel_lookLogic 228 = .ok (.iload 5, 2) := by decide +kernel
theorem dModel_lookLogic_230 : decode bModel_lookLogic 230 = .ok (.invokevirtual 131, 3) := by decide +kernel
theorem dModel_lookLogic_233 : decode bModel_lookLogic 233 = .ok (.invokestatic 217, 3) := by decide +kernel
theorem dModel_lookLogic_236 : decode bModel_lookLogic 236 = .ok (.invokevirtual 127, 3) := by decide +kernel
theorem dModel_lookLogic_239 : decode bModel_lookLogic 239 = .ok (.iinc 5 1, 3) := by decide +kernel
theorem dModel_lookLogic_242 : decode bModel_lookLogic 242 = .ok (.goto (-40), 3) := by decide +kernel
theorem dModel_lookLogic_245 : decode bModel_lookLogic 245 = .ok (.aload_n 0, 1) := by decide +kernel
theorem dModel_lookLogic_246 : decode bModel_lookLogic 246 = .ok (.iload_n 1, 1) := by decide +kernel
theorem dModel_lookLogic_247 : decode bModel_lookLogic 247 = .ok (.invokevirtual 190, 3) := by decide +kernel
theorem dModel_lookLogic_250 : decode bModel_lookLogic 250 = .ok (.ireturn, 1) := by decide +kernel
theorem dModel_lookOrder_0 : decode bModel_lookOrder 0 = .ok (.aload_n 0, 1) := by decide +kernel
theorem dModel_lookOrder_1 : decode bModel_lookOrder 1 = .ok (.getfield 29, 3) := by decide +kernel
theorem dModel_lookOrder_4 : decode bModel_lookOrder 4 = .ok (.iload_n 3, 1) := by decide +kernel
theorem dModel_lookOrder_5 : decode bModel_lookOrder 5 = .ok (.iaload, 1) := by decide +kernel
theorem dModel_lookOrder_6 : decode bModel_lookOrder 6 = .ok (.aload_n 0, 1) := by decide +kernel
theorem dModel_lookOrder_7 : decode bModel_lookOrder 7 = .ok (.getfield 29, 3) := by decide +kernel
theorem dModel_lookOrder_10 : decode bModel_lookOrder 10 = .ok (.iload 4, 2) := by decide +kernel
theorem dModel_lookOrder_12 : decode bModel_lookOrder 12 = .ok (.iaload, 1) := by decide +kernel
theorem dModel_lookOrder_13 : decode bModel_lookOrder 13 = .ok (.if_icmp .ne 54, 3) := by decide +kernel
theorem dModel_lookOrder_16 : decode bModel_lookOrder 16 = .ok (.aload_n 0, 1) := by decide +kernel
theorem dModel_lookOrder_17 : decode bModel_lookOrder 17 = .ok (.getfield 29, 3) := by decide +kernel
theorem dModel_lookOrder_20 : decode bModel_lookOrder 20 = .ok (.iload_n 3, 1) := by decide +kernel
theorem dModel_lookOrder_21 : decode bModel_lookOrder 21 = .ok (.iaload, 1) := by decide +kernel
theorem dModel_lookOrder_22 : decode bModel_lookOrder 22 = .ok (.iconst 4, 1) := by decide +kernel
theorem dModel_lookOrder_23 : decode bModel_lookOrder 23 = .ok (.if_icmp .ne 19, 3) := by decide +kernel
theorem dModel_lookOrder_26 : decode bModel_lookOrder 26 = .ok (.aload_n 0, 1) := by decide +kernel
theorem dModel_lookOrder_27 : decode bModel_lookOrder 27 = .ok (.getfield 32, 3) := by decide +kernel
theorem dModel_lookOrder_30 : decode bModel_lookOrder 30 = .ok (.iload_n 3, 1) := by decide +kernel
theorem dModel_lookOrder_31 : decode bModel_lookOrder 31 = .ok (.iaload, 1) := by decide +kernel
theorem dModel_lookOrder_32 : decode bModel_lookOrder 32 = .ok (.aload_n 0, 1) := by decide +kernel
theorem dModel_lookOrder_33 : decode bModel_lookOrder 33 = .ok (.getfield 32, 3) := by decide +kernel
theorem dModel_lookOrder_36 : decode bModel_lookOrder 36 = .ok (.iload 4, 2) := by decide +kernel
theorem dModel_lookOrder_38 : decode bModel_lookOrder 38 = .ok (.iaload, 1) := by decide +kernel
theorem dModel_lookOrder_39 : decode bModel_lookOrder 39 = .ok (.if_icmp .ne 28, 3) := by decide +kernel
theorem dModel_lookOrder_42 : decode bModel_lookOrder 42 = .ok (.iload_n 2, 1) := by decide +kernel
theorem dModel_lookOrder_43 : decode bModel_lookOrder 43 = .ok (.bipush 7, 2) := by decide +kernel
theorem dModel_lookOrder_45 : decode bModel_lookOrder 45 = .ok (.if_icmp .le 24, 3) := by decide +kernel
theorem dModel_lookOrder_48 : decode bModel_lookOrder 48 = .ok (.aload_n 0, 1) := by decide +kernel
theorem dModel_lookOrder_49 : decode bModel_lookOrder 49 = .ok (.getfield 29, 3) := by decide +kernel
theorem dModel_lookOrder_52 : decode bModel_lookOrder 52 = .ok (.iload_n 3, 1) := by decide +kernel
theorem dModel_lookOrder_53 : decode bModel_lookOrder 53 = .ok (.iaload, 1) := by decide +kernel
theorem dModel_lookOrder_54 : decode bModel_lookOrder 54 = .ok (.ifCond .eq 13, 3) := by decide +kernel
theorem dModel_lookOrder_57 : decode bModel_lookOrder 57 = .ok (.aload_n 0, 1) := by decide +kernel
theorem dModel_lookOrder_58 : decode bModel_lookOrder 58 = .ok (.getfield 29, 3) := by decide +kernel
theorem dModel_lookOrder_61 : decode bModel_lookOrder 61 = .ok (.iload_n 3, 1) := by decide +kernel
theorem dModel_lookOrder_62 : decode bModel_lookOrder 62 = .ok (.iaload, 1) := by decide +kernel
theorem dModel_lookOrder_63 : decode bModel_lookOrder 63 = .ok (.iconst 1, 1) := by decide +kernel
theorem dModel_lookOrder_64 : decode bModel_lookOrder 64 = .ok (.if_icmp .ne 5, 3) := by decide +kernel
theorem dModel_lookOrder_67 : decode bModel_lookOrder 67 = .ok (.iconst 3, 1) := by decide +kernel
theorem dModel_lookOrder_68 : decode bModel_lookOrder 68 = .ok (.ireturn, 1) := by decide +kernel
theorem dModel_lookOrder_69 : decode bModel_lookOrder 69 = .ok (.aload_n 0, 1) := by decide +kernel
theorem dModel_lookOrder_70 : decode bModel_lookOrder 70 = .ok (.getfield 32, 3) := by decide +kernel
theorem dModel_lookOrder_73 : decode bModel_lookOrder 73 = .ok (.iload_n 3, 1) := by decide +kernel
theorem dModel_lookOrder_74 : decode bModel_lookOrder 74 = .ok (.iaload, 1) := by decide +kernel
theorem dModel_lookOrder_75 : decode bModel_lookOrder 75 = .ok (.aload_n 0, 1) := by decide +kernel
theorem dModel_lookOrder_76 : decode bModel_lookOrder 76 = .ok (.getfield 32, 3) := by decide +kernel
theorem dModel_lookOrder_79 : decode bModel_lookOrder 79 = .ok (.iload 4, 2) := by decide +kernel
theorem dModel_lookOrder_81 : decode bModel_lookOrder 81 = .ok (.iaload, 1) := by decide +kernel
theorem dModel_lookOrder_82 : decode bModel_lookOrder 82 = .ok (.if_icmp .eq 5, 3) := by decide +kernel
theorem dModel_lookOrder_85 : decode bModel_lookOrder 85 = .ok (.iconst 4, 1) := by decide +kernel
theorem dModel_lookOrder_86 : decode bModel_lookOrder 86 = .ok (.ireturn, 1) := by decide +kernel
theorem dModel_lookOrder_87 : decode bModel_lookOrder 87 = .ok (.aload_n 0, 1) := by decide +kernel
theorem dModel_lookOrder_88 : decode bModel_lookOrder 88 = .ok (.getfield 29, 3) := by decide +kernel
theorem dModel_lookOrder_91 : decode bModel_lookOrder 91 = .ok (.iload_n 3, 1) := by decide +kernel
theorem dModel_lookOrder_92 : decode bModel_lookOrder 92 = .ok (.iaload, 1) := by decide +kernel
theorem dModel_lookOrder_93 : decode bModel_lookOrder 93 = .ok (.iconst 3, 1) := by decide +kernel
theorem dModel_lookOrder_94 : decode bModel_lookOrder 94 = .ok (.if_icmp .ne 7, 3) := by decide +kernel
theorem dModel_lookOrder_97 : decode bModel_lookOrder 97 = .ok (.iconst 1, 1) := by decide +kernel
theorem dModel_lookOrder_98 : decode bModel_lookOrder 98 = .ok (.goto 4, 3) := by decide +kernel
theorem dModel_lookOrder_101 : decode bModel_lookOrder 101 = .ok (.iconst 0, 1) := by decide +kernel
theorem dModel_lookOrder_102 : decode bModel_lookOrder 102 = .ok (.istore 5, 2) := by decide +kernel
theorem dModel_lookOrder_104 : decode bModel_lookOrder 104 = .ok (.aload_n 0, 1) := by decide +kernel
theorem dModel_lookOrder_105 : decode bModel_lookOrder 105 = .ok (.getfield 42, 3) := by decide +kernel
theorem dModel_lookOrder_108 : decode bModel_lookOrder 108 = .ok (.iload_n 3, 1) := by decide +kernel
theorem dModel_lookOrder_109 : decode bModel_lookOrder 109 = .ok (.laload, 1) := by decide +kernel
theorem dModel_lookOrder_110 : decode bModel_lookOrder 110 = .ok (.aload_n 0, 1) := by decide +kernel
theorem dModel_lookOrder_111 : decode bModel_lookOrder 111 = .ok (.getfield 42, 3) := by decide +kernel
theorem dModel_lookOrder_114 : decode bModel_lookOrder 114 = .ok (.iload 4, 2) := by decide +kernel
theorem dModel_lookOrder_116 : decode bModel_lookOrder 116 = .ok (.laload, 1) := by decide +kernel
theorem dModel_lookOrder_117 : decode bModel_lookOrder 117 = .ok (.lcmp, 1) := by decide +kernel
theorem dModel_lookOrder_118 : decode bModel_lookOrder 118 = .ok (.ifCond .ne 7, 3) := by decide +kernel
theorem dModel_lookOrder_121 : decode bModel_lookOrder 121 = .ok (.iconst 1, 1) := by decide +kernel
theorem dModel_lookOrder_122 : decode bModel_lookOrder 122 = .ok (.goto 4, 3) := by decide +kernel
theorem dModel_lookOrder_125 : decode bModel_lookOrder 125 = .ok (.iconst 0, 1) := by decide +kernel
theorem dModel_lookOrder_126 : decode bModel_lookOrder 126 = .ok (.istore 6, 2) := by decide +kernel
theorem dModel_lookOrder_128 : decode bModel_lookOrder 128 = .ok (.iconst 0, 1) := by decide +kernel
theorem dModel_lookOrder_129 : decode bModel_lookOrder 129 = .ok (.istore 7, 2) := by decide +kernel
theorem dModel_lookOrder_131 : decode bModel_lookOrder 131 = .ok (.iload 7, 2) := by decide +kernel
theorem dModel_lookOrder_133 : decode bModel_lookOrder 133 = .ok (.aload_n 0, 1) := by decide +kernel
theorem dModel_lookOrder_134 : decode bModel_lookOrder 134 = .ok (.getfield 32, 3) := by decide +kernel
theorem dModel_lookOrder_137 : decode bModel_lookOrder 137 = .ok (.iload_n 3, 1) := by decide +kernel
theorem dModel_lookOrder_138 : decode bModel_lookOrder 138 = .ok (.iaload, 1) := by decide +kernel
theorem dModel_lookOrder_139 : decode bModel_lookOrder 139 = .ok (.if_icmp .ge 44, 3) := by decide +kernel
theorem dModel_lookOrder_142 : decode bModel_lookOrder 142 = .ok (.iload 5, 2) := by decide +kernel
theorem dModel_lookOrder_144 : decode bModel_lookOrder 144 = .ok (.ifCond .eq 39, 3) := by decide +kernel
theorem dModel_lookOrder_147 : decode bModel_lookOrder 147 = .ok (.iload 6, 2) := by decide +kernel
theorem dModel_lookOrder_149 : decode bModel_lookOrder 149 = .ok (.ifCond .eq 25, 3) := by decide +kernel
theorem dModel_lookOrder_152 : decode bModel_lookOrder 152 = .ok (.aload_n 0, 1) := by decide +kernel
theorem dModel_lookOrder_153 : decode bModel_lookOrder 153 = .ok (.iload_n 3, 1) := by decide +kernel
theorem dModel_lookOrder_154 : decode bModel_lookOrder 154 = .ok (.iload 7, 2) := by decide +kernel
theorem dModel_lookOrder_156 : decode bModel_lookOrder 156 = .ok (.invokevirtual 131, 3) := by decide +kernel
theorem dModel_lookOrder_159 : decode bModel_lookOrder 159 = .ok (.aload_n 0, 1) := by decide +kernel
theorem dModel_lookOrder_160 : decode bModel_lookOrder 160 = .ok (.iload 4, 2) := by decide +kernel
theorem dModel_lookOrder_162 : decode bModel_lookOrder 162 = .ok (.iload 7, 2) := by decide +kernel
theorem dModel_lookOrder_164 : decode bModel_lookOrder 164 = .ok (.invokevirtual 131, 3) := by decide +kernel
theorem dModel_lookOrder_167 : decode bModel_lookOrder 167 = .ok (.if_icmp .ne 7, 3) := by decide +kernel
theorem dModel_lookOrder_170 : decode bModel_lookOrder 170 = .ok (.iconst 1, 1) := by decide +kernel
theorem dModel_lookOrder_171 : decode bModel_lookOrder 171 = .ok (.goto 4, 3) := by decide +kernel
theorem dModel_lookOrder_174 : decode bModel_lookOrder 174 = .ok (.iconst 0, 1) := by decide +kernel
theorem dModel_lookOrder_175 : decode bModel_lookOrder 175 = .ok (.istore 6, 2) := by decide +kernel
theorem dModel_lookOrder_177 : decode bModel_lookOrder 177 = .ok (.iinc 7 1, 3) := by decide +kernel
theorem dModel_lookOrder_180 : decode bModel_lookOrder 180 = .ok (.goto (-49), 3) := by decide +kernel
theorem dModel_lookOrder_183 : decode bModel_lookOrder 183 = .ok (.aload_n 0, 1) := by decide +kernel
theorem dModel_lookOrder_184 : decode bModel_lookOrder 184 = .ok (.iload_n 1, 1) := by decide +kernel
theorem dModel_lookOrder_185 : decode bModel_lookOrder 185 = .ok (.iconst 1, 1) := by decide +kernel
theorem dModel_lookOrder_186 : decode bModel_lookOrder 186 = .ok (.iconst 0, 1) := by decide +kernel
theorem dModel_lookOrder_187 : decode bModel_lookOrder 187 = .ok (.aload_n 0, 1) := by decide +kernel
theorem dModel_lookOrder_188 : decode bModel_lookOrder 188 = .ok (.getfield 35, 3) := by decide +kernel
theorem dModel_lookOrder_191 : decode bModel_lookOrder 191 = .ok (.iload_n 3, 1) := by decide +kernel
theorem dModel_lookOrder_192 : decode bModel_lookOrder 192 = .ok (.baload, 1) := by decide +kernel
theorem dModel_lookOrder_193 : decode bModel_lookOrder 193 = .ok (.ifCond .eq 17, 3) := by decide +kernel
theorem dModel_lookOrder_196 : decode bModel_lookOrder 196 = .ok (.aload_n 0, 1) := by decide +kernel
theorem dModel_lookOrder_197 : decode bModel_lookOrder 197 = .ok (.getfield 35, 3) := by decide +kernel
theorem dModel_lookOrder_200 : decode bModel_lookOrder 200 = .ok (.iload 4, 2) := by decide +kernel
theorem dModel_lookOrder_202 : decode bModel_lookOrder 202 = .ok (.baload, 1) := by decide +kernel
theorem dModel_lookOrder_203 : decode bModel_lookOrder 203 = .ok (.ifCond .eq 7, 3) := by decide +kernel
theorem dModel_lookOrder_206 : decode bModel_lookOrder 206 = .ok (.iconst 1, 1) := by decide +kernel
theorem dModel_lookOrder_207 : decode bModel_lookOrder 207 = .ok (.goto 4, 3) := by decide +kernel
theorem dModel_lookOrder_210 : decode bModel_lookOrder 210 = .ok (.iconst 0, 1) := by decide +kernel
theorem dModel_lookOrder_211 : decode bModel_lookOrder 211 = .ok (.invokevirtual 147, 3) := by decide +kernel
theorem dModel_lookOrder_214 : decode bModel_lookOrder 214 = .ok (.iload_n 2, 1) := by decide +kernel
theorem dModel_lookOrder_215 : decode bModel_lookOrder 215 = .ok (.bipush 6, 2) := by decide +kernel
theorem dModel_lookOrder_217 : decode bModel_lookOrder 217 = .ok (.if_icmp .ne 8, 3) := by decide +kernel
theorem dModel_lookOrder_220 : decode bModel_lookOrder 220 = .ok (.iload 6, 2) := by decide +kernel
theorem dModel_lookOrder_222 : decode bModel_lookOrder 222 = .ok (.goto 13, 3) := by decide +kernel
theorem dModel_lookOrder_225 : decode bModel_lookOrder 225 = .ok (.iload 6, 2) := by decide +kernel
theorem dModel_lookOrder_227 : decode bModel_lookOrder 227 = .ok (.ifCond .ne 7, 3) := by decide +kernel
theorem dModel_lookOrder_230 : decode bModel_lookOrder 230 = .ok (.iconst 1, 1) := by decide +kernel
theorem dModel_lookOrder_231 : decode bModel_lookOrder 231 = .ok (.goto 4, 3) := by decide +kernel
theorem dModel_lookOrder_234 : decode bModel_lookOrder 234 = .ok (.iconst 0, 1) := by decide +kernel
theorem dModel_lookOrder_235 : decode bModel_lookOrder 235 = .ok (.istore 7, 2) := by decide +kernel
theorem dModel_lookOrder_237 : decode bModel_lookOrder 237 = .ok (.iload_n 2, 1) := by decide +kernel
theorem dModel_lookOrder_238 : decode bModel_lookOrder 238 = .ok (.bipush 7, 2) := by decide +kernel
theorem dModel_lookOrder_240 : decode bModel_lookOrder 240 = .ok (.if_icmp .le 213, 3) := by decide +kernel
theorem dModel_lookOrder_243 : decode bModel_lookOrder 243 = .ok (.aload_n 0, 1) := by decide +kernel
theorem dModel_lookOrder_244 : decode bModel_lookOrder 244 = .ok (.getfield 42, 3) := by decide +kernel
theorem dModel_lookOrder_247 : decode bModel_lookOrder 247 = .ok (.iload_n 3, 1) := by decide +kernel
theorem dModel_lookOrder_248 : decode bModel_lookOrder 248 = .ok (.laload, 1) := by decide +kernel
theorem dModel_lookOrder_249 : decode bModel_lookOrder 249 = .ok (.aload_n 0, 1) := by decide +kernel
theorem dModel_lookOrder_250 : decode bModel_lookOrder 250 = .ok (.getfield 42, 3) := by decide +kernel
theorem dModel_lookOrder_253 : decode bModel_lookOrder 253 = .ok (.iload 4, 2) := by decide +kernel
theorem dModel_lookOrder_255 : decode bModel_lookOrder 255 = .ok (.laload, 1) := by decide +kernel
theorem dModel_lookOrder_256 : decode bModel_lookOrder 256 = .ok (.lcmp, 1) := by decide +kernel
theorem dModel_lookOrder_257 : decode bModel_lookOrder 257 = .ok (.ifCond .ge 7, 3) := by decide +kernel
theorem dModel_lookOrder_260 : decode bModel_lookOrder 260 = .ok (.iconst (-1), 1) := by decide +kernel
theorem dModel_lookOrder_261 : decode bModel_lookOrder 261 = .ok (.goto 25, 3) := by decide +kernel
theorem dModel_lookOrder_264 : decode bModel_lookOrder 264 = .ok (.aload_n 0, 1) := by decide +kernel
theorem dModel_lookOrder_265 : decode bModel_lookOrder 265 = .ok (.getfield 42, 3) := by decide +kernel
theorem dModel_lookOrder_268 : decode bModel_lookOrder 268 = .ok (.iload_n 3, 1) := by decide +kernel
theorem dModel_lookOrder_269 : decode bModel_lookOrder 269 = .ok (.laload, 1) := by decide +kernel
theorem dModel_lookOrder_270 : decode bModel_lookOrder 270 = .ok (.aload_n 0, 1) := by decide +kernel
theorem dModel_lookOrder_271 : decode bModel_lookOrder 271 = .ok (.getfield 42, 3) := by decide +kernel
theorem dModel_lookOrder_274 : decode bModel_lookOrder 274 = .ok (.iload 4, 2) := by decide +kernel
theorem dModel_lookOrder_276 : decode bModel_lookOrder 276 = .ok (.laload, 1) := by decide +kernel
theorem dModel_lookOrder_277 : decode bModel_lookOrder 277 = .ok (.lcmp, 1) := by decide +kernel
theorem dModel_lookOrder_278 : decode bModel_lookOrder 278 = .ok (.ifCond .le 7, 3) := by decide +kernel
theorem dModel_lookOrder_281 : decode bModel_lookOrder 281 = .ok (.iconst 1, 1) := by decide +kernel
theorem dModel_lookOrder_282 : decode bModel_lookOrder 282 = .ok (.goto 4, 3) := by decide +kernel
theorem dModel_lookOrder_285 : decode bModel_lookOrder 285 = .ok (.iconst 0, 1) := by decide +kernel
theorem dModel_lookOrder_286 : decode bModel_lookOrder 286 = .ok (.istore 8, 2) := by decide +kernel
theorem dModel_lookOrder_288 : decode bModel_lookOrder 288 = .ok (.iconst 0, 1) := by decide +kernel
theorem dModel_lookOrder_289 : decode bModel_lookOrder 289 = .ok (.istore 9, 2) := by decide +kernel
theorem dModel_lookOrder_291 : decode bModel_lookOrder 291 = .ok (.iload 9, 2) := by decide +kernel
theorem dModel_lookOrder_293 : decode bModel_lookOrder 293 = .ok (.aload_n 0, 1) := by decide +kernel
theorem dModel_lookOrder_294 : decode bModel_lookOrder 294 = .ok (.getfield 32, 3) := by decide +kernel
theorem dModel_lookOrder_297 : decode bModel_lookOrder 297 = .ok (.iload_n 3, 1) := by decide +kernel
theorem dModel_lookOrder_298 : decode bModel_lookOrder 298 = .ok (.iaload, 1) := by decide +kernel
theorem dModel_lookOrder_299 : decode bModel_lookOrder 299 = .ok (.if_icmp .ge 64, 3) := by decide +kernel
theorem dModel_lookOrder_302 : decode bModel_lookOrder 302 = .ok (.iload 5, 2) := by decide +kernel
theorem dModel_lookOrder_304 : decode bModel_lookOrder 304 = .ok (.ifCond .eq 59, 3) := by decide +kernel
theorem dModel_lookOrder_307 : decode bModel_lookOrder 307 = .ok (.aload_n 0, 1) := by decide +kernel
theorem dModel_lookOrder_308 : decode bModel_lookOrder 308 = .ok (.iload_n 3, 1) := by decide +kernel
theorem dModel_lookOrder_309 : decode bModel_lookOrder 309 = .ok (.iload 9, 2) := by decide +kernel
theorem dModel_lookOrder_311 : decode bModel_lookOrder 311 = .ok (.invokevirtual 131, 3) := by decide +kernel
theorem dModel_lookOrder_314 : decode bModel_lookOrder 314 = .ok (.invokestatic 138, 3) := by decide +kernel
theorem dModel_lookOrder_317 : decode bModel_lookOrder 317 = .ok (.aload_n 0, 1) := by decide +kernel
theorem dModel_lookOrder_318 : decode bModel_lookOrder 318 = .ok (.iload 4, 2) := by decide +kernel
theorem dModel_lookOrder_320 : decode bModel_lookOrder 320 = .ok (.iload 9, 2) := by decide +kernel
theorem dModel_lookOrder_322 : decode bModel_lookOrder 322 = .ok (.invokevirtual 131, 3) := by decide +kernel
theorem dModel_lookOrder_325 : decode bModel_lookOrder 325 = .ok (.invokestatic 138, 3) := by decide +kernel
theorem dModel_lookOrder_328 : decode bModel_lookOrder 328 = .ok (.if_icmp .ne 8, 3) := by decide +kernel
theorem dModel_lookOrder_331 : decode bModel_lookOrder 331 = .ok (.iload 8, 2) := by decide +kernel
theorem dModel_lookOrder_333 : decode bModel_lookOrder 333 = .ok (.goto 22, 3) := by decide +kernel
theorem dModel_lookOrder_336 : decode bModel_lookOrder 336 = .ok (.aload_n 0, 1) := by decide +kernel
theorem dModel_lookOrder_337 : decode bModel_lookOrder 337 = .ok (.iload 4, 2) := by decide +kernel
theorem dModel_lookOrder_339 : decode bModel_lookOrder 339 = .ok (.iload 9, 2) := by decide +kernel
theorem dModel_lookOrder_341 : decode bModel_lookOrder 341 = .ok (.invokevirtual 131, 3) := by decide +kernel
theorem dModel_lookOrder_344 : decode bModel_lookOrder 344 = .ok (.invokestatic 138, 3) := by decide +kernel
theorem dModel_lookOrder_347 : decode bModel_lookOrder 347 = .ok (.ifCond .eq 7, 3) := by decide +kernel
theorem dModel_lookOrder_350 : decode bModel_lookOrder 350 = .ok (.iconst (-1), 1) := by decide +kernel
theorem dModel_lookOrder_351 : decode bModel_lookOrder 351 = .ok (.goto 4, 3) := by decide +kernel
theorem dModel_lookOrder_354 : decode bModel_lookOrder 354 = .ok (.iconst 1, 1) := by decide +kernel
theorem dModel_lookOrder_355 : decode bModel_lookOrder 355 = .ok (.istore 8, 2) := by decide +kernel
theorem dModel_lookOrder_357 : decode bModel_lookOrder 357 = .ok (.iinc 9 1, 3) := by decide +kernel
theorem dModel_lookOrder_360 : decode bModel_lookOrder 360 = .ok (.goto (-69), 3) := by decide +kernel
theorem dModel_lookOrder_363 : decode bModel_lookOrder 363 = .ok (.iload 5, 2) := by decide +kernel
theorem dModel_lookOrder_365 : decode bModel_lookOrder 365 = .ok (.ifCond .eq 20, 3) := by decide +kernel
theorem dModel_lookOrder_368 : decode bModel_lookOrder 368 = .ok (.aload_n 0, 1) := by decide +kernel
theorem dModel_lookOrder_369 : decode bModel_lookOrder 369 = .ok (.iload_n 3, 1) := by decide +kernel
theorem dModel_lookOrder_370 : decode bModel_lookOrder 370 = .ok (.invokevirtual 220, 3) := by decide +kernel
theorem dModel_lookOrder_373 : decode bModel_lookOrder 373 = .ok (.ifCond .eq 16, 3) := by decide +kernel
theorem dModel_lookOrder_376 : decode bModel_lookOrder 376 = .ok (.aload_n 0, 1) := by decide +kernel
theorem dModel_lookOrder_377 : decode bModel_lookOrder 377 = .ok (.iload 4, 2) := by decide +kernel
theorem dModel_lookOrder_379 : decode bModel_lookOrder 379 = .ok (.invokevirtual 220, 3) := by decide +kernel
theorem dModel_lookOrder_382 : decode bModel_lookOrder 382 = .ok (.ifCond .eq 7, 3) := by decide +kernel
theorem dModel_lookOrder_385 : decode bModel_lookOrder 385 = .ok (.iconst 1, 1) := by decide +kernel
theorem dModel_lookOrder_386 : decode bModel_lookOrder 386 = .ok (.goto 4, 3) := by decide +kernel
theorem dModel_lookOrder_389 : decode bModel_lookOrder 389 = .ok (.iconst 0, 1) := by decide +kernel
theorem dModel_lookOrder_390 : decode bModel_lookOrder 390 = .ok (.istore 9, 2) := by decide +kernel
theorem dModel_lookOrder_392 : decode bModel_lookOrder 392 = .ok (.iload 9, 2) := by decide +kernel
theorem dModel_lookOrder_394 : decode bModel_lookOrder 394 = .ok (.ifCond .eq 56, 3) := by decide +kernel
theorem dModel_lookOrder_397 : decode bModel_lookOrder 397 = .ok (.iload_n 2, 1) := by decide +kernel
theorem dModel_lookOrder_398 : decode bModel_lookOrder 398 = .ok (.bipush 8, 2) := by decide +kernel
theorem dModel_lookOrder_400 : decode bModel_lookOrder 400 = .ok (.if_icmp .ne 11, 3) := by decide +kernel
theorem dModel_lookOrder_403 : decode bModel_lookOrder 403 = .ok (.iload 8, 2) := by decide +kernel
theorem dModel_lookOrder_405 : decode bModel_lookOrder 405 = .ok (.ifCond .ge 45, 3) := by decide +kernel
theorem dModel_lookOrder_408 : decode bModel_lookOrder 408 = .ok (.goto 38, 3) := by decide +kernel
theorem dModel_lookOrder_411 : decode bModel_lookOrder 411 = .ok (.iload_n 2, 1) := by decide +kernel
theorem dModel_lookOrder_412 : decode bModel_lookOrder 412 = .ok (.bipush 9, 2) := by decide +kernel
theorem dModel_lookOrder_414 : decode bModel_lookOrder 414 = .ok (.if_icmp .ne 12, 3) := by decide +kernel
theorem dModel_lookOrder_417 : decode bModel_lookOrder 417 = .ok (.iload 8, 2) := by decide +kernel
theorem dModel_lookOrder_419 : decode bModel_lookOrder 419 = .ok (.iconst 1, 1) := by decide +kernel
theorem dModel_lookOrder_420 : decode bModel_lookOrder 420 = .ok (.if_icmp .ge 30, 3) := by decide +kernel
theorem dModel_lookOrder_423 : decode bModel_lookOrder 423 = .ok (.goto 23, 3) := by decide +kernel
theorem dModel_lookOrder_426 : decode bModel_lookOrder 426 = .ok (.iload_n 2, 1) := by decide +kernel
theorem dModel_lookOrder_427 : decode bModel_lookOrder 427 = .ok (.bipush 10, 2) := by decide +kernel
theorem dModel_lookOrder_429 : decode bModel_lookOrder 429 = .ok (.if_icmp .ne 11, 3) := by decide +kernel
theorem dModel_lookOrder_432 : decode bModel_lookOrder 432 = .ok (.iload 8, 2) := by decide +kernel
theorem dModel_lookOrder_434 : decode bModel_lookOrder 434 = .ok (.ifCond .le 16, 3) := by decide +kernel
theorem dModel_lookOrder_437 : decode bModel_lookOrder 437 = .ok (.goto 9, 3) := by decide +kernel
theorem dModel_lookOrder_440 : decode bModel_lookOrder 440 = .ok (.iload 8, 2) := by decide +kernel
theorem dModel_lookOrder_442 : decode bModel_lookOrder 442 = .ok (.iconst (-1), 1) := by decide +kernel
theorem dModel_lookOrder_443 : decode bModel_lookOrder 443 = .ok (.if_icmp .le 7, 3) := by decide +kernel
theorem dModel_lookOrder_446 : decode bModel_lookOrder 446 = .ok (.iconst 1, 1) := by decide +kernel
theorem dModel_lookOrder_447 : decode bModel_lookOrder 447 = .ok (.goto 4, 3) := by decide +kernel
theorem dModel_lookOrder_450 : decode bModel_lookOrder 450 = .ok (.iconst 0, 1) := by decide +kernel
theorem dModel_lookOrder_451 : decode bModel_lookOrder 451 = .ok (.istore 7, 2) := by decide +kernel
theorem dModel_lookOrder_453 : decode bModel_lookOrder 453 = .ok (.aload_n 0, 1) := by decide +kernel
theorem dModel_lookOrder_454 : decode bModel_lookOrder 454 = .ok (.getfield 42, 3) := by decide +kernel
theorem dModel_lookOrder_457 : decode bModel_lookOrder 457 = .ok (.iload_n 1, 1) := by decide +kernel
theorem dModel_lookOrder_458 : decode bModel_lookOrder 458 = .ok (.iload 7, 2) := by decide +kernel
theorem dModel_lookOrder_460 : decode bModel_lookOrder 460 = .ok (.ifCond .eq 7, 3) := by decide +kernel
theorem dModel_lookOrder_463 : decode bModel_lookOrder 463 = .ok (.lconst 1, 1) := by decide +kernel
theorem dModel_lookOrder_464 : decode bModel_lookOrder 464 = .ok (.goto 4, 3) := by decide +kernel
theorem dModel_lookOrder_467 : decode bModel_lookOrder 467 = .ok (.lconst 0, 1) := by decide +kernel
theorem dModel_lookOrder_468 : decode bModel_lookOrder 468 = .ok (.lastore, 1) := by decide +kernel
theorem dModel_lookOrder_469 : decode bModel_lookOrder 469 = .ok (.aload_n 0, 1) := by decide +kernel
theorem dModel_lookOrder_470 : decode bModel_lookOrder 470 = .ok (.iload_n 1, 1) := by decide +kernel
theorem dModel_lookOrder_471 : decode bModel_lookOrder 471 = .ok (.invokevirtual 190, 3) := by decide +kernel
theorem dModel_lookOrder_474 : decode bModel_lookOrder 474 = .ok (.ireturn, 1) := by decide +kernel
theorem dModel_integer_0 : decode bModel_integer 0 = .ok (.aload_n 0, 1) := by decide +kernel
theorem dModel_integer_1 : decode bModel_integer 1 = .ok (.iload_n 1, 1) := by decide +kernel
theorem dModel_integer_2 : decode bModel_integer 2 = .ok (.iconst 2, 1) := by decide +kernel
theorem dModel_integer_3 : decode bModel_integer 3 = .ok (.iconst 0, 1) := by decide +kernel
theorem dModel_integer_4 : decode bModel_integer 4 = .ok (.iload_n 2, 1) := by decide +kernel
theorem dModel_integer_5 : decode bModel_integer 5 = .ok (.invokevirtual 147, 3) := by decide +kernel
theorem dModel_integer_8 : decode bModel_integer 8 = .ok (.iload_n 2, 1) := by decide +kernel
theorem dModel_integer_9 : decode bModel_integer 9 = .ok (.ifCond .eq 22, 3) := by decide +kernel
theorem dModel_integer_12 : decode bModel_integer 12 = .ok (.lload_n 3, 1) := by decide +kernel
theorem dModel_integer_13 : decode bModel_integer 13 = .ok (.ldc2_w 223, 3) := by decide +kernel
theorem dModel_integer_16 : decode bModel_integer 16 = .ok (.lcmp, 1) := by decide +kernel
theorem dModel_integer_17 : decode bModel_integer 17 = .ok (.ifCond .gt 11, 3) := by decide +kernel
theorem dModel_integer_20 : decode bModel_integer 20 = .ok (.lload_n 3, 1) := by decide +kernel
theorem dModel_integer_21 : decode bModel_integer 21 = .ok (.ldc2_w 225, 3) := by decide +kernel
theorem dModel_integer_24 : decode bModel_integer 24 = .ok (.lcmp, 1) := by decide +kernel
theorem dModel_integer_25 : decode bModel_integer 25 = .ok (.ifCond .ge 6, 3) := by decide +kernel
theorem dModel_integer_28 : decode bModel_integer 28 = .ok (.bipush 9, 2) := by decide +kernel
theorem dModel_integer_30 : decode bModel_integer 30 = .ok (.ireturn, 1) := by decide +kernel
theorem dModel_integer_31 : decode bModel_integer 31 = .ok (.aload_n 0, 1) := by decide +kernel
theorem dModel_integer_32 : decode bModel_integer 32 = .ok (.getfield 42, 3) := by decide +kernel
theorem dModel_integer_35 : decode bModel_integer 35 = .ok (.iload_n 1, 1) := by decide +kernel
theorem dModel_integer_36 : decode bModel_integer 36 = .ok (.iload_n 2, 1) := by decide +kernel
theorem dModel_integer_37 : decode bModel_integer 37 = .ok (.ifCond .eq 7, 3) := by decide +kernel
theorem dModel_integer_40 : decode bModel_integer 40 = .ok (.lload_n 3, 1) := by decide +kernel
theorem dModel_integer_41 : decode bModel_integer 41 = .ok (.goto 4, 3) := by decide +kernel
theorem dModel_integer_44 : decode bModel_integer 44 = .ok (.lconst 0, 1) := by decide +kernel
theorem dModel_integer_45 : decode bModel_integer 45 = .ok (.lastore, 1) := by decide +kernel
theorem dModel_integer_46 : decode bModel_integer 46 = .ok (.iconst 0, 1) := by decide +kernel
theorem dModel_integer_47 : decode bModel_integer 47 = .ok (.ireturn, 1) := by decide +kernel
theorem dModel_lookSum_0 : decode bModel_lookSum 0 = .ok (.aload_n 0, 1) := by decide +kernel
theorem dModel_lookSum_1 : decode bModel_lookSum 1 = .ok (.getfield 29, 3) := by decide +kernel
theorem dModel_lookSum_4 : decode bModel_lookSum 4 = .ok (.iload_n 3, 1) := by decide +kernel
theorem dModel_lookSum_5 : decode bModel_lookSum 5 = .ok (.iaload, 1) := by decide +kernel
theorem dModel_lookSum_6 : decode bModel_lookSum 6 = .ok (.iconst 3, 1) := by decide +kernel
theorem dModel_lookSum_7 : decode bModel_lookSum 7 = .ok (.if_icmp .ne 7, 3) := by decide +kernel
theorem dModel_lookSum_10 : decode bModel_lookSum 10 = .ok (.iconst 1, 1) := by decide +kernel
theorem dModel_lookSum_11 : decode bModel_lookSum 11 = .ok (.goto 4, 3) := by decide +kernel
theorem dModel_lookSum_14 : decode bModel_lookSum 14 = .ok (.iconst 0, 1) := by decide +kernel
theorem dModel_lookSum_15 : decode bModel_lookSum 15 = .ok (.istore 5, 2) := by decide +kernel
theorem dModel_lookSum_17 : decode bModel_lookSum 17 = .ok (.aload_n 0, 1) := by decide +kernel
theorem dModel_lookSum_18 : decode bModel_lookSum 18 = .ok (.getfield 29, 3) := by decide +kernel
theorem dModel_lookSum_21 : decode bModel_lookSum 21 = .ok (.iload 4, 2) := by decide +kernel
theorem dModel_lookSum_23 : decode bModel_lookSum 23 = .ok (.iaload, 1) := by decide +kernel
theorem dModel_lookSum_24 : decode bModel_lookSum 24 = .ok (.iconst 3, 1) := by decide +kernel
theorem dModel_lookSum_25 : decode bModel_lookSum 25 = .ok (.if_icmp .ne 7, 3) := by decide +kernel
theorem dModel_lookSum_28 : decode bModel_lookSum 28 = .ok (.iconst 1, 1) := by decide +kernel
theorem dModel_lookSum_29 : decode bModel_lookSum 29 = .ok (.goto 4, 3) := by decide +kernel
theorem dModel_lookSum_32 : decode bModel_lookSum 32 = .ok (.iconst 0, 1) := by decide +kernel
theorem dModel_lookSum_33 : decode bModel_lookSum 33 = .ok (.istore 6, 2) := by decide +kernel
theorem dModel_lookSum_35 : decode bModel_lookSum 35 = .ok (.aload_n 0, 1) := by decide +kernel
theorem dModel_lookSum_36 : decode bModel_lookSum 36 = .ok (.getfield 35, 3) := by decide +kernel
theorem dModel_lookSum_39 : decode bModel_lookSum 39 = .ok (.iload_n 3, 1) := by decide +kernel
theorem dModel_lookSum_40 : decode bModel_lookSum 40 = .ok (.baload, 1) := by decide +kernel
theorem dModel_lookSum_41 : decode bModel_lookSum 41 = .ok (.ifCond .eq 17, 3) := by decide +kernel
theorem dModel_lookSum_44 : decode bModel_lookSum 44 = .ok (.aload_n 0, 1) := by decide +kernel
theorem dModel_lookSum_45 : decode bModel_lookSum 45 = .ok (.getfield 35, 3) := by decide +kernel
theorem dModel_lookSum_48 : decode bModel_lookSum 48 = .ok (.iload 4, 2) := by decide +kernel
theorem dModel_lookSum_50 : decode bModel_lookSum 50 = .ok (.baload, 1) := by decide +kernel
theorem dModel_lookSum_51 : decode bModel_lookSum 51 = .ok (.ifCond .eq 7, 3) := by decide +kernel
theorem dModel_lookSum_54 : decode bModel_lookSum 54 = .ok (.iconst 1, 1) := by decide +kernel
theorem dModel_lookSum_55 : decode bModel_lookSum 55 = .ok (.goto 4, 3) := by decide +kernel
theorem dModel_lookSum_58 : decode bModel_lookSum 58 = .ok (.iconst 0, 1) := by decide +kernel
theorem dModel_lookSum_59 : decode bModel_lookSum 59 = .ok (.istore 7, 2) := by decide +kernel
theorem dModel_lookSum_61 : decode bModel_lookSum 61 = .ok (.aload_n 0, 1) := by decide +kernel
theorem dModel_lookSum_62 : decode bModel_lookSum 62 = .ok (.getfield 29, 3) := by decide +kernel
theorem dModel_lookSum_65 : decode bModel_lookSum 65 = .ok (.iload_n 3, 1) := by decide +kernel
theorem dModel_lookSum_66 : decode bModel_lookSum 66 = .ok (.iaload, 1) := by decide +kernel
theorem dModel_lookSum_67 : decode bModel_lookSum 67 = .ok (.iconst 2, 1) := by decide +kernel
theorem dModel_lookSum_68 : decode bModel_lookSum 68 = .ok (.if_icmp .ne 57, 3) := by decide +kernel
theorem dModel_lookSum_71 : decode bModel_lookSum 71 = .ok (.aload_n 0, 1) := by decide +kernel
theorem dModel_lookSum_72 : decode bModel_lookSum 72 = .ok (.getfield 29, 3) := by decide +kernel
theorem dModel_lookSum_75 : decode bModel_lookSum 75 = .ok (.iload 4, 2) := by decide +kernel
theorem dModel_lookSum_77 : decode bModel_lookSum 77 = .ok (.iaload, 1) := by decide +kernel
theorem dModel_lookSum_78 : decode bModel_lookSum 78 = .ok (.iconst 2, 1) := by decide +kernel
theorem dModel_lookSum_79 : decode bModel_lookSum 79 = .ok (.if_icmp .ne 46, 3) := by decide +kernel
theorem dModel_lookSum_82 : decode bModel_lookSum 82 = .ok (.aload_n 0, 1) := by decide +kernel
theorem dModel_lookSum_83 : decode bModel_lookSum 83 = .ok (.iload_n 1, 1) := by decide +kernel
theorem dModel_lookSum_84 : decode bModel_lookSum 84 = .ok (.iload 7, 2) := by decide +kernel
theorem dModel_lookSum_86 : decode bModel_lookSum 86 = .ok (.iload_n 2, 1) := by decide +kernel
theorem dModel_lookSum_87 : decode bModel_lookSum 87 = .ok (.ifCond .eq 20, 3) := by decide +kernel
theorem dModel_lookSum_90 : decode bModel_lookSum 90 = .ok (.aload_n 0, 1) := by decide +kernel
theorem dModel_lookSum_91 : decode bModel_lookSum 91 = .ok (.getfield 42, 3) := by decide +kernel
theorem dModel_lookSum_94 : decode bModel_lookSum 94 = .ok (.iload_n 3, 1) := by decide +kernel
theorem dModel_lookSum_95 : decode bModel_lookSum 95 = .ok (.laload, 1) := by decide +kernel
theorem dModel_lookSum_96 : decode bModel_lookSum 96 = .ok (.aload_n 0, 1) := by decide +kernel
theorem dModel_lookSum_97 : decode bModel_lookSum 97 = .ok (.getfield 42, 3) := by decide +kernel
theorem dModel_lookSum_100 : decode bModel_lookSum 100 = .ok (.iload 4, 2) := by decide +kernel
theorem dModel_lookSum_102 : decode bModel_lookSum 102 = .ok (.laload, 1) := by decide +kernel
theorem dModel_lookSum_103 : decode bModel_lookSum 103 = .ok (.lsub, 1) := by decide +kernel
theorem dModel_lookSum_104 : decode bModel_lookSum 104 = .ok (.goto 17, 3) := by decide +kernel
theorem dModel_lookSum_107 : decode bModel_lookSum 107 = .ok (.aload_n 0, 1) := by decide +kernel
theorem dModel_lookSum_108 : decode bModel_lookSum 108 = .ok (.getfield 42, 3) := by decide +kernel
theorem dModel_lookSum_111 : decode bModel_lookSum 111 = .ok (.iload_n 3, 1) := by decide +kernel
theorem dModel_lookSum_112 : decode bModel_lookSum 112 = .ok (.laload, 1) := by decide +kernel
theorem dModel_lookSum_113 : decode bModel_lookSum 113 = .ok (.aload_n 0, 1) := by decide +kernel
theorem dModel_lookSum_114 : decode bModel_lookSum 114 = .ok (.getfield 42, 3) := by decide +kernel
theorem dModel_lookSum_117 : decode bModel_lookSum 117 = .ok (.iload 4, 2) := by decide +kernel
theorem dModel_lookSum_119 : decode bModel_lookSum 119 = .ok (.laload, 1) := by decide +kernel
theorem dModel_lookSum_120 : decode bModel_lookSum 120 = .ok (.ladd, 1) := by decide +kernel
theorem dModel_lookSum_121 : decode bModel_lookSum 121 = .ok (.invokevirtual 227, 3) := by decide +kernel
theorem dModel_lookSum_124 : decode bModel_lookSum 124 = .ok (.ireturn, 1) := by decide +kernel
theorem dModel_lookSum_125 : decode bModel_lookSum 125 = .ok (.iload 5, 2) := by decide +kernel
theorem dModel_lookSum_127 : decode bModel_lookSum 127 = .ok (.ifCond .ne 13, 3) := by decide +kernel
theorem dModel_lookSum_130 : decode bModel_lookSum 130 = .ok (.aload_n 0, 1) := by decide +kernel
theorem dModel_lookSum_131 : decode bModel_lookSum 131 = .ok (.getfield 29, 3) := by decide +kernel
theorem dModel_lookSum_134 : decode bModel_lookSum 134 = .ok (.iload_n 3, 1) := by decide +kernel
theorem dModel_lookSum_135 : decode bModel_lookSum 135 = .ok (.iaload, 1) := by decide +kernel
theorem dModel_lookSum_136 : decode bModel_lookSum 136 = .ok (.iconst 2, 1) := by decide +kernel
theorem dModel_lookSum_137 : decode bModel_lookSum 137 = .ok (.if_icmp .ne 19, 3) := by decide +kernel
theorem dModel_lookSum_140 : decode bModel_lookSum 140 = .ok (.iload 6, 2) := by decide +kernel
theorem dModel_lookSum_142 : decode bModel_lookSum 142 = .ok (.ifCond .ne 16, 3) := by decide +kernel
theorem dModel_lookSum_145 : decode bModel_lookSum 145 = .ok (.aload_n 0, 1) := by decide +kernel
theorem dModel_lookSum_146 : decode bModel_lookSum 146 = .ok (.getfield 29, 3) := by decide +kernel
theorem dModel_lookSum_149 : decode bModel_lookSum 149 = .ok (.iload 4, 2) := by decide +kernel
theorem dModel_lookSum_151 : decode bModel_lookSum 151 = .ok (.iaload, 1) := by decide +kernel
theorem dModel_lookSum_152 : decode bModel_lookSum 152 = .ok (.iconst 2, 1) := by decide +kernel
theorem dModel_lookSum_153 : decode bModel_lookSum 153 = .ok (.if_icmp .eq 5, 3) := by decide +kernel
theorem dModel_lookSum_156 : decode bModel_lookSum 156 = .ok (.iconst 3, 1) := by decide +kernel
theorem dModel_lookSum_157 : decode bModel_lookSum 157 = .ok (.ireturn, 1) := by decide +kernel
theorem dModel_lookSum_158 : decode bModel_lookSum 158 = .ok (.iload 5, 2) := by decide +kernel
theorem dModel_lookSum_160 : decode bModel_lookSum 160 = .ok (.ifCond .eq 26, 3) := by decide +kernel
theorem dModel_lookSum_163 : decode bModel_lookSum 163 = .ok (.iload 6, 2) := by decide +kernel
theorem dModel_lookSum_165 : decode bModel_lookSum 165 = .ok (.ifCond .eq 21, 3) := by decide +kernel
theorem dModel_lookSum_168 : decode bModel_lookSum 168 = .ok (.aload_n 0, 1) := by decide +kernel
theorem dModel_lookSum_169 : decode bModel_lookSum 169 = .ok (.getfield 32, 3) := by decide +kernel
theorem dModel_lookSum_172 : decode bModel_lookSum 172 = .ok (.iload_n 3, 1) := by decide +kernel
theorem dModel_lookSum_173 : decode bModel_lookSum 173 = .ok (.iaload, 1) := by decide +kernel
theorem dModel_lookSum_174 : decode bModel_lookSum 174 = .ok (.aload_n 0, 1) := by decide +kernel
theorem dModel_lookSum_175 : decode bModel_lookSum 175 = .ok (.getfield 32, 3) := by decide +kernel
theorem dModel_lookSum_178 : decode bModel_lookSum 178 = .ok (.iload 4, 2) := by decide +kernel
theorem dModel_lookSum_180 : decode bModel_lookSum 180 = .ok (.iaload, 1) := by decide +kernel
theorem dModel_lookSum_181 : decode bModel_lookSum 181 = .ok (.if_icmp .eq 5, 3) := by decide +kernel
theorem dModel_lookSum_184 : decode bModel_lookSum 184 = .ok (.iconst 4, 1) := by decide +kernel
theorem dModel_lookSum_185 : decode bModel_lookSum 185 = .ok (.ireturn, 1) := by decide +kernel
theorem dModel_lookSum_186 : decode bModel_lookSum 186 = .ok (.aload_n 0, 1) := by decide +kernel
theorem dModel_lookSum_187 : decode bModel_lookSum 187 = .ok (.iload_n 1, 1) := by decide +kernel
theorem dModel_lookSum_188 : decode bModel_lookSum 188 = .ok (.iconst 3, 1) := by decide +kernel
theorem dModel_lookSum_189 : decode bModel_lookSum 189 = .ok (.iload 5, 2) := by decide +kernel
theorem dModel_lookSum_191 : decode bModel_lookSum 191 = .ok (.ifCond .eq 12, 3) := by decide +kernel
theorem dModel_lookSum_194 : decode bModel_lookSum 194 = .ok (.aload_n 0, 1) := by decide +kernel
theorem dModel_lookSum_195 : decode bModel_lookSum 195 = .ok (.getfield 32, 3) := by decide +kernel
theorem dModel_lookSum_198 : decode bModel_lookSum 198 = .ok (.iload_n 3, 1) := by decide +kernel
theorem dModel_lookSum_199 : decode bModel_lookSum 199 = .ok (.iaload, 1) := by decide +kernel
theorem dModel_lookSum_200 : decode bModel_lookSum 200 = .ok (.goto 10, 3) := by decide +kernel
theorem dModel_lookSum_203 : decode bModel_lookSum 203 = .ok (.aload_n 0, 1) := by decide +kernel
theorem dModel_lookSum_204 : decode bModel_lookSum 204 = .ok (.getfield 32, 3) := by decide +kernel
theorem dModel_lookSum_207 : decode bModel_lookSum 207 = .ok (.iload 4, 2) := by decide +kernel
theorem dModel_lookSum_209 : decode bModel_lookSum 209 = .ok (.iaload, 1) := by decide +kernel
theorem dModel_lookSum_210 : decode bModel_lookSum 210 = .ok (.iload 7, 2) := by decide +kernel
theorem dModel_lookSum_212 : decode bModel_lookSum 212 = .ok (.invokevirtual 147, 3) := by decide +kernel
theorem dModel_lookSum_215 : decode bModel_lookSum 215 = .ok (.iload 5, 2) := by decide +kernel
theorem dModel_lookSum_217 : decode bModel_lookSum 217 = .ok (.ifCond .eq 11, 3) := by decide +kernel
theorem dModel_lookSum_220 : decode bModel_lookSum 220 = .ok (.aload_n 0, 1) := by decide +kernel
theorem dModel_lookSum_221 : decode bModel_lookSum 221 = .ok (.iload_n 3, 1) := by decide +kernel
theorem dModel_lookSum_222 : decode bModel_lookSum 222 = .ok (.invokevirtual 231, 3) := by decide +kernel
theorem dModel_lookSum_225 : decode bModel_lookSum 225 = .ok (.goto 9, 3) := by decide +kernel
theorem dModel_lookSum_228 : decode bModel_lookSum 228 = .ok (.aload_n 0, 1) := by decide +kernel
theorem dModel_lookSum_229 : decode bModel_lookSum 229 = .ok (.getfield 42, 3) := by decide +kernel
theorem dModel_lookSum_232 : decode bModel_lookSum 232 = .ok (.iload_n 3, 1) := by decide +kernel
theorem dModel_lookSum_233 : decode bModel_lookSum 233 = .ok (.laload, 1) := by decide +kernel
theorem dModel_lookSum_234 : decode bModel_lookSum 234 = .ok (.lstore 8, 2) := by decide +kernel
theorem dModel_lookSum_236 : decode bModel_lookSum 236 = .ok (.iload 6, 2) := by decide +kernel
theorem dModel_lookSum_238 : decode bModel_lookSum 238 = .ok (.ifCond .eq 12, 3) := by decide +kernel
theorem dModel_lookSum_241 : decode bModel_lookSum 241 = .ok (.aload_n 0, 1) := by decide +kernel
theorem dModel_lookSum_242 : decode bModel_lookSum 242 = .ok (.iload 4, 2) := by decide +kernel
theorem dModel_lookSum_244 : decode bModel_lookSum 244 = .ok (.invokevirtual 231, 3) := by decide +kernel
theorem dModel_lookSum_247 : decode bModel_lookSum 247 = .ok (.goto 10, 3) := by decide +kernel
theorem dModel_lookSum_250 : decode bModel_lookSum 250 = .ok (.aload_n 0, 1) := by decide +kernel
theorem dModel_lookSum_251 : decode bModel_lookSum 251 = .ok (.getfield 42, 3) := by decide +kernel
theorem dModel_lookSum_254 : decode bModel_lookSum 254 = .ok (.iload 4, 2) := by decide +kernel
theorem dModel_lookSum_256 : decode bModel_lookSum 256 = .ok (.laload, 1) := by decide +kernel
theorem dModel_lookSum_257 : decode bModel_lookSum 257 = .ok (.lstore 10, 2) := by decide +kernel
theorem dModel_lookSum_259 : decode bModel_lookSum 259 = .ok (.iload 5, 2) := by decide +kernel
theorem dModel_lookSum_261 : decode bModel_lookSum 261 = .ok (.ifCond .eq 11, 3) := by decide +kernel
theorem dModel_lookSum_264 : decode bModel_lookSum 264 = .ok (.aload_n 0, 1) := by decide +kernel
theorem dModel_lookSum_265 : decode bModel_lookSum 265 = .ok (.iload_n 3, 1) := by decide +kernel
theorem dModel_lookSum_266 : decode bModel_lookSum 266 = .ok (.invokevirtual 220, 3) := by decide +kernel
theorem dModel_lookSum_269 : decode bModel_lookSum 269 = .ok (.ifCond .eq 21, 3) := by decide +kernel
theorem dModel_lookSum_272 : decode bModel_lookSum 272 = .ok (.iload 6, 2) := by decide +kernel
theorem dModel_lookSum_274 : decode bModel_lookSum 274 = .ok (.ifCond .eq 12, 3) := by decide +kernel
theorem dModel_lookSum_277 : decode bModel_lookSum 277 = .ok (.aload_n 0, 1) := by decide +kernel
theorem dModel_lookSum_278 : decode bModel_lookSum 278 = .ok (.iload 4, 2) := by decide +kernel
theorem dModel_lookSum_280 : decode bModel_lookSum 280 = .ok (.invokevirtual 220, 3) := by decide +kernel
theorem dModel_lookSum_283 : decode bModel_lookSum 283 = .ok (.ifCond .eq 7, 3) := by decide +kernel
theorem dModel_lookSum_286 : decode bModel_lookSum 286 = .ok (.iconst 1, 1) := by decide +kernel
theorem dModel_lookSum_287 : decode bModel_lookSum 287 = .ok (.goto 4, 3) := by decide +kernel
theorem dModel_lookSum_290 : decode bModel_lookSum 290 = .ok (.iconst 0, 1) := by decide +kernel
theorem dModel_lookSum_291 : decode bModel_lookSum 291 = .ok (.istore 12, 2) := by decide +kernel
theorem dModel_lookSum_293 : decode bModel_lookSum 293 = .ok (.iload 12, 2) := by decide +kernel
theorem dModel_lookSum_295 : decode bModel_lookSum 295 = .ok (.ifCond .eq 25, 3) := by decide +kernel
theorem dModel_lookSum_298 : decode bModel_lookSum 298 = .ok (.aload_n 0, 1) := by decide +kernel
theorem dModel_lookSum_299 : decode bModel_lookSum 299 = .ok (.iload_n 1, 1) := by decide +kernel
theorem dModel_lookSum_300 : decode bModel_lookSum 300 = .ok (.iload_n 2, 1) := by decide +kernel
theorem dModel_lookSum_301 : decode bModel_lookSum 301 = .ok (.ifCond .eq 11, 3) := by decide +kernel
theorem dModel_lookSum_304 : decode bModel_lookSum 304 = .ok (.lload 8, 2) := by decide +kernel
theorem dModel_lookSum_306 : decode bModel_lookSum 306 = .ok (.lload 10, 2) := by decide +kernel
theorem dModel_lookSum_308 : decode bModel_lookSum 308 = .ok (.lsub, 1) := by decide +kernel
theorem dModel_lookSum_309 : decode bModel_lookSum 309 = .ok (.goto 8, 3) := by decide +kernel
theorem dModel_lookSum_312 : decode bModel_lookSum 312 = .ok (.lload 8, 2) := by decide +kernel
theorem dModel_lookSum_314 : decode bModel_lookSum 314 = .ok (.lload 10, 2) := by decide +kernel
theorem dModel_lookSum_316 : decode bModel_lookSum 316 = .ok (.ladd, 1) := by decide +kernel
theorem dModel_lookSum_317 : decode bModel_lookSum 317 = .ok (.invokevirtual 235, 3) := by decide +kernel
theorem dModel_lookSum_320 : decode bModel_lookSum 320 = .ok (.iconst 0, 1) := by decide +kernel
theorem dModel_lookSum_321 : decode bModel_lookSum 321 = .ok (.istore 13, 2) := by decide +kernel
theorem dModel_lookSum_323 : decode bModel_lookSum 323 = .ok (.iload 13, 2) := by decide +kernel
theorem dModel_lookSum_325 : decode bModel_lookSum 325 = .ok (.aload_n 0, 1) := by decide +kernel
theorem dModel_lookSum_326 : decode bModel_lookSum 326 = .ok (.getfield 32, 3) := by decide +kernel
theorem dModel_lookSum_329 : decode bModel_lookSum 329 = .ok (.iload_n 1, 1) := by decide +kernel
theorem dModel_lookSum_330 : decode bModel_lookSum 330 = .ok (.iaload, 1) := by decide +kernel
theorem dModel_lookSum_331 : decode bModel_lookSum 331 = .ok (.if_icmp .ge 22, 3) := by decide +kernel
theorem dModel_lookSum_334 : decode bModel_lookSum 334 = .ok (.iload 12, 2) := by decide +kernel
theorem dModel_lookSum_336 : decode bModel_lookSum 336 = .ok (.ifCond .ne 17, 3) := by decide +kernel
theorem dModel_lookSum_339 : decode bModel_lookSum 339 = .ok (.aload_n 0, 1) := by decide +kernel
theorem dModel_lookSum_340 : decode bModel_lookSum 340 = .ok (.iload_n 1, 1) := by decide +kernel
theorem dModel_lookSum_341 : decode bModel_lookSum 341 = .ok (.iload 13, 2) := by decide +kernel
theorem dModel_lookSum_343 : decode bModel_lookSum 343 = .ok (.iconst 1, 1) := by decide +kernel
theorem dModel_lookSum_344 : decode bModel_lookSum 344 = .ok (.invokevirtual 127, 3) := by decide +kernel
theorem dModel_lookSum_347 : decode bModel_lookSum 347 = .ok (.iinc 13 1, 3) := by decide +kernel
theorem dModel_lookSum_350 : decode bModel_lookSum 350 = .ok (.goto (-27), 3) := by decide +kernel
theorem dModel_lookSum_353 : decode bModel_lookSum 353 = .ok (.aload_n 0, 1) := by decide +kernel
theorem dModel_lookSum_354 : decode bModel_lookSum 354 = .ok (.iload_n 1, 1) := by decide +kernel
theorem dModel_lookSum_355 : decode bModel_lookSum 355 = .ok (.invokevirtual 190, 3) := by decide +kernel
theorem dModel_lookSum_358 : decode bModel_lookSum 358 = .ok (.ireturn, 1) := by decide +kernel
theorem dModel_lookJoined_0 : decode bModel_lookJoined 0 = .ok (.aload_n 0, 1) := by decide +kernel
theorem dModel_lookJoined_1 : decode bModel_lookJoined 1 = .ok (.getfield 29, 3) := by decide +kernel
theorem dModel_lookJoined_4 : decode bModel_lookJoined 4 = .ok (.iload_n 2, 1) := by decide +kernel
theorem dModel_lookJoined_5 : decode bModel_lookJoined 5 = .ok (.iaload, 1) := by decide +kernel
theorem dModel_lookJoined_6 : decode bModel_lookJoined 6 = .ok (.ifCond .eq 13, 3) := by decide +kernel
theorem dModel_lookJoined_9 : decode bModel_lookJoined 9 = .ok (.aload_n 0, 1) := by decide +kernel
theorem dModel_lookJoined_10 : decode bModel_lookJoined 10 = .ok (.getfield 29, 3) := by decide +kernel
theorem dModel_lookJoined_13 : decode bModel_lookJoined 13 = .ok (.iload_n 2, 1) := by decide +kernel
theorem dModel_lookJoined_14 : decode bModel_lookJoined 14 = .ok (.iaload, 1) := by decide +kernel
theorem dModel_lookJoined_15 : decode bModel_lookJoined 15 = .ok (.iconst 3, 1) := by decide +kernel
theorem dModel_lookJoined_16 : decode bModel_lookJoined 16 = .ok (.if_icmp .ne 22, 3) := by decide +kernel
theorem dModel_lookJoined_19 : decode bModel_lookJoined 19 = .ok (.aload_n 0, 1) := by decide +kernel
theorem dModel_lookJoined_20 : decode bModel_lookJoined 20 = .ok (.getfield 29, 3) := by decide +kernel
theorem dModel_lookJoined_23 : decode bModel_lookJoined 23 = .ok (.iload_n 3, 1) := by decide +kernel
theorem dModel_lookJoined_24 : decode bModel_lookJoined 24 = .ok (.iaload, 1) := by decide +kernel
theorem dModel_lookJoined_25 : decode bModel_lookJoined 25 = .ok (.ifCond .eq 15, 3) := by decide +kernel
theorem dModel_lookJoined_28 : decode bModel_lookJoined 28 = .ok (.aload_n 0, 1) := by decide +kernel
theorem dModel_lookJoined_29 : decode bModel_lookJoined 29 = .ok (.getfield 29, 3) := by decide +kernel
theorem dModel_lookJoined_32 : decode bModel_lookJoined 32 = .ok (.iload_n 3, 1) := by decide +kernel
theorem dModel_lookJoined_33 : decode bModel_lookJoined 33 = .ok (.iaload, 1) := by decide +kernel
theorem dModel_lookJoined_34 : decode bModel_lookJoined 34 = .ok (.iconst 3, 1) := by decide +kernel
theorem dModel_lookJoined_35 : decode bModel_lookJoined 35 = .ok (.if_icmp .eq 5, 3) := by decide +kernel
theorem dModel_lookJoined_38 : decode bModel_lookJoined 38 = .ok (.iconst 3, 1) := by decide +kernel
theorem dModel_lookJoined_39 : decode bModel_lookJoined 39 = .ok (.ireturn, 1) := by decide +kernel
theorem dModel_lookJoined_40 : decode bModel_lookJoined 40 = .ok (.aload_n 0, 1) := by decide +kernel
theorem dModel_lookJoined_41 : decode bModel_lookJoined 41 = .ok (.getfield 29, 3) := by decide +kernel
theorem dModel_lookJoined_44 : decode bModel_lookJoined 44 = .ok (.iload_n 2, 1) := by decide +kernel
theorem dModel_lookJoined_45 : decode bModel_lookJoined 45 = .ok (.iaload, 1) := by decide +kernel
theorem dModel_lookJoined_46 : decode bModel_lookJoined 46 = .ok (.ifCond .ne 7, 3) := by decide +kernel
theorem dModel_lookJoined_49 : decode bModel_lookJoined 49 = .ok (.iconst 1, 1) := by decide +kernel
theorem dModel_lookJoined_50 : decode bModel_lookJoined 50 = .ok (.goto 9, 3) := by decide +kernel
theorem dModel_lookJoined_53 : decode bModel_lookJoined 53 = .ok (.aload_n 0, 1) := by decide +kernel
theorem dModel_lookJoined_54 : decode bModel_lookJoined 54 = .ok (.getfield 32, 3) := by decide +kernel
theorem dModel_lookJoined_57 : decode bModel_lookJoined 57 = .ok (.iload_n 2, 1) := by decide +kernel
theorem dModel_lookJoined_58 : decode bModel_lookJoined 58 = .ok (.iaload, 1) := by decide +kernel
theorem dModel_lookJoined_59 : decode bModel_lookJoined 59 = .ok (.istore 4, 2) := by decide +kernel
theorem dModel_lookJoined_61 : decode bModel_lookJoined 61 = .ok (.aload_n 0, 1) := by decide +kernel
theorem dModel_lookJoined_62 : decode bModel_lookJoined 62 = .ok (.getfield 29, 3) := by decide +kernel
theorem dModel_lookJoined_65 : decode bModel_lookJoined 65 = .ok (.iload_n 3, 1) := by decide +kernel
theorem dModel_lookJoined_66 : decode bModel_lookJoined 66 = .ok (.iaload, 1) := by decide +kernel
theorem dModel_lookJoined_67 : decode bModel_lookJoined 67 = .ok (.ifCond .ne 7, 3) := by decide +kernel
theorem dModel_lookJoined_70 : decode bModel_lookJoined 70 = .ok (.iconst 1, 1) := by decide +kernel
theorem dModel_lookJoined_71 : decode bModel_lookJoined 71 = .ok (.goto 9, 3) := by decide +kernel
theorem dModel_lookJoined_74 : decode bModel_lookJoined 74 = .ok (.aload_n 0, 1) := by decide +kernel
theorem dModel_lookJoined_75 : decode bModel_lookJoined 75 = .ok (.getfield 32, 3) := by decide +kernel
theorem dModel_lookJoined_78 : decode bModel_lookJoined 78 = .ok (.iload_n 3, 1) := by decide +kernel
theorem dModel_lookJoined_79 : decode bModel_lookJoined 79 = .ok (.iaload, 1) := by decide +kernel
theorem dModel_lookJoined_80 : decode bModel_lookJoined 80 = .ok (.istore 5, 2) := by decide +kernel
theorem dModel_lookJoined_82 : decode bModel_lookJoined 82 = .ok (.iload 4, 2) := by decide +kernel
theorem dModel_lookJoined_84 : decode bModel_lookJoined 84 = .ok (.iload 5, 2) := by decide +kernel
theorem dModel_lookJoined_86 : decode bModel_lookJoined 86 = .ok (.iadd, 1) := by decide +kernel
theorem dModel_lookJoined_87 : decode bModel_lookJoined 87 = .ok (.bipush 64, 2) := by decide +kernel
theorem dModel_lookJoined_89 : decode bModel_lookJoined 89 = .ok (.if_icmp .le 5, 3) := by decide +kernel
theorem dModel_lookJoined_92 : decode bModel_lookJoined 92 = .ok (.iconst 4, 1) := by decide +kernel
theorem dModel_lookJoined_93 : decode bModel_lookJoined 93 = .ok (.ireturn, 1) := by decide +kernel
theorem dModel_lookJoined_94 : decode bModel_lookJoined 94 = .ok (.aload_n 0, 1) := by decide +kernel
theorem dModel_lookJoined_95 : decode bModel_lookJoined 95 = .ok (.iload_n 1, 1) := by decide +kernel
theorem dModel_lookJoined_96 : decode bModel_lookJoined 96 = .ok (.iconst 3, 1) := by decide +kernel
theorem dModel_lookJoined_97 : decode bModel_lookJoined 97 = .ok (.iload 4, 2) := by decide +kernel
theorem dModel_lookJoined_99 : decode bModel_lookJoined 99 = .ok (.iload 5, 2) := by decide +kernel
theorem dModel_lookJoined_101 : decode bModel_lookJoined 101 = .ok (.iadd, 1) := by decide +kernel
theorem dModel_lookJoined_102 : decode bModel_lookJoined 102 = .ok (.aload_n 0, 1) := by decide +kernel
theorem dModel_lookJoined_103 : decode bModel_lookJoined 103 = .ok (.getfield 35, 3) := by decide +kernel
theorem dModel_lookJoined_106 : decode bModel_lookJoined 106 = .ok (.iload_n 2, 1) := by decide +kernel
theorem dModel_lookJoined_107 : decode bModel_lookJoined 107 = .ok (.baload, 1) := by decide +kernel
theorem dModel_lookJoined_108 : decode bModel_lookJoined 108 = .ok (.ifCond .eq 16, 3) := by decide +kernel
theorem dModel_lookJoined_111 : decode bModel_lookJoined 111 = .ok (.aload_n 0, 1) := by decide +kernel
theorem dModel_lookJoined_112 : decode bModel_lookJoined 112 = .ok (.getfield 35, 3) := by decide +kernel
theorem dModel_lookJoined_115 : decode bModel_lookJoined 115 = .ok (.iload_n 3, 1) := by decide +kernel
theorem dModel_lookJoined_116 : decode bModel_lookJoined 116 = .ok (.baload, 1) := by decide +kernel
theorem dModel_lookJoined_117 : decode bModel_lookJoined 117 = .ok (.ifCond .eq 7, 3) := by decide +kernel
theorem dModel_lookJoined_120 : decode bModel_lookJoined 120 = .ok (.iconst 1, 1) := by decide +kernel
theorem dModel_lookJoined_121 : decode bModel_lookJoined 121 = .ok (.goto 4, 3) := by decide +kernel
theorem dModel_lookJoined_124 : decode bModel_lookJoined 124 = .ok (.iconst 0, 1) := by decide +kernel
theorem dModel_lookJoined_125 : decode bModel_lookJoined 125 = .ok (.invokevirtual 147, 3) := by decide +kernel
theorem dModel_lookJoined_128 : decode bModel_lookJoined 128 = .ok (.iconst 0, 1) := by decide +kernel
theorem dModel_lookJoined_129 : decode bModel_lookJoined 129 = .ok (.istore 6, 2) := by decide +kernel
theorem dModel_lookJoined_131 : decode bModel_lookJoined 131 = .ok (.iload 6, 2) := by decide +kernel
theorem dModel_lookJoined_133 : decode bModel_lookJoined 133 = .ok (.iload 5, 2) := by decide +kernel
theorem dModel_lookJoined_135 : decode bModel_lookJoined 135 = .ok (.if_icmp .ge 42, 3) := by decide +kernel
theorem dModel_lookJoined_138 : decode bModel_lookJoined 138 = .ok (.aload_n 0, 1) := by decide +kernel
theorem dModel_lookJoined_139 : decode bModel_lookJoined 139 = .ok (.iload_n 1, 1) := by decide +kernel
theorem dModel_lookJoined_140 : decode bModel_lookJoined 140 = .ok (.iload 6, 2) := by decide +kernel
theorem dModel_lookJoined_142 : decode bModel_lookJoined 142 = .ok (.aload_n 0, 1) := by decide +kernel
theorem dModel_lookJoined_143 : decode bModel_lookJoined 143 = .ok (.getfield 29, 3) := by decide +kernel
theorem dModel_lookJoined_146 : decode bModel_lookJoined 146 = .ok (.iload_n 3, 1) := by decide +kernel
theorem dModel_lookJoined_147 : decode bModel_lookJoined 147 = .ok (.iaload, 1) := by decide +kernel
theorem dModel_lookJoined_148 : decode bModel_lookJoined 148 = .ok (.ifCond .ne 13, 3) := by decide +kernel
theorem dModel_lookJoined_151 : decode bModel_lookJoined 151 = .ok (.aload_n 0, 1) := by decide +kernel
theorem dModel_lookJoined_152 : decode bModel_lookJoined 152 = .ok (.getfield 42, 3) := by decide +kernel
theorem dModel_lookJoined_155 : decode bModel_lookJoined 155 = .ok (.iload_n 3, 1) := by decide +kernel
theorem dModel_lookJoined_156 : decode bModel_lookJoined 156 = .ok (.laload, 1) := by decide +kernel
theorem dModel_lookJoined_157 : decode bModel_lookJoined 157 = .ok (.l2i, 1) := by decide +kernel
theorem dModel_lookJoined_158 : decode bModel_lookJoined 158 = .ok (.goto 10, 3) := by decide +kernel
theorem dModel_lookJoined_161 : decode bModel_lookJoined 161 = .ok (.aload_n 0, 1) := by decide +kernel
theorem dModel_lookJoined_162 : decode bModel_lookJoined 162 = .ok (.iload_n 3, 1) := by decide +kernel
theorem dModel_lookJoined_163 : decode bModel_lookJoined 163 = .ok (.iload 6, 2) := by decide +kernel
theorem dModel_lookJoined_165 : decode bModel_lookJoined 165 = .ok (.invokevirtual 131, 3) := by decide +kernel
theorem dModel_lookJoined_168 : decode bModel_lookJoined 168 = .ok (.invokevirtual 127, 3) := by decide +kernel
theorem dModel_lookJoined_171 : decode bModel_lookJoined 171 = .ok (.iinc 6 1, 3) := by decide +kernel
theorem dModel_lookJoined_174 : decode bModel_lookJoined 174 = .ok (.goto (-43), 3) := by decide +kernel
theorem dModel_lookJoined_177 : decode bModel_lookJoined 177 = .ok (.iconst 0, 1) := by decide +kernel
theorem dModel_lookJoined_178 : decode bModel_lookJoined 178 = .ok (.istore 6, 2) := by decide +kernel
theorem dModel_lookJoined_180 : decode bModel_lookJoined 180 = .ok (.iload 6, 2) := by decide +kernel
theorem dModel_lookJoined_182 : decode bModel_lookJoined 182 = .ok (.iload 4, 2) := by decide +kernel
theorem dModel_lookJoined_184 : decode bModel_lookJoined 184 = .ok (.if_icmp .ge 45, 3) := by decide +kernel
theorem dModel_lookJoined_187 : decode bModel_lookJoined 187 = .ok (.aload_n 0, 1) := by decide +kernel
theorem dModel_lookJoined_188 : decode bModel_lookJoined 188 = .ok (.iload_n 1, 1) := by decide +kernel
theorem dModel_lookJoined_189 : decode bModel_lookJoined 189 = .ok (.iload 5, 2) := by decide +kernel
theorem dModel_lookJoined_191 : decode bModel_lookJoined 191 = .ok (.iload 6, 2) := by decide +kernel
theorem dModel_lookJoined_193 : decode bModel_lookJoined 193 = .ok (.iadd, 1) := by decide +kernel
theorem dModel_lookJoined_194 : decode bModel_lookJoined 194 = .ok (.aload_n 0, 1) := by decide +kernel
theorem dModel_lookJoined_195 : decode bModel_lookJoined 195 = .ok (.getfield 29, 3) := by decide +kernel
theorem dModel_lookJoined_198 : decode bModel_lookJoined 198 = .ok (.iload_n 2, 1) := by decide +kernel
theorem dModel_lookJoined_199 : decode bModel_lookJoined 199 = .ok (.iaload, 1) := by decide +kernel
theorem dModel_lookJoined_200 : decode bModel_lookJoined 200 = .ok (.ifCond .ne 13, 3) := by decide +kernel
theorem dModel_lookJoined_203 : decode bModel_lookJoined 203 = .ok (.aload_n 0, 1) := by decide +kernel
theorem dModel_lookJoined_204 : decode bModel_lookJoined 204 = .ok (.getfield 42, 3) := by decide +kernel
theorem dModel_lookJoined_207 : decode bModel_lookJoined 207 = .ok (.iload_n 2, 1) := by decide +kernel
theorem dModel_lookJoined_208 : decode bModel_lookJoined 208 = .ok (.laload, 1) := by decide +kernel
theorem dModel_lookJoined_209 : decode bModel_lookJoined 209 = .ok (.l2i, 1) := by decide +kernel
theorem dModel_lookJoined_210 : decode bModel_lookJoined 210 = .ok (.goto 10, 3) := by decide +kernel
theorem dModel_lookJoined_213 : decode bModel_lookJoined 213 = .ok (.aload_n 0, 1) := by decide +kernel
theorem dModel_lookJoined_214 : decode bModel_lookJoined 214 = .ok (.iload_n 2, 1) := by decide +kernel
theorem dModel_lookJoined_215 : decode bModel_lookJoined 215 = .ok (.iload 6, 2) := by decide +kernel
theorem dModel_lookJoined_217 : decode bModel_lookJoined 217 = .ok (.invokevirtual 131, 3) := by decide +kernel
theorem dModel_lookJoined_220 : decode bModel_lookJoined 220 = .ok (.invokevirtual 127, 3) := by decide +kernel
theorem dModel_lookJoined_223 : decode bModel_lookJoined 223 = .ok (.iinc 6 1, 3) := by decide +kernel
theorem dModel_lookJoined_226 : decode bModel_lookJoined 226 = .ok (.goto (-46), 3) := by decide +kernel
theorem dModel_lookJoined_229 : decode bModel_lookJoined 229 = .ok (.aload_n 0, 1) := by decide +kernel
theorem dModel_lookJoined_230 : decode bModel_lookJoined 230 = .ok (.iload_n 1, 1) := by decide +kernel
theorem dModel_lookJoined_231 : decode bModel_lookJoined 231 = .ok (.invokevirtual 190, 3) := by decide +kernel
theorem dModel_lookJoined_234 : decode bModel_lookJoined 234 = .ok (.ireturn, 1) := by decide +kernel
