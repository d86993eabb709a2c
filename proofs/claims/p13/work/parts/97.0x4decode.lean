theorem dModel_lookAttribute_0 : decode bModel_lookAttribute 0 = .ok (.aload_n 0, 1) := by decide +kernel
theorem dModel_lookAttribute_1 : decode bModel_lookAttribute 1 = .ok (.getfield 20, 3) := by decide +kernel
theorem dModel_lookAttribute_4 : decode bModel_lookAttribute 4 = .ok (.iload_n 1, 1) := by decide +kernel
theorem dModel_lookAttribute_5 : decode bModel_lookAttribute 5 = .ok (.iaload, 1) := by decide +kernel
theorem dModel_lookAttribute_6 : decode bModel_lookAttribute 6 = .ok (.iconst 1, 1) := by decide +kernel
theorem dModel_lookAttribute_7 : decode bModel_lookAttribute 7 = .ok (.if_icmp .ne 52, 3) := by decide +kernel
theorem dModel_lookAttribute_10 : decode bModel_lookAttribute 10 = .ok (.aload_n 0, 1) := by decide +kernel
theorem dModel_lookAttribute_11 : decode bModel_lookAttribute 11 = .ok (.getfield 13, 3) := by decide +kernel
theorem dModel_lookAttribute_14 : decode bModel_lookAttribute 14 = .ok (.iload_n 1, 1) := by decide +kernel
theorem dModel_lookAttribute_15 : decode bModel_lookAttribute 15 = .ok (.iconst 1, 1) := by decide +kernel
theorem dModel_lookAttribute_16 : decode bModel_lookAttribute 16 = .ok (.isub, 1) := by decide +kernel
theorem dModel_lookAttribute_17 : decode bModel_lookAttribute 17 = .ok (.iaload, 1) := by decide +kernel
theorem dModel_lookAttribute_18 : decode bModel_lookAttribute 18 = .ok (.iconst 1, 1) := by decide +kernel
theorem dModel_lookAttribute_19 : decode bModel_lookAttribute 19 = .ok (.if_icmp .ne 40, 3) := by decide +kernel
theorem dModel_lookAttribute_22 : decode bModel_lookAttribute 22 = .ok (.aload_n 0, 1) := by decide +kernel
theorem dModel_lookAttribute_23 : decode bModel_lookAttribute 23 = .ok (.getfield 20, 3) := by decide +kernel
theorem dModel_lookAttribute_26 : decode bModel_lookAttribute 26 = .ok (.iload_n 1, 1) := by decide +kernel
theorem dModel_lookAttribute_27 : decode bModel_lookAttribute 27 = .ok (.iconst 1, 1) := by decide +kernel
theorem dModel_lookAttribute_28 : decode bModel_lookAttribute 28 = .ok (.isub, 1) := by decide +kernel
theorem dModel_lookAttribute_29 : decode bModel_lookAttribute 29 = .ok (.iaload, 1) := by decide +kernel
theorem dModel_lookAttribute_30 : decode bModel_lookAttribute 30 = .ok (.ifCond .gt 29, 3) := by decide +kernel
theorem dModel_lookAttribute_33 : decode bModel_lookAttribute 33 = .ok (.aload_n 0, 1) := by decide +kernel
theorem dModel_lookAttribute_34 : decode bModel_lookAttribute 34 = .ok (.getfield 17, 3) := by decide +kernel
theorem dModel_lookAttribute_37 : decode bModel_lookAttribute 37 = .ok (.iload_n 1, 1) := by decide +kernel
theorem dModel_lookAttribute_38 : decode bModel_lookAttribute 38 = .ok (.iconst 1, 1) := by decide +kernel
theorem dModel_lookAttribute_39 : decode bModel_lookAttribute 39 = .ok (.isub, 1) := by decide +kernel
theorem dModel_lookAttribute_40 : decode bModel_lookAttribute 40 = .ok (.iaload, 1) := by decide +kernel
theorem dModel_lookAttribute_41 : decode bModel_lookAttribute 41 = .ok (.bipush 15, 2) := by decide +kernel
theorem dModel_lookAttribute_43 : decode bModel_lookAttribute 43 = .ok (.if_icmp .lt 16, 3) := by decide +kernel
theorem dModel_lookAttribute_46 : decode bModel_lookAttribute 46 = .ok (.aload_n 0, 1) := by decide +kernel
theorem dModel_lookAttribute_47 : decode bModel_lookAttribute 47 = .ok (.getfield 17, 3) := by decide +kernel
theorem dModel_lookAttribute_50 : decode bModel_lookAttribute 50 = .ok (.iload_n 1, 1) := by decide +kernel
theorem dModel_lookAttribute_51 : decode bModel_lookAttribute 51 = .ok (.iconst 1, 1) := by decide +kernel
theorem dModel_lookAttribute_52 : decode bModel_lookAttribute 52 = .ok (.isub, 1) := by decide +kernel
theorem dModel_lookAttribute_53 : decode bModel_lookAttribute 53 = .ok (.iaload, 1) := by decide +kernel
theorem dModel_lookAttribute_54 : decode bModel_lookAttribute 54 = .ok (.bipush 22, 2) := by decide +kernel
theorem dModel_lookAttribute_56 : decode bModel_lookAttribute 56 = .ok (.if_icmp .le 6, 3) := by decide +kernel
theorem dModel_lookAttribute_59 : decode bModel_lookAttribute 59 = .ok (.bipush 11, 2) := by decide +kernel
theorem dModel_lookAttribute_61 : decode bModel_lookAttribute 61 = .ok (.ireturn, 1) := by decide +kernel
theorem dModel_lookAttribute_62 : decode bModel_lookAttribute 62 = .ok (.aload_n 0, 1) := by decide +kernel
theorem dModel_lookAttribute_63 : decode bModel_lookAttribute 63 = .ok (.aload_n 0, 1) := by decide +kernel
theorem dModel_lookAttribute_64 : decode bModel_lookAttribute 64 = .ok (.getfield 17, 3) := by decide +kernel
theorem dModel_lookAttribute_67 : decode bModel_lookAttribute 67 = .ok (.iload_n 1, 1) := by decide +kernel
theorem dModel_lookAttribute_68 : decode bModel_lookAttribute 68 = .ok (.iaload, 1) := by decide +kernel
theorem dModel_lookAttribute_69 : decode bModel_lookAttribute 69 = .ok (.invokevirtual 173, 3) := by decide +kernel
theorem dModel_lookAttribute_72 : decode bModel_lookAttribute 72 = .ok (.aload_n 0, 1) := by decide +kernel
theorem dModel_lookAttribute_73 : decode bModel_lookAttribute 73 = .ok (.getfield 118, 3) := by decide +kernel
theorem dModel_lookAttribute_76 : decode bModel_lookAttribute 76 = .ok (.iconst 5, 1) := by decide +kernel
theorem dModel_lookAttribute_77 : decode bModel_lookAttribute 77 = .ok (.if_icmp .ne 5, 3) := by decide +kernel
theorem dModel_lookAttribute_80 : decode bModel_lookAttribute 80 = .ok (.iconst 1, 1) := by decide +kernel
theorem dModel_lookAttribute_81 : decode bModel_lookAttribute 81 = .ok (.ireturn, 1) := by decide +kernel
theorem dModel_lookAttribute_82 : decode bModel_lookAttribute 82 = .ok (.aload_n 0, 1) := by decide +kernel
theorem dModel_lookAttribute_83 : decode bModel_lookAttribute 83 = .ok (.getfield 118, 3) := by decide +kernel
theorem dModel_lookAttribute_86 : decode bModel_lookAttribute 86 = .ok (.iconst 1, 1) := by decide +kernel
theorem dModel_lookAttribute_87 : decode bModel_lookAttribute 87 = .ok (.if_icmp .eq 5, 3) := by decide +kernel
theorem dModel_lookAttribute_90 : decode bModel_lookAttribute 90 = .ok (.iconst 2, 1) := by decide +kernel
theorem dModel_lookAttribute_91 : decode bModel_lookAttribute 91 = .ok (.ireturn, 1) := by decide +kernel
theorem dModel_lookAttribute_92 : decode bModel_lookAttribute 92 = .ok (.aload_n 0, 1) := by decide +kernel
theorem dModel_lookAttribute_93 : decode bModel_lookAttribute 93 = .ok (.getfield 121, 3) := by decide +kernel
theorem dModel_lookAttribute_96 : decode bModel_lookAttribute 96 = .ok (.istore_n 2, 1) := by decide +kernel
theorem dModel_lookAttribute_97 : decode bModel_lookAttribute 97 = .ok (.aload_n 0, 1) := by decide +kernel
theorem dModel_lookAttribute_98 : decode bModel_lookAttribute 98 = .ok (.getfield 72, 3) := by decide +kernel
theorem dModel_lookAttribute_101 : decode bModel_lookAttribute 101 = .ok (.iload_n 2, 1) := by decide +kernel
theorem dModel_lookAttribute_102 : decode bModel_lookAttribute 102 = .ok (.iaload, 1) := by decide +kernel
theorem dModel_lookAttribute_103 : decode bModel_lookAttribute 103 = .ok (.istore_n 3, 1) := by decide +kernel
theorem dModel_lookAttribute_104 : decode bModel_lookAttribute 104 = .ok (.aload_n 0, 1) := by decide +kernel
theorem dModel_lookAttribute_105 : decode bModel_lookAttribute 105 = .ok (.getfield 17, 3) := by decide +kernel
theorem dModel_lookAttribute_108 : decode bModel_lookAttribute 108 = .ok (.iload_n 1, 1) := by decide +kernel
theorem dModel_lookAttribute_109 : decode bModel_lookAttribute 109 = .ok (.iconst 1, 1) := by decide +kernel
theorem dModel_lookAttribute_110 : decode bModel_lookAttribute 110 = .ok (.isub, 1) := by decide +kernel
theorem dModel_lookAttribute_111 : decode bModel_lookAttribute 111 = .ok (.iaload, 1) := by decide +kernel
theorem dModel_lookAttribute_112 : decode bModel_lookAttribute 112 = .ok (.istore 4, 2) := by decide +kernel
theorem dModel_lookAttribute_114 : decode bModel_lookAttribute 114 = .ok (.iload 4, 2) := by decide +kernel
theorem dModel_lookAttribute_116 : decode bModel_lookAttribute 116 = .ok (.bipush 18, 2) := by decide +kernel
theorem dModel_lookAttribute_118 : decode bModel_lookAttribute 118 = .ok (.if_icmp .ge 42, 3) := by decide +kernel
theorem dModel_lookAttribute_121 : decode bModel_lookAttribute 121 = .ok (.aload_n 0, 1) := by decide +kernel
theorem dModel_lookAttribute_122 : decode bModel_lookAttribute 122 = .ok (.getfield 69, 3) := by decide +kernel
theorem dModel_lookAttribute_125 : decode bModel_lookAttribute 125 = .ok (.iload_n 2, 1) := by decide +kernel
theorem dModel_lookAttribute_126 : decode bModel_lookAttribute 126 = .ok (.iaload, 1) := by decide +kernel
theorem dModel_lookAttribute_127 : decode bModel_lookAttribute 127 = .ok (.iconst 1, 1) := by decide +kernel
theorem dModel_lookAttribute_128 : decode bModel_lookAttribute 128 = .ok (.if_icmp .eq 5, 3) := by decide +kernel
theorem dModel_lookAttribute_131 : decode bModel_lookAttribute 131 = .ok (.iconst 2, 1) := by decide +kernel
theorem dModel_lookAttribute_132 : decode bModel_lookAttribute 132 = .ok (.ireturn, 1) := by decide +kernel
theorem dModel_lookAttribute_133 : decode bModel_lookAttribute 133 = .ok (.iload 4, 2) := by decide +kernel
theorem dModel_lookAttribute_135 : decode bModel_lookAttribute 135 = .ok (.bipush 17, 2) := by decide +kernel
theorem dModel_lookAttribute_137 : decode bModel_lookAttribute 137 = .ok (.if_icmp .ne 12, 3) := by decide +kernel
theorem dModel_lookAttribute_140 : decode bModel_lookAttribute 140 = .ok (.aload_n 0, 1) := by decide +kernel
theorem dModel_lookAttribute_141 : decode bModel_lookAttribute 141 = .ok (.iload_n 1, 1) := by decide +kernel
theorem dModel_lookAttribute_142 : decode bModel_lookAttribute 142 = .ok (.iload_n 3, 1) := by decide +kernel
theorem dModel_lookAttribute_143 : decode bModel_lookAttribute 143 = .ok (.invokevirtual 181, 3) := by decide +kernel
theorem dModel_lookAttribute_146 : decode bModel_lookAttribute 146 = .ok (.goto 133, 3) := by decide +kernel
theorem dModel_lookAttribute_149 : decode bModel_lookAttribute 149 = .ok (.aload_n 0, 1) := by decide +kernel
theorem dModel_lookAttribute_150 : decode bModel_lookAttribute 150 = .ok (.iload_n 1, 1) := by decide +kernel
theorem dModel_lookAttribute_151 : decode bModel_lookAttribute 151 = .ok (.iconst 1, 1) := by decide +kernel
theorem dModel_lookAttribute_152 : decode bModel_lookAttribute 152 = .ok (.iconst 0, 1) := by decide +kernel
theorem dModel_lookAttribute_153 : decode bModel_lookAttribute 153 = .ok (.iconst 0, 1) := by decide +kernel
theorem dModel_lookAttribute_154 : decode bModel_lookAttribute 154 = .ok (.invokevirtual 147, 3) := by decide +kernel
theorem dModel_lookAttribute_157 : decode bModel_lookAttribute 157 = .ok (.goto 122, 3) := by decide +kernel
theorem dModel_lookAttribute_160 : decode bModel_lookAttribute 160 = .ok (.aload_n 0, 1) := by decide +kernel
theorem dModel_lookAttribute_161 : decode bModel_lookAttribute 161 = .ok (.getfield 54, 3) := by decide +kernel
theorem dModel_lookAttribute_164 : decode bModel_lookAttribute 164 = .ok (.iload_n 3, 1) := by decide +kernel
theorem dModel_lookAttribute_165 : decode bModel_lookAttribute 165 = .ok (.iaload, 1) := by decide +kernel
theorem dModel_lookAttribute_166 : decode bModel_lookAttribute 166 = .ok (.iconst 3, 1) := by decide +kernel
theorem dModel_lookAttribute_167 : decode bModel_lookAttribute 167 = .ok (.if_icmp .eq 5, 3) := by decide +kernel
theorem dModel_lookAttribute_170 : decode bModel_lookAttribute 170 = .ok (.iconst 3, 1) := by decide +kernel
theorem dModel_lookAttribute_171 : decode bModel_lookAttribute 171 = .ok (.ireturn, 1) := by decide +kernel
theorem dModel_lookAttribute_172 : decode bModel_lookAttribute 172 = .ok (.aload_n 0, 1) := by decide +kernel
theorem dModel_lookAttribute_173 : decode bModel_lookAttribute 173 = .ok (.iload_n 1, 1) := by decide +kernel
theorem dModel_lookAttribute_174 : decode bModel_lookAttribute 174 = .ok (.iconst 2, 1) := by decide +kernel
theorem dModel_lookAttribute_175 : decode bModel_lookAttribute 175 = .ok (.iconst 0, 1) := by decide +kernel
theorem dModel_lookAttribute_176 : decode bModel_lookAttribute 176 = .ok (.iconst 1, 1) := by decide +kernel
theorem dModel_lookAttribute_177 : decode bModel_lookAttribute 177 = .ok (.invokevirtual 147, 3) := by decide +kernel
theorem dModel_lookAttribute_180 : decode bModel_lookAttribute 180 = .ok (.aload_n 0, 1) := by decide +kernel
theorem dModel_lookAttribute_181 : decode bModel_lookAttribute 181 = .ok (.getfield 42, 3) := by decide +kernel
theorem dModel_lookAttribute_184 : decode bModel_lookAttribute 184 = .ok (.iload_n 1, 1) := by decide +kernel
theorem dModel_lookAttribute_185 : decode bModel_lookAttribute 185 = .ok (.iload 4, 2) := by decide +kernel
theorem dModel_lookAttribute_187 : decode bModel_lookAttribute 187 = .ok (.bipush 18, 2) := by decide +kernel
theorem dModel_lookAttribute_189 : decode bModel_lookAttribute 189 = .ok (.if_icmp .ne 13, 3) := by decide +kernel
theorem dModel_lookAttribute_192 : decode bModel_lookAttribute 192 = .ok (.aload_n 0, 1) := by decide +kernel
theorem dModel_lookAttribute_193 : decode bModel_lookAttribute 193 = .ok (.getfield 63, 3) := by decide +kernel
theorem dModel_lookAttribute_196 : decode bModel_lookAttribute 196 = .ok (.iload_n 3, 1) := by decide +kernel
theorem dModel_lookAttribute_197 : decode bModel_lookAttribute 197 = .ok (.iaload, 1) := by decide +kernel
theorem dModel_lookAttribute_198 : decode bModel_lookAttribute 198 = .ok (.i2l, 1) := by decide +kernel
theorem dModel_lookAttribute_199 : decode bModel_lookAttribute 199 = .ok (.goto 79, 3) := by decide +kernel
theorem dModel_lookAttribute_202 : decode bModel_lookAttribute 202 = .ok (.iload 4, 2) := by decide +kernel
theorem dModel_lookAttribute_204 : decode bModel_lookAttribute 204 = .ok (.bipush 19, 2) := by decide +kernel
theorem dModel_lookAttribute_206 : decode bModel_lookAttribute 206 = .ok (.if_icmp .ne 13, 3) := by decide +kernel
theorem dModel_lookAttribute_209 : decode bModel_lookAttribute 209 = .ok (.aload_n 0, 1) := by decide +kernel
theorem dModel_lookAttribute_210 : decode bModel_lookAttribute 210 = .ok (.getfield 57, 3) := by decide +kernel
theorem dModel_lookAttribute_213 : decode bModel_lookAttribute 213 = .ok (.iload_n 3, 1) := by decide +kernel
theorem dModel_lookAttribute_214 : decode bModel_lookAttribute 214 = .ok (.iaload, 1) := by decide +kernel
theorem dModel_lookAttribute_215 : decode bModel_lookAttribute 215 = .ok (.i2l, 1) := by decide +kernel
theorem dModel_lookAttribute_216 : decode bModel_lookAttribute 216 = .ok (.goto 62, 3) := by decide +kernel
theorem dModel_lookAttribute_219 : decode bModel_lookAttribute 219 = .ok (.iload 4, 2) := by decide +kernel
theorem dModel_lookAttribute_221 : decode bModel_lookAttribute 221 = .ok (.bipush 20, 2) := by decide +kernel
theorem dModel_lookAttribute_223 : decode bModel_lookAttribute 223 = .ok (.if_icmp .ne 13, 3) := by decide +kernel
theorem dModel_lookAttribute_226 : decode bModel_lookAttribute 226 = .ok (.aload_n 0, 1) := by decide +kernel
theorem dModel_lookAttribute_227 : decode bModel_lookAttribute 227 = .ok (.getfield 60, 3) := by decide +kernel
theorem dModel_lookAttribute_230 : decode bModel_lookAttribute 230 = .ok (.iload_n 3, 1) := by decide +kernel
theorem dModel_lookAttribute_231 : decode bModel_lookAttribute 231 = .ok (.iaload, 1) := by decide +kernel
theorem dModel_lookAttribute_232 : decode bModel_lookAttribute 232 = .ok (.i2l, 1) := by decide +kernel
theorem dModel_lookAttribute_233 : decode bModel_lookAttribute 233 = .ok (.goto 45, 3) := by decide +kernel
theorem dModel_lookAttribute_236 : decode bModel_lookAttribute 236 = .ok (.iload 4, 2) := by decide +kernel
theorem dModel_lookAttribute_238 : decode bModel_lookAttribute 238 = .ok (.bipush 21, 2) := by decide +kernel
theorem dModel_lookAttribute_240 : decode bModel_lookAttribute 240 = .ok (.if_icmp .ne 22, 3) := by decide +kernel
theorem dModel_lookAttribute_243 : decode bModel_lookAttribute 243 = .ok (.aload_n 0, 1) := by decide +kernel
theorem dModel_lookAttribute_244 : decode bModel_lookAttribute 244 = .ok (.getfield 57, 3) := by decide +kernel
theorem dModel_lookAttribute_247 : decode bModel_lookAttribute 247 = .ok (.iload_n 3, 1) := by decide +kernel
theorem dModel_lookAttribute_248 : decode bModel_lookAttribute 248 = .ok (.iaload, 1) := by decide +kernel
theorem dModel_lookAttribute_249 : decode bModel_lookAttribute 249 = .ok (.aload_n 0, 1) := by decide +kernel
theorem dModel_lookAttribute_250 : decode bModel_lookAttribute 250 = .ok (.getfield 60, 3) := by decide +kernel
theorem dModel_lookAttribute_253 : decode bModel_lookAttribute 253 = .ok (.iload_n 3, 1) := by decide +kernel
theorem dModel_lookAttribute_254 : decode bModel_lookAttribute 254 = .ok (.iaload, 1) := by decide +kernel
theorem dModel_lookAttribute_255 : decode bModel_lookAttribute 255 = .ok (.invokestatic 244, 3) := by decide +kernel
theorem dModel_lookAttribute_258 : decode bModel_lookAttribute 258 = .ok (.i2l, 1) := by decide +kernel
theorem dModel_lookAttribute_259 : decode bModel_lookAttribute 259 = .ok (.goto 19, 3) := by decide +kernel
theorem dModel_lookAttribute_262 : decode bModel_lookAttribute 262 = .ok (.aload_n 0, 1) := by decide +kernel
theorem dModel_lookAttribute_263 : decode bModel_lookAttribute 263 = .ok (.getfield 57, 3) := by decide +kernel
theorem dModel_lookAttribute_266 : decode bModel_lookAttribute 266 = .ok (.iload_n 3, 1) := by decide +kernel
theorem dModel_lookAttribute_267 : decode bModel_lookAttribute 267 = .ok (.iaload, 1) := by decide +kernel
theorem dModel_lookAttribute_268 : decode bModel_lookAttribute 268 = .ok (.aload_n 0, 1) := by decide +kernel
theorem dModel_lookAttribute_269 : decode bModel_lookAttribute 269 = .ok (.getfield 60, 3) := by decide +kernel
theorem dModel_lookAttribute_272 : decode bModel_lookAttribute 272 = .ok (.iload_n 3, 1) := by decide +kernel
theorem dModel_lookAttribute_273 : decode bModel_lookAttribute 273 = .ok (.iaload, 1) := by decide +kernel
theorem dModel_lookAttribute_274 : decode bModel_lookAttribute 274 = .ok (.invokestatic 239, 3) := by decide +kernel
theorem dModel_lookAttribute_277 : decode bModel_lookAttribute 277 = .ok (.i2l, 1) := by decide +kernel
theorem dModel_lookAttribute_278 : decode bModel_lookAttribute 278 = .ok (.lastore, 1) := by decide +kernel
theorem dModel_lookAttribute_279 : decode bModel_lookAttribute 279 = .ok (.aload_n 0, 1) := by decide +kernel
theorem dModel_lookAttribute_280 : decode bModel_lookAttribute 280 = .ok (.getfield 39, 3) := by decide +kernel
theorem dModel_lookAttribute_283 : decode bModel_lookAttribute 283 = .ok (.iload_n 1, 1) := by decide +kernel
theorem dModel_lookAttribute_284 : decode bModel_lookAttribute 284 = .ok (.iload_n 2, 1) := by decide +kernel
theorem dModel_lookAttribute_285 : decode bModel_lookAttribute 285 = .ok (.iastore, 1) := by decide +kernel
theorem dModel_lookAttribute_286 : decode bModel_lookAttribute 286 = .ok (.iconst 0, 1) := by decide +kernel
theorem dModel_lookAttribute_287 : decode bModel_lookAttribute 287 = .ok (.ireturn, 1) := by decide +kernel
theorem dModel_below_0 : decode bModel_below 0 = .ok (.iconst 0, 1) := by decide +kernel
theorem dModel_below_1 : decode bModel_below 1 = .ok (.istore_n 3, 1) := by decide +kernel
theorem dModel_below_2 : decode bModel_below 2 = .ok (.iload_n 1, 1) := by decide +kernel
theorem dModel_below_3 : decode bModel_below 3 = .ok (.iconst 1, 1) := by decide +kernel
theorem dModel_below_4 : decode bModel_below 4 = .ok (.iadd, 1) := by decide +kernel
theorem dModel_below_5 : decode bModel_below 5 = .ok (.istore 4, 2) := by decide +kernel
theorem dModel_below_7 : decode bModel_below 7 = .ok (.iload 4, 2) := by decide +kernel
theorem dModel_below_9 : decode bModel_below 9 = .ok (.iload_n 2, 1) := by decide +kernel
theorem dModel_below_10 : decode bModel_below 10 = .ok (.if_icmp .gt 42, 3) := by decide +kernel
theorem dModel_below_13 : decode bModel_below 13 = .ok (.iload_n 3, 1) := by decide +kernel
theorem dModel_below_14 : decode bModel_below 14 = .ok (.ifCond .ne 26, 3) := by decide +kernel
theorem dModel_below_17 : decode bModel_below 17 = .ok (.aload_n 0, 1) := by decide +kernel
theorem dModel_below_18 : decode bModel_below 18 = .ok (.getfield 13, 3) := by decide +kernel
theorem dModel_below_21 : decode bModel_below 21 = .ok (.iload 4, 2) := by decide +kernel
theorem dModel_below_23 : decode bModel_below 23 = .ok (.iaload, 1) := by decide +kernel
theorem dModel_below_24 : decode bModel_below 24 = .ok (.bipush 25, 2) := by decide +kernel
theorem dModel_below_26 : decode bModel_below 26 = .ok (.if_icmp .ne 18, 3) := by decide +kernel
theorem dModel_below_29 : decode bModel_below 29 = .ok (.aload_n 0, 1) := by decide +kernel
theorem dModel_below_30 : decode bModel_below 30 = .ok (.getfield 23, 3) := by decide +kernel
theorem dModel_below_33 : decode bModel_below 33 = .ok (.iload 4, 2) := by decide +kernel
theorem dModel_below_35 : decode bModel_below 35 = .ok (.iaload, 1) := by decide +kernel
theorem dModel_below_36 : decode bModel_below 36 = .ok (.iload_n 1, 1) := by decide +kernel
theorem dModel_below_37 : decode bModel_below 37 = .ok (.if_icmp .gt 7, 3) := by decide +kernel
theorem dModel_below_40 : decode bModel_below 40 = .ok (.iconst 1, 1) := by decide +kernel
theorem dModel_below_41 : decode bModel_below 41 = .ok (.goto 4, 3) := by decide +kernel
theorem dModel_below_44 : decode bModel_below 44 = .ok (.iconst 0, 1) := by decide +kernel
theorem dModel_below_45 : decode bModel_below 45 = .ok (.istore_n 3, 1) := by decide +kernel
theorem dModel_below_46 : decode bModel_below 46 = .ok (.iinc 4 1, 3) := by decide +kernel
theorem dModel_below_49 : decode bModel_below 49 = .ok (.goto (-42), 3) := by decide +kernel
theorem dModel_below_52 : decode bModel_below 52 = .ok (.iload_n 3, 1) := by decide +kernel
theorem dModel_below_53 : decode bModel_below 53 = .ok (.ireturn, 1) := by decide +kernel
theorem dModel_goThrough_0 : decode bModel_goThrough 0 = .ok (.iload_n 1, 1) := by decide +kernel
theorem dModel_goThrough_1 : decode bModel_goThrough 1 = .ok (.istore_n 3, 1) := by decide +kernel
theorem dModel_goThrough_2 : decode bModel_goThrough 2 = .ok (.iload_n 3, 1) := by decide +kernel
theorem dModel_goThrough_3 : decode bModel_goThrough 3 = .ok (.iload_n 2, 1) := by decide +kernel
theorem dModel_goThrough_4 : decode bModel_goThrough 4 = .ok (.if_icmp .gt 38, 3) := by decide +kernel
theorem dModel_goThrough_7 : decode bModel_goThrough 7 = .ok (.aload_n 0, 1) := by decide +kernel
theorem dModel_goThrough_8 : decode bModel_goThrough 8 = .ok (.iload_n 3, 1) := by decide +kernel
theorem dModel_goThrough_9 : decode bModel_goThrough 9 = .ok (.iload_n 2, 1) := by decide +kernel
theorem dModel_goThrough_10 : decode bModel_goThrough 10 = .ok (.invokevirtual 259, 3) := by decide +kernel
theorem dModel_goThrough_13 : decode bModel_goThrough 13 = .ok (.ifCond .ne 23, 3) := by decide +kernel
theorem dModel_goThrough_16 : decode bModel_goThrough 16 = .ok (.aload_n 0, 1) := by decide +kernel
theorem dModel_goThrough_17 : decode bModel_goThrough 17 = .ok (.iload_n 3, 1) := by decide +kernel
theorem dModel_goThrough_18 : decode bModel_goThrough 18 = .ok (.invokevirtual 263, 3) := by decide +kernel
theorem dModel_goThrough_21 : decode bModel_goThrough 21 = .ok (.istore 4, 2) := by decide +kernel
theorem dModel_goThrough_23 : decode bModel_goThrough 23 = .ok (.iload 4, 2) := by decide +kernel
theorem dModel_goThrough_25 : decode bModel_goThrough 25 = .ok (.ifCond .le 11, 3) := by decide +kernel
theorem dModel_goThrough_28 : decode bModel_goThrough 28 = .ok (.aload_n 0, 1) := by decide +kernel
theorem dModel_goThrough_29 : decode bModel_goThrough 29 = .ok (.iload_n 3, 1) := by decide +kernel
theorem dModel_goThrough_30 : decode bModel_goThrough 30 = .ok (.putfield 9, 3) := by decide +kernel
theorem dModel_goThrough_33 : decode bModel_goThrough 33 = .ok (.iload 4, 2) := by decide +kernel
theorem dModel_goThrough_35 : decode bModel_goThrough 35 = .ok (.ireturn, 1) := by decide +kernel
theorem dModel_goThrough_36 : decode bModel_goThrough 36 = .ok (.iinc 3 1, 3) := by decide +kernel
theorem dModel_goThrough_39 : decode bModel_goThrough 39 = .ok (.goto (-37), 3) := by decide +kernel
theorem dModel_goThrough_42 : decode bModel_goThrough 42 = .ok (.aload_n 0, 1) := by decide +kernel
theorem dModel_goThrough_43 : decode bModel_goThrough 43 = .ok (.iconst (-1), 1) := by decide +kernel
theorem dModel_goThrough_44 : decode bModel_goThrough 44 = .ok (.putfield 9, 3) := by decide +kernel
theorem dModel_goThrough_47 : decode bModel_goThrough 47 = .ok (.iconst 0, 1) := by decide +kernel
theorem dModel_goThrough_48 : decode bModel_goThrough 48 = .ok (.ireturn, 1) := by decide +kernel
theorem dModel_keep_0 : decode bModel_keep 0 = .ok (.iload_n 1, 1) := by decide +kernel
theorem dModel_keep_1 : decode bModel_keep 1 = .ok (.istore_n 3, 1) := by decide +kernel
theorem dModel_keep_2 : decode bModel_keep 2 = .ok (.iload_n 3, 1) := by decide +kernel
theorem dModel_keep_3 : decode bModel_keep 3 = .ok (.iload_n 2, 1) := by decide +kernel
theorem dModel_keep_4 : decode bModel_keep 4 = .ok (.if_icmp .gt 35, 3) := by decide +kernel
theorem dModel_keep_7 : decode bModel_keep 7 = .ok (.aload_n 0, 1) := by decide +kernel
theorem dModel_keep_8 : decode bModel_keep 8 = .ok (.iload_n 3, 1) := by decide +kernel
theorem dModel_keep_9 : decode bModel_keep 9 = .ok (.iload_n 2, 1) := by decide +kernel
theorem dModel_keep_10 : decode bModel_keep 10 = .ok (.invokevirtual 259, 3) := by decide +kernel
theorem dModel_keep_13 : decode bModel_keep 13 = .ok (.ifCond .ne 20, 3) := by decide +kernel
theorem dModel_keep_16 : decode bModel_keep 16 = .ok (.aload_n 0, 1) := by decide +kernel
theorem dModel_keep_17 : decode bModel_keep 17 = .ok (.iload_n 3, 1) := by decide +kernel
theorem dModel_keep_18 : decode bModel_keep 18 = .ok (.sipush 4000, 3) := by decide +kernel
theorem dModel_keep_21 : decode bModel_keep 21 = .ok (.iload_n 3, 1) := by decide +kernel
theorem dModel_keep_22 : decode bModel_keep 22 = .ok (.iadd, 1) := by decide +kernel
theorem dModel_keep_23 : decode bModel_keep 23 = .ok (.invokevirtual 177, 3) := by decide +kernel
theorem dModel_keep_26 : decode bModel_keep 26 = .ok (.aload_n 0, 1) := by decide +kernel
theorem dModel_keep_27 : decode bModel_keep 27 = .ok (.getfield 51, 3) := by decide +kernel
theorem dModel_keep_30 : decode bModel_keep 30 = .ok (.iload_n 3, 1) := by decide +kernel
theorem dModel_keep_31 : decode bModel_keep 31 = .ok (.iconst 1, 1) := by decide +kernel
theorem dModel_keep_32 : decode bModel_keep 32 = .ok (.bastore, 1) := by decide +kernel
theorem dModel_keep_33 : decode bModel_keep 33 = .ok (.iinc 3 1, 3) := by decide +kernel
theorem dModel_keep_36 : decode bModel_keep 36 = .ok (.goto (-34), 3) := by decide +kernel
theorem dModel_keep_39 : decode bModel_keep 39 = .ok (.return_, 1) := by decide +kernel
theorem dModel_wrong_0 : decode bModel_wrong 0 = .ok (.aload_n 0, 1) := by decide +kernel
theorem dModel_wrong_1 : decode bModel_wrong 1 = .ok (.iload_n 1, 1) := by decide +kernel
theorem dModel_wrong_2 : decode bModel_wrong 2 = .ok (.putfield 9, 3) := by decide +kernel
theorem dModel_wrong_5 : decode bModel_wrong 5 = .ok (.iload_n 2, 1) := by decide +kernel
theorem dModel_wrong_6 : decode bModel_wrong 6 = .ok (.ineg, 1) := by decide +kernel
theorem dModel_wrong_7 : decode bModel_wrong 7 = .ok (.ireturn, 1) := by decide +kernel
theorem dModel_type_0 : decode bModel_type 0 = .ok (.aload_n 0, 1) := by decide +kernel
theorem dModel_type_1 : decode bModel_type 1 = .ok (.aload_n 0, 1) := by decide +kernel
theorem dModel_type_2 : decode bModel_type 2 = .ok (.iload_n 1, 1) := by decide +kernel
theorem dModel_type_3 : decode bModel_type 3 = .ok (.invokevirtual 266, 3) := by decide +kernel
theorem dModel_type_6 : decode bModel_type 6 = .ok (.ifCond .eq 7, 3) := by decide +kernel
theorem dModel_type_9 : decode bModel_type 9 = .ok (.iconst 1, 1) := by decide +kernel
theorem dModel_type_10 : decode bModel_type 10 = .ok (.goto 4, 3) := by decide +kernel
theorem dModel_type_13 : decode bModel_type 13 = .ok (.iconst 0, 1) := by decide +kernel
theorem dModel_type_14 : decode bModel_type 14 = .ok (.putfield 99, 3) := by decide +kernel
theorem dModel_type_17 : decode bModel_type 17 = .ok (.aload_n 0, 1) := by decide +kernel
theorem dModel_type_18 : decode bModel_type 18 = .ok (.getfield 99, 3) := by decide +kernel
theorem dModel_type_21 : decode bModel_type 21 = .ok (.ifCond .le 5, 3) := by decide +kernel
theorem dModel_type_24 : decode bModel_type 24 = .ok (.iconst 0, 1) := by decide +kernel
theorem dModel_type_25 : decode bModel_type 25 = .ok (.ireturn, 1) := by decide +kernel
theorem dModel_type_26 : decode bModel_type 26 = .ok (.aload_n 0, 1) := by decide +kernel
theorem dModel_type_27 : decode bModel_type 27 = .ok (.getfield 9, 3) := by decide +kernel
theorem dModel_type_30 : decode bModel_type 30 = .ok (.istore_n 2, 1) := by decide +kernel
theorem dModel_type_31 : decode bModel_type 31 = .ok (.aload_n 0, 1) := by decide +kernel
theorem dModel_type_32 : decode bModel_type 32 = .ok (.aload_n 0, 1) := by decide +kernel
theorem dModel_type_33 : decode bModel_type 33 = .ok (.getfield 23, 3) := by decide +kernel
theorem dModel_type_36 : decode bModel_type 36 = .ok (.iload_n 1, 1) := by decide +kernel
theorem dModel_type_37 : decode bModel_type 37 = .ok (.iaload, 1) := by decide +kernel
theorem dModel_type_38 : decode bModel_type 38 = .ok (.iload_n 1, 1) := by decide +kernel
theorem dModel_type_39 : decode bModel_type 39 = .ok (.iconst 1, 1) := by decide +kernel
theorem dModel_type_40 : decode bModel_type 40 = .ok (.isub, 1) := by decide +kernel
theorem dModel_type_41 : decode bModel_type 41 = .ok (.invokevirtual 269, 3) := by decide +kernel
theorem dModel_type_44 : decode bModel_type 44 = .ok (.istore_n 3, 1) := by decide +kernel
theorem dModel_type_45 : decode bModel_type 45 = .ok (.iload_n 3, 1) := by decide +kernel
theorem dModel_type_46 : decode bModel_type 46 = .ok (.ifCond .le 6, 3) := by decide +kernel
theorem dModel_type_49 : decode bModel_type 49 = .ok (.iload_n 3, 1) := by decide +kernel
theorem dModel_type_50 : decode bModel_type 50 = .ok (.ineg, 1) := by decide +kernel
theorem dModel_type_51 : decode bModel_type 51 = .ok (.ireturn, 1) := by decide +kernel
theorem dModel_type_52 : decode bModel_type 52 = .ok (.aload_n 0, 1) := by decide +kernel
theorem dModel_type_53 : decode bModel_type 53 = .ok (.getfield 13, 3) := by decide +kernel
theorem dModel_type_56 : decode bModel_type 56 = .ok (.iload_n 1, 1) := by decide +kernel
theorem dModel_type_57 : decode bModel_type 57 = .ok (.iaload, 1) := by decide +kernel
theorem dModel_type_58 : decode bModel_type 58 = .ok (.istore 4, 2) := by decide +kernel
theorem dModel_type_60 : decode bModel_type 60 = .ok (.iload 4, 2) := by decide +kernel
theorem dModel_type_62 : decode bModel_type 62 = .ok (.bipush 10, 2) := by decide +kernel
theorem dModel_type_64 : decode bModel_type 64 = .ok (.if_icmp .ne 68, 3) := by decide +kernel
theorem dModel_type_67 : decode bModel_type 67 = .ok (.aload_n 0, 1) := by decide +kernel
theorem dModel_type_68 : decode bModel_type 68 = .ok (.getfield 20, 3) := by decide +kernel
theorem dModel_type_71 : decode bModel_type 71 = .ok (.iload_n 1, 1) := by decide +kernel
theorem dModel_type_72 : decode bModel_type 72 = .ok (.iaload, 1) := by decide +kernel
theorem dModel_type_73 : decode bModel_type 73 = .ok (.ifCond .le 11, 3) := by decide +kernel
theorem dModel_type_76 : decode bModel_type 76 = .ok (.aload_n 0, 1) := by decide +kernel
theorem dModel_type_77 : decode bModel_type 77 = .ok (.iload_n 1, 1) := by decide +kernel
theorem dModel_type_78 : decode bModel_type 78 = .ok (.bipush 11, 2) := by decide +kernel
theorem dModel_type_80 : decode bModel_type 80 = .ok (.invokevirtual 272, 3) := by decide +kernel
theorem dModel_type_83 : decode bModel_type 83 = .ok (.ireturn, 1) := by decide +kernel
theorem dModel_type_84 : decode bModel_type 84 = .ok (.aload_n 0, 1) := by decide +kernel
theorem dModel_type_85 : decode bModel_type 85 = .ok (.aload_n 0, 1) := by decide +kernel
theorem dModel_type_86 : decode bModel_type 86 = .ok (.getfield 17, 3) := by decide +kernel
theorem dModel_type_89 : decode bModel_type 89 = .ok (.iload_n 1, 1) := by decide +kernel
theorem dModel_type_90 : decode bModel_type 90 = .ok (.iaload, 1) := by decide +kernel
theorem dModel_type_91 : decode bModel_type 91 = .ok (.invokevirtual 173, 3) := by decide +kernel
theorem dModel_type_94 : decode bModel_type 94 = .ok (.aload_n 0, 1) := by decide +kernel
theorem dModel_type_95 : decode bModel_type 95 = .ok (.getfield 118, 3) := by decide +kernel
theorem dModel_type_98 : decode bModel_type 98 = .ok (.iconst 5, 1) := by decide +kernel
theorem dModel_type_99 : decode bModel_type 99 = .ok (.if_icmp .ne 12, 3) := by decide +kernel
theorem dModel_type_102 : decode bModel_type 102 = .ok (.aload_n 0, 1) := by decide +kernel
theorem dModel_type_103 : decode bModel_type 103 = .ok (.iload_n 1, 1) := by decide +kernel
theorem dModel_type_104 : decode bModel_type 104 = .ok (.iconst 1, 1) := by decide +kernel
theorem dModel_type_105 : decode bModel_type 105 = .ok (.invokevirtual 272, 3) := by decide +kernel
theorem dModel_type_108 : decode bModel_type 108 = .ok (.goto 23, 3) := by decide +kernel
theorem dModel_type_111 : decode bModel_type 111 = .ok (.aload_n 0, 1) := by decide +kernel
theorem dModel_type_112 : decode bModel_type 112 = .ok (.getfield 118, 3) := by decide +kernel
theorem dModel_type_115 : decode bModel_type 115 = .ok (.ifCond .ne 10, 3) := by decide +kernel
theorem dModel_type_118 : decode bModel_type 118 = .ok (.aload_n 0, 1) := by decide +kernel
theorem dModel_type_119 : decode bModel_type 119 = .ok (.getfield 121, 3) := by decide +kernel
theorem dModel_type_122 : decode bModel_type 122 = .ok (.goto 9, 3) := by decide +kernel
theorem dModel_type_125 : decode bModel_type 125 = .ok (.aload_n 0, 1) := by decide +kernel
theorem dModel_type_126 : decode bModel_type 126 = .ok (.iload_n 1, 1) := by decide +kernel
theorem dModel_type_127 : decode bModel_type 127 = .ok (.iconst 2, 1) := by decide +kernel
theorem dModel_type_128 : decode bModel_type 128 = .ok (.invokevirtual 272, 3) := by decide +kernel
theorem dModel_type_131 : decode bModel_type 131 = .ok (.ireturn, 1) := by decide +kernel
theorem dModel_type_132 : decode bModel_type 132 = .ok (.iload 4, 2) := by decide +kernel
theorem dModel_type_134 : decode bModel_type 134 = .ok (.bipush 11, 2) := by decide +kernel
theorem dModel_type_136 : decode bModel_type 136 = .ok (.if_icmp .eq 17, 3) := by decide +kernel
theorem dModel_type_139 : decode bModel_type 139 = .ok (.iload 4, 2) := by decide +kernel
theorem dModel_type_141 : decode bModel_type 141 = .ok (.bipush 12, 2) := by decide +kernel
theorem dModel_type_143 : decode bModel_type 143 = .ok (.if_icmp .eq 10, 3) := by decide +kernel
theorem dModel_type_146 : decode bModel_type 146 = .ok (.iload 4, 2) := by decide +kernel
theorem dModel_type_148 : decode bModel_type 148 = .ok (.bipush 13, 2) := by decide +kernel
theorem dModel_type_150 : decode bModel_type 150 = .ok (.if_icmp .ne 13, 3) := by decide +kernel
theorem dModel_type_153 : decode bModel_type 153 = .ok (.aload_n 0, 1) := by decide +kernel
theorem dModel_type_154 : decode bModel_type 154 = .ok (.getfield 20, 3) := by decide +kernel
theorem dModel_type_157 : decode bModel_type 157 = .ok (.iload_n 1, 1) := by decide +kernel
theorem dModel_type_158 : decode bModel_type 158 = .ok (.iaload, 1) := by decide +kernel
theorem dModel_type_159 : decode bModel_type 159 = .ok (.iconst 2, 1) := by decide +kernel
theorem dModel_type_160 : decode bModel_type 160 = .ok (.if_icmp .eq 11, 3) := by decide +kernel
theorem dModel_type_163 : decode bModel_type 163 = .ok (.aload_n 0, 1) := by decide +kernel
theorem dModel_type_164 : decode bModel_type 164 = .ok (.iload_n 1, 1) := by decide +kernel
theorem dModel_type_165 : decode bModel_type 165 = .ok (.bipush 11, 2) := by decide +kernel
theorem dModel_type_167 : decode bModel_type 167 = .ok (.invokevirtual 272, 3) := by decide +kernel
theorem dModel_type_170 : decode bModel_type 170 = .ok (.ireturn, 1) := by decide +kernel
theorem dModel_type_171 : decode bModel_type 171 = .ok (.aload_n 0, 1) := by decide +kernel
theorem dModel_type_172 : decode bModel_type 172 = .ok (.getfield 17, 3) := by decide +kernel
theorem dModel_type_175 : decode bModel_type 175 = .ok (.iload_n 1, 1) := by decide +kernel
theorem dModel_type_176 : decode bModel_type 176 = .ok (.iaload, 1) := by decide +kernel
theorem dModel_type_177 : decode bModel_type 177 = .ok (.iload 4, 2) := by decide +kernel
theorem dModel_type_179 : decode bModel_type 179 = .ok (.bipush 11, 2) := by decide +kernel
theorem dModel_type_181 : decode bModel_type 181 = .ok (.if_icmp .ne 7, 3) := by decide +kernel
theorem dModel_type_184 : decode bModel_type 184 = .ok (.iconst 0, 1) := by decide +kernel
theorem dModel_type_185 : decode bModel_type 185 = .ok (.goto 4, 3) := by decide +kernel
theorem dModel_type_188 : decode bModel_type 188 = .ok (.iconst 5, 1) := by decide +kernel
theorem dModel_type_189 : decode bModel_type 189 = .ok (.if_icmp .eq 10, 3) := by decide +kernel
theorem dModel_type_192 : decode bModel_type 192 = .ok (.aload_n 0, 1) := by decide +kernel
theorem dModel_type_193 : decode bModel_type 193 = .ok (.iload_n 1, 1) := by decide +kernel
theorem dModel_type_194 : decode bModel_type 194 = .ok (.iconst 2, 1) := by decide +kernel
theorem dModel_type_195 : decode bModel_type 195 = .ok (.invokevirtual 272, 3) := by decide +kernel
theorem dModel_type_198 : decode bModel_type 198 = .ok (.ireturn, 1) := by decide +kernel
theorem dModel_type_199 : decode bModel_type 199 = .ok (.aload_n 0, 1) := by decide +kernel
theorem dModel_type_200 : decode bModel_type 200 = .ok (.iload_n 1, 1) := by decide +kernel
theorem dModel_type_201 : decode bModel_type 201 = .ok (.iconst 1, 1) := by decide +kernel
theorem dModel_type_202 : decode bModel_type 202 = .ok (.invokevirtual 154, 3) := by decide +kernel
theorem dModel_type_205 : decode bModel_type 205 = .ok (.istore 5, 2) := by decide +kernel
theorem dModel_type_207 : decode bModel_type 207 = .ok (.aload_n 0, 1) := by decide +kernel
theorem dModel_type_208 : decode bModel_type 208 = .ok (.iload_n 1, 1) := by decide +kernel
theorem dModel_type_209 : decode bModel_type 209 = .ok (.iconst 0, 1) := by decide +kernel
theorem dModel_type_210 : decode bModel_type 210 = .ok (.invokevirtual 154, 3) := by decide +kernel
theorem dModel_type_213 : decode bModel_type 213 = .ok (.istore 6, 2) := by decide +kernel
theorem dModel_type_215 : decode bModel_type 215 = .ok (.aload_n 0, 1) := by decide +kernel
theorem dModel_type_216 : decode bModel_type 216 = .ok (.getfield 29, 3) := by decide +kernel
theorem dModel_type_219 : decode bModel_type 219 = .ok (.iload 5, 2) := by decide +kernel
theorem dModel_type_221 : decode bModel_type 221 = .ok (.iaload, 1) := by decide +kernel
theorem dModel_type_222 : decode bModel_type 222 = .ok (.iconst 2, 1) := by decide +kernel
theorem dModel_type_223 : decode bModel_type 223 = .ok (.if_icmp .ne 14, 3) := by decide +kernel
theorem dModel_type_226 : decode bModel_type 226 = .ok (.aload_n 0, 1) := by decide +kernel
theorem dModel_type_227 : decode bModel_type 227 = .ok (.getfield 29, 3) := by decide +kernel
theorem dModel_type_230 : decode bModel_type 230 = .ok (.iload 6, 2) := by decide +kernel
theorem dModel_type_232 : decode bModel_type 232 = .ok (.iaload, 1) := by decide +kernel
theorem dModel_type_233 : decode bModel_type 233 = .ok (.iconst 2, 1) := by decide +kernel
theorem dModel_type_234 : decode bModel_type 234 = .ok (.if_icmp .eq 10, 3) := by decide +kernel
theorem dModel_type_237 : decode bModel_type 237 = .ok (.aload_n 0, 1) := by decide +kernel
theorem dModel_type_238 : decode bModel_type 238 = .ok (.iload_n 1, 1) := by decide +kernel
theorem dModel_type_239 : decode bModel_type 239 = .ok (.iconst 3, 1) := by decide +kernel
theorem dModel_type_240 : decode bModel_type 240 = .ok (.invokevirtual 272, 3) := by decide +kernel
theorem dModel_type_243 : decode bModel_type 243 = .ok (.ireturn, 1) := by decide +kernel
theorem dModel_type_244 : decode bModel_type 244 = .ok (.aload_n 0, 1) := by decide +kernel
theorem dModel_type_245 : decode bModel_type 245 = .ok (.getfield 35, 3) := by decide +kernel
theorem dModel_type_248 : decode bModel_type 248 = .ok (.iload 5, 2) := by decide +kernel
theorem dModel_type_250 : decode bModel_type 250 = .ok (.baload, 1) := by decide +kernel
theorem dModel_type_251 : decode bModel_type 251 = .ok (.ifCond .eq 13, 3) := by decide +kernel
theorem dModel_type_254 : decode bModel_type 254 = .ok (.aload_n 0, 1) := by decide +kernel
theorem dModel_type_255 : decode bModel_type 255 = .ok (.getfield 35, 3) := by decide +kernel
theorem dModel_type_258 : decode bModel_type 258 = .ok (.iload 6, 2) := by decide +kernel
theorem dModel_type_260 : decode bModel_type 260 = .ok (.baload, 1) := by decide +kernel
theorem dModel_type_261 : decode bModel_type 261 = .ok (.ifCond .ne 9, 3) := by decide +kernel
theorem dModel_type_264 : decode bModel_type 264 = .ok (.aload_n 0, 1) := by decide +kernel
theorem dModel_type_265 : decode bModel_type 265 = .ok (.iload_n 1, 1) := by decide +kernel
theorem dModel_type_266 : decode bModel_type 266 = .ok (.invokevirtual 275, 3) := by decide +kernel
theorem dModel_type_269 : decode bModel_type 269 = .ok (.ireturn, 1) := by decide +kernel
theorem dModel_type_270 : decode bModel_type 270 = .ok (.aload_n 0, 1) := by decide +kernel
theorem dModel_type_271 : decode bModel_type 271 = .ok (.getfield 42, 3) := by decide +kernel
theorem dModel_type_274 : decode bModel_type 274 = .ok (.iload 5, 2) := by decide +kernel
theorem dModel_type_276 : decode bModel_type 276 = .ok (.laload, 1) := by decide +kernel
theorem dModel_type_277 : decode bModel_type 277 = .ok (.lstore 7, 2) := by decide +kernel
theorem dModel_type_279 : decode bModel_type 279 = .ok (.aload_n 0, 1) := by decide +kernel
theorem dModel_type_280 : decode bModel_type 280 = .ok (.getfield 42, 3) := by decide +kernel
theorem dModel_type_283 : decode bModel_type 283 = .ok (.iload 6, 2) := by decide +kernel
theorem dModel_type_285 : decode bModel_type 285 = .ok (.laload, 1) := by decide +kernel
theorem dModel_type_286 : decode bModel_type 286 = .ok (.lstore 9, 2) := by decide +kernel
theorem dModel_type_288 : decode bModel_type 288 = .ok (.iload 4, 2) := by decide +kernel
theorem dModel_type_290 : decode bModel_type 290 = .ok (.bipush 11, 2) := by decide +kernel
theorem dModel_type_292 : decode bModel_type 292 = .ok (.if_icmp .ne 19, 3) := by decide +kernel
theorem dModel_type_295 : decode bModel_type 295 = .ok (.lload 7, 2) := by decide +kernel
theorem dModel_type_297 : decode bModel_type 297 = .ok (.lload 9, 2) := by decide +kernel
theorem dModel_type_299 : decode bModel_type 299 = .ok (.lcmp, 1) := by decide +kernel
theorem dModel_type_300 : decode bModel_type 300 = .ok (.ifCond .le 11, 3) := by decide +kernel
theorem dModel_type_303 : decode bModel_type 303 = .ok (.aload_n 0, 1) := by decide +kernel
theorem dModel_type_304 : decode bModel_type 304 = .ok (.iload_n 1, 1) := by decide +kernel
theorem dModel_type_305 : decode bModel_type 305 = .ok (.bipush 8, 2) := by decide +kernel
theorem dModel_type_307 : decode bModel_type 307 = .ok (.invokevirtual 272, 3) := by decide +kernel
theorem dModel_type_310 : decode bModel_type 310 = .ok (.ireturn, 1) := by decide +kernel
theorem dModel_type_311 : decode bModel_type 311 = .ok (.iload 4, 2) := by decide +kernel
theorem dModel_type_313 : decode bModel_type 313 = .ok (.bipush 12, 2) := by decide +kernel
theorem dModel_type_315 : decode bModel_type 315 = .ok (.if_icmp .ne 13, 3) := by decide +kernel
theorem dModel_type_318 : decode bModel_type 318 = .ok (.lload 9, 2) := by decide +kernel
theorem dModel_type_320 : decode bModel_type 320 = .ok (.lload 7, 2) := by decide +kernel
theorem dModel_type_322 : decode bModel_type 322 = .ok (.lsub, 1) := by decide +kernel
theorem dModel_type_323 : decode bModel_type 323 = .ok (.lconst 1, 1) := by decide +kernel
theorem dModel_type_324 : decode bModel_type 324 = .ok (.ladd, 1) := by decide +kernel
theorem dModel_type_325 : decode bModel_type 325 = .ok (.goto 21, 3) := by decide +kernel
theorem dModel_type_328 : decode bModel_type 328 = .ok (.iload 4, 2) := by decide +kernel
theorem dModel_type_330 : decode bModel_type 330 = .ok (.bipush 13, 2) := by decide +kernel
theorem dModel_type_332 : decode bModel_type 332 = .ok (.if_icmp .ne 13, 3) := by decide +kernel
theorem dModel_type_335 : decode bModel_type 335 = .ok (.lload 7, 2) := by decide +kernel
theorem dModel_type_337 : decode bModel_type 337 = .ok (.lload 9, 2) := by decide +kernel
theorem dModel_type_339 : decode bModel_type 339 = .ok (.lsub, 1) := by decide +kernel
theorem dModel_type_340 : decode bModel_type 340 = .ok (.lconst 1, 1) := by decide +kernel
theorem dModel_type_341 : decode bModel_type 341 = .ok (.ladd, 1) := by decide +kernel
theorem dModel_type_342 : decode bModel_type 342 = .ok (.goto 4, 3) := by decide +kernel
theorem dModel_type_345 : decode bModel_type 345 = .ok (.lconst 0, 1) := by decide +kernel
theorem dModel_type_346 : decode bModel_type 346 = .ok (.lstore 11, 2) := by decide +kernel
theorem dModel_type_348 : decode bModel_type 348 = .ok (.lload 11, 2) := by decide +kernel
theorem dModel_type_350 : decode bModel_type 350 = .ok (.ldc2_w 257, 3) := by decide +kernel
theorem dModel_type_353 : decode bModel_type 353 = .ok (.lcmp, 1) := by decide +kernel
theorem dModel_type_354 : decode bModel_type 354 = .ok (.ifCond .le 10, 3) := by decide +kernel
theorem dModel_type_357 : decode bModel_type 357 = .ok (.aload_n 0, 1) := by decide +kernel
theorem dModel_type_358 : decode bModel_type 358 = .ok (.iload_n 1, 1) := by decide +kernel
theorem dModel_type_359 : decode bModel_type 359 = .ok (.iconst 4, 1) := by decide +kernel
theorem dModel_type_360 : decode bModel_type 360 = .ok (.invokevirtual 272, 3) := by decide +kernel
theorem dModel_type_363 : decode bModel_type 363 = .ok (.ireturn, 1) := by decide +kernel
theorem dModel_type_364 : decode bModel_type 364 = .ok (.iload 4, 2) := by decide +kernel
theorem dModel_type_366 : decode bModel_type 366 = .ok (.bipush 11, 2) := by decide +kernel
theorem dModel_type_368 : decode bModel_type 368 = .ok (.if_icmp .le 32, 3) := by decide +kernel
theorem dModel_type_371 : decode bModel_type 371 = .ok (.lload 11, 2) := by decide +kernel
theorem dModel_type_373 : decode bModel_type 373 = .ok (.lconst 1, 1) := by decide +kernel
theorem dModel_type_374 : decode bModel_type 374 = .ok (.lcmp, 1) := by decide +kernel
theorem dModel_type_375 : decode bModel_type 375 = .ok (.ifCond .lt 17, 3) := by decide +kernel
theorem dModel_type_378 : decode bModel_type 378 = .ok (.lload 7, 2) := by decide +kernel
theorem dModel_type_380 : decode bModel_type 380 = .ok (.lconst 0, 1) := by decide +kernel
theorem dModel_type_381 : decode bModel_type 381 = .ok (.lcmp, 1) := by decide +kernel
theorem dModel_type_382 : decode bModel_type 382 = .ok (.ifCond .lt 10, 3) := by decide +kernel
theorem dModel_type_385 : decode bModel_type 385 = .ok (.lload 9, 2) := by decide +kernel
theorem dModel_type_387 : decode bModel_type 387 = .ok (.lconst 0, 1) := by decide +kernel
theorem dModel_type_388 : decode bModel_type 388 = .ok (.lcmp, 1) := by decide +kernel
theorem dModel_type_389 : decode bModel_type 389 = .ok (.ifCond .ge 11, 3) := by decide +kernel
theorem dModel_type_392 : decode bModel_type 392 = .ok (.aload_n 0, 1) := by decide +kernel
theorem dModel_type_393 : decode bModel_type 393 = .ok (.iload_n 1, 1) := by decide +kernel
theorem dModel_type_394 : decode bModel_type 394 = .ok (.bipush 6, 2) := by decide +kernel
theorem dModel_type_396 : decode bModel_type 396 = .ok (.invokevirtual 272, 3) := by decide +kernel
theorem dModel_type_399 : decode bModel_type 399 = .ok (.ireturn, 1) := by decide +kernel
theorem dModel_type_400 : decode bModel_type 400 = .ok (.aload_n 0, 1) := by decide +kernel
theorem dModel_type_401 : decode bModel_type 401 = .ok (.getfield 102, 3) := by decide +kernel
theorem dModel_type_404 : decode bModel_type 404 = .ok (.sipush 1000, 3) := by decide +kernel
theorem dModel_type_407 : decode bModel_type 407 = .ok (.if_icmp .ne 15, 3) := by decide +kernel
theorem dModel_type_410 : decode bModel_type 410 = .ok (.aload_n 0, 1) := by decide +kernel
theorem dModel_type_411 : decode bModel_type 411 = .ok (.iconst 2, 1) := by decide +kernel
theorem dModel_type_412 : decode bModel_type 412 = .ok (.putfield 99, 3) := by decide +kernel
theorem dModel_type_415 : decode bModel_type 415 = .ok (.aload_n 0, 1) := by decide +kernel
theorem dModel_type_416 : decode bModel_type 416 = .ok (.iload_n 2, 1) := by decide +kernel
theorem dModel_type_417 : decode bModel_type 417 = .ok (.putfield 9, 3) := by decide +kernel
theorem dModel_type_420 : decode bModel_type 420 = .ok (.iconst 0, 1) := by decide +kernel
theorem dModel_type_421 : decode bModel_type 421 = .ok (.ireturn, 1) := by decide +kernel
theorem dModel_type_422 : decode bModel_type 422 = .ok (.aload_n 0, 1) := by decide +kernel
theorem dModel_type_423 : decode bModel_type 423 = .ok (.aload_n 0, 1) := by decide +kernel
theorem dModel_type_424 : decode bModel_type 424 = .ok (.getfield 23, 3) := by decide +kernel
theorem dModel_type_427 : decode bModel_type 427 = .ok (.iload_n 1, 1) := by decide +kernel
theorem dModel_type_428 : decode bModel_type 428 = .ok (.iaload, 1) := by decide +kernel
theorem dModel_type_429 : decode bModel_type 429 = .ok (.iload_n 1, 1) := by decide +kernel
theorem dModel_type_430 : decode bModel_type 430 = .ok (.iconst 1, 1) := by decide +kernel
theorem dModel_type_431 : decode bModel_type 431 = .ok (.isub, 1) := by decide +kernel
theorem dModel_type_432 : decode bModel_type 432 = .ok (.invokevirtual 278, 3) := by decide +kernel
theorem dModel_type_435 : decode bModel_type 435 = .ok (.aload_n 0, 1) := by decide +kernel
theorem dModel_type_436 : decode bModel_type 436 = .ok (.iload 4, 2) := by decide +kernel
theorem dModel_type_438 : decode bModel_type 438 = .ok (.bipush 11, 2) := by decide +kernel
theorem dModel_type_440 : decode bModel_type 440 = .ok (.if_icmp .ne 7, 3) := by decide +kernel
theorem dModel_type_443 : decode bModel_type 443 = .ok (.iconst 2, 1) := by decide +kernel
theorem dModel_type_444 : decode bModel_type 444 = .ok (.goto 4, 3) := by decide +kernel
theorem dModel_type_447 : decode bModel_type 447 = .ok (.iconst 3, 1) := by decide +kernel
theorem dModel_type_448 : decode bModel_type 448 = .ok (.lload 7, 2) := by decide +kernel
theorem dModel_type_450 : decode bModel_type 450 = .ok (.l2i, 1) := by decide +kernel
theorem dModel_type_451 : decode bModel_type 451 = .ok (.lload 9, 2) := by decide +kernel
theorem dModel_type_453 : decode bModel_type 453 = .ok (.l2i, 1) := by decide +kernel
theorem dModel_type_454 : decode bModel_type 454 = .ok (.lload 11, 2) := by decide +kernel
theorem dModel_type_456 : decode bModel_type 456 = .ok (.l2i, 1) := by decide +kernel
theorem dModel_type_457 : decode bModel_type 457 = .ok (.iload 4, 2) := by decide +kernel
theorem dModel_type_459 : decode bModel_type 459 = .ok (.bipush 13, 2) := by decide +kernel
theorem dModel_type_461 : decode bModel_type 461 = .ok (.if_icmp .ne 7, 3) := by decide +kernel
theorem dModel_type_464 : decode bModel_type 464 = .ok (.iconst 1, 1) := by decide +kernel
theorem dModel_type_465 : decode bModel_type 465 = .ok (.goto 4, 3) := by decide +kernel
theorem dModel_type_468 : decode bModel_type 468 = .ok (.iconst 0, 1) := by decide +kernel
theorem dModel_type_469 : decode bModel_type 469 = .ok (.invokevirtual 93, 3) := by decide +kernel
theorem dModel_type_472 : decode bModel_type 472 = .ok (.ireturn, 1) := by decide +kernel
theorem dModel_constantFault_0 : decode bModel_constantFault 0 = .ok (.aload_n 0, 1) := by decide +kernel
theorem dModel_constantFault_1 : decode bModel_constantFault 1 = .ok (.iload_n 1, 1) := by decide +kernel
theorem dModel_constantFault_2 : decode bModel_constantFault 2 = .ok (.iconst 5, 1) := by decide +kernel
theorem dModel_constantFault_3 : decode bModel_constantFault 3 = .ok (.invokevirtual 272, 3) := by decide +kernel
theorem dModel_constantFault_6 : decode bModel_constantFault 6 = .ok (.ireturn, 1) := by decide +kernel
theorem dModel_enumeration_0 : decode bModel_enumeration 0 = .ok (.aload_n 0, 1) := by decide +kernel
theorem dModel_enumeration_1 : decode bModel_enumeration 1 = .ok (.aload_n 0, 1) := by decide +kernel
theorem dModel_enumeration_2 : decode bModel_enumeration 2 = .ok (.iload_n 1, 1) := by decide +kernel
theorem dModel_enumeration_3 : decode bModel_enumeration 3 = .ok (.invokevirtual 266, 3) := by decide +kernel
theorem dModel_enumeration_6 : decode bModel_enumeration 6 = .ok (.ifCond .eq 7, 3) := by decide +kernel
theorem dModel_enumeration_9 : decode bModel_enumeration 9 = .ok (.iconst 1, 1) := by decide +kernel
theorem dModel_enumeration_10 : decode bModel_enumeration 10 = .ok (.goto 4, 3) := by decide +kernel
theorem dModel_enumeration_13 : decode bModel_enumeration 13 = .ok (.iconst 0, 1) := by decide +kernel
theorem dModel_enumeration_14 : decode bModel_enumeration 14 = .ok (.putfield 99, 3) := by decide +kernel
theorem dModel_enumeration_17 : decode bModel_enumeration 17 = .ok (.aload_n 0, 1) := by decide +kernel
theorem dModel_enumeration_18 : decode bModel_enumeration 18 = .ok (.getfield 99, 3) := by decide +kernel
theorem dModel_enumeration_21 : decode bModel_enumeration 21 = .ok (.ifCond .le 5, 3) := by decide +kernel
theorem dModel_enumeration_24 : decode bModel_enumeration 24 = .ok (.iconst 0, 1) := by decide +kernel
theorem dModel_enumeration_25 : decode bModel_enumeration 25 = .ok (.ireturn, 1) := by decide +kernel
theorem dModel_enumeration_26 : decode bModel_enumeration 26 = .ok (.aload_n 0, 1) := by decide +kernel
theorem dModel_enumeration_27 : decode bModel_enumeration 27 = .ok (.getfield 20, 3) := by decide +kernel
theorem dModel_enumeration_30 : decode bModel_enumeration 30 = .ok (.iload_n 1, 1) := by decide +kernel
theorem dModel_enumeration_31 : decode bModel_enumeration 31 = .ok (.iaload, 1) := by decide +kernel
theorem dModel_enumeration_32 : decode bModel_enumeration 32 = .ok (.istore_n 2, 1) := by decide +kernel
theorem dModel_enumeration_33 : decode bModel_enumeration 33 = .ok (.aload_n 0, 1) := by decide +kernel
theorem dModel_enumeration_34 : decode bModel_enumeration 34 = .ok (.getfield 13, 3) := by decide +kernel
theorem dModel_enumeration_37 : decode bModel_enumeration 37 = .ok (.iload_n 1, 1) := by decide +kernel
theorem dModel_enumeration_38 : decode bModel_enumeration 38 = .ok (.iaload, 1) := by decide +kernel
theorem dModel_enumeration_39 : decode bModel_enumeration 39 = .ok (.bipush 53, 2) := by decide +kernel
theorem dModel_enumeration_41 : decode bModel_enumeration 41 = .ok (.if_icmp .ne 18, 3) := by decide +kernel
theorem dModel_enumeration_44 : decode bModel_enumeration 44 = .ok (.iload_n 2, 1) := by decide +kernel
theorem dModel_enumeration_45 : decode bModel_enumeration 45 = .ok (.iconst 1, 1) := by decide +kernel
theorem dModel_enumeration_46 : decode bModel_enumeration 46 = .ok (.if_icmp .lt 13, 3) := by decide +kernel
theorem dModel_enumeration_49 : decode bModel_enumeration 49 = .ok (.iload_n 2, 1) := by decide +kernel
theorem dModel_enumeration_50 : decode bModel_enumeration 50 = .ok (.bipush 64, 2) := by decide +kernel
theorem dModel_enumeration_52 : decode bModel_enumeration 52 = .ok (.if_icmp .gt 7, 3) := by decide +kernel
theorem dModel_enumeration_55 : decode bModel_enumeration 55 = .ok (.iconst 1, 1) := by decide +kernel
theorem dModel_enumeration_56 : decode bModel_enumeration 56 = .ok (.goto 4, 3) := by decide +kernel
theorem dModel_enumeration_59 : decode bModel_enumeration 59 = .ok (.iconst 0, 1) := by decide +kernel
theorem dModel_enumeration_60 : decode bModel_enumeration 60 = .ok (.istore_n 3, 1) := by decide +kernel
theorem dModel_enumeration_61 : decode bModel_enumeration 61 = .ok (.iconst 0, 1) := by decide +kernel
theorem dModel_enumeration_62 : decode bModel_enumeration 62 = .ok (.istore 4, 2) := by decide +kernel
theorem dModel_enumeration_64 : decode bModel_enumeration 64 = .ok (.iload 4, 2) := by decide +kernel
theorem dModel_enumeration_66 : decode bModel_enumeration 66 = .ok (.iload_n 2, 1) := by decide +kernel
theorem dModel_enumeration_67 : decode bModel_enumeration 67 = .ok (.if_icmp .ge 50, 3) := by decide +kernel
theorem dModel_enumeration_70 : decode bModel_enumeration 70 = .ok (.iload_n 3, 1) := by decide +kernel
theorem dModel_enumeration_71 : decode bModel_enumeration 71 = .ok (.ifCond .eq 46, 3) := by decide +kernel
theorem dModel_enumeration_74 : decode bModel_enumeration 74 = .ok (.aload_n 0, 1) := by decide +kernel
theorem dModel_enumeration_75 : decode bModel_enumeration 75 = .ok (.getfield 13, 3) := by decide +kernel
theorem dModel_enumeration_78 : decode bModel_enumeration 78 = .ok (.aload_n 0, 1) := by decide +kernel
theorem dModel_enumeration_79 : decode bModel_enumeration 79 = .ok (.iload_n 1, 1) := by decide +kernel
theorem dModel_enumeration_80 : decode bModel_enumeration 80 = .ok (.iload 4, 2) := by decide +kernel
theorem dModel_enumeration_82 : decode bModel_enumeration 82 = .ok (.invokevirtual 154, 3) := by decide +kernel
theorem dModel_enumeration_85 : decode bModel_enumeration 85 = .ok (.iaload, 1) := by decide +kernel
theorem dModel_enumeration_86 : decode bModel_enumeration 86 = .ok (.iconst 1, 1) := by decide +kernel
theorem dModel_enumeration_87 : decode bModel_enumeration 87 = .ok (.if_icmp .ne 22, 3) := by decide +kernel
theorem dModel_enumeration_90 : decode bModel_enumeration 90 = .ok (.aload_n 0, 1) := by decide +kernel
theorem dModel_enumeration_91 : decode bModel_enumeration 91 = .ok (.getfield 20, 3) := by decide +kernel
theorem dModel_enumeration_94 : decode bModel_enumeration 94 = .ok (.aload_n 0, 1) := by decide +kernel
theorem dModel_enumeration_95 : decode bModel_enumeration 95 = .ok (.iload_n 1, 1) := by decide +kernel
theorem dModel_enumeration_96 : decode bModel_enumeration 96 = .ok (.iload 4, 2) := by decide +kernel
theorem dModel_enumeration_98 : decode bModel_enumeration 98 = .ok (.invokevirtual 154, 3) := by decide +kernel
theorem dModel_enumeration_101 : decode bModel_enumeration 101 = .ok (.iaload, 1) := by decide +kernel
theorem dModel_enumeration_102 : decode bModel_enumeration 102 = .ok (.ifCond .ne 7, 3) := by decide +kernel
theorem dModel_enumeration_105 : decode bModel_enumeration 105 = .ok (.iconst 1, 1) := by decide +kernel
theorem dModel_enumeration_106 : decode bModel_enumeration 106 = .ok (.goto 4, 3) := by decide +kernel
theorem dModel_enumeration_109 : decode bModel_enumeration 109 = .ok (.iconst 0, 1) := by decide +kernel
theorem dModel_enumeration_110 : decode bModel_enumeration 110 = .ok (.istore_n 3, 1) := by decide +kernel
theorem dModel_enumeration_111 : decode bModel_enumeration 111 = .ok (.iinc 4 1, 3) := by decide +kernel
theorem dModel_enumeration_114 : decode bModel_enumeration 114 = .ok (.goto (-50), 3) := by decide +kernel
theorem dModel_enumeration_117 : decode bModel_enumeration 117 = .ok (.iload_n 3, 1) := by decide +kernel
theorem dModel_enumeration_118 : decode bModel_enumeration 118 = .ok (.ifCond .ne 11, 3) := by decide +kernel
theorem dModel_enumeration_121 : decode bModel_enumeration 121 = .ok (.aload_n 0, 1) := by decide +kernel
theorem dModel_enumeration_122 : decode bModel_enumeration 122 = .ok (.iload_n 1, 1) := by decide +kernel
theorem dModel_enumeration_123 : decode bModel_enumeration 123 = .ok (.bipush 11, 2) := by decide +kernel
theorem dModel_enumeration_125 : decode bModel_enumeration 125 = .ok (.invokevirtual 272, 3) := by decide +kernel
theorem dModel_enumeration_128 : decode bModel_enumeration 128 = .ok (.ireturn, 1) := by decide +kernel
theorem dModel_enumeration_129 : decode bModel_enumeration 129 = .ok (.aload_n 0, 1) := by decide +kernel
theorem dModel_enumeration_130 : decode bModel_enumeration 130 = .ok (.aload_n 0, 1) := by decide +kernel
theorem dModel_enumeration_131 : decode bModel_enumeration 131 = .ok (.getfield 17, 3) := by decide +kernel
theorem dModel_enumeration_134 : decode bModel_enumeration 134 = .ok (.iload_n 1, 1) := by decide +kernel
theorem dModel_enumeration_135 : decode bModel_enumeration 135 = .ok (.iaload, 1) := by decide +kernel
theorem dModel_enumeration_136 : decode bModel_enumeration 136 = .ok (.invokevirtual 281, 3) := by decide +kernel
theorem dModel_enumeration_139 : decode bModel_enumeration 139 = .ok (.ifCond .eq 11, 3) := by decide +kernel
theorem dModel_enumeration_142 : decode bModel_enumeration 142 = .ok (.aload_n 0, 1) := by decide +kernel
theorem dModel_enumeration_143 : decode bModel_enumeration 143 = .ok (.iload_n 1, 1) := by decide +kernel
theorem dModel_enumeration_144 : decode bModel_enumeration 144 = .ok (.bipush 7, 2) := by decide +kernel
theorem dModel_enumeration_146 : decode bModel_enumeration 146 = .ok (.invokevirtual 272, 3) := by decide +kernel
theorem dModel_enumeration_149 : decode bModel_enumeration 149 = .ok (.ireturn, 1) := by decide +kernel
theorem dModel_enumeration_150 : decode bModel_enumeration 150 = .ok (.iload_n 1, 1) := by decide +kernel
theorem dModel_enumeration_151 : decode bModel_enumeration 151 = .ok (.iload_n 2, 1) := by decide +kernel
theorem dModel_enumeration_152 : decode bModel_enumeration 152 = .ok (.isub, 1) := by decide +kernel
theorem dModel_enumeration_153 : decode bModel_enumeration 153 = .ok (.istore 4, 2) := by decide +kernel
theorem dModel_enumeration_155 : decode bModel_enumeration 155 = .ok (.iload 4, 2) := by decide +kernel
theorem dModel_enumeration_157 : decode bModel_enumeration 157 = .ok (.iload_n 1, 1) := by decide +kernel
theorem dModel_enumeration_158 : decode bModel_enumeration 158 = .ok (.if_icmp .ge 107, 3) := by decide +kernel
theorem dModel_enumeration_161 : decode bModel_enumeration 161 = .ok (.aload_n 0, 1) := by decide +kernel
theorem dModel_enumeration_162 : decode bModel_enumeration 162 = .ok (.aload_n 0, 1) := by decide +kernel
theorem dModel_enumeration_163 : decode bModel_enumeration 163 = .ok (.getfield 17, 3) := by decide +kernel
theorem dModel_enumeration_166 : decode bModel_enumeration 166 = .ok (.iload 4, 2) := by decide +kernel
theorem dModel_enumeration_168 : decode bModel_enumeration 168 = .ok (.iaload, 1) := by decide +kernel
theorem dModel_enumeration_169 : decode bModel_enumeration 169 = .ok (.invokevirtual 281, 3) := by decide +kernel
theorem dModel_enumeration_172 : decode bModel_enumeration 172 = .ok (.ifCond .ne 19, 3) := by decide +kernel
theorem dModel_enumeration_175 : decode bModel_enumeration 175 = .ok (.aload_n 0, 1) := by decide +kernel
theorem dModel_enumeration_176 : decode bModel_enumeration 176 = .ok (.getfield 17, 3) := by decide +kernel
theorem dModel_enumeration_179 : decode bModel_enumeration 179 = .ok (.iload 4, 2) := by decide +kernel
theorem dModel_enumeration_181 : decode bModel_enumeration 181 = .ok (.iaload, 1) := by decide +kernel
theorem dModel_enumeration_182 : decode bModel_enumeration 182 = .ok (.aload_n 0, 1) := by decide +kernel
theorem dModel_enumeration_183 : decode bModel_enumeration 183 = .ok (.getfield 17, 3) := by decide +kernel
theorem dModel_enumeration_186 : decode bModel_enumeration 186 = .ok (.iload_n 1, 1) := by decide +kernel
theorem dModel_enumeration_187 : decode bModel_enumeration 187 = .ok (.iaload, 1) := by decide +kernel
theorem dModel_enumeration_188 : decode bModel_enumeration 188 = .ok (.if_icmp .ne 7, 3) := by decide +kernel
theorem dModel_enumeration_191 : decode bModel_enumeration 191 = .ok (.iconst 1, 1) := by decide +kernel
theorem dModel_enumeration_192 : decode bModel_enumeration 192 = .ok (.goto 4, 3) := by decide +kernel
theorem dModel_enumeration_195 : decode bModel_enumeration 195 = .ok (.iconst 0, 1) := by decide +kernel
theorem dModel_enumeration_196 : decode bModel_enumeration 196 = .ok (.istore 5, 2) := by decide +kernel
theorem dModel_enumeration_198 : decode bModel_enumeration 198 = .ok (.iload_n 1, 1) := by decide +kernel
theorem dModel_enumeration_199 : decode bModel_enumeration 199 = .ok (.iload_n 2, 1) := by decide +kernel
theorem dModel_enumeration_200 : decode bModel_enumeration 200 = .ok (.isub, 1) := by decide +kernel
theorem dModel_enumeration_201 : decode bModel_enumeration 201 = .ok (.istore 6, 2) := by decide +kernel
theorem dModel_enumeration_203 : decode bModel_enumeration 203 = .ok (.iload 6, 2) := by decide +kernel
theorem dModel_enumeration_205 : decode bModel_enumeration 205 = .ok (.iload 4, 2) := by decide +kernel
theorem dModel_enumeration_207 : decode bModel_enumeration 207 = .ok (.if_icmp .ge 38, 3) := by decide +kernel
theorem dModel_enumeration_210 : decode bModel_enumeration 210 = .ok (.iload 5, 2) := by decide +kernel
theorem dModel_enumeration_212 : decode bModel_enumeration 212 = .ok (.ifCond .ne 20, 3) := by decide +kernel
theorem dModel_enumeration_215 : decode bModel_enumeration 215 = .ok (.aload_n 0, 1) := by decide +kernel
theorem dModel_enumeration_216 : decode bModel_enumeration 216 = .ok (.getfield 17, 3) := by decide +kernel
theorem dModel_enumeration_219 : decode bModel_enumeration 219 = .ok (.iload 6, 2) := by decide +kernel
theorem dModel_enumeration_221 : decode bModel_enumeration 221 = .ok (.iaload, 1) := by decide +kernel
theorem dModel_enumeration_222 : decode bModel_enumeration 222 = .ok (.aload_n 0, 1) := by decide +kernel
theorem dModel_enumeration_223 : decode bModel_enumeration 223 = .ok (.getfield 17, 3) := by decide +kernel
theorem dModel_enumeration_226 : decode bModel_enumeration 226 = .ok (.iload 4, 2) := by decide +kernel
theorem dModel_enumeration_228 : decode bModel_enumeration 228 = .ok (.iaload, 1) := by decide +kernel
theorem dModel_enumeration_229 : decode bModel_enumeration 229 = .ok (.if_icmp .ne 7, 3) := by decide +kernel
theorem dModel_enumeration_232 : decode bModel_enumeration 232 = .ok (.iconst 1, 1) := by decide +kernel
theorem dModel_enumeration_233 : decode bModel_enumeration 233 = .ok (.goto 4, 3) := by decide +kernel
theorem dModel_enumeration_236 : decode bModel_enumeration 236 = .ok (.iconst 0, 1) := by decide +kernel
theorem dModel_enumeration_237 : decode bModel_enumeration 237 = .ok (.istore 5, 2) := by decide +kernel
theorem dModel_enumeration_239 : decode bModel_enumeration 239 = .ok (.iinc 6 1, 3) := by decide +kernel
theorem dModel_enumeration_242 : decode bModel_enumeration 242 = .ok (.goto (-39), 3) := by decide +kernel
theorem dModel_enumeration_245 : decode bModel_enumeration 245 = .ok (.iload 5, 2) := by decide +kernel
theorem dModel_enumeration_247 : decode bModel_enumeration 247 = .ok (.ifCond .eq 12, 3) := by decide +kernel
theorem dModel_enumeration_250 : decode bModel_enumeration 250 = .ok (.aload_n 0, 1) := by decide +kernel
theorem dModel_enumeration_251 : decode bModel_enumeration 251 = .ok (.iload 4, 2) := by decide +kernel
theorem dModel_enumeration_253 : decode bModel_enumeration 253 = .ok (.bipush 7, 2) := by decide +kernel
theorem dModel_enumeration_255 : decode bModel_enumeration 255 = .ok (.invokevirtual 272, 3) := by decide +kernel
theorem dModel_enumeration_258 : decode bModel_enumeration 258 = .ok (.ireturn, 1) := by decide +kernel
theorem dModel_enumeration_259 : decode bModel_enumeration 259 = .ok (.iinc 4 1, 3) := by decide +kernel
theorem dModel_enumeration_262 : decode bModel_enumeration 262 = .ok (.goto (-107), 3) := by decide +kernel
theorem dModel_enumeration_265 : decode bModel_enumeration 265 = .ok (.aload_n 0, 1) := by decide +kernel
theorem dModel_enumeration_266 : decode bModel_enumeration 266 = .ok (.aload_n 0, 1) := by decide +kernel
theorem dModel_enumeration_267 : decode bModel_enumeration 267 = .ok (.getfield 102, 3) := by decide +kernel
theorem dModel_enumeration_270 : decode bModel_enumeration 270 = .ok (.sipush 1000, 3) := by decide +kernel
theorem dModel_enumeration_273 : decode bModel_enumeration 273 = .ok (.if_icmp .eq 17, 3) := by decide +kernel
theorem dModel_enumeration_276 : decode bModel_enumeration 276 = .ok (.aload_n 0, 1) := by decide +kernel
theorem dModel_enumeration_277 : decode bModel_enumeration 277 = .ok (.getfield 115, 3) := by decide +kernel
theorem dModel_enumeration_280 : decode bModel_enumeration 280 = .ok (.iload_n 2, 1) := by decide +kernel
theorem dModel_enumeration_281 : decode bModel_enumeration 281 = .ok (.iadd, 1) := by decide +kernel
theorem dModel_enumeration_282 : decode bModel_enumeration 282 = .ok (.iconst 1, 1) := by decide +kernel
theorem dModel_enumeration_283 : decode bModel_enumeration 283 = .ok (.iadd, 1) := by decide +kernel
theorem dModel_enumeration_284 : decode bModel_enumeration 284 = .ok (.sipush 3000, 3) := by decide +kernel
theorem dModel_enumeration_287 : decode bModel_enumeration 287 = .ok (.if_icmp .le 7, 3) := by decide +kernel
theorem dModel_enumeration_290 : decode bModel_enumeration 290 = .ok (.iconst 2, 1) := by decide +kernel
theorem dModel_enumeration_291 : decode bModel_enumeration 291 = .ok (.goto 4, 3) := by decide +kernel
theorem dModel_enumeration_294 : decode bModel_enumeration 294 = .ok (.iconst 0, 1) := by decide +kernel
theorem dModel_enumeration_295 : decode bModel_enumeration 295 = .ok (.putfield 99, 3) := by decide +kernel
theorem dModel_enumeration_298 : decode bModel_enumeration 298 = .ok (.aload_n 0, 1) := by decide +kernel
theorem dModel_enumeration_299 : decode bModel_enumeration 299 = .ok (.getfield 99, 3) := by decide +kernel
theorem dModel_enumeration_302 : decode bModel_enumeration 302 = .ok (.ifCond .le 5, 3) := by decide +kernel
theorem dModel_enumeration_305 : decode bModel_enumeration 305 = .ok (.iconst 0, 1) := by decide +kernel
theorem dModel_enumeration_306 : decode bModel_enumeration 306 = .ok (.ireturn, 1) := by decide +kernel
theorem dModel_enumeration_307 : decode bModel_enumeration 307 = .ok (.aload_n 0, 1) := by decide +kernel
theorem dModel_enumeration_308 : decode bModel_enumeration 308 = .ok (.iconst (-1), 1) := by decide +kernel
theorem dModel_enumeration_309 : decode bModel_enumeration 309 = .ok (.putfield 9, 3) := by decide +kernel
theorem dModel_enumeration_312 : decode bModel_enumeration 312 = .ok (.aload_n 0, 1) := by decide +kernel
theorem dModel_enumeration_313 : decode bModel_enumeration 313 = .ok (.iconst 4, 1) := by decide +kernel
theorem dModel_enumeration_314 : decode bModel_enumeration 314 = .ok (.iconst 0, 1) := by decide +kernel
theorem dModel_enumeration_315 : decode bModel_enumeration 315 = .ok (.iload_n 2, 1) := by decide +kernel
theorem dModel_enumeration_316 : decode bModel_enumeration 316 = .ok (.iconst 1, 1) := by decide +kernel
theorem dModel_enumeration_317 : decode bModel_enumeration 317 = .ok (.isub, 1) := by decide +kernel
theorem dModel_enumeration_318 : decode bModel_enumeration 318 = .ok (.iload_n 2, 1) := by decide +kernel
theorem dModel_enumeration_319 : decode bModel_enumeration 319 = .ok (.iconst 0, 1) := by decide +kernel
theorem dModel_enumeration_320 : decode bModel_enumeration 320 = .ok (.invokevirtual 93, 3) := by decide +kernel
theorem dModel_enumeration_323 : decode bModel_enumeration 323 = .ok (.istore 4, 2) := by decide +kernel
theorem dModel_enumeration_325 : decode bModel_enumeration 325 = .ok (.aload_n 0, 1) := by decide +kernel
theorem dModel_enumeration_326 : decode bModel_enumeration 326 = .ok (.aload_n 0, 1) := by decide +kernel
theorem dModel_enumeration_327 : decode bModel_enumeration 327 = .ok (.getfield 17, 3) := by decide +kernel
theorem dModel_enumeration_330 : decode bModel_enumeration 330 = .ok (.iload_n 1, 1) := by decide +kernel
theorem dModel_enumeration_331 : decode bModel_enumeration 331 = .ok (.iaload, 1) := by decide +kernel
theorem dModel_enumeration_332 : decode bModel_enumeration 332 = .ok (.iconst 0, 1) := by decide +kernel
theorem dModel_enumeration_333 : decode bModel_enumeration 333 = .ok (.iload 4, 2) := by decide +kernel
theorem dModel_enumeration_335 : decode bModel_enumeration 335 = .ok (.iconst 0, 1) := by decide +kernel
theorem dModel_enumeration_336 : decode bModel_enumeration 336 = .ok (.invokevirtual 284, 3) := by decide +kernel
theorem dModel_enumeration_339 : decode bModel_enumeration 339 = .ok (.iconst 0, 1) := by decide +kernel
theorem dModel_enumeration_340 : decode bModel_enumeration 340 = .ok (.istore 5, 2) := by decide +kernel
theorem dModel_enumeration_342 : decode bModel_enumeration 342 = .ok (.iload 5, 2) := by decide +kernel
theorem dModel_enumeration_344 : decode bModel_enumeration 344 = .ok (.iload_n 2, 1) := by decide +kernel
theorem dModel_enumeration_345 : decode bModel_enumeration 345 = .ok (.if_icmp .ge 29, 3) := by decide +kernel
theorem dModel_enumeration_348 : decode bModel_enumeration 348 = .ok (.aload_n 0, 1) := by decide +kernel
theorem dModel_enumeration_349 : decode bModel_enumeration 349 = .ok (.aload_n 0, 1) := by decide +kernel
theorem dModel_enumeration_350 : decode bModel_enumeration 350 = .ok (.getfield 17, 3) := by decide +kernel
theorem dModel_enumeration_353 : decode bModel_enumeration 353 = .ok (.iload_n 1, 1) := by decide +kernel
theorem dModel_enumeration_354 : decode bModel_enumeration 354 = .ok (.iload_n 2, 1) := by decide +kernel
theorem dModel_enumeration_355 : decode bModel_enumeration 355 = .ok (.isub, 1) := by decide +kernel
theorem dModel_enumeration_356 : decode bModel_enumeration 356 = .ok (.iload 5, 2) := by decide +kernel
theorem dModel_enumeration_358 : decode bModel_enumeration 358 = .ok (.iadd, 1) := by decide +kernel
theorem dModel_enumeration_359 : decode bModel_enumeration 359 = .ok (.iaload, 1) := by decide +kernel
theorem dModel_enumeration_360 : decode bModel_enumeration 360 = .ok (.iconst 2, 1) := by decide +kernel
theorem dModel_enumeration_361 : decode bModel_enumeration 361 = .ok (.iload 4, 2) := by decide +kernel
theorem dModel_enumeration_363 : decode bModel_enumeration 363 = .ok (.iload 5, 2) := by decide +kernel
theorem dModel_enumeration_365 : decode bModel_enumeration 365 = .ok (.invokevirtual 284, 3) := by decide +kernel
theorem dModel_enumeration_368 : decode bModel_enumeration 368 = .ok (.iinc 5 1, 3) := by decide +kernel
theorem dModel_enumeration_371 : decode bModel_enumeration 371 = .ok (.goto (-29), 3) := by decide +kernel
theorem dModel_enumeration_374 : decode bModel_enumeration 374 = .ok (.iload 4, 2) := by decide +kernel
theorem dModel_enumeration_376 : decode bModel_enumeration 376 = .ok (.ireturn, 1) := by decide +kernel
theorem dModel_subtype_0 : decode bModel_subtype 0 = .ok (.aload_n 0, 1) := by decide +kernel
theorem dModel_subtype_1 : decode bModel_subtype 1 = .ok (.aload_n 0, 1) := by decide +kernel
theorem dModel_subtype_2 : decode bModel_subtype 2 = .ok (.iload_n 2, 1) := by decide +kernel
theorem dModel_subtype_3 : decode bModel_subtype 3 = .ok (.invokevirtual 288, 3) := by decide +kernel
theorem dModel_subtype_6 : decode bModel_subtype 6 = .ok (.ifCond .eq 7, 3) := by decide +kernel
theorem dModel_subtype_9 : decode bModel_subtype 9 = .ok (.iconst 1, 1) := by decide +kernel
theorem dModel_subtype_10 : decode bModel_subtype 10 = .ok (.goto 15, 3) := by decide +kernel
theorem dModel_subtype_13 : decode bModel_subtype 13 = .ok (.iload_n 1, 1) := by decide +kernel
theorem dModel_subtype_14 : decode bModel_subtype 14 = .ok (.invokestatic 111, 3) := by decide +kernel
theorem dModel_subtype_17 : decode bModel_subtype 17 = .ok (.ifCond .ne 7, 3) := by decide +kernel
theorem dModel_subtype_20 : decode bModel_subtype 20 = .ok (.iconst 2, 1) := by decide +kernel
theorem dModel_subtype_21 : decode bModel_subtype 21 = .ok (.goto 4, 3) := by decide +kernel
theorem dModel_subtype_24 : decode bModel_subtype 24 = .ok (.iconst 0, 1) := by decide +kernel
theorem dModel_subtype_25 : decode bModel_subtype 25 = .ok (.putfield 99, 3) := by decide +kernel
theorem dModel_subtype_28 : decode bModel_subtype 28 = .ok (.aload_n 0, 1) := by decide +kernel
theorem dModel_subtype_29 : decode bModel_subtype 29 = .ok (.getfield 99, 3) := by decide +kernel
theorem dModel_subtype_32 : decode bModel_subtype 32 = .ok (.ifCond .le 5, 3) := by decide +kernel
theorem dModel_subtype_35 : decode bModel_subtype 35 = .ok (.iconst 0, 1) := by decide +kernel
theorem dModel_subtype_36 : decode bModel_subtype 36 = .ok (.ireturn, 1) := by decide +kernel
theorem dModel_subtype_37 : decode bModel_subtype 37 = .ok (.aload_n 0, 1) := by decide +kernel
theorem dModel_subtype_38 : decode bModel_subtype 38 = .ok (.iload_n 1, 1) := by decide +kernel
theorem dModel_subtype_39 : decode bModel_subtype 39 = .ok (.invokevirtual 281, 3) := by decide +kernel
theorem dModel_subtype_42 : decode bModel_subtype 42 = .ok (.ifCond .eq 11, 3) := by decide +kernel
theorem dModel_subtype_45 : decode bModel_subtype 45 = .ok (.aload_n 0, 1) := by decide +kernel
theorem dModel_subtype_46 : decode bModel_subtype 46 = .ok (.iconst (-1), 1) := by decide +kernel
theorem dModel_subtype_47 : decode bModel_subtype 47 = .ok (.bipush 7, 2) := by decide +kernel
theorem dModel_subtype_49 : decode bModel_subtype 49 = .ok (.invokevirtual 272, 3) := by decide +kernel
theorem dModel_subtype_52 : decode bModel_subtype 52 = .ok (.ireturn, 1) := by decide +kernel
theorem dModel_subtype_53 : decode bModel_subtype 53 = .ok (.aload_n 0, 1) := by decide +kernel
theorem dModel_subtype_54 : decode bModel_subtype 54 = .ok (.aload_n 0, 1) := by decide +kernel
theorem dModel_subtype_55 : decode bModel_subtype 55 = .ok (.getfield 115, 3) := by decide +kernel
theorem dModel_subtype_58 : decode bModel_subtype 58 = .ok (.sipush 3000, 3) := by decide +kernel
theorem dModel_subtype_61 : decode bModel_subtype 61 = .ok (.if_icmp .ne 7, 3) := by decide +kernel
theorem dModel_subtype_64 : decode bModel_subtype 64 = .ok (.iconst 3, 1) := by decide +kernel
theorem dModel_subtype_65 : decode bModel_subtype 65 = .ok (.goto 4, 3) := by decide +kernel
theorem dModel_subtype_68 : decode bModel_subtype 68 = .ok (.iconst 0, 1) := by decide +kernel
theorem dModel_subtype_69 : decode bModel_subtype 69 = .ok (.putfield 99, 3) := by decide +kernel
theorem dModel_subtype_72 : decode bModel_subtype 72 = .ok (.aload_n 0, 1) := by decide +kernel
theorem dModel_subtype_73 : decode bModel_subtype 73 = .ok (.getfield 99, 3) := by decide +kernel
theorem dModel_subtype_76 : decode bModel_subtype 76 = .ok (.ifCond .le 5, 3) := by decide +kernel
theorem dModel_subtype_79 : decode bModel_subtype 79 = .ok (.iconst 0, 1) := by decide +kernel
theorem dModel_subtype_80 : decode bModel_subtype 80 = .ok (.ireturn, 1) := by decide +kernel
theorem dModel_subtype_81 : decode bModel_subtype 81 = .ok (.aload_n 0, 1) := by decide +kernel
theorem dModel_subtype_82 : decode bModel_subtype 82 = .ok (.iconst (-1), 1) := by decide +kernel
theorem dModel_subtype_83 : decode bModel_subtype 83 = .ok (.putfield 9, 3) := by decide +kernel
theorem dModel_subtype_86 : decode bModel_subtype 86 = .ok (.aload_n 0, 1) := by decide +kernel
theorem dModel_subtype_87 : decode bModel_subtype 87 = .ok (.iload_n 1, 1) := by decide +kernel
theorem dModel_subtype_88 : decode bModel_subtype 88 = .ok (.iconst 0, 1) := by decide +kernel
theorem dModel_subtype_89 : decode bModel_subtype 89 = .ok (.iload_n 2, 1) := by decide +kernel
theorem dModel_subtype_90 : decode bModel_subtype 90 = .ok (.iconst 0, 1) := by decide +kernel
theorem dModel_subtype_91 : decode bModel_subtype 91 = .ok (.invokevirtual 284, 3) := by decide +kernel
theorem dModel_subtype_94 : decode bModel_subtype 94 = .ok (.iconst 0, 1) := by decide +kernel
theorem dModel_subtype_95 : decode bModel_subtype 95 = .ok (.ireturn, 1) := by decide +kernel
theorem dModel_fits_0 : decode bModel_fits 0 = .ok (.aload_n 0, 1) := by decide +kernel
theorem dModel_fits_1 : decode bModel_fits 1 = .ok (.getfield 29, 3) := by decide +kernel
theorem dModel_fits_4 : decode bModel_fits 4 = .ok (.iload_n 1, 1) := by decide +kernel
theorem dModel_fits_5 : decode bModel_fits 5 = .ok (.iaload, 1) := by decide +kernel
theorem dModel_fits_6 : decode bModel_fits 6 = .ok (.aload_n 0, 1) := by decide +kernel
theorem dModel_fits_7 : decode bModel_fits 7 = .ok (.getfield 54, 3) := by decide +kernel
theorem dModel_fits_10 : decode bModel_fits 10 = .ok (.iload_n 2, 1) := by decide +kernel
theorem dModel_fits_11 : decode bModel_fits 11 = .ok (.iaload, 1) := by decide +kernel
theorem dModel_fits_12 : decode bModel_fits 12 = .ok (.if_icmp .ne 23, 3) := by decide +kernel
theorem dModel_fits_15 : decode bModel_fits 15 = .ok (.aload_n 0, 1) := by decide +kernel
theorem dModel_fits_16 : decode bModel_fits 16 = .ok (.getfield 29, 3) := by decide +kernel
theorem dModel_fits_19 : decode bModel_fits 19 = .ok (.iload_n 1, 1) := by decide +kernel
theorem dModel_fits_20 : decode bModel_fits 20 = .ok (.iaload, 1) := by decide +kernel
theorem dModel_fits_21 : decode bModel_fits 21 = .ok (.iconst 4, 1) := by decide +kernel
theorem dModel_fits_22 : decode bModel_fits 22 = .ok (.if_icmp .ne 15, 3) := by decide +kernel
theorem dModel_fits_25 : decode bModel_fits 25 = .ok (.aload_n 0, 1) := by decide +kernel
theorem dModel_fits_26 : decode bModel_fits 26 = .ok (.getfield 32, 3) := by decide +kernel
theorem dModel_fits_29 : decode bModel_fits 29 = .ok (.iload_n 1, 1) := by decide +kernel
theorem dModel_fits_30 : decode bModel_fits 30 = .ok (.iaload, 1) := by decide +kernel
theorem dModel_fits_31 : decode bModel_fits 31 = .ok (.iload_n 2, 1) := by decide +kernel
theorem dModel_fits_32 : decode bModel_fits 32 = .ok (.if_icmp .eq 5, 3) := by decide +kernel
theorem dModel_fits_35 : decode bModel_fits 35 = .ok (.iconst 3, 1) := by decide +kernel
theorem dModel_fits_36 : decode bModel_fits 36 = .ok (.ireturn, 1) := by decide +kernel
theorem dModel_fits_37 : decode bModel_fits 37 = .ok (.aload_n 0, 1) := by decide +kernel
theorem dModel_fits_38 : decode bModel_fits 38 = .ok (.getfield 29, 3) := by decide +kernel
theorem dModel_fits_41 : decode bModel_fits 41 = .ok (.iload_n 1, 1) := by decide +kernel
theorem dModel_fits_42 : decode bModel_fits 42 = .ok (.iaload, 1) := by decide +kernel
theorem dModel_fits_43 : decode bModel_fits 43 = .ok (.iconst 3, 1) := by decide +kernel
theorem dModel_fits_44 : decode bModel_fits 44 = .ok (.if_icmp .ne 20, 3) := by decide +kernel
theorem dModel_fits_47 : decode bModel_fits 47 = .ok (.aload_n 0, 1) := by decide +kernel
theorem dModel_fits_48 : decode bModel_fits 48 = .ok (.getfield 32, 3) := by decide +kernel
theorem dModel_fits_51 : decode bModel_fits 51 = .ok (.iload_n 1, 1) := by decide +kernel
theorem dModel_fits_52 : decode bModel_fits 52 = .ok (.iaload, 1) := by decide +kernel
theorem dModel_fits_53 : decode bModel_fits 53 = .ok (.aload_n 0, 1) := by decide +kernel
theorem dModel_fits_54 : decode bModel_fits 54 = .ok (.getfield 63, 3) := by decide +kernel
theorem dModel_fits_57 : decode bModel_fits 57 = .ok (.iload_n 2, 1) := by decide +kernel
theorem dModel_fits_58 : decode bModel_fits 58 = .ok (.iaload, 1) := by decide +kernel
theorem dModel_fits_59 : decode bModel_fits 59 = .ok (.if_icmp .eq 5, 3) := by decide +kernel
theorem dModel_fits_62 : decode bModel_fits 62 = .ok (.iconst 4, 1) := by decide +kernel
theorem dModel_fits_63 : decode bModel_fits 63 = .ok (.ireturn, 1) := by decide +kernel
theorem dModel_fits_64 : decode bModel_fits 64 = .ok (.aload_n 0, 1) := by decide +kernel
theorem dModel_fits_65 : decode bModel_fits 65 = .ok (.getfield 29, 3) := by decide +kernel
theorem dModel_fits_68 : decode bModel_fits 68 = .ok (.iload_n 1, 1) := by decide +kernel
theorem dModel_fits_69 : decode bModel_fits 69 = .ok (.iaload, 1) := by decide +kernel
theorem dModel_fits_70 : decode bModel_fits 70 = .ok (.iconst 2, 1) := by decide +kernel
theorem dModel_fits_71 : decode bModel_fits 71 = .ok (.if_icmp .ne 51, 3) := by decide +kernel
theorem dModel_fits_74 : decode bModel_fits 74 = .ok (.aload_n 0, 1) := by decide +kernel
theorem dModel_fits_75 : decode bModel_fits 75 = .ok (.getfield 35, 3) := by decide +kernel
theorem dModel_fits_78 : decode bModel_fits 78 = .ok (.iload_n 1, 1) := by decide +kernel
theorem dModel_fits_79 : decode bModel_fits 79 = .ok (.baload, 1) := by decide +kernel
theorem dModel_fits_80 : decode bModel_fits 80 = .ok (.ifCond .eq 42, 3) := by decide +kernel
theorem dModel_fits_83 : decode bModel_fits 83 = .ok (.aload_n 0, 1) := by decide +kernel
theorem dModel_fits_84 : decode bModel_fits 84 = .ok (.getfield 42, 3) := by decide +kernel
theorem dModel_fits_87 : decode bModel_fits 87 = .ok (.iload_n 1, 1) := by decide +kernel
theorem dModel_fits_88 : decode bModel_fits 88 = .ok (.laload, 1) := by decide +kernel
theorem dModel_fits_89 : decode bModel_fits 89 = .ok (.aload_n 0, 1) := by decide +kernel
theorem dModel_fits_90 : decode bModel_fits 90 = .ok (.getfield 57, 3) := by decide +kernel
theorem dModel_fits_93 : decode bModel_fits 93 = .ok (.iload_n 2, 1) := by decide +kernel
theorem dModel_fits_94 : decode bModel_fits 94 = .ok (.iaload, 1) := by decide +kernel
theorem dModel_fits_95 : decode bModel_fits 95 = .ok (.i2l, 1) := by decide +kernel
theorem dModel_fits_96 : decode bModel_fits 96 = .ok (.lcmp, 1) := by decide +kernel
theorem dModel_fits_97 : decode bModel_fits 97 = .ok (.ifCond .lt 20, 3) := by decide +kernel
theorem dModel_fits_100 : decode bModel_fits 100 = .ok (.aload_n 0, 1) := by decide +kernel
theorem dModel_fits_101 : decode bModel_fits 101 = .ok (.getfield 42, 3) := by decide +kernel
theorem dModel_fits_104 : decode bModel_fits 104 = .ok (.iload_n 1, 1) := by decide +kernel
theorem dModel_fits_105 : decode bModel_fits 105 = .ok (.laload, 1) := by decide +kernel
theorem dModel_fits_106 : decode bModel_fits 106 = .ok (.aload_n 0, 1) := by decide +kernel
theorem dModel_fits_107 : decode bModel_fits 107 = .ok (.getfield 60, 3) := by decide +kernel
theorem dModel_fits_110 : decode bModel_fits 110 = .ok (.iload_n 2, 1) := by decide +kernel
theorem dModel_fits_111 : decode bModel_fits 111 = .ok (.iaload, 1) := by decide +kernel
theorem dModel_fits_112 : decode bModel_fits 112 = .ok (.i2l, 1) := by decide +kernel
theorem dModel_fits_113 : decode bModel_fits 113 = .ok (.lcmp, 1) := by decide +kernel
theorem dModel_fits_114 : decode bModel_fits 114 = .ok (.ifCond .le 8, 3) := by decide +kernel
theorem dModel_fits_117 : decode bModel_fits 117 = .ok (.bipush 8, 2) := by decide +kernel
theorem dModel_fits_119 : decode bModel_fits 119 = .ok (.goto 4, 3) := by decide +kernel
theorem dModel_fits_122 : decode bModel_fits 122 = .ok (.iconst 0, 1) := by decide +kernel
theorem dModel_fits_123 : decode bModel_fits 123 = .ok (.ireturn, 1) := by decide +kernel
theorem dModel_declare_0 : decode bModel_declare 0 = .ok (.aload_n 0, 1) := by decide +kernel
theorem dModel_declare_1 : decode bModel_declare 1 = .ok (.aload_n 0, 1) := by decide +kernel
theorem dModel_declare_2 : decode bModel_declare 2 = .ok (.iload_n 3, 1) := by decide +kernel
theorem dModel_declare_3 : decode bModel_declare 3 = .ok (.invokevirtual 288, 3) := by decide +kernel
theorem dModel_declare_6 : decode bModel_declare 6 = .ok (.ifCond .ne 16, 3) := by decide +kernel
theorem dModel_declare_9 : decode bModel_declare 9 = .ok (.iload_n 1, 1) := by decide +kernel
theorem dModel_declare_10 : decode bModel_declare 10 = .ok (.ifCond .ne 16, 3) := by decide +kernel
theorem dModel_declare_13 : decode bModel_declare 13 = .ok (.aload_n 0, 1) := by decide +kernel
theorem dModel_declare_14 : decode bModel_declare 14 = .ok (.iload 4, 2) := by decide +kernel
theorem dModel_declare_16 : decode bModel_declare 16 = .ok (.invokevirtual 266, 3) := by decide +kernel
theorem dModel_declare_19 : decode bModel_declare 19 = .ok (.ifCond .eq 7, 3) := by decide +kernel
theorem dModel_declare_22 : decode bModel_declare 22 = .ok (.iconst 1, 1) := by decide +kernel
theorem dModel_declare_23 : decode bModel_declare 23 = .ok (.goto 24, 3) := by decide +kernel
theorem dModel_declare_26 : decode bModel_declare 26 = .ok (.iload_n 1, 1) := by decide +kernel
theorem dModel_declare_27 : decode bModel_declare 27 = .ok (.ifCond .lt 15, 3) := by decide +kernel
theorem dModel_declare_30 : decode bModel_declare 30 = .ok (.iload_n 1, 1) := by decide +kernel
theorem dModel_declare_31 : decode bModel_declare 31 = .ok (.iconst 2, 1) := by decide +kernel
theorem dModel_declare_32 : decode bModel_declare 32 = .ok (.if_icmp .gt 10, 3) := by decide +kernel
theorem dModel_declare_35 : decode bModel_declare 35 = .ok (.iload_n 2, 1) := by decide +kernel
theorem dModel_declare_36 : decode bModel_declare 36 = .ok (.invokestatic 111, 3) := by decide +kernel
theorem dModel_declare_39 : decode bModel_declare 39 = .ok (.ifCond .ne 7, 3) := by decide +kernel
theorem dModel_declare_42 : decode bModel_declare 42 = .ok (.iconst 2, 1) := by decide +kernel
theorem dModel_declare_43 : decode bModel_declare 43 = .ok (.goto 4, 3) := by decide +kernel
theorem dModel_declare_46 : decode bModel_declare 46 = .ok (.iconst 0, 1) := by decide +kernel
theorem dModel_declare_47 : decode bModel_declare 47 = .ok (.putfield 99, 3) := by decide +kernel
theorem dModel_declare_50 : decode bModel_declare 50 = .ok (.aload_n 0, 1) := by decide +kernel
theorem dModel_declare_51 : decode bModel_declare 51 = .ok (.getfield 99, 3) := by decide +kernel
theorem dModel_declare_54 : decode bModel_declare 54 = .ok (.ifCond .le 5, 3) := by decide +kernel
theorem dModel_declare_57 : decode bModel_declare 57 = .ok (.iconst 0, 1) := by decide +kernel
theorem dModel_declare_58 : decode bModel_declare 58 = .ok (.ireturn, 1) := by decide +kernel
theorem dModel_declare_59 : decode bModel_declare 59 = .ok (.aload_n 0, 1) := by decide +kernel
theorem dModel_declare_60 : decode bModel_declare 60 = .ok (.getfield 9, 3) := by decide +kernel
theorem dModel_declare_63 : decode bModel_declare 63 = .ok (.istore 5, 2) := by decide +kernel
theorem dModel_declare_65 : decode bModel_declare 65 = .ok (.iload_n 1, 1) := by decide +kernel
theorem dModel_declare_66 : decode bModel_declare 66 = .ok (.ifCond .ne 75, 3) := by decide +kernel
theorem dModel_declare_69 : decode bModel_declare 69 = .ok (.aload_n 0, 1) := by decide +kernel
theorem dModel_declare_70 : decode bModel_declare 70 = .ok (.aload_n 0, 1) := by decide +kernel
theorem dModel_declare_71 : decode bModel_declare 71 = .ok (.getfield 23, 3) := by decide +kernel
theorem dModel_declare_74 : decode bModel_declare 74 = .ok (.iload 4, 2) := by decide +kernel
theorem dModel_declare_76 : decode bModel_declare 76 = .ok (.iaload, 1) := by decide +kernel
theorem dModel_declare_77 : decode bModel_declare 77 = .ok (.iload 4, 2) := by decide +kernel
theorem dModel_declare_79 : decode bModel_declare 79 = .ok (.invokevirtual 269, 3) := by decide +kernel
theorem dModel_declare_82 : decode bModel_declare 82 = .ok (.istore 6, 2) := by decide +kernel
theorem dModel_declare_84 : decode bModel_declare 84 = .ok (.iload 6, 2) := by decide +kernel
theorem dModel_declare_86 : decode bModel_declare 86 = .ok (.ifCond .le 7, 3) := by decide +kernel
theorem dModel_declare_89 : decode bModel_declare 89 = .ok (.iload 6, 2) := by decide +kernel
theorem dModel_declare_91 : decode bModel_declare 91 = .ok (.ineg, 1) := by decide +kernel
theorem dModel_declare_92 : decode bModel_declare 92 = .ok (.ireturn, 1) := by decide +kernel
theorem dModel_declare_93 : decode bModel_declare 93 = .ok (.aload_n 0, 1) := by decide +kernel
theorem dModel_declare_94 : decode bModel_declare 94 = .ok (.iload 4, 2) := by decide +kernel
theorem dModel_declare_96 : decode bModel_declare 96 = .ok (.iload_n 3, 1) := by decide +kernel
theorem dModel_declare_97 : decode bModel_declare 97 = .ok (.invokevirtual 291, 3) := by decide +kernel
theorem dModel_declare_100 : decode bModel_declare 100 = .ok (.istore 6, 2) := by decide +kernel
theorem dModel_declare_102 : decode bModel_declare 102 = .ok (.iload 6, 2) := by decide +kernel
theorem dModel_declare_104 : decode bModel_declare 104 = .ok (.iconst 3, 1) := by decide +kernel
theorem dModel_declare_105 : decode bModel_declare 105 = .ok (.if_icmp .eq 22, 3) := by decide +kernel
theorem dModel_declare_108 : decode bModel_declare 108 = .ok (.iload 6, 2) := by decide +kernel
theorem dModel_declare_110 : decode bModel_declare 110 = .ok (.iconst 4, 1) := by decide +kernel
theorem dModel_declare_111 : decode bModel_declare 111 = .ok (.if_icmp .eq 16, 3) := by decide +kernel
theorem dModel_declare_114 : decode bModel_declare 114 = .ok (.aload_n 0, 1) := by decide +kernel
theorem dModel_declare_115 : decode bModel_declare 115 = .ok (.getfield 35, 3) := by decide +kernel
theorem dModel_declare_118 : decode bModel_declare 118 = .ok (.iload 4, 2) := by decide +kernel
theorem dModel_declare_120 : decode bModel_declare 120 = .ok (.baload, 1) := by decide +kernel
theorem dModel_declare_121 : decode bModel_declare 121 = .ok (.ifCond .ne 6, 3) := by decide +kernel
theorem dModel_declare_124 : decode bModel_declare 124 = .ok (.iconst 5, 1) := by decide +kernel
theorem dModel_declare_125 : decode bModel_declare 125 = .ok (.istore 6, 2) := by decide +kernel
theorem dModel_declare_127 : decode bModel_declare 127 = .ok (.iload 6, 2) := by decide +kernel
theorem dModel_declare_129 : decode bModel_declare 129 = .ok (.ifCond .le 12, 3) := by decide +kernel
theorem dModel_declare_132 : decode bModel_declare 132 = .ok (.aload_n 0, 1) := by decide +kernel
theorem dModel_declare_133 : decode bModel_declare 133 = .ok (.iload 4, 2) := by decide +kernel
theorem dModel_declare_135 : decode bModel_declare 135 = .ok (.iload 6, 2) := by decide +kernel
theorem dModel_declare_137 : decode bModel_declare 137 = .ok (.invokevirtual 272, 3) := by decide +kernel
theorem dModel_declare_140 : decode bModel_declare 140 = .ok (.ireturn, 1) := by decide +kernel
theorem dModel_declare_141 : decode bModel_declare 141 = .ok (.aload_n 0, 1) := by decide +kernel
theorem dModel_declare_142 : decode bModel_declare 142 = .ok (.iload_n 2, 1) := by decide +kernel
theorem dModel_declare_143 : decode bModel_declare 143 = .ok (.invokevirtual 281, 3) := by decide +kernel
theorem dModel_declare_146 : decode bModel_declare 146 = .ok (.ifCond .eq 11, 3) := by decide +kernel
theorem dModel_declare_149 : decode bModel_declare 149 = .ok (.aload_n 0, 1) := by decide +kernel
theorem dModel_declare_150 : decode bModel_declare 150 = .ok (.iconst (-1), 1) := by decide +kernel
theorem dModel_declare_151 : decode bModel_declare 151 = .ok (.bipush 7, 2) := by decide +kernel
theorem dModel_declare_153 : decode bModel_declare 153 = .ok (.invokevirtual 272, 3) := by decide +kernel
theorem dModel_declare_156 : decode bModel_declare 156 = .ok (.ireturn, 1) := by decide +kernel
theorem dModel_declare_157 : decode bModel_declare 157 = .ok (.aload_n 0, 1) := by decide +kernel
theorem dModel_declare_158 : decode bModel_declare 158 = .ok (.getfield 294, 3) := by decide +kernel
theorem dModel_declare_161 : decode bModel_declare 161 = .ok (.sipush 2000, 3) := by decide +kernel
theorem dModel_declare_164 : decode bModel_declare 164 = .ok (.if_icmp .eq 13, 3) := by decide +kernel
theorem dModel_declare_167 : decode bModel_declare 167 = .ok (.aload_n 0, 1) := by decide +kernel
theorem dModel_declare_168 : decode bModel_declare 168 = .ok (.getfield 115, 3) := by decide +kernel
theorem dModel_declare_171 : decode bModel_declare 171 = .ok (.sipush 3000, 3) := by decide +kernel
theorem dModel_declare_174 : decode bModel_declare 174 = .ok (.if_icmp .ne 16, 3) := by decide +kernel
theorem dModel_declare_177 : decode bModel_declare 177 = .ok (.aload_n 0, 1) := by decide +kernel
theorem dModel_declare_178 : decode bModel_declare 178 = .ok (.iconst 3, 1) := by decide +kernel
theorem dModel_declare_179 : decode bModel_declare 179 = .ok (.putfield 99, 3) := by decide +kernel
theorem dModel_declare_182 : decode bModel_declare 182 = .ok (.aload_n 0, 1) := by decide +kernel
theorem dModel_declare_183 : decode bModel_declare 183 = .ok (.iload 5, 2) := by decide +kernel
theorem dModel_declare_185 : decode bModel_declare 185 = .ok (.putfield 9, 3) := by decide +kernel
theorem dModel_declare_188 : decode bModel_declare 188 = .ok (.iconst 0, 1) := by decide +kernel
theorem dModel_declare_189 : decode bModel_declare 189 = .ok (.ireturn, 1) := by decide +kernel
theorem dModel_declare_190 : decode bModel_declare 190 = .ok (.aload_n 0, 1) := by decide +kernel
theorem dModel_declare_191 : decode bModel_declare 191 = .ok (.iconst (-1), 1) := by decide +kernel
theorem dModel_declare_192 : decode bModel_declare 192 = .ok (.putfield 9, 3) := by decide +kernel
theorem dModel_declare_195 : decode bModel_declare 195 = .ok (.aload_n 0, 1) := by decide +kernel
theorem dModel_declare_196 : decode bModel_declare 196 = .ok (.getfield 69, 3) := by decide +kernel
theorem dModel_declare_199 : decode bModel_declare 199 = .ok (.aload_n 0, 1) := by decide +kernel
theorem dModel_declare_200 : decode bModel_declare 200 = .ok (.getfield 294, 3) := by decide +kernel
theorem dModel_declare_203 : decode bModel_declare 203 = .ok (.iload_n 1, 1) := by decide +kernel
theorem dModel_declare_204 : decode bModel_declare 204 = .ok (.iastore, 1) := by decide +kernel
theorem dModel_declare_205 : decode bModel_declare 205 = .ok (.aload_n 0, 1) := by decide +kernel
theorem dModel_declare_206 : decode bModel_declare 206 = .ok (.getfield 72, 3) := by decide +kernel
theorem dModel_declare_209 : decode bModel_declare 209 = .ok (.aload_n 0, 1) := by decide +kernel
theorem dModel_declare_210 : decode bModel_declare 210 = .ok (.getfield 294, 3) := by decide +kernel
theorem dModel_declare_213 : decode bModel_declare 213 = .ok (.iload_n 3, 1) := by decide +kernel
theorem dModel_declare_214 : decode bModel_declare 214 = .ok (.iastore, 1) := by decide +kernel
theorem dModel_declare_215 : decode bModel_declare 215 = .ok (.iload_n 1, 1) := by decide +kernel
theorem dModel_declare_216 : decode bModel_declare 216 = .ok (.ifCond .ne 30, 3) := by decide +kernel
theorem dModel_declare_219 : decode bModel_declare 219 = .ok (.aload_n 0, 1) := by decide +kernel
theorem dModel_declare_220 : decode bModel_declare 220 = .ok (.iload 4, 2) := by decide +kernel
theorem dModel_declare_222 : decode bModel_declare 222 = .ok (.sipush 8000, 3) := by decide +kernel
theorem dModel_declare_225 : decode bModel_declare 225 = .ok (.aload_n 0, 1) := by decide +kernel
theorem dModel_declare_226 : decode bModel_declare 226 = .ok (.getfield 294, 3) := by decide +kernel
theorem dModel_declare_229 : decode bModel_declare 229 = .ok (.iadd, 1) := by decide +kernel
theorem dModel_declare_230 : decode bModel_declare 230 = .ok (.invokevirtual 177, 3) := by decide +kernel
theorem dModel_declare_233 : decode bModel_declare 233 = .ok (.aload_n 0, 1) := by decide +kernel
theorem dModel_declare_234 : decode bModel_declare 234 = .ok (.aload_n 0, 1) := by decide +kernel
theorem dModel_declare_235 : decode bModel_declare 235 = .ok (.getfield 23, 3) := by decide +kernel
theorem dModel_declare_238 : decode bModel_declare 238 = .ok (.iload 4, 2) := by decide +kernel
theorem dModel_declare_240 : decode bModel_declare 240 = .ok (.iaload, 1) := by decide +kernel
theorem dModel_declare_241 : decode bModel_declare 241 = .ok (.iload 4, 2) := by decide +kernel
theorem dModel_declare_243 : decode bModel_declare 243 = .ok (.invokevirtual 278, 3) := by decide +kernel
theorem dModel_declare_246 : decode bModel_declare 246 = .ok (.aload_n 0, 1) := by decide +kernel
theorem dModel_declare_247 : decode bModel_declare 247 = .ok (.iload_n 2, 1) := by decide +kernel
theorem dModel_declare_248 : decode bModel_declare 248 = .ok (.iconst 1, 1) := by decide +kernel
theorem dModel_declare_249 : decode bModel_declare 249 = .ok (.aload_n 0, 1) := by decide +kernel
theorem dModel_declare_250 : decode bModel_declare 250 = .ok (.getfield 294, 3) := by decide +kernel
theorem dModel_declare_253 : decode bModel_declare 253 = .ok (.iconst 0, 1) := by decide +kernel
theorem dModel_declare_254 : decode bModel_declare 254 = .ok (.invokevirtual 284, 3) := by decide +kernel
theorem dModel_declare_257 : decode bModel_declare 257 = .ok (.aload_n 0, 1) := by decide +kernel
theorem dModel_declare_258 : decode bModel_declare 258 = .ok (.dup, 1) := by decide +kernel
theorem dModel_declare_259 : decode bModel_declare 259 = .ok (.getfield 294, 3) := by decide +kernel
theorem dModel_declare_262 : decode bModel_declare 262 = .ok (.iconst 1, 1) := by decide +kernel
theorem dModel_declare_263 : decode bModel_declare 263 = .ok (.iadd, 1) := by decide +kernel
theorem dModel_declare_264 : decode bModel_declare 264 = .ok (.putfield 294, 3) := by decide +kernel
theorem dModel_declare_267 : decode bModel_declare 267 = .ok (.aload_n 0, 1) := by decide +kernel
theorem dModel_declare_268 : decode bModel_declare 268 = .ok (.getfield 294, 3) := by decide +kernel
theorem dModel_declare_271 : decode bModel_declare 271 = .ok (.iconst 1, 1) := by decide +kernel
theorem dModel_declare_272 : decode bModel_declare 272 = .ok (.isub, 1) := by decide +kernel
theorem dModel_declare_273 : decode bModel_declare 273 = .ok (.ireturn, 1) := by decide +kernel
theorem dModel_check_0 : decode bModel_check 0 = .ok (.aload_n 0, 1) := by decide +kernel
theorem dModel_check_1 : decode bModel_check 1 = .ok (.aload_n 0, 1) := by decide +kernel
theorem dModel_check_2 : decode bModel_check 2 = .ok (.iload_n 1, 1) := by decide +kernel
theorem dModel_check_3 : decode bModel_check 3 = .ok (.invokevirtual 266, 3) := by decide +kernel
theorem dModel_check_6 : decode bModel_check 6 = .ok (.ifCond .ne 16, 3) := by decide +kernel
theorem dModel_check_9 : decode bModel_check 9 = .ok (.iload_n 2, 1) := by decide +kernel
theorem dModel_check_10 : decode bModel_check 10 = .ok (.iconst (-1), 1) := by decide +kernel
theorem dModel_check_11 : decode bModel_check 11 = .ok (.if_icmp .eq 15, 3) := by decide +kernel
theorem dModel_check_14 : decode bModel_check 14 = .ok (.aload_n 0, 1) := by decide +kernel
theorem dModel_check_15 : decode bModel_check 15 = .ok (.iload_n 2, 1) := by decide +kernel
theorem dModel_check_16 : decode bModel_check 16 = .ok (.invokevirtual 288, 3) := by decide +kernel
theorem dModel_check_19 : decode bModel_check 19 = .ok (.ifCond .eq 7, 3) := by decide +kernel
theorem dModel_check_22 : decode bModel_check 22 = .ok (.iconst 1, 1) := by decide +kernel
theorem dModel_check_23 : decode bModel_check 23 = .ok (.goto 4, 3) := by decide +kernel
theorem dModel_check_26 : decode bModel_check 26 = .ok (.iconst 0, 1) := by decide +kernel
theorem dModel_check_27 : decode bModel_check 27 = .ok (.putfield 99, 3) := by decide +kernel
theorem dModel_check_30 : decode bModel_check 30 = .ok (.aload_n 0, 1) := by decide +kernel
theorem dModel_check_31 : decode bModel_check 31 = .ok (.getfield 99, 3) := by decide +kernel
theorem dModel_check_34 : decode bModel_check 34 = .ok (.ifCond .le 5, 3) := by decide +kernel
theorem dModel_check_37 : decode bModel_check 37 = .ok (.iconst 0, 1) := by decide +kernel
theorem dModel_check_38 : decode bModel_check 38 = .ok (.ireturn, 1) := by decide +kernel
theorem dModel_check_39 : decode bModel_check 39 = .ok (.aload_n 0, 1) := by decide +kernel
theorem dModel_check_40 : decode bModel_check 40 = .ok (.aload_n 0, 1) := by decide +kernel
theorem dModel_check_41 : decode bModel_check 41 = .ok (.getfield 23, 3) := by decide +kernel
theorem dModel_check_44 : decode bModel_check 44 = .ok (.iload_n 1, 1) := by decide +kernel
theorem dModel_check_45 : decode bModel_check 45 = .ok (.iaload, 1) := by decide +kernel
theorem dModel_check_46 : decode bModel_check 46 = .ok (.iload_n 1, 1) := by decide +kernel
theorem dModel_check_47 : decode bModel_check 47 = .ok (.invokevirtual 269, 3) := by decide +kernel
theorem dModel_check_50 : decode bModel_check 50 = .ok (.istore_n 3, 1) := by decide +kernel
theorem dModel_check_51 : decode bModel_check 51 = .ok (.iload_n 3, 1) := by decide +kernel
theorem dModel_check_52 : decode bModel_check 52 = .ok (.ifCond .le 6, 3) := by decide +kernel
theorem dModel_check_55 : decode bModel_check 55 = .ok (.iload_n 3, 1) := by decide +kernel
theorem dModel_check_56 : decode bModel_check 56 = .ok (.ineg, 1) := by decide +kernel
theorem dModel_check_57 : decode bModel_check 57 = .ok (.ireturn, 1) := by decide +kernel
theorem dModel_check_58 : decode bModel_check 58 = .ok (.iload_n 2, 1) := by decide +kernel
theorem dModel_check_59 : decode bModel_check 59 = .ok (.iconst (-1), 1) := by decide +kernel
theorem dModel_check_60 : decode bModel_check 60 = .ok (.if_icmp .ne 7, 3) := by decide +kernel
theorem dModel_check_63 : decode bModel_check 63 = .ok (.iconst 0, 1) := by decide +kernel
theorem dModel_check_64 : decode bModel_check 64 = .ok (.goto 9, 3) := by decide +kernel
theorem dModel_check_67 : decode bModel_check 67 = .ok (.aload_n 0, 1) := by decide +kernel
theorem dModel_check_68 : decode bModel_check 68 = .ok (.iload_n 1, 1) := by decide +kernel
theorem dModel_check_69 : decode bModel_check 69 = .ok (.iload_n 2, 1) := by decide +kernel
theorem dModel_check_70 : decode bModel_check 70 = .ok (.invokevirtual 291, 3) := by decide +kernel
theorem dModel_check_73 : decode bModel_check 73 = .ok (.istore_n 3, 1) := by decide +kernel
theorem dModel_check_74 : decode bModel_check 74 = .ok (.iload_n 3, 1) := by decide +kernel
theorem dModel_check_75 : decode bModel_check 75 = .ok (.ifCond .le 10, 3) := by decide +kernel
theorem dModel_check_78 : decode bModel_check 78 = .ok (.aload_n 0, 1) := by decide +kernel
theorem dModel_check_79 : decode bModel_check 79 = .ok (.iload_n 1, 1) := by decide +kernel
theorem dModel_check_80 : decode bModel_check 80 = .ok (.iload_n 3, 1) := by decide +kernel
theorem dModel_check_81 : decode bModel_check 81 = .ok (.invokevirtual 272, 3) := by decide +kernel
theorem dModel_check_84 : decode bModel_check 84 = .ok (.ireturn, 1) := by decide +kernel
theorem dModel_check_85 : decode bModel_check 85 = .ok (.aload_n 0, 1) := by decide +kernel
theorem dModel_check_86 : decode bModel_check 86 = .ok (.aload_n 0, 1) := by decide +kernel
theorem dModel_check_87 : decode bModel_check 87 = .ok (.getfield 23, 3) := by decide +kernel
theorem dModel_check_90 : decode bModel_check 90 = .ok (.iload_n 1, 1) := by decide +kernel
theorem dModel_check_91 : decode bModel_check 91 = .ok (.iaload, 1) := by decide +kernel
theorem dModel_check_92 : decode bModel_check 92 = .ok (.iload_n 1, 1) := by decide +kernel
theorem dModel_check_93 : decode bModel_check 93 = .ok (.invokevirtual 278, 3) := by decide +kernel
theorem dModel_check_96 : decode bModel_check 96 = .ok (.iconst 0, 1) := by decide +kernel
theorem dModel_check_97 : decode bModel_check 97 = .ok (.ireturn, 1) := by decide +kernel
theorem dModel_place_0 : decode bModel_place 0 = .ok (.aload_n 0, 1) := by decide +kernel
theorem dModel_place_1 : decode bModel_place 1 = .ok (.iconst 0, 1) := by decide +kernel
theorem dModel_place_2 : decode bModel_place 2 = .ok (.putfield 99, 3) := by decide +kernel
theorem dModel_place_5 : decode bModel_place 5 = .ok (.aload_n 0, 1) := by decide +kernel
theorem dModel_place_6 : decode bModel_place 6 = .ok (.getfield 9, 3) := by decide +kernel
theorem dModel_place_9 : decode bModel_place 9 = .ok (.ireturn, 1) := by decide +kernel
theorem dModel_typeOf_0 : decode bModel_typeOf 0 = .ok (.aload_n 0, 1) := by decide +kernel
theorem dModel_typeOf_1 : decode bModel_typeOf 1 = .ok (.aload_n 0, 1) := by decide +kernel
theorem dModel_typeOf_2 : decode bModel_typeOf 2 = .ok (.iload_n 1, 1) := by decide +kernel
theorem dModel_typeOf_3 : decode bModel_typeOf 3 = .ok (.invokevirtual 288, 3) := by decide +kernel
theorem dModel_typeOf_6 : decode bModel_typeOf 6 = .ok (.ifCond .ne 12, 3) := by decide +kernel
theorem dModel_typeOf_9 : decode bModel_typeOf 9 = .ok (.iload_n 2, 1) := by decide +kernel
theorem dModel_typeOf_10 : decode bModel_typeOf 10 = .ok (.ifCond .lt 8, 3) := by decide +kernel
theorem dModel_typeOf_13 : decode bModel_typeOf 13 = .ok (.iload_n 2, 1) := by decide +kernel
theorem dModel_typeOf_14 : decode bModel_typeOf 14 = .ok (.iconst 4, 1) := by decide +kernel
theorem dModel_typeOf_15 : decode bModel_typeOf 15 = .ok (.if_icmp .le 7, 3) := by decide +kernel
theorem dModel_typeOf_18 : decode bModel_typeOf 18 = .ok (.iconst 1, 1) := by decide +kernel
theorem dModel_typeOf_19 : decode bModel_typeOf 19 = .ok (.goto 4, 3) := by decide +kernel
theorem dModel_typeOf_22 : decode bModel_typeOf 22 = .ok (.iconst 0, 1) := by decide +kernel
theorem dModel_typeOf_23 : decode bModel_typeOf 23 = .ok (.putfield 99, 3) := by decide +kernel
theorem dModel_typeOf_26 : decode bModel_typeOf 26 = .ok (.aload_n 0, 1) := by decide +kernel
theorem dModel_typeOf_27 : decode bModel_typeOf 27 = .ok (.getfield 99, 3) := by decide +kernel
theorem dModel_typeOf_30 : decode bModel_typeOf 30 = .ok (.ifCond .le 5, 3) := by decide +kernel
theorem dModel_typeOf_33 : decode bModel_typeOf 33 = .ok (.iconst 0, 1) := by decide +kernel
theorem dModel_typeOf_34 : decode bModel_typeOf 34 = .ok (.ireturn, 1) := by decide +kernel
theorem dModel_typeOf_35 : decode bModel_typeOf 35 = .ok (.iload_n 2, 1) := by decide +kernel
theorem dModel_typeOf_36 : decode bModel_typeOf 36 = .ok (.ifCond .ne 12, 3) := by decide +kernel
theorem dModel_typeOf_39 : decode bModel_typeOf 39 = .ok (.aload_n 0, 1) := by decide +kernel
theorem dModel_typeOf_40 : decode bModel_typeOf 40 = .ok (.getfield 54, 3) := by decide +kernel
theorem dModel_typeOf_43 : decode bModel_typeOf 43 = .ok (.iload_n 1, 1) := by decide +kernel
theorem dModel_typeOf_44 : decode bModel_typeOf 44 = .ok (.iaload, 1) := by decide +kernel
theorem dModel_typeOf_45 : decode bModel_typeOf 45 = .ok (.goto 59, 3) := by decide +kernel
theorem dModel_typeOf_48 : decode bModel_typeOf 48 = .ok (.iload_n 2, 1) := by decide +kernel
theorem dModel_typeOf_49 : decode bModel_typeOf 49 = .ok (.iconst 1, 1) := by decide +kernel
theorem dModel_typeOf_50 : decode bModel_typeOf 50 = .ok (.if_icmp .ne 12, 3) := by decide +kernel
theorem dModel_typeOf_53 : decode bModel_typeOf 53 = .ok (.aload_n 0, 1) := by decide +kernel
theorem dModel_typeOf_54 : decode bModel_typeOf 54 = .ok (.getfield 57, 3) := by decide +kernel
theorem dModel_typeOf_57 : decode bModel_typeOf 57 = .ok (.iload_n 1, 1) := by decide +kernel
theorem dModel_typeOf_58 : decode bModel_typeOf 58 = .ok (.iaload, 1) := by decide +kernel
theorem dModel_typeOf_59 : decode bModel_typeOf 59 = .ok (.goto 45, 3) := by decide +kernel
theorem dModel_typeOf_62 : decode bModel_typeOf 62 = .ok (.iload_n 2, 1) := by decide +kernel
theorem dModel_typeOf_63 : decode bModel_typeOf 63 = .ok (.iconst 2, 1) := by decide +kernel
theorem dModel_typeOf_64 : decode bModel_typeOf 64 = .ok (.if_icmp .ne 12, 3) := by decide +kernel
theorem dModel_typeOf_67 : decode bModel_typeOf 67 = .ok (.aload_n 0, 1) := by decide +kernel
theorem dModel_typeOf_68 : decode bModel_typeOf 68 = .ok (.getfield 60, 3) := by decide +kernel
theorem dModel_typeOf_71 : decode bModel_typeOf 71 = .ok (.iload_n 1, 1) := by decide +kernel
theorem dModel_typeOf_72 : decode bModel_typeOf 72 = .ok (.iaload, 1) := by decide +kernel
theorem dModel_typeOf_73 : decode bModel_typeOf 73 = .ok (.goto 31, 3) := by decide +kernel
theorem dModel_typeOf_76 : decode bModel_typeOf 76 = .ok (.iload_n 2, 1) := by decide +kernel
theorem dModel_typeOf_77 : decode bModel_typeOf 77 = .ok (.iconst 3, 1) := by decide +kernel
theorem dModel_typeOf_78 : decode bModel_typeOf 78 = .ok (.if_icmp .ne 12, 3) := by decide +kernel
theorem dModel_typeOf_81 : decode bModel_typeOf 81 = .ok (.aload_n 0, 1) := by decide +kernel
theorem dModel_typeOf_82 : decode bModel_typeOf 82 = .ok (.getfield 63, 3) := by decide +kernel
theorem dModel_typeOf_85 : decode bModel_typeOf 85 = .ok (.iload_n 1, 1) := by decide +kernel
theorem dModel_typeOf_86 : decode bModel_typeOf 86 = .ok (.iaload, 1) := by decide +kernel
theorem dModel_typeOf_87 : decode bModel_typeOf 87 = .ok (.goto 17, 3) := by decide +kernel
theorem dModel_typeOf_90 : decode bModel_typeOf 90 = .ok (.aload_n 0, 1) := by decide +kernel
theorem dModel_typeOf_91 : decode bModel_typeOf 91 = .ok (.getfield 66, 3) := by decide +kernel
theorem dModel_typeOf_94 : decode bModel_typeOf 94 = .ok (.iload_n 1, 1) := by decide +kernel
theorem dModel_typeOf_95 : decode bModel_typeOf 95 = .ok (.baload, 1) := by decide +kernel
theorem dModel_typeOf_96 : decode bModel_typeOf 96 = .ok (.ifCond .eq 7, 3) := by decide +kernel
theorem dModel_typeOf_99 : decode bModel_typeOf 99 = .ok (.iconst 1, 1) := by decide +kernel
theorem dModel_typeOf_100 : decode bModel_typeOf 100 = .ok (.goto 4, 3) := by decide +kernel
theorem dModel_typeOf_103 : decode bModel_typeOf 103 = .ok (.iconst 0, 1) := by decide +kernel
theorem dModel_typeOf_104 : decode bModel_typeOf 104 = .ok (.ireturn, 1) := by decide +kernel
theorem dModel_about_0 : decode bModel_about 0 = .ok (.aload_n 0, 1) := by decide +kernel
theorem dModel_about_1 : decode bModel_about 1 = .ok (.aload_n 0, 1) := by decide +kernel
theorem dModel_about_2 : decode bModel_about 2 = .ok (.iload_n 1, 1) := by decide +kernel
theorem dModel_about_3 : decode bModel_about 3 = .ok (.invokevirtual 266, 3) := by decide +kernel
theorem dModel_about_6 : decode bModel_about 6 = .ok (.ifCond .ne 12, 3) := by decide +kernel
theorem dModel_about_9 : decode bModel_about 9 = .ok (.iload_n 2, 1) := by decide +kernel
theorem dModel_about_10 : decode bModel_about 10 = .ok (.ifCond .lt 8, 3) := by decide +kernel
theorem dModel_about_13 : decode bModel_about 13 = .ok (.iload_n 2, 1) := by decide +kernel
theorem dModel_about_14 : decode bModel_about 14 = .ok (.iconst 3, 1) := by decide +kernel
theorem dModel_about_15 : decode bModel_about 15 = .ok (.if_icmp .le 7, 3) := by decide +kernel
theorem dModel_about_18 : decode bModel_about 18 = .ok (.iconst 1, 1) := by decide +kernel
theorem dModel_about_19 : decode bModel_about 19 = .ok (.goto 4, 3) := by decide +kernel
theorem dModel_about_22 : decode bModel_about 22 = .ok (.iconst 0, 1) := by decide +kernel
theorem dModel_about_23 : decode bModel_about 23 = .ok (.putfield 99, 3) := by decide +kernel
theorem dModel_about_26 : decode bModel_about 26 = .ok (.aload_n 0, 1) := by decide +kernel
theorem dModel_about_27 : decode bModel_about 27 = .ok (.getfield 99, 3) := by decide +kernel
theorem dModel_about_30 : decode bModel_about 30 = .ok (.ifCond .le 5, 3) := by decide +kernel
theorem dModel_about_33 : decode bModel_about 33 = .ok (.iconst 0, 1) := by decide +kernel
theorem dModel_about_34 : decode bModel_about 34 = .ok (.ireturn, 1) := by decide +kernel
theorem dModel_about_35 : decode bModel_about 35 = .ok (.aload_n 0, 1) := by decide +kernel
theorem dModel_about_36 : decode bModel_about 36 = .ok (.getfield 51, 3) := by decide +kernel
theorem dModel_about_39 : decode bModel_about 39 = .ok (.iload_n 1, 1) := by decide +kernel
theorem dModel_about_40 : decode bModel_about 40 = .ok (.baload, 1) := by decide +kernel
theorem dModel_about_41 : decode bModel_about 41 = .ok (.ifCond .ne 5, 3) := by decide +kernel
theorem dModel_about_44 : decode bModel_about 44 = .ok (.iconst (-1), 1) := by decide +kernel
theorem dModel_about_45 : decode bModel_about 45 = .ok (.ireturn, 1) := by decide +kernel
theorem dModel_about_46 : decode bModel_about 46 = .ok (.sipush 4000, 3) := by decide +kernel
theorem dModel_about_49 : decode bModel_about 49 = .ok (.iload_n 1, 1) := by decide +kernel
theorem dModel_about_50 : decode bModel_about 50 = .ok (.iadd, 1) := by decide +kernel
theorem dModel_about_51 : decode bModel_about 51 = .ok (.istore_n 3, 1) := by decide +kernel
theorem dModel_about_52 : decode bModel_about 52 = .ok (.iload_n 2, 1) := by decide +kernel
theorem dModel_about_53 : decode bModel_about 53 = .ok (.ifCond .ne 12, 3) := by decide +kernel
theorem dModel_about_56 : decode bModel_about 56 = .ok (.aload_n 0, 1) := by decide +kernel
theorem dModel_about_57 : decode bModel_about 57 = .ok (.getfield 29, 3) := by decide +kernel
theorem dModel_about_60 : decode bModel_about 60 = .ok (.iload_n 3, 1) := by decide +kernel
theorem dModel_about_61 : decode bModel_about 61 = .ok (.iaload, 1) := by decide +kernel
theorem dModel_about_62 : decode bModel_about 62 = .ok (.goto 45, 3) := by decide +kernel
theorem dModel_about_65 : decode bModel_about 65 = .ok (.iload_n 2, 1) := by decide +kernel
theorem dModel_about_66 : decode bModel_about 66 = .ok (.iconst 1, 1) := by decide +kernel
theorem dModel_about_67 : decode bModel_about 67 = .ok (.if_icmp .ne 12, 3) := by decide +kernel
theorem dModel_about_70 : decode bModel_about 70 = .ok (.aload_n 0, 1) := by decide +kernel
theorem dModel_about_71 : decode bModel_about 71 = .ok (.getfield 32, 3) := by decide +kernel
theorem dModel_about_74 : decode bModel_about 74 = .ok (.iload_n 3, 1) := by decide +kernel
theorem dModel_about_75 : decode bModel_about 75 = .ok (.iaload, 1) := by decide +kernel
theorem dModel_about_76 : decode bModel_about 76 = .ok (.goto 31, 3) := by decide +kernel
theorem dModel_about_79 : decode bModel_about 79 = .ok (.iload_n 2, 1) := by decide +kernel
theorem dModel_about_80 : decode bModel_about 80 = .ok (.iconst 2, 1) := by decide +kernel
theorem dModel_about_81 : decode bModel_about 81 = .ok (.if_icmp .ne 20, 3) := by decide +kernel
theorem dModel_about_84 : decode bModel_about 84 = .ok (.aload_n 0, 1) := by decide +kernel
theorem dModel_about_85 : decode bModel_about 85 = .ok (.getfield 35, 3) := by decide +kernel
theorem dModel_about_88 : decode bModel_about 88 = .ok (.iload_n 3, 1) := by decide +kernel
theorem dModel_about_89 : decode bModel_about 89 = .ok (.baload, 1) := by decide +kernel
theorem dModel_about_90 : decode bModel_about 90 = .ok (.ifCond .eq 7, 3) := by decide +kernel
theorem dModel_about_93 : decode bModel_about 93 = .ok (.iconst 1, 1) := by decide +kernel
theorem dModel_about_94 : decode bModel_about 94 = .ok (.goto 13, 3) := by decide +kernel
theorem dModel_about_97 : decode bModel_about 97 = .ok (.iconst 0, 1) := by decide +kernel
theorem dModel_about_98 : decode bModel_about 98 = .ok (.goto 9, 3) := by decide +kernel
theorem dModel_about_101 : decode bModel_about 101 = .ok (.aload_n 0, 1) := by decide +kernel
theorem dModel_about_102 : decode bModel_about 102 = .ok (.getfield 39, 3) := by decide +kernel
theorem dModel_about_105 : decode bModel_about 105 = .ok (.iload_n 3, 1) := by decide +kernel
theorem dModel_about_106 : decode bModel_about 106 = .ok (.iaload, 1) := by decide +kernel
theorem dModel_about_107 : decode bModel_about 107 = .ok (.ireturn, 1) := by decide +kernel
theorem dModel_value_0 : decode bModel_value 0 = .ok (.aload_n 0, 1) := by decide +kernel
theorem dModel_value_1 : decode bModel_value 1 = .ok (.aload_n 0, 1) := by decide +kernel
theorem dModel_value_2 : decode bModel_value 2 = .ok (.iload_n 1, 1) := by decide +kernel
theorem dModel_value_3 : decode bModel_value 3 = .ok (.invokevirtual 266, 3) := by decide +kernel
theorem dModel_value_6 : decode bModel_value 6 = .ok (.ifCond .eq 7, 3) := by decide +kernel
theorem dModel_value_9 : decode bModel_value 9 = .ok (.iconst 1, 1) := by decide +kernel
theorem dModel_value_10 : decode bModel_value 10 = .ok (.goto 4, 3) := by decide +kernel
theorem dModel_value_13 : decode bModel_value 13 = .ok (.iconst 0, 1) := by decide +kernel
theorem dModel_value_14 : decode bModel_value 14 = .ok (.putfield 99, 3) := by decide +kernel
theorem dModel_value_17 : decode bModel_value 17 = .ok (.aload_n 0, 1) := by decide +kernel
theorem dModel_value_18 : decode bModel_value 18 = .ok (.getfield 99, 3) := by decide +kernel
theorem dModel_value_21 : decode bModel_value 21 = .ok (.ifCond .le 5, 3) := by decide +kernel
theorem dModel_value_24 : decode bModel_value 24 = .ok (.iconst 0, 1) := by decide +kernel
theorem dModel_value_25 : decode bModel_value 25 = .ok (.ireturn, 1) := by decide +kernel
theorem dModel_value_26 : decode bModel_value 26 = .ok (.sipush 4000, 3) := by decide +kernel
theorem dModel_value_29 : decode bModel_value 29 = .ok (.iload_n 1, 1) := by decide +kernel
theorem dModel_value_30 : decode bModel_value 30 = .ok (.iadd, 1) := by decide +kernel
theorem dModel_value_31 : decode bModel_value 31 = .ok (.istore_n 3, 1) := by decide +kernel
theorem dModel_value_32 : decode bModel_value 32 = .ok (.aload_n 0, 1) := by decide +kernel
theorem dModel_value_33 : decode bModel_value 33 = .ok (.getfield 51, 3) := by decide +kernel
theorem dModel_value_36 : decode bModel_value 36 = .ok (.iload_n 1, 1) := by decide +kernel
theorem dModel_value_37 : decode bModel_value 37 = .ok (.baload, 1) := by decide +kernel
theorem dModel_value_38 : decode bModel_value 38 = .ok (.ifCond .eq 17, 3) := by decide +kernel
theorem dModel_value_41 : decode bModel_value 41 = .ok (.aload_n 0, 1) := by decide +kernel
theorem dModel_value_42 : decode bModel_value 42 = .ok (.getfield 29, 3) := by decide +kernel
theorem dModel_value_45 : decode bModel_value 45 = .ok (.iload_n 3, 1) := by decide +kernel
theorem dModel_value_46 : decode bModel_value 46 = .ok (.iaload, 1) := by decide +kernel
theorem dModel_value_47 : decode bModel_value 47 = .ok (.iconst 3, 1) := by decide +kernel
theorem dModel_value_48 : decode bModel_value 48 = .ok (.if_icmp .ne 7, 3) := by decide +kernel
theorem dModel_value_51 : decode bModel_value 51 = .ok (.iconst 1, 1) := by decide +kernel
theorem dModel_value_52 : decode bModel_value 52 = .ok (.goto 4, 3) := by decide +kernel
theorem dModel_value_55 : decode bModel_value 55 = .ok (.iconst 0, 1) := by decide +kernel
theorem dModel_value_56 : decode bModel_value 56 = .ok (.istore 4, 2) := by decide +kernel
theorem dModel_value_58 : decode bModel_value 58 = .ok (.aload_n 0, 1) := by decide +kernel
theorem dModel_value_59 : decode bModel_value 59 = .ok (.iload 4, 2) := by decide +kernel
theorem dModel_value_61 : decode bModel_value 61 = .ok (.ifCond .eq 21, 3) := by decide +kernel
theorem dModel_value_64 : decode bModel_value 64 = .ok (.iload_n 2, 1) := by decide +kernel
theorem dModel_value_65 : decode bModel_value 65 = .ok (.ifCond .lt 13, 3) := by decide +kernel
theorem dModel_value_68 : decode bModel_value 68 = .ok (.iload_n 2, 1) := by decide +kernel
theorem dModel_value_69 : decode bModel_value 69 = .ok (.aload_n 0, 1) := by decide +kernel
theorem dModel_value_70 : decode bModel_value 70 = .ok (.getfield 32, 3) := by decide +kernel
theorem dModel_value_73 : decode bModel_value 73 = .ok (.iload_n 3, 1) := by decide +kernel
theorem dModel_value_74 : decode bModel_value 74 = .ok (.iaload, 1) := by decide +kernel
theorem dModel_value_75 : decode bModel_value 75 = .ok (.if_icmp .lt 7, 3) := by decide +kernel
theorem dModel_value_78 : decode bModel_value 78 = .ok (.iconst 1, 1) := by decide +kernel
theorem dModel_value_79 : decode bModel_value 79 = .ok (.goto 26, 3) := by decide +kernel
theorem dModel_value_82 : decode bModel_value 82 = .ok (.aload_n 0, 1) := by decide +kernel
theorem dModel_value_83 : decode bModel_value 83 = .ok (.getfield 51, 3) := by decide +kernel
theorem dModel_value_86 : decode bModel_value 86 = .ok (.iload_n 1, 1) := by decide +kernel
theorem dModel_value_87 : decode bModel_value 87 = .ok (.baload, 1) := by decide +kernel
theorem dModel_value_88 : decode bModel_value 88 = .ok (.ifCond .eq 12, 3) := by decide +kernel
theorem dModel_value_91 : decode bModel_value 91 = .ok (.aload_n 0, 1) := by decide +kernel
theorem dModel_value_92 : decode bModel_value 92 = .ok (.getfield 35, 3) := by decide +kernel
theorem dModel_value_95 : decode bModel_value 95 = .ok (.iload_n 3, 1) := by decide +kernel
theorem dModel_value_96 : decode bModel_value 96 = .ok (.baload, 1) := by decide +kernel
theorem dModel_value_97 : decode bModel_value 97 = .ok (.ifCond .ne 7, 3) := by decide +kernel
theorem dModel_value_100 : decode bModel_value 100 = .ok (.iconst 2, 1) := by decide +kernel
theorem dModel_value_101 : decode bModel_value 101 = .ok (.goto 4, 3) := by decide +kernel
theorem dModel_value_104 : decode bModel_value 104 = .ok (.iconst 0, 1) := by decide +kernel
theorem dModel_value_105 : decode bModel_value 105 = .ok (.putfield 99, 3) := by decide +kernel
theorem dModel_value_108 : decode bModel_value 108 = .ok (.aload_n 0, 1) := by decide +kernel
theorem dModel_value_109 : decode bModel_value 109 = .ok (.getfield 99, 3) := by decide +kernel
theorem dModel_value_112 : decode bModel_value 112 = .ok (.ifCond .le 5, 3) := by decide +kernel
theorem dModel_value_115 : decode bModel_value 115 = .ok (.iconst 0, 1) := by decide +kernel
theorem dModel_value_116 : decode bModel_value 116 = .ok (.ireturn, 1) := by decide +kernel
theorem dModel_value_117 : decode bModel_value 117 = .ok (.iload 4, 2) := by decide +kernel
theorem dModel_value_119 : decode bModel_value 119 = .ok (.ifCond .eq 12, 3) := by decide +kernel
theorem dModel_value_122 : decode bModel_value 122 = .ok (.aload_n 0, 1) := by decide +kernel
theorem dModel_value_123 : decode bModel_value 123 = .ok (.iload_n 3, 1) := by decide +kernel
theorem dModel_value_124 : decode bModel_value 124 = .ok (.iload_n 2, 1) := by decide +kernel
theorem dModel_value_125 : decode bModel_value 125 = .ok (.invokevirtual 131, 3) := by decide +kernel
theorem dModel_value_128 : decode bModel_value 128 = .ok (.goto 10, 3) := by decide +kernel
theorem dModel_value_131 : decode bModel_value 131 = .ok (.aload_n 0, 1) := by decide +kernel
theorem dModel_value_132 : decode bModel_value 132 = .ok (.getfield 42, 3) := by decide +kernel
theorem dModel_value_135 : decode bModel_value 135 = .ok (.iload_n 3, 1) := by decide +kernel
theorem dModel_value_136 : decode bModel_value 136 = .ok (.laload, 1) := by decide +kernel
theorem dModel_value_137 : decode bModel_value 137 = .ok (.l2i, 1) := by decide +kernel
theorem dModel_value_138 : decode bModel_value 138 = .ok (.ireturn, 1) := by decide +kernel
-- THE REFERENCE's object: its fields by their numbers; V the ints, A the arrays of ints, booleans, bytes, nu the array of longs
def mdS : Nat → Bool
  | 0 => true | 1 => true | 6 => true | 8 => true | 21 => true | 24 => true | 30 => true | 31 => true | 32 => true | 33 => true | 34 => true | _ => false
def mdIx : List Nat := [2, 3, 4, 5, 7, 9, 10, 11, 12, 13, 14, 15, 16, 17, 18, 19, 20, 22, 23, 25, 26, 27, 28, 29]
theorem mdIx_nd : mdIx.Nodup := by decide
def mdN : Nat → Nat
  | 9 => 10000 | 10 => 10000 | 11 => 10000 | 12 => 10000 | 13 => 10000 | 14 => 640000 | 16 => 1000 | 17 => 1000 | 18 => 1000 | 19 => 1000 | 20 => 1000 | 22 => 2000 | 23 => 2000 | 25 => 3000 | 26 => 3000 | 27 => 3000 | 28 => 3000 | 29 => 3000 | _ => 4000
def mdT (γ : gE) : Nat → ClassId
  | 11 => γ.2.2.2 21 | 13 => γ.2.2.1 | 14 => γ.2.2.2 20 | 15 => γ.2.2.2 21 | 20 => γ.2.2.2 21 | _ => γ.2.1
def fsM (V : Nat → Int32) (B : Nat → Nat) : List Value := (List.range 35).map (fun k => if mdS k then .int (V k) else .ref (B k))
def mcell (γ : gE) (B : Nat → Nat) (A : Nat → Nat → Int32) (nu : Nat → Int64) (k : Nat) : Nat × va_E := (B k, .inl (mdT γ k, mdN k, if k = 13 then .inr (.inl nu) else .inl (A k)))
def wsM (γ : gE) (a : Nat) (B : Nat → Nat) (V : Nat → Int32) (A : Nat → Nat → Int32) (nu : Nat → Int64) : va_W := (a, .inr (10, fsM V B)) :: mdIx.map (mcell γ B A nu)
def MDb (γ : gE) (a : Nat) (B : Nat → Nat) (Z : Nat → Prop) (V : Nat → Int32) (A : Nat → Nat → Int32) (nu : Nat → Int64) (H : Heap) : Prop := va_P γ.1 vwCl (wsM γ a B V A nu) H ∧ va_D Z (wsM γ a B V A nu)
theorem fs_get {V : Nat → Int32} {B : Nat → Nat} {k : Nat} (hk : k < 35) : (fsM V B)[k]? = some (if mdS k then .int (V k) else .ref (B k)) := by
  unfold fsM
  rw [List.getElem?_map, List.getElem?_range hk]
  rfl
theorem fs_len {V : Nat → Int32} {B : Nat → Nat} : (fsM V B).length = 35 := by simp [fsM]
theorem fs_set {V : Nat → Int32} {B : Nat → Nat} {k : Nat} {x : Int32} (hk : k < 35) (hs : mdS k = true) : (fsM V B).set k (.int x) = fsM (upd V k x) B := by
  apply List.ext_getElem?
  intro i
  by_cases hi : i < 35
  · rw [fs_get hi, List.getElem?_set]
    by_cases h : k = i
    · subst h
      rw [if_pos rfl, if_pos (by rw [fs_len]; exact hk), hs, pk_us]
      rfl
    · rw [if_neg h, fs_get hi, pk_un (fun e => h e.symm)]
  · rw [List.getElem?_eq_none (by rw [List.length_set, fs_len]; omega), List.getElem?_eq_none (by rw [fs_len]; omega)]
theorem mx_set {β : Type} {l : List Nat} {f f' : Nat → β} {q k : Nat} (hq : l[q]? = some k) (hnd : l.Nodup) (hff : ∀ j, j ≠ k → f' j = f j) : (l.map f).set q (f' k) = l.map f' := by
  apply List.ext_getElem?
  intro i
  rw [List.getElem?_set, List.getElem?_map, List.getElem?_map, List.length_map]
  have hql : q < l.length := (List.getElem?_eq_some_iff.mp hq).1
  by_cases h : q = i
  · subst h
    rw [if_pos rfl, if_pos hql, hq]
    rfl
  · rw [if_neg h]
    cases hi : l[i]? with
    | none => rfl
    | some j =>
      have hne : j ≠ k := by
        intro e
        subst e
        obtain ⟨h1, e1⟩ := List.getElem?_eq_some_iff.mp hq
        obtain ⟨h2, e2⟩ := List.getElem?_eq_some_iff.mp hi
        exact h ((List.getElem_inj hnd).mp (e1.trans e2.symm))
      show some (f j) = some (f' j)
      rw [hff j hne]
def Au (A : Nat → Nat → Int32) (k i : Nat) (x : Int32) : Nat → Nat → Int32 := fun j => if j = k then upd (A k) i x else A j
theorem au_s {A : Nat → Nat → Int32} {k i : Nat} {x : Int32} : Au A k i x k = upd (A k) i x := if_pos rfl
theorem au_n {A : Nat → Nat → Int32} {k i j : Nat} {x : Int32} (h : j ≠ k) : Au A k i x j = A j := if_neg h
theorem ws_put {γ : gE} {a : Nat} {B : Nat → Nat} {V : Nat → Int32} {A : Nat → Nat → Int32} {nu : Nat → Int64} {k : Nat} {x : Int32} (hk : k < 35) (hs : mdS k = true) : (wsM γ a B V A nu).set 0 (a, .inr (10, (fsM V B).set k (.int x))) = wsM γ a B (upd V k x) A nu := by
  rw [fs_set hk hs]
  rfl
theorem ws_get {γ : gE} {a : Nat} {B : Nat → Nat} {V : Nat → Int32} {A : Nat → Nat → Int32} {nu : Nat → Int64} {k q : Nat} (hq : mdIx[q]? = some k) (hk : k ≠ 13) : (wsM γ a B V A nu)[q + 1]? = some (B k, .inl (mdT γ k, mdN k, .inl (A k))) := by
  show (mdIx.map (mcell γ B A nu))[q]? = _
  rw [List.getElem?_map, hq]
  show some (mcell γ B A nu k) = _
  unfold mcell
  rw [if_neg hk]
theorem ws_getL {γ : gE} {a : Nat} {B : Nat → Nat} {V : Nat → Int32} {A : Nat → Nat → Int32} {nu : Nat → Int64} : (wsM γ a B V A nu)[10]? = some (B 13, .inl (γ.2.2.1, 10000, .inr (.inl nu))) := rfl
theorem ws_st {γ : gE} {a : Nat} {B : Nat → Nat} {V : Nat → Int32} {A : Nat → Nat → Int32} {nu : Nat → Int64} {k q i : Nat} {x : Int32} (hq : mdIx[q]? = some k) (hk : k ≠ 13) : (wsM γ a B V A nu).set (q + 1) (B k, .inl (mdT γ k, mdN k, .inl (upd (A k) i x))) = wsM γ a B V (Au A k i x) nu := by
  show _ :: (mdIx.map (mcell γ B A nu)).set q _ = _ :: _
  have h : (B k, Sum.inl (mdT γ k, mdN k, Sum.inl (upd (A k) i x))) = mcell γ B (Au A k i x) nu k := by
    unfold mcell
    rw [if_neg hk, au_s]
  rw [h, mx_set hq mdIx_nd]
  intro j hj
  unfold mcell
  rw [au_n hj]
theorem ws_stL {γ : gE} {a : Nat} {B : Nat → Nat} {V : Nat → Int32} {A : Nat → Nat → Int32} {nu nu' : Nat → Int64} : (wsM γ a B V A nu).set 10 (B 13, .inl (γ.2.2.1, 10000, .inr (.inl nu'))) = wsM γ a B V A nu' := rfl
-- what may change while trees are looked at (σ, F, nu), and what not (ν, τ)
def mdc : Nat → Bool
  | 0 => true | 1 => true | 32 => true | 33 => true | 34 => true | _ => false
def mdq : Nat → Bool
  | 9 => true | 10 => true | 11 => true | 12 => true | 14 => true | 15 => true | _ => false
def mv (ν σ : Nat → Int32) : Nat → Int32 := fun k => if mdc k then σ k else ν k
def ma (τ F : Nat → Nat → Int32) : Nat → Nat → Int32 := fun k => if mdq k then F k else τ k
theorem mv_d {ν σ : Nat → Int32} {k : Nat} {x : Int32} (h : mdc k = true) : upd (mv ν σ) k x = mv ν (upd σ k x) := by
  funext j
  unfold mv upd
  by_cases hj : j = k
  · subst hj
    simp [h]
  · simp [hj]
theorem mv_s {ν σ : Nat → Int32} {k : Nat} {x : Int32} (h : mdc k = false) : upd (mv ν σ) k x = mv (upd ν k x) σ := by
  funext j
  unfold mv upd
  by_cases hj : j = k
  · subst hj
    simp [h]
  · simp [hj]
theorem ma_d {τ F : Nat → Nat → Int32} {k i : Nat} {x : Int32} (h : mdq k = true) : Au (ma τ F) k i x = ma τ (Au F k i x) := by
  funext j
  unfold ma Au
  by_cases hj : j = k
  · subst hj
    simp [h]
  · simp [hj]
theorem ma_s {τ F : Nat → Nat → Int32} {k i : Nat} {x : Int32} (h : mdq k = false) : Au (ma τ F) k i x = ma (Au τ k i x) F := by
  funext j
  unfold ma Au
  by_cases hj : j = k
  · subst hj
    simp [h]
  · simp [hj]
def MD (γ : gE) (a : Nat) (B : Nat → Nat) (Z : Nat → Prop) (ν : Nat → Int32) (τ : Nat → Nat → Int32) (σ : Nat → Int32) (F : Nat → Nat → Int32) (nu : Nat → Int64) (H : Heap) : Prop := MDb γ a B Z (mv ν σ) (ma τ F) nu H
theorem md_rv {s : State} {γ : gE} {a : Nat} {B : Nat → Nat} {Z : Nat → Prop} {ν σ : Nat → Int32} {τ F : Nat → Nat → Int32} {nu : Nat → Int64} {H : Heap} (hC : CX γ s) (hM : MD γ a B Z ν τ σ F nu H) : ∃ cellB : Cell, H[a]? = some cellB ∧ cellB.vm.isStatics = false ∧ s.vm.findClass R_Model = some cellB.cls := va_recv hC.1 hM.1 (ci := 10) (q0 := 0) rfl rfl
section MDR
variable {p : Program} {l : Launch} {e : Env} {R : Room} {s : State} {m : MethodId} {args : Array Value} {below : List Frame} {meth : Method} {c : Code} {H H0 : Heap} {locs : List Loc} {cells slots : Nat} {Q : State → Prop}
variable {cc : ByteArray} {nL index pc a : Nat} {γ : gE} {ls : Array Slot} {rest : List Value} {B : Nat → Nat} {Z : Nat → Prop} {ν σ : Nat → Int32} {τ F : Nat → Nat → Int32} {nu : Nat → Int64}
theorem md_gI (S : bs_F p s m args c cc nL R_Model) (hC : CX γ s) (hM : MD γ a B Z ν τ σ F nu H) (k : Nat) {v : Int32} (hv : mv ν σ k = v) (hk : k < 35) (hs : mdS k = true) (lk : Cond.fieldLink R_Model index (T_Model k).1 (T_Model k).2.1 (T_Model k).2.2.1 ∈ bs_W0) (hdg : decode cc pc = .ok (.getfield index, 3))
    (kk : W p l e R s m args below meth c H locs cells slots Q (F0 m (pc + 3) ls (.int v :: rest))) : W p l e R s m args below meth c H locs cells slots Q (F0 m pc ls (.ref a :: rest)) :=
  va_get (D := γ.1) (ci := 10) (C := R_Model) (T := T_Model) (N := 35) S.1 S.2.1 S.2.2.2.2 in_Model S.2.2.2.1 hC.1 hM.1 0 rfl rfl k hk (S.2.2.2.2 _ lk) (fun _ h => h) (by rw [fs_get hk, hs, hv]; rfl) hdg kk
theorem md_gA (S : bs_F p s m args c cc nL R_Model) (hC : CX γ s) (hM : MD γ a B Z ν τ σ F nu H) (k : Nat) (hk : k < 35) (hs : mdS k = false) (lk : Cond.fieldLink R_Model index (T_Model k).1 (T_Model k).2.1 (T_Model k).2.2.1 ∈ bs_W0) (hdg : decode cc pc = .ok (.getfield index, 3))
    (kk : W p l e R s m args below meth c H locs cells slots Q (F0 m (pc + 3) ls (.ref (B k) :: rest))) : W p l e R s m args below meth c H locs cells slots Q (F0 m pc ls (.ref a :: rest)) :=
  va_get (D := γ.1) (ci := 10) (C := R_Model) (T := T_Model) (N := 35) S.1 S.2.1 S.2.2.2.2 in_Model S.2.2.2.1 hC.1 hM.1 0 rfl rfl k hk (S.2.2.2.2 _ lk) (fun _ h => h) (by rw [fs_get hk, hs]; rfl) hdg kk
theorem mb_pI {V : Nat → Int32} {A : Nat → Nat → Int32} (S : bs_F p s m args c cc nL R_Model) (hC : CX γ s) (hM : MDb γ a B Z V A nu H) (hS : va_S Z H0 H locs) (k : Nat) (hk : k < 35) (hs : mdS k = true) (lk : Cond.fieldLink R_Model index (T_Model k).1 (T_Model k).2.1 (T_Model k).2.2.1 ∈ bs_W0) (hfin : (T_Model k).2.2.2 = false) (hd : parseFieldDescriptor (T_Model k).2.2.1 = some .int) {x : Int32} (hdg : decode cc pc = .ok (.putfield index, 3))
    (kk : ∀ (H : Heap) (locs : List Loc), MDb γ a B Z (upd V k x) A nu H → va_S Z H0 H locs → W p l e R s m args below meth c H locs cells slots Q (F0 m (pc + 3) ls rest)) : W p l e R s m args below meth c H locs cells slots Q (F0 m pc ls (.int x :: .ref a :: rest)) := by
  refine va_put (D := γ.1) (ci := 10) (v := .int x) (ty := .int) (C := R_Model) (T := T_Model) (N := 35) S.1 S.2.1 S.2.2.2.2 in_Model t_Model t_Model_ok n_Model S.2.2.2.1 hC.1 hM.1 hM.2 hS 0 rfl rfl k hk (S.2.2.2.2 _ lk) (fun _ h => h) hfin hd rfl rfl (by rw [fs_len]; exact hk) hdg (fun H1 locs1 hP hD hS1 => ?_)
  rw [ws_put hk hs] at hP hD
  exact kk H1 locs1 ⟨hP, hD⟩ hS1
theorem md_pD (S : bs_F p s m args c cc nL R_Model) (hC : CX γ s) (hM : MD γ a B Z ν τ σ F nu H) (hS : va_S Z H0 H locs) (k : Nat) (hq : mdc k = true) (hk : k < 35) (hs : mdS k = true) (lk : Cond.fieldLink R_Model index (T_Model k).1 (T_Model k).2.1 (T_Model k).2.2.1 ∈ bs_W0) (hfin : (T_Model k).2.2.2 = false) (hd : parseFieldDescriptor (T_Model k).2.2.1 = some .int) {x : Int32} (hdg : decode cc pc = .ok (.putfield index, 3))
    (kk : ∀ (H : Heap) (locs : List Loc), MD γ a B Z ν τ (upd σ k x) F nu H → va_S Z H0 H locs → W p l e R s m args below meth c H locs cells slots Q (F0 m (pc + 3) ls rest)) : W p l e R s m args below meth c H locs cells slots Q (F0 m pc ls (.int x :: .ref a :: rest)) :=
  mb_pI S hC hM hS k hk hs lk hfin hd hdg (fun H1 locs1 hM1 hS1 => kk H1 locs1 (by rw [mv_d hq] at hM1; exact hM1) hS1)
theorem md_pS (S : bs_F p s m args c cc nL R_Model) (hC : CX γ s) (hM : MD γ a B Z ν τ σ F nu H) (hS : va_S Z H0 H locs) (k : Nat) (hq : mdc k = false) (hk : k < 35) (hs : mdS k = true) (lk : Cond.fieldLink R_Model index (T_Model k).1 (T_Model k).2.1 (T_Model k).2.2.1 ∈ bs_W0) (hfin : (T_Model k).2.2.2 = false) (hd : parseFieldDescriptor (T_Model k).2.2.1 = some .int) {x : Int32} (hdg : decode cc pc = .ok (.putfield index, 3))
    (kk : ∀ (H : Heap) (locs : List Loc), MD γ a B Z (upd ν k x) τ σ F nu H → va_S Z H0 H locs → W p l e R s m args below meth c H locs cells slots Q (F0 m (pc + 3) ls rest)) : W p l e R s m args below meth c H locs cells slots Q (F0 m pc ls (.int x :: .ref a :: rest)) :=
  mb_pI S hC hM hS k hk hs lk hfin hd hdg (fun H1 locs1 hM1 hS1 => kk H1 locs1 (by rw [mv_s hq] at hM1; exact hM1) hS1)
theorem md_ild (S : bs_F p s m args c cc nL R_Model) (hC : CX γ s) (hM : MD γ a B Z ν τ σ F nu H) (k q n : Nat) (f : Nat → Int32) (hf : ma τ F k = f) (hq : mdIx[q]? = some k) (hk : k ≠ 13) (ht : mdT γ k = γ.2.1) (hn : mdN k = n) {i : Int32} (hin : vp_in i n) (hdg : decode cc pc = .ok (.iaload, 1))
    (kk : W p l e R s m args below meth c H locs cells slots Q (F0 m (pc + 1) ls (.int (f i.toNatClampNeg) :: rest))) : W p l e R s m args below meth c H locs cells slots Q (F0 m pc ls (.int i :: .ref (B k) :: rest)) := by
  subst hf
  subst hn
  exact va_iald S.1 S.2.1 hC.1 hM.1 (q + 1) 0 (ws_get hq hk) (by rw [ht]; rfl) hin hdg kk
theorem md_zld (S : bs_F p s m args c cc nL R_Model) (hC : CX γ s) (hM : MD γ a B Z ν τ σ F nu H) (k q n : Nat) (f : Nat → Int32) (hf : ma τ F k = f) (hq : mdIx[q]? = some k) (hk : k ≠ 13) (ht : mdT γ k = γ.2.2.2 21) (hn : mdN k = n) {i : Int32} (hin : vp_in i n) (hdg : decode cc pc = .ok (.baload, 1))
    (kk : W p l e R s m args below meth c H locs cells slots Q (F0 m (pc + 1) ls (.int (f i.toNatClampNeg) :: rest))) : W p l e R s m args below meth c H locs cells slots Q (F0 m pc ls (.int i :: .ref (B k) :: rest)) := by
  subst hf
  subst hn
  exact va_zald S.1 S.2.1 hC.1 hM.1 (q + 1) 3 (ws_get hq hk) (by rw [ht]; rfl) hin hdg kk
theorem md_bld (S : bs_F p s m args c cc nL R_Model) (hC : CX γ s) (hM : MD γ a B Z ν τ σ F nu H) (k q n : Nat) (f : Nat → Int32) (hf : ma τ F k = f) (hq : mdIx[q]? = some k) (hk : k ≠ 13) (ht : mdT γ k = γ.2.2.2 20) (hn : mdN k = n) {i : Int32} (hin : vp_in i n) (hdg : decode cc pc = .ok (.baload, 1))
    (kk : W p l e R s m args below meth c H locs cells slots Q (F0 m (pc + 1) ls (.int (f i.toNatClampNeg) :: rest))) : W p l e R s m args below meth c H locs cells slots Q (F0 m pc ls (.int i :: .ref (B k) :: rest)) := by
  subst hf
  subst hn
  exact va_bald S.1 S.2.1 hC.1 hM.1 (q + 1) 2 (ws_get hq hk) (by rw [ht]; rfl) hin hdg kk
theorem md_lld (S : bs_F p s m args c cc nL R_Model) (hC : CX γ s) (hM : MD γ a B Z ν τ σ F nu H) {i : Int32} (hin : vp_in i 10000) (hdg : decode cc pc = .ok (.laload, 1))
    (kk : W p l e R s m args below meth c H locs cells slots Q (F0 m (pc + 1) ls (.long (nu i.toNatClampNeg) :: rest))) : W p l e R s m args below meth c H locs cells slots Q (F0 m pc ls (.int i :: .ref (B 13) :: rest)) :=
  va_lald S.1 S.2.1 hC.1 hM.1 10 1 ws_getL rfl hin hdg kk
theorem mb_ist {V : Nat → Int32} {A : Nat → Nat → Int32} (S : bs_F p s m args c cc nL R_Model) (hC : CX γ s) (hM : MDb γ a B Z V A nu H) (hS : va_S Z H0 H locs) (k q n : Nat) (hq : mdIx[q]? = some k) (hk : k ≠ 13) (ht : mdT γ k = γ.2.1) (hn : mdN k = n) {i x : Int32} (hin : vp_in i n) (hdg : decode cc pc = .ok (.iastore, 1))
    (kk : ∀ (H : Heap) (locs : List Loc), MDb γ a B Z V (Au A k i.toNatClampNeg x) nu H → va_S Z H0 H locs → W p l e R s m args below meth c H locs cells slots Q (F0 m (pc + 1) ls rest)) : W p l e R s m args below meth c H locs cells slots Q (F0 m pc ls (.int x :: .int i :: .ref (B k) :: rest)) := by
  subst hn
  refine va_iast S.1 S.2.1 hC.1 hM.1 hM.2 hS (q + 1) 0 (ws_get hq hk) (by rw [ht]; rfl) hin hdg (fun H1 locs1 hP hD hS1 => ?_)
  rw [ws_st hq hk] at hP hD
  exact kk H1 locs1 ⟨hP, hD⟩ hS1
theorem md_istD (S : bs_F p s m args c cc nL R_Model) (hC : CX γ s) (hM : MD γ a B Z ν τ σ F nu H) (hS : va_S Z H0 H locs) (k q n : Nat) (hd : mdq k = true) (hq : mdIx[q]? = some k) (hk : k ≠ 13) (ht : mdT γ k = γ.2.1) (hn : mdN k = n) {i x : Int32} (hin : vp_in i n) (hdg : decode cc pc = .ok (.iastore, 1))
    (kk : ∀ (H : Heap) (locs : List Loc), MD γ a B Z ν τ σ (Au F k i.toNatClampNeg x) nu H → va_S Z H0 H locs → W p l e R s m args below meth c H locs cells slots Q (F0 m (pc + 1) ls rest)) : W p l e R s m args below meth c H locs cells slots Q (F0 m pc ls (.int x :: .int i :: .ref (B k) :: rest)) :=
  mb_ist S hC hM hS k q n hq hk ht hn hin hdg (fun H1 locs1 hM1 hS1 => kk H1 locs1 (by rw [ma_d hd] at hM1; exact hM1) hS1)
theorem md_istS (S : bs_F p s m args c cc nL R_Model) (hC : CX γ s) (hM : MD γ a B Z ν τ σ F nu H) (hS : va_S Z H0 H locs) (k q n : Nat) (hd : mdq k = false) (hq : mdIx[q]? = some k) (hk : k ≠ 13) (ht : mdT γ k = γ.2.1) (hn : mdN k = n) {i x : Int32} (hin : vp_in i n) (hdg : decode cc pc = .ok (.iastore, 1))
    (kk : ∀ (H : Heap) (locs : List Loc), MD γ a B Z ν (Au τ k i.toNatClampNeg x) σ F nu H → va_S Z H0 H locs → W p l e R s m args below meth c H locs cells slots Q (F0 m (pc + 1) ls rest)) : W p l e R s m args below meth c H locs cells slots Q (F0 m pc ls (.int x :: .int i :: .ref (B k) :: rest)) :=
  mb_ist S hC hM hS k q n hq hk ht hn hin hdg (fun H1 locs1 hM1 hS1 => kk H1 locs1 (by rw [ma_s hd] at hM1; exact hM1) hS1)
theorem mb_zst {V : Nat → Int32} {A : Nat → Nat → Int32} (S : bs_F p s m args c cc nL R_Model) (hC : CX γ s) (hM : MDb γ a B Z V A nu H) (hS : va_S Z H0 H locs) (k q n : Nat) (hq : mdIx[q]? = some k) (hk : k ≠ 13) (ht : mdT γ k = γ.2.2.2 21) (hn : mdN k = n) {i x : Int32} (hin : vp_in i n) (hdg : decode cc pc = .ok (.bastore, 1))
    (kk : ∀ (H : Heap) (locs : List Loc), MDb γ a B Z V (Au A k i.toNatClampNeg (vp_nar .boolean x)) nu H → va_S Z H0 H locs → W p l e R s m args below meth c H locs cells slots Q (F0 m (pc + 1) ls rest)) : W p l e R s m args below meth c H locs cells slots Q (F0 m pc ls (.int x :: .int i :: .ref (B k) :: rest)) := by
  subst hn
  refine va_zast S.1 S.2.1 hC.1 hM.1 hM.2 hS (q + 1) 3 (ws_get hq hk) (by rw [ht]; rfl) hin hdg (fun H1 locs1 hP hD hS1 => ?_)
  rw [ws_st hq hk] at hP hD
  exact kk H1 locs1 ⟨hP, hD⟩ hS1
theorem md_zstD (S : bs_F p s m args c cc nL R_Model) (hC : CX γ s) (hM : MD γ a B Z ν τ σ F nu H) (hS : va_S Z H0 H locs) (k q n : Nat) (hd : mdq k = true) (hq : mdIx[q]? = some k) (hk : k ≠ 13) (ht : mdT γ k = γ.2.2.2 21) (hn : mdN k = n) {i x : Int32} (hin : vp_in i n) (hdg : decode cc pc = .ok (.bastore, 1))
    (kk : ∀ (H : Heap) (locs : List Loc), MD γ a B Z ν τ σ (Au F k i.toNatClampNeg (vp_nar .boolean x)) nu H → va_S Z H0 H locs → W p l e R s m args below meth c H locs cells slots Q (F0 m (pc + 1) ls rest)) : W p l e R s m args below meth c H locs cells slots Q (F0 m pc ls (.int x :: .int i :: .ref (B k) :: rest)) :=
  mb_zst S hC hM hS k q n hq hk ht hn hin hdg (fun H1 locs1 hM1 hS1 => kk H1 locs1 (by rw [ma_d hd] at hM1; exact hM1) hS1)
theorem md_zstS (S : bs_F p s m args c cc nL R_Model) (hC : CX γ s) (hM : MD γ a B Z ν τ σ F nu H) (hS : va_S Z H0 H locs) (k q n : Nat) (hd : mdq k = false) (hq : mdIx[q]? = some k) (hk : k ≠ 13) (ht : mdT γ k = γ.2.2.2 21) (hn : mdN k = n) {i x : Int32} (hin : vp_in i n) (hdg : decode cc pc = .ok (.bastore, 1))
    (kk : ∀ (H : Heap) (locs : List Loc), MD γ a B Z ν (Au τ k i.toNatClampNeg (vp_nar .boolean x)) σ F nu H → va_S Z H0 H locs → W p l e R s m args below meth c H locs cells slots Q (F0 m (pc + 1) ls rest)) : W p l e R s m args below meth c H locs cells slots Q (F0 m pc ls (.int x :: .int i :: .ref (B k) :: rest)) :=
  mb_zst S hC hM hS k q n hq hk ht hn hin hdg (fun H1 locs1 hM1 hS1 => kk H1 locs1 (by rw [ma_s hd] at hM1; exact hM1) hS1)
theorem mb_bst {V : Nat → Int32} {A : Nat → Nat → Int32} (S : bs_F p s m args c cc nL R_Model) (hC : CX γ s) (hM : MDb γ a B Z V A nu H) (hS : va_S Z H0 H locs) (k q n : Nat) (hq : mdIx[q]? = some k) (hk : k ≠ 13) (ht : mdT γ k = γ.2.2.2 20) (hn : mdN k = n) {i x : Int32} (hin : vp_in i n) (hdg : decode cc pc = .ok (.bastore, 1))
    (kk : ∀ (H : Heap) (locs : List Loc), MDb γ a B Z V (Au A k i.toNatClampNeg (vp_nar .byte x)) nu H → va_S Z H0 H locs → W p l e R s m args below meth c H locs cells slots Q (F0 m (pc + 1) ls rest)) : W p l e R s m args below meth c H locs cells slots Q (F0 m pc ls (.int x :: .int i :: .ref (B k) :: rest)) := by
  subst hn
  refine va_bast S.1 S.2.1 hC.1 hM.1 hM.2 hS (q + 1) 2 (ws_get hq hk) (by rw [ht]; rfl) hin hdg (fun H1 locs1 hP hD hS1 => ?_)
  rw [ws_st hq hk] at hP hD
  exact kk H1 locs1 ⟨hP, hD⟩ hS1
theorem md_bstD (S : bs_F p s m args c cc nL R_Model) (hC : CX γ s) (hM : MD γ a B Z ν τ σ F nu H) (hS : va_S Z H0 H locs) (k q n : Nat) (hd : mdq k = true) (hq : mdIx[q]? = some k) (hk : k ≠ 13) (ht : mdT γ k = γ.2.2.2 20) (hn : mdN k = n) {i x : Int32} (hin : vp_in i n) (hdg : decode cc pc = .ok (.bastore, 1))
    (kk : ∀ (H : Heap) (locs : List Loc), MD γ a B Z ν τ σ (Au F k i.toNatClampNeg (vp_nar .byte x)) nu H → va_S Z H0 H locs → W p l e R s m args below meth c H locs cells slots Q (F0 m (pc + 1) ls rest)) : W p l e R s m args below meth c H locs cells slots Q (F0 m pc ls (.int x :: .int i :: .ref (B k) :: rest)) :=
  mb_bst S hC hM hS k q n hq hk ht hn hin hdg (fun H1 locs1 hM1 hS1 => kk H1 locs1 (by rw [ma_d hd] at hM1; exact hM1) hS1)
theorem md_lst (S : bs_F p s m args c cc nL R_Model) (hC : CX γ s) (hM : MD γ a B Z ν τ σ F nu H) (hS : va_S Z H0 H locs) {i : Int32} {x : Int64} (hin : vp_in i 10000) (hdg : decode cc pc = .ok (.lastore, 1))
    (kk : ∀ (H : Heap) (locs : List Loc), MD γ a B Z ν τ σ F (vp_updL nu i.toNatClampNeg x) H → va_S Z H0 H locs → W p l e R s m args below meth c H locs cells slots Q (F0 m (pc + 1) ls rest)) : W p l e R s m args below meth c H locs cells slots Q (F0 m pc ls (.long x :: .int i :: .ref (B 13) :: rest)) := by
  refine va_last S.1 S.2.1 hC.1 hM.1 hM.2 hS 10 1 ws_getL rfl hin hdg (fun H1 locs1 hP hD hS1 => ?_)
  rw [ws_stL] at hP hD
  exact kk H1 locs1 ⟨hP, hD⟩ hS1
end MDR
