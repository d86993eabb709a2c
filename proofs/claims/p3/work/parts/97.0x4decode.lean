theorem dModel_lookAttribute_0 : decode bModel_lookAttribute 0 = .ok (.aload_n 0, 1) := by decide +kernel
theorem dModel_lookAttribute_1 : decode bModel_lookAttribute 1 = .ok (.getfield 20, 3) := by decide +kernel
theorem dModel_lookAttribute_4 : decode bModel_lookAttribute 4 = .ok (.iload_n 1, 1) := by decide +kernel
theorem dModel_lookAttribute_5 : decode bModel_lookAttribute 5 = .ok (.iaload, 1) := by decide +kernel
theorem dModel_lookAttribute_6 : decode bModel_lookAttribute 6 = .ok (.iconst 1, 1) := by decide +kernel
theorem dModel_lookAttribute_7 : decode bModel_lookAttribute 7 = .ok (.if_icmp .ne 52, 3) := by decide +kernel
theorem dModel_lookAttribute_10 : decode bModel_lookAttribute 10 = .ok (.aload_n 0, 1) := by decide +kernel
theorem dModel_lookAttribute_11 : decode bModel_lookAttribute 11 = .ok (.getfield 13, 3) := by decide +kernel
theorem dModel_lookAttribute_14 : decode bModel_lookAttribute 14 = .ok (.iload_n 1, 1) := by decide +kernel
theorem dModel_lookAttribute_15 : decode bModel_lookAttribute 15 = .ok (.iconst 1, 1) := by decide +kernel
theorem dModel_lookAttribute_16 : decode bModel_lookAttribute 16 = .ok (.isub, 1) := by decide +kernel
theorem dModel_lookAttribute_17 : decode bModel_lookAttribute 17 = .ok (.iaload, 1) := by decide +kernel
theorem dModel_lookAttribute_18 : decode bModel_lookAttribute 18 = .ok (.iconst 1, 1) := by decide +kernel
theorem dModel_lookAttribute_19 : decode bModel_lookAttribute 19 = .ok (.if_icmp .ne 40, 3) := by decide +kernel
theorem dModel_lookAttribute_22 : decode bModel_lookAttribute 22 = .ok (.aload_n 0, 1) := by decide +kernel
theorem dModel_lookAttribute_23 : decode bModel_lookAttribute 23 = .ok (.getfield 20, 3) := by decide +kernel
theorem dModel_lookAttribute_26 : decode bModel_lookAttribute 26 = .ok (.iload_n 1, 1) := by decide +kernel
theorem dModel_lookAttribute_27 : decode bModel_lookAttribute 27 = .ok (.iconst 1, 1) := by decide +kernel
theorem dModel_lookAttribute_28 : decode bModel_lookAttribute 28 = .ok (.isub, 1) := by decide +kernel
theorem dModel_lookAttribute_29 : decode bModel_lookAttribute 29 = .ok (.iaload, 1) := by decide +kernel
theorem dModel_lookAttribute_30 : decode bModel_lookAttribute 30 = .ok (.ifCond .gt 29, 3) := by decide +kernel
theorem dModel_lookAttribute_33 : decode bModel_lookAttribute 33 = .ok (.aload_n 0, 1) := by decide +kernel
theorem dModel_lookAttribute_34 : decode bModel_lookAttribute 34 = .ok (.getfield 17, 3) := by decide +kernel
theorem dModel_lookAttribute_37 : decode bModel_lookAttribute 37 = .ok (.iload_n 1, 1) := by decide +kernel
theorem dModel_lookAttribute_38 : decode bModel_lookAttribute 38 = .ok (.iconst 1, 1) := by decide +kernel
theorem dModel_lookAttribute_39 : decode bModel_lookAttribute 39 = .ok (.isub, 1) := by decide +kernel
theorem dModel_lookAttribute_40 : decode bModel_lookAttribute 40 = .ok (.iaload, 1) := by decide +kernel
theorem dModel_lookAttribute_41 : decode bModel_lookAttribute 41 = .ok (.bipush 15, 2) := by decide +kernel
theorem dModel_lookAttribute_43 : decode bModel_lookAttribute 43 = .ok (.if_icmp .lt 16, 3) := by decide +kernel
theorem dModel_lookAttribute_46 : decode bModel_lookAttribute 46 = .ok (.aload_n 0, 1) := by decide +kernel
theorem dModel_lookAttribute_47 : decode bModel_lookAttribute 47 = .ok (.getfield 17, 3) := by decide +kernel
theorem dModel_lookAttribute_50 : decode bModel_lookAttribute 50 = .ok (.iload_n 1, 1) := by decide +kernel
theorem dModel_lookAttribute_51 : decode bModel_lookAttribute 51 = .ok (.iconst 1, 1) := by decide +kernel
theorem dModel_lookAttribute_52 : decode bModel_lookAttribute 52 = .ok (.isub, 1) := by decide +kernel
theorem dModel_lookAttribute_53 : decode bModel_lookAttribute 53 = .ok (.iaload, 1) := by decide +kernel
theorem dModel_lookAttribute_54 : decode bModel_lookAttribute 54 = .ok (.bipush 22, 2) := by decide +kernel
theorem dModel_lookAttribute_56 : decode bModel_lookAttribute 56 = .ok (.if_icmp .le 6, 3) := by decide +kernel
theorem dModel_lookAttribute_59 : decode bModel_lookAttribute 59 = .ok (.bipush 11, 2) := by decide +kernel
theorem dModel_lookAttribute_61 : decode bModel_lookAttribute 61 = .ok (.ireturn, 1) := by decide +kernel
theorem dModel_lookAttribute_62 : decode bModel_lookAttribute 62 = .ok (.aload_n 0, 1) := by decide +kernel
theorem dModel_lookAttribute_63 : decode bModel_lookAttribute 63 = .ok (.aload_n 0, 1) := by decide +kernel
theorem dModel_lookAttribute_64 : decode bModel_lookAttribute 64 = .ok (.getfield 17, 3) := by decide +kernel
theorem dModel_lookAttribute_67 : decode bModel_lookAttribute 67 = .ok (.iload_n 1, 1) := by decide +kernel
theorem dModel_lookAttribute_68 : decode bModel_lookAttribute 68 = .ok (.iaload, 1) := by decide +kernel
theorem dModel_lookAttribute_69 : decode bModel_lookAttribute 69 = .ok (.invokevirtual 173, 3) := by decide +kernel
theorem dModel_lookAttribute_72 : decode bModel_lookAttribute 72 = .ok (.aload_n 0, 1) := by decide +kernel
theorem dModel_lookAttribute_73 : decode bModel_lookAttribute 73 = .ok (.getfield 118, 3) := by decide +kernel
theorem dModel_lookAttribute_76 : decode bModel_lookAttribute 76 = .ok (.iconst 5, 1) := by decide +kernel
theorem dModel_lookAttribute_77 : decode bModel_lookAttribute 77 = .ok (.if_icmp .ne 5, 3) := by decide +kernel
theorem dModel_lookAttribute_80 : decode bModel_lookAttribute 80 = .ok (.iconst 1, 1) := by decide +kernel
theorem dModel_lookAttribute_81 : decode bModel_lookAttribute 81 = .ok (.ireturn, 1) := by decide +kernel
theorem dModel_lookAttribute_82 : decode bModel_lookAttribute 82 = .ok (.aload_n 0, 1) := by decide +kernel
theorem dModel_lookAttribute_83 : decode bModel_lookAttribute 83 = .ok (.getfield 118, 3) := by decide +kernel
theorem dModel_lookAttribute_86 : decode bModel_lookAttribute 86 = .ok (.iconst 1, 1) := by decide +kernel
theorem dModel_lookAttribute_87 : decode bModel_lookAttribute 87 = .ok (.if_icmp .eq 5, 3) := by decide +kernel
theorem dModel_lookAttribute_90 : decode bModel_lookAttribute 90 = .ok (.iconst 2, 1) := by decide +kernel
theorem dModel_lookAttribute_91 : decode bModel_lookAttribute 91 = .ok (.ireturn, 1) := by decide +kernel
theorem dModel_lookAttribute_92 : decode bModel_lookAttribute 92 = .ok (.aload_n 0, 1) := by decide +kernel
theorem dModel_lookAttribute_93 : decode bModel_lookAttribute 93 = .ok (.getfield 121, 3) := by decide +kernel
theorem dModel_lookAttribute_96 : decode bModel_lookAttribute 96 = .ok (.istore_n 2, 1) := by decide +kernel
theorem dModel_lookAttribute_97 : decode bModel_lookAttribute 97 = .ok (.aload_n 0, 1) := by decide +kernel
theorem dModel_lookAttribute_98 : decode bModel_lookAttribute 98 = .ok (.getfield 72, 3) := by decide +kernel
theorem dModel_lookAttribute_101 : decode bModel_lookAttribute 101 = .ok (.iload_n 2, 1) := by decide +kernel
theorem dModel_lookAttribute_102 : decode bModel_lookAttribute 102 = .ok (.iaload, 1) := by decide +kernel
theorem dModel_lookAttribute_103 : decode bModel_lookAttribute 103 = .ok (.istore_n 3, 1) := by decide +kernel
theorem dModel_lookAttribute_104 : decode bModel_lookAttribute 104 = .ok (.aload_n 0, 1) := by decide +kernel
theorem dModel_lookAttribute_105 : decode bModel_lookAttribute 105 = .ok (.getfield 17, 3) := by decide +kernel
theorem dModel_lookAttribute_108 : decode bModel_lookAttribute 108 = .ok (.iload_n 1, 1) := by decide +kernel
theorem dModel_lookAttribute_109 : decode bModel_lookAttribute 109 = .ok (.iconst 1, 1) := by decide +kernel
theorem dModel_lookAttribute_110 : decode bModel_lookAttribute 110 = .ok (.isub, 1) := by decide +kernel
theorem dModel_lookAttribute_111 : decode bModel_lookAttribute 111 = .ok (.iaload, 1) := by decide +kernel
theorem dModel_lookAttribute_112 : decode bModel_lookAttribute 112 = .ok (.istore 4, 2) := by decide +kernel
theorem dModel_lookAttribute_114 : decode bModel_lookAttribute 114 = .ok (.iload 4, 2) := by decide +kernel
theorem dModel_lookAttribute_116 : decode bModel_lookAttribute 116 = .ok (.bipush 18, 2) := by decide +kernel
theorem dModel_lookAttribute_118 : decode bModel_lookAttribute 118 = .ok (.if_icmp .ge 42, 3) := by decide +kernel
theorem dModel_lookAttribute_121 : decode bModel_lookAttribute 121 = .ok (.aload_n 0, 1) := by decide +kernel
theorem dModel_lookAttribute_122 : decode bModel_lookAttribute 122 = .ok (.getfield 69, 3) := by decide +kernel
theorem dModel_lookAttribute_125 : decode bModel_lookAttribute 125 = .ok (.iload_n 2, 1) := by decide +kernel
theorem dModel_lookAttribute_126 : decode bModel_lookAttribute 126 = .ok (.iaload, 1) := by decide +kernel
theorem dModel_lookAttribute_127 : decode bModel_lookAttribute 127 = .ok (.iconst 1, 1) := by decide +kernel
theorem dModel_lookAttribute_128 : decode bModel_lookAttribute 128 = .ok (.if_icmp .eq 5, 3) := by decide +kernel
theorem dModel_lookAttribute_131 : decode bModel_lookAttribute 131 = .ok (.iconst 2, 1) := by decide +kernel
theorem dModel_lookAttribute_132 : decode bModel_lookAttribute 132 = .ok (.ireturn, 1) := by decide +kernel
theorem dModel_lookAttribute_133 : decode bModel_lookAttribute 133 = .ok (.iload 4, 2) := by decide +kernel
theorem dModel_lookAttribute_135 : decode bModel_lookAttribute 135 = .ok (.bipush 17, 2) := by decide +kernel
theorem dModel_lookAttribute_137 : decode bModel_lookAttribute 137 = .ok (.if_icmp .ne 12, 3) := by decide +kernel
theorem dModel_lookAttribute_140 : decode bModel_lookAttribute 140 = .ok (.aload_n 0, 1) := by decide +kernel
theorem dModel_lookAttribute_141 : decode bModel_lookAttribute 141 = .ok (.iload_n 1, 1) := by decide +kernel
theorem dModel_lookAttribute_142 : decode bModel_lookAttribute 142 = .ok (.iload_n 3, 1) := by decide +kernel
theorem dModel_lookAttribute_143 : decode bModel_lookAttribute 143 = .ok (.invokevirtual 181, 3) := by decide +kernel
theorem dModel_lookAttribute_146 : decode bModel_lookAttribute 146 = .ok (.goto 133, 3) := by decide +kernel
theorem dModel_lookAttribute_149 : decode bModel_lookAttribute 149 = .ok (.aload_n 0, 1) := by decide +kernel
theorem dModel_lookAttribute_150 : decode bModel_lookAttribute 150 = .ok (.iload_n 1, 1) := by decide +kernel
theorem dModel_lookAttribute_151 : decode bModel_lookAttribute 151 = .ok (.iconst 1, 1) := by decide +kernel
theorem dModel_lookAttribute_152 : decode bModel_lookAttribute 152 = .ok (.iconst 0, 1) := by decide +kernel
theorem dModel_lookAttribute_153 : decode bModel_lookAttribute 153 = .ok (.iconst 0, 1) := by decide +kernel
theorem dModel_lookAttribute_154 : decode bModel_lookAttribute 154 = .ok (.invokevirtual 147, 3) := by decide +kernel
theorem dModel_lookAttribute_157 : decode bModel_lookAttribute 157 = .ok (.goto 122, 3) := by decide +kernel
theorem dModel_lookAttribute_160 : decode bModel_lookAttribute 160 = .ok (.aload_n 0, 1) := by decide +kernel
theorem dModel_lookAttribute_161 : decode bModel_lookAttribute 161 = .ok (.getfield 54, 3) := by decide +kernel
theorem dModel_lookAttribute_164 : decode bModel_lookAttribute 164 = .ok (.iload_n 3, 1) := by decide +kernel
theorem dModel_lookAttribute_165 : decode bModel_lookAttribute 165 = .ok (.iaload, 1) := by decide +kernel
theorem dModel_lookAttribute_166 : decode bModel_lookAttribute 166 = .ok (.iconst 3, 1) := by decide +kernel
theorem dModel_lookAttribute_167 : decode bModel_lookAttribute 167 = .ok (.if_icmp .eq 5, 3) := by decide +kernel
theorem dModel_lookAttribute_170 : decode bModel_lookAttribute 170 = .ok (.iconst 3, 1) := by decide +kernel
theorem dModel_lookAttribute_171 : decode bModel_lookAttribute 171 = .ok (.ireturn, 1) := by decide +kernel
theorem dModel_lookAttribute_172 : decode bModel_lookAttribute 172 = .ok (.aload_n 0, 1) := by decide +kernel
theorem dModel_lookAttribute_173 : decode bModel_lookAttribute 173 = .ok (.iload_n 1, 1) := by decide +kernel
theorem dModel_lookAttribute_174 : decode bModel_lookAttribute 174 = .ok (.iconst 2, 1) := by decide +kernel
theorem dModel_lookAttribute_175 : decode bModel_lookAttribute 175 = .ok (.iconst 0, 1) := by decide +kernel
theorem dModel_lookAttribute_176 : decode bModel_lookAttribute 176 = .ok (.iconst 1, 1) := by decide +kernel
theorem dModel_lookAttribute_177 : decode bModel_lookAttribute 177 = .ok (.invokevirtual 147, 3) := by decide +kernel
theorem dModel_lookAttribute_180 : decode bModel_lookAttribute 180 = .ok (.aload_n 0, 1) := by decide +kernel
theorem dModel_lookAttribute_181 : decode bModel_lookAttribute 181 = .ok (.getfield 42, 3) := by decide +kernel
theorem dModel_lookAttribute_184 : decode bModel_lookAttribute 184 = .ok (.iload_n 1, 1) := by decide +kernel
theorem dModel_lookAttribute_185 : decode bModel_lookAttribute 185 = .ok (.iload 4, 2) := by decide +kernel
theorem dModel_lookAttribute_187 : decode bModel_lookAttribute 187 = .ok (.bipush 18, 2) := by decide +kernel
theorem dModel_lookAttribute_189 : decode bModel_lookAttribute 189 = .ok (.if_icmp .ne 13, 3) := by decide +kernel
theorem dModel_lookAttribute_192 : decode bModel_lookAttribute 192 = .ok (.aload_n 0, 1) := by decide +kernel
theorem dModel_lookAttribute_193 : decode bModel_lookAttribute 193 = .ok (.getfield 63, 3) := by decide +kernel
theorem dModel_lookAttribute_196 : decode bModel_lookAttribute 196 = .ok (.iload_n 3, 1) := by decide +kernel
theorem dModel_lookAttribute_197 : decode bModel_lookAttribute 197 = .ok (.iaload, 1) := by decide +kernel
theorem dModel_lookAttribute_198 : decode bModel_lookAttribute 198 = .ok (.i2l, 1) := by decide +kernel
theorem dModel_lookAttribute_199 : decode bModel_lookAttribute 199 = .ok (.goto 79, 3) := by decide +kernel
theorem dModel_lookAttribute_202 : decode bModel_lookAttribute 202 = .ok (.iload 4, 2) := by decide +kernel
theorem dModel_lookAttribute_204 : decode bModel_lookAttribute 204 = .ok (.bipush 19, 2) := by decide +kernel
theorem dModel_lookAttribute_206 : decode bModel_lookAttribute 206 = .ok (.if_icmp .ne 13, 3) := by decide +kernel
theorem dModel_lookAttribute_209 : decode bModel_lookAttribute 209 = .ok (.aload_n 0, 1) := by decide +kernel
theorem dModel_lookAttribute_210 : decode bModel_lookAttribute 210 = .ok (.getfield 57, 3) := by decide +kernel
theorem dModel_lookAttribute_213 : decode bModel_lookAttribute 213 = .ok (.iload_n 3, 1) := by decide +kernel
theorem dModel_lookAttribute_214 : decode bModel_lookAttribute 214 = .ok (.iaload, 1) := by decide +kernel
theorem dModel_lookAttribute_215 : decode bModel_lookAttribute 215 = .ok (.i2l, 1) := by decide +kernel
theorem dModel_lookAttribute_216 : decode bModel_lookAttribute 216 = .ok (.goto 62, 3) := by decide +kernel
theorem dModel_lookAttribute_219 : decode bModel_lookAttribute 219 = .ok (.iload 4, 2) := by decide +kernel
theorem dModel_lookAttribute_221 : decode bModel_lookAttribute 221 = .ok (.bipush 20, 2) := by decide +kernel
theorem dModel_lookAttribute_223 : decode bModel_lookAttribute 223 = .ok (.if_icmp .ne 13, 3) := by decide +kernel
theorem dModel_lookAttribute_226 : decode bModel_lookAttribute 226 = .ok (.aload_n 0, 1) := by decide +kernel
theorem dModel_lookAttribute_227 : decode bModel_lookAttribute 227 = .ok (.getfield 60, 3) := by decide +kernel
theorem dModel_lookAttribute_230 : decode bModel_lookAttribute 230 = .ok (.iload_n 3, 1) := by decide +kernel
theorem dModel_lookAttribute_231 : decode bModel_lookAttribute 231 = .ok (.iaload, 1) := by decide +kernel
theorem dModel_lookAttribute_232 : decode bModel_lookAttribute 232 = .ok (.i2l, 1) := by decide +kernel
theorem dModel_lookAttribute_233 : decode bModel_lookAttribute 233 = .ok (.goto 45, 3) := by decide +kernel
theorem dModel_lookAttribute_236 : decode bModel_lookAttribute 236 = .ok (.iload 4, 2) := by decide +kernel
theorem dModel_lookAttribute_238 : decode bModel_lookAttribute 238 = .ok (.bipush 21, 2) := by decide +kernel
theorem dModel_lookAttribute_240 : decode bModel_lookAttribute 240 = .ok (.if_icmp .ne 22, 3) := by decide +kernel
theorem dModel_lookAttribute_243 : decode bModel_lookAttribute 243 = .ok (.aload_n 0, 1) := by decide +kernel
theorem dModel_lookAttribute_244 : decode bModel_lookAttribute 244 = .ok (.getfield 57, 3) := by decide +kernel
theorem dModel_lookAttribute_247 : decode bModel_lookAttribute 247 = .ok (.iload_n 3, 1) := by decide +kernel
theorem dModel_lookAttribute_248 : decode bModel_lookAttribute 248 = .ok (.iaload, 1) := by decide +kernel
theorem dModel_lookAttribute_249 : decode bModel_lookAttribute 249 = .ok (.aload_n 0, 1) := by decide +kernel
theorem dModel_lookAttribute_250 : decode bModel_lookAttribute 250 = .ok (.getfield 60, 3) := by decide +kernel
theorem dModel_lookAttribute_253 : decode bModel_lookAttribute 253 = .ok (.iload_n 3, 1) := by decide +kernel
theorem dModel_lookAttribute_254 : decode bModel_lookAttribute 254 = .ok (.iaload, 1) := by decide +kernel
theorem dModel_lookAttribute_255 : decode bModel_lookAttribute 255 = .ok (.invokestatic 244, 3) := by decide +kernel
theorem dModel_lookAttribute_258 : decode bModel_lookAttribute 258 = .ok (.i2l, 1) := by decide +kernel
theorem dModel_lookAttribute_259 : decode bModel_lookAttribute 259 = .ok (.goto 19, 3) := by decide +kernel
theorem dModel_lookAttribute_262 : decode bModel_lookAttribute 262 = .ok (.aload_n 0, 1) := by decide +kernel
theorem dModel_lookAttribute_263 : decode bModel_lookAttribute 263 = .ok (.getfield 57, 3) := by decide +kernel
theorem dModel_lookAttribute_266 : decode bModel_lookAttribute 266 = .ok (.iload_n 3, 1) := by decide +kernel
theorem dModel_lookAttribute_267 : decode bModel_lookAttribute 267 = .ok (.iaload, 1) := by decide +kernel
theorem dModel_lookAttribute_268 : decode bModel_lookAttribute 268 = .ok (.aload_n 0, 1) := by decide +kernel
theorem dModel_lookAttribute_269 : decode bModel_lookAttribute 269 = .ok (.getfield 60, 3) := by decide +kernel
theorem dModel_lookAttribute_272 : decode bModel_lookAttribute 272 = .ok (.iload_n 3, 1) := by decide +kernel
theorem dModel_lookAttribute_273 : decode bModel_lookAttribute 273 = .ok (.iaload, 1) := by decide +kernel
theorem dModel_lookAttribute_274 : decode bModel_lookAttribute 274 = .ok (.invokestatic 239, 3) := by decide +kernel
theorem dModel_lookAttribute_277 : decode bModel_lookAttribute 277 = .ok (.i2l, 1) := by decide +kernel
theorem dModel_lookAttribute_278 : decode bModel_lookAttribute 278 = .ok (.lastore, 1) := by decide +kernel
theorem dModel_lookAttribute_279 : decode bModel_lookAttribute 279 = .ok (.aload_n 0, 1) := by decide +kernel
theorem dModel_lookAttribute_280 : decode bModel_lookAttribute 280 = .ok (.getfield 39, 3) := by decide +kernel
theorem dModel_lookAttribute_283 : decode bModel_lookAttribute 283 = .ok (.iload_n 1, 1) := by decide +kernel
theorem dModel_lookAttribute_284 : decode bModel_lookAttribute 284 = .ok (.iload_n 2, 1) := by decide +kernel
theorem dModel_lookAttribute_285 : decode bModel_lookAttribute 285 = .ok (.iastore, 1) := by decide +kernel
theorem dModel_lookAttribute_286 : decode bModel_lookAttribute 286 = .ok (.iconst 0, 1) := by decide +kernel
theorem dModel_lookAttribute_287 : decode bModel_lookAttribute 287 = .ok (.ireturn, 1) := by decide +kernel
theorem dModel_below_0 : decode bModel_below 0 = .ok (.iconst 0, 1) := by decide +kernel
theorem dModel_below_1 : decode bModel_below 1 = .ok (.istore_n 3, 1) := by decide +kernel
theorem dModel_below_2 : decode bModel_below 2 = .ok (.iload_n 1, 1) := by decide +kernel
theorem dModel_below_3 : decode bModel_below 3 = .ok (.iconst 1, 1) := by decide +kernel
theorem dModel_below_4 : decode bModel_below 4 = .ok (.iadd, 1) := by decide +kernel
theorem dModel_below_5 : decode bModel_below 5 = .ok (.istore 4, 2) := by decide +kernel
theorem dModel_below_7 : decode bModel_below 7 = .ok (.iload 4, 2) := by decide +kernel
theorem dModel_below_9 : decode bModel_below 9 = .ok (.iload_n 2, 1) := by decide +kernel
theorem dModel_below_10 : decode bModel_below 10 = .ok (.if_icmp .gt 42, 3) := by decide +kernel
theorem dModel_below_13 : decode bModel_below 13 = .ok (.iload_n 3, 1) := by decide +kernel
theorem dModel_below_14 : decode bModel_below 14 = .ok (.ifCond .ne 26, 3) := by decide +kernel
theorem dModel_below_17 : decode bModel_below 17 = .ok (.aload_n 0, 1) := by decide +kernel
theorem dModel_below_18 : decode bModel_below 18 = .ok (.getfield 13, 3) := by decide +kernel
theorem dModel_below_21 : decode bModel_below 21 = .ok (.iload 4, 2) := by decide +kernel
theorem dModel_below_23 : decode bModel_below 23 = .ok (.iaload, 1) := by decide +kernel
theorem dModel_below_24 : decode bModel_below 24 = .ok (.bipush 25, 2) := by decide +kernel
theorem dModel_below_26 : decode bModel_below 26 = .ok (.if_icmp .ne 18, 3) := by decide +kernel
theorem dModel_below_29 : decode bModel_below 29 = .ok (.aload_n 0, 1) := by decide +kernel
theorem dModel_below_30 : decode bModel_below 30 = .ok (.getfield 23, 3) := by decide +kernel
theorem dModel_below_33 : decode bModel_below 33 = .ok (.iload 4, 2) := by decide +kernel
theorem dModel_below_35 : decode bModel_below 35 = .ok (.iaload, 1) := by decide +kernel
theorem dModel_below_36 : decode bModel_below 36 = .ok (.iload_n 1, 1) := by decide +kernel
theorem dModel_below_37 : decode bModel_below 37 = .ok (.if_icmp .gt 7, 3) := by decide +kernel
theorem dModel_below_40 : decode bModel_below 40 = .ok (.iconst 1, 1) := by decide +kernel
theorem dModel_below_41 : decode bModel_below 41 = .ok (.goto 4, 3) := by decide +kernel
theorem dModel_below_44 : decode bModel_below 44 = .ok (.iconst 0, 1) := by decide +kernel
theorem dModel_below_45 : decode bModel_below 45 = .ok (.istore_n 3, 1) := by decide +kernel
theorem dModel_below_46 : decode bModel_below 46 = .ok (.iinc 4 1, 3) := by decide +kernel
theorem dModel_below_49 : decode bModel_below 49 = .ok (.goto (-42), 3) := by decide +kernel
theorem dModel_below_52 : decode bModel_below 52 = .ok (.iload_n 3, 1) := by decide +kernel
theorem dModel_below_53 : decode bModel_below 53 = .ok (.ireturn, 1) := by decide +kernel
theorem dModel_goThrough_0 : decode bModel_goThrough 0 = .ok (.iload_n 1, 1) := by decide +kernel
theorem dModel_goThrough_1 : decode bModel_goThrough 1 = .ok (.istore_n 3, 1) := by decide +kernel
theorem dModel_goThrough_2 : decode bModel_goThrough 2 = .ok (.iload_n 3, 1) := by decide +kernel
theorem dModel_goThrough_3 : decode bModel_goThrough 3 = .ok (.iload_n 2, 1) := by decide +kernel
theorem dModel_goThrough_4 : decode bModel_goThrough 4 = .ok (.if_icmp .gt 38, 3) := by decide +kernel
theorem dModel_goThrough_7 : decode bModel_goThrough 7 = .ok (.aload_n 0, 1) := by decide +kernel
theorem dModel_goThrough_8 : decode bModel_goThrough 8 = .ok (.iload_n 3, 1) := by decide +kernel
theorem dModel_goThrough_9 : decode bModel_goThrough 9 = .ok (.iload_n 2, 1) := by decide +kernel
theorem dModel_goThrough_10 : decode bModel_goThrough 10 = .ok (.invokevirtual 259, 3) := by decide +kernel
theorem dModel_goThrough_13 : decode bModel_goThrough 13 = .ok (.ifCond .ne 23, 3) := by decide +kernel
theorem dModel_goThrough_16 : decode bModel_goThrough 16 = .ok (.aload_n 0, 1) := by decide +kernel
theorem dModel_goThrough_17 : decode bModel_goThrough 17 = .ok (.iload_n 3, 1) := by decide +kernel
theorem dModel_goThrough_18 : decode bModel_goThrough 18 = .ok (.invokevirtual 263, 3) := by decide +kernel
theorem dModel_goThrough_21 : decode bModel_goThrough 21 = .ok (.istore 4, 2) := by decide +kernel
theorem dModel_goThrough_23 : decode bModel_goThrough 23 = .ok (.iload 4, 2) := by decide +kernel
theorem dModel_goThrough_25 : decode bModel_goThrough 25 = .ok (.ifCond .le 11, 3) := by decide +kernel
theorem dModel_goThrough_28 : decode bModel_goThrough 28 = .ok (.aload_n 0, 1) := by decide +kernel
theorem dModel_goThrough_29 : decode bModel_goThrough 29 = .ok (.iload_n 3, 1) := by decide +kernel
theorem dModel_goThrough_30 : decode bModel_goThrough 30 = .ok (.putfield 9, 3) := by decide +kernel
theorem dModel_goThrough_33 : decode bModel_goThrough 33 = .ok (.iload 4, 2) := by decide +kernel
theorem dModel_goThrough_35 : decode bModel_goThrough 35 = .ok (.ireturn, 1) := by decide +kernel
theorem dModel_goThrough_36 : decode bModel_goThrough 36 = .ok (.iinc 3 1, 3) := by decide +kernel
theorem dModel_goThrough_39 : decode bModel_goThrough 39 = .ok (.goto (-37), 3) := by decide +kernel
theorem dModel_goThrough_42 : decode bModel_goThrough 42 = .ok (.aload_n 0, 1) := by decide +kernel
theorem dModel_goThrough_43 : decode bModel_goThrough 43 = .ok (.iconst (-1), 1) := by decide +kernel
theorem dModel_goThrough_44 : decode bModel_goThrough 44 = .ok (.putfield 9, 3) := by decide +kernel
theorem dModel_goThrough_47 : decode bModel_goThrough 47 = .ok (.iconst 0, 1) := by decide +kernel
theorem dModel_goThrough_48 : decode bModel_goThrough 48 = .ok (.ireturn, 1) := by decide +kernel
theorem dModel_keep_0 : decode bModel_keep 0 = .ok (.iload_n 1, 1) := by decide +kernel
theorem dModel_keep_1 : decode bModel_keep 1 = .ok (.istore_n 3, 1) := by decide +kernel
theorem dModel_keep_2 : decode bModel_keep 2 = .ok (.iload_n 3, 1) := by decide +kernel
theorem dModel_keep_3 : decode bModel_keep 3 = .ok (.iload_n 2, 1) := by decide +kernel
theorem dModel_keep_4 : decode bModel_keep 4 = .ok (.if_icmp .gt 35, 3) := by decide +kernel
theorem dModel_keep_7 : decode bModel_keep 7 = .ok (.aload_n 0, 1) := by decide +kernel
theorem dModel_keep_8 : decode bModel_keep 8 = .ok (.iload_n 3, 1) := by decide +kernel
theorem dModel_keep_9 : decode bModel_keep 9 = .ok (.iload_n 2, 1) := by decide +kernel
theorem dModel_keep_10 : decode bModel_keep 10 = .ok (.invokevirtual 259, 3) := by decide +kernel
theorem dModel_keep_13 : decode bModel_keep 13 = .ok (.ifCond .ne 20, 3) := by decide +kernel
theorem dModel_keep_16 : decode bModel_keep 16 = .ok (.aload_n 0, 1) := by decide +kernel
theorem dModel_keep_17 : decode bModel_keep 17 = .ok (.iload_n 3, 1) := by decide +kernel
theorem dModel_keep_18 : decode bModel_keep 18 = .ok (.sipush 4000, 3) := by decide +kernel
theorem dModel_keep_21 : decode bModel_keep 21 = .ok (.iload_n 3, 1) := by decide +kernel
theorem dModel_keep_22 : decode bModel_keep 22 = .ok (.iadd, 1) := by decide +kernel
theorem dModel_keep_23 : decode bModel_keep 23 = .ok (.invokevirtual 177, 3) := by decide +kernel
theorem dModel_keep_26 : decode bModel_keep 26 = .ok (.aload_n 0, 1) := by decide +kernel
theorem dModel_keep_27 : decode bModel_keep 27 = .ok (.getfield 51, 3) := by decide +kernel
theorem dModel_keep_30 : decode bModel_keep 30 = .ok (.iload_n 3, 1) := by decide +kernel
theorem dModel_keep_31 : decode bModel_keep 31 = .ok (.iconst 1, 1) := by decide +kernel
theorem dModel_keep_32 : decode bModel_keep 32 = .ok (.bastore, 1) := by decide +kernel
theorem dModel_keep_33 : decode bModel_keep 33 = .ok (.iinc 3 1, 3) := by decide +kernel
theorem dModel_keep_36 : decode bModel_keep 36 = .ok (.goto (-34), 3) := by decide +kernel
theorem dModel_keep_39 : decode bModel_keep 39 = .ok (.return_, 1) := by decide +kernel
theorem dModel_wrong_0 : decode bModel_wrong 0 = .ok (.aload_n 0, 1) := by decide +kernel
theorem dModel_wrong_1 : decode bModel_wrong 1 = .ok (.iload_n 1, 1) := by decide +kernel
theorem dModel_wrong_2 : decode bModel_wrong 2 = .ok (.putfield 9, 3) := by decide +kernel
theorem dModel_wrong_5 : decode bModel_wrong 5 = .ok (.iload_n 2, 1) := by decide +kernel
theorem dModel_wrong_6 : decode bModel_wrong 6 = .ok (.ineg, 1) := by decide +kernel
theorem dModel_wrong_7 : decode bModel_wrong 7 = .ok (.ireturn, 1) := by decide +kernel
theorem dModel_type_0 : decode bModel_type 0 = .ok (.aload_n 0, 1) := by decide +kernel
theorem dModel_type_1 : decode bModel_type 1 = .ok (.aload_n 0, 1) := by decide +kernel
theorem dModel_type_2 : decode bModel_type 2 = .ok (.iload_n 1, 1) := by decide +kernel
theorem dModel_type_3 : decode bModel_type 3 = .ok (.invokevirtual 266, 3) := by decide +kernel
theorem dModel_type_6 : decode bModel_type 6 = .ok (.ifCond .eq 7, 3) := by decide +kernel
theorem dModel_type_9 : decode bModel_type 9 = .ok (.iconst 1, 1) := by decide +kernel
theorem dModel_type_10 : decode bModel_type 10 = .ok (.goto 4, 3) := by decide +kernel
theorem dModel_type_13 : decode bModel_type 13 = .ok (.iconst 0, 1) := by decide +kernel
theorem dModel_type_14 : decode bModel_type 14 = .ok (.putfield 99, 3) := by decide +kernel
theorem dModel_type_17 : decode bModel_type 17 = .ok (.aload_n 0, 1) := by decide +kernel
theorem dModel_type_18 : decode bModel_type 18 = .ok (.getfield 99, 3) := by decide +kernel
theorem dModel_type_21 : decode bModel_type 21 = .ok (.ifCond .le 5, 3) := by decide +kernel
theorem dModel_type_24 : decode bModel_type 24 = .ok (.iconst 0, 1) := by decide +kernel
theorem dModel_type_25 : decode bModel_type 25 = .ok (.ireturn, 1) := by decide +kernel
theorem dModel_type_26 : decode bModel_type 26 = .ok (.aload_n 0, 1) := by decide +kernel
theorem dModel_type_27 : decode bModel_type 27 = .ok (.getfield 9, 3) := by decide +kernel
theorem dModel_type_30 : decode bModel_type 30 = .ok (.istore_n 2, 1) := by decide +kernel
theorem dModel_type_31 : decode bModel_type 31 = .ok (.aload_n 0, 1) := by decide +kernel
theorem dModel_type_32 : decode bModel_type 32 = .ok (.aload_n 0, 1) := by decide +kernel
theorem dModel_type_33 : decode bModel_type 33 = .ok (.getfield 23, 3) := by decide +kernel
theorem dModel_type_36 : decode bModel_type 36 = .ok (.iload_n 1, 1) := by decide +kernel
theorem dModel_type_37 : decode bModel_type 37 = .ok (.iaload, 1) := by decide +kernel
theorem dModel_type_38 : decode bModel_type 38 = .ok (.iload_n 1, 1) := by decide +kernel
theorem dModel_type_39 : decode bModel_type 39 = .ok (.iconst 1, 1) := by decide +kernel
theorem dModel_type_40 : decode bModel_type 40 = .ok (.isub, 1) := by decide +kernel
theorem dModel_type_41 : decode bModel_type 41 = .ok (.invokevirtual 269, 3) := by decide +kernel
theorem dModel_type_44 : decode bModel_type 44 = .ok (.istore_n 3, 1) := by decide +kernel
theorem dModel_type_45 : decode bModel_type 45 = .ok (.iload_n 3, 1) := by decide +kernel
theorem dModel_type_46 : decode bModel_type 46 = .ok (.ifCond .le 6, 3) := by decide +kernel
theorem dModel_type_49 : decode bModel_type 49 = .ok (.iload_n 3, 1) := by decide +kernel
theorem dModel_type_50 : decode bModel_type 50 = .ok (.ineg, 1) := by decide +kernel
theorem dModel_type_51 : decode bModel_type 51 = .ok (.ireturn, 1) := by decide +kernel
theorem dModel_type_52 : decode bModel_type 52 = .ok (.aload_n 0, 1) := by decide +kernel
theorem dModel_type_53 : decode bModel_type 53 = .ok (.getfield 13, 3) := by decide +kernel
theorem dModel_type_56 : decode bModel_type 56 = .ok (.iload_n 1, 1) := by decide +kernel
theorem dModel_type_57 : decode bModel_type 57 = .ok (.iaload, 1) := by decide +kernel
theorem dModel_type_58 : decode bModel_type 58 = .ok (.istore 4, 2) := by decide +kernel
theorem dModel_type_60 : decode bModel_type 60 = .ok (.iload 4, 2) := by decide +kernel
theorem dModel_type_62 : decode bModel_type 62 = .ok (.bipush 10, 2) := by decide +kernel
theorem dModel_type_64 : decode bModel_type 64 = .ok (.if_icmp .ne 68, 3) := by decide +kernel
theorem dModel_type_67 : decode bModel_type 67 = .ok (.aload_n 0, 1) := by decide +kernel
theorem dModel_type_68 : decode bModel_type 68 = .ok (.getfield 20, 3) := by decide +kernel
theorem dModel_type_71 : decode bModel_type 71 = .ok (.iload_n 1, 1) := by decide +kernel
theorem dModel_type_72 : decode bModel_type 72 = .ok (.iaload, 1) := by decide +kernel
theorem dModel_type_73 : decode bModel_type 73 = .ok (.ifCond .le 11, 3) := by decide +kernel
theorem dModel_type_76 : decode bModel_type 76 = .ok (.aload_n 0, 1) := by decide +kernel
theorem dModel_type_77 : decode bModel_type 77 = .ok (.iload_n 1, 1) := by decide +kernel
theorem dModel_type_78 : decode bModel_type 78 = .ok (.bipush 11, 2) := by decide +kernel
theorem dModel_type_80 : decode bModel_type 80 = .ok (.invokevirtual 272, 3) := by decide +kernel
theorem dModel_type_83 : decode bModel_type 83 = .ok (.ireturn, 1) := by decide +kernel
theorem dModel_type_84 : decode bModel_type 84 = .ok (.aload_n 0, 1) := by decide +kernel
theorem dModel_type_85 : decode bModel_type 85 = .ok (.aload_n 0, 1) := by decide +kernel
theorem dModel_type_86 : decode bModel_type 86 = .ok (.getfield 17, 3) := by decide +kernel
theorem dModel_type_89 : decode bModel_type 89 = .ok (.iload_n 1, 1) := by decide +kernel
theorem dModel_type_90 : decode bModel_type 90 = .ok (.iaload, 1) := by decide +kernel
theorem dModel_type_91 : decode bModel_type 91 = .ok (.invokevirtual 173, 3) := by decide +kernel
theorem dModel_type_94 : decode bModel_type 94 = .ok (.aload_n 0, 1) := by decide +kernel
theorem dModel_type_95 : decode bModel_type 95 = .ok (.getfield 118, 3) := by decide +kernel
theorem dModel_type_98 : decode bModel_type 98 = .ok (.iconst 5, 1) := by decide +kernel
theorem dModel_type_99 : decode bModel_type 99 = .ok (.if_icmp .ne 12, 3) := by decide +kernel
theorem dModel_type_102 : decode bModel_type 102 = .ok (.aload_n 0, 1) := by decide +kernel
theorem dModel_type_103 : decode bModel_type 103 = .ok (.iload_n 1, 1) := by decide +kernel
theorem dModel_type_104 : decode bModel_type 104 = .ok (.iconst 1, 1) := by decide +kernel
theorem dModel_type_105 : decode bModel_type 105 = .ok (.invokevirtual 272, 3) := by decide +kernel
theorem dModel_type_108 : decode bModel_type 108 = .ok (.goto 23, 3) := by decide +kernel
theorem dModel_type_111 : decode bModel_type 111 = .ok (.aload_n 0, 1) := by decide +kernel
theorem dModel_type_112 : decode bModel_type 112 = .ok (.getfield 118, 3) := by decide +kernel
theorem dModel_type_115 : decode bModel_type 115 = .ok (.ifCond .ne 10, 3) := by decide +kernel
theorem dModel_type_118 : decode bModel_type 118 = .ok (.aload_n 0, 1) := by decide +kernel
theorem dModel_type_119 : decode bModel_type 119 = .ok (.getfield 121, 3) := by decide +kernel
theorem dModel_type_122 : decode bModel_type 122 = .ok (.goto 9, 3) := by decide +kernel
theorem dModel_type_125 : decode bModel_type 125 = .ok (.aload_n 0, 1) := by decide +kernel
theorem dModel_type_126 : decode bModel_type 126 = .ok (.iload_n 1, 1) := by decide +kernel
theorem dModel_type_127 : decode bModel_type 127 = .ok (.iconst 2, 1) := by decide +kernel
theorem dModel_type_128 : decode bModel_type 128 = .ok (.invokevirtual 272, 3) := by decide +kernel
theorem dModel_type_131 : decode bModel_type 131 = .ok (.ireturn, 1) := by decide +kernel
theorem dModel_type_132 : decode bModel_type 132 = .ok (.iload 4, 2) := by decide +kernel
theorem dModel_type_134 : decode bModel_type 134 = .ok (.bipush 11, 2) := by decide +kernel
theorem dModel_type_136 : decode bModel_type 136 = .ok (.if_icmp .eq 17, 3) := by decide +kernel
theorem dModel_type_139 : decode bModel_type 139 = .ok (.iload 4, 2) := by decide +kernel
theorem dModel_type_141 : decode bModel_type 141 = .ok (.bipush 12, 2) := by decide +kernel
theorem dModel_type_143 : decode bModel_type 143 = .ok (.if_icmp .eq 10, 3) := by decide +kernel
theorem dModel_type_146 : decode bModel_type 146 = .ok (.iload 4, 2) := by decide +kernel
theorem dModel_type_148 : decode bModel_type 148 = .ok (.bipush 13, 2) := by decide +kernel
theorem dModel_type_150 : decode bModel_type 150 = .ok (.if_icmp .ne 13, 3) := by decide +kernel
theorem dModel_type_153 : decode bModel_type 153 = .ok (.aload_n 0, 1) := by decide +kernel
theorem dModel_type_154 : decode bModel_type 154 = .ok (.getfield 20, 3) := by decide +kernel
theorem dModel_type_157 : decode bModel_type 157 = .ok (.iload_n 1, 1) := by decide +kernel
theorem dModel_type_158 : decode bModel_type 158 = .ok (.iaload, 1) := by decide +kernel
theorem dModel_type_159 : decode bModel_type 159 = .ok (.iconst 2, 1) := by decide +kernel
theorem dModel_type_160 : decode bModel_type 160 = .ok (.if_icmp .eq 11, 3) := by decide +kernel
theorem dModel_type_163 : decode bModel_type 163 = .ok (.aload_n 0, 1) := by decide +kernel
theorem dModel_type_164 : decode bModel_type 164 = .ok (.iload_n 1, 1) := by decide +kernel
theorem dModel_type_165 : decode bModel_type 165 = .ok (.bipush 11, 2) := by decide +kernel
theorem dModel_type_167 : decode bModel_type 167 = .ok (.invokevirtual 272, 3) := by decide +kernel
theorem dModel_type_170 : decode bModel_type 170 = .ok (.ireturn, 1) := by decide +kernel
theorem dModel_type_171 : decode bModel_type 171 = .ok (.aload_n 0, 1) := by decide +kernel
theorem dModel_type_172 : decode bModel_type 172 = .ok (.getfield 17, 3) := by decide +kernel
theorem dModel_type_175 : decode bModel_type 175 = .ok (.iload_n 1, 1) := by decide +kernel
theorem dModel_type_176 : decode bModel_type 176 = .ok (.iaload, 1) := by decide +kernel
theorem dModel_type_177 : decode bModel_type 177 = .ok (.iload 4, 2) := by decide +kernel
theorem dModel_type_179 : decode bModel_type 179 = .ok (.bipush 11, 2) := by decide +kernel
theorem dModel_type_181 : decode bModel_type 181 = .ok (.if_icmp .ne 7, 3) := by decide +kernel
theorem dModel_type_184 : decode bModel_type 184 = .ok (.iconst 0, 1) := by decide +kernel
theorem dModel_type_185 : decode bModel_type 185 = .ok (.goto 4, 3) := by decide +kernel
theorem dModel_type_188 : decode bModel_type 188 = .ok (.iconst 5, 1) := by decide +kernel
theorem dModel_type_189 : decode bModel_type 189 = .ok (.if_icmp .eq 10, 3) := by decide +kernel
theorem dModel_type_192 : decode bModel_type 192 = .ok (.aload_n 0, 1) := by decide +kernel
theorem dModel_type_193 : decode bModel_type 193 = .ok (.iload_n 1, 1) := by decide +kernel
theorem dModel_type_194 : decode bModel_type 194 = .ok (.iconst 2, 1) := by decide +kernel
theorem dModel_type_195 : decode bModel_type 195 = .ok (.invokevirtual 272, 3) := by decide +kernel
theorem dModel_type_198 : decode bModel_type 198 = .ok (.ireturn, 1) := by decide +kernel
theorem dModel_type_199 : decode bModel_type 199 = .ok (.aload_n 0, 1) := by decide +kernel
theorem dModel_type_200 : decode bModel_type 200 = .ok (.iload_n 1, 1) := by decide +kernel
theorem dModel_type_201 : decode bModel_type 201 = .ok (.iconst 1, 1) := by decide +kernel
theorem dModel_type_202 : decode bModel_type 202 = .ok (.invokevirtual 154, 3) := by decide +kernel
theorem dModel_type_205 : decode bModel_type 205 = .ok (.istore 5, 2) := by decide +kernel
theorem dModel_type_207 : decode bModel_type 207 = .ok (.aload_n 0, 1) := by decide +kernel
theorem dModel_type_208 : decode bModel_type 208 = .ok (.iload_n 1, 1) := by decide +kernel
theorem dModel_type_209 : decode bModel_type 209 = .ok (.iconst 0, 1) := by decide +kernel
theorem dModel_type_210 : decode bModel_type 210 = .ok (.invokevirtual 154, 3) := by decide +kernel
theorem dModel_type_213 : decode bModel_type 213 = .ok (.istore 6, 2) := by decide +kernel
theorem dModel_type_215 : decode bModel_type 215 = .ok (.aload_n 0, 1) := by decide +kernel
theorem dModel_type_216 : decode bModel_type 216 = .ok (.getfield 29, 3) := by decide +kernel
theorem dModel_type_219 : decode bModel_type 219 = .ok (.iload 5, 2) := by decide +kernel
theorem dModel_type_221 : decode bModel_type 221 = .ok (.iaload, 1) := by decide +kernel
theorem dModel_type_222 : decode bModel_type 222 = .ok (.iconst 2, 1) := by decide +kernel
theorem dModel_type_223 : decode bModel_type 223 = .ok (.if_icmp .ne 14, 3) := by decide +kernel
theorem dModel_type_226 : decode bModel_type 226 = .ok (.aload_n 0, 1) := by decide +kernel
theorem dModel_type_227 : decode bModel_type 227 = .ok (.getfield 29, 3) := by decide +kernel
theorem dModel_type_230 : decode bModel_type 230 = .ok (.iload 6, 2) := by decide +kernel
theorem dModel_type_232 : decode bModel_type 232 = .ok (.iaload, 1) := by decide +kernel
theorem dModel_type_233 : decode bModel_type 233 = .ok (.iconst 2, 1) := by decide +kernel
theorem dModel_type_234 : decode bModel_type 234 = .ok (.if_icmp .eq 10, 3) := by decide +kernel
theorem dModel_type_237 : decode bModel_type 237 = .ok (.aload_n 0, 1) := by decide +kernel
theorem dModel_type_238 : decode bModel_type 238 = .ok (.iload_n 1, 1) := by decide +kernel
theorem dModel_type_239 : decode bModel_type 239 = .ok (.iconst 3, 1) := by decide +kernel
theorem dModel_type_240 : decode bModel_type 240 = .ok (.invokevirtual 272, 3) := by decide +kernel
theorem dModel_type_243 : decode bModel_type 243 = .ok (.ireturn, 1) := by decide +kernel
theorem dModel_type_244 : decode bModel_type 244 = .ok (.aload_n 0, 1) := by decide +kernel
theorem dModel_type_245 : decode bModel_type 245 = .ok (.getfield 35, 3) := by decide +kernel
theorem dModel_type_248 : decode bModel_type 248 = .ok (.iload 5, 2) := by decide +kernel
theorem dModel_type_250 : decode bModel_type 250 = .ok (.baload, 1) := by decide +kernel
theorem dModel_type_251 : decode bModel_type 251 = .ok (.ifCond .eq 13, 3) := by decide +kernel
theorem dModel_type_254 : decode bModel_type 254 = .ok (.aload_n 0, 1) := by decide +kernel
theorem dModel_type_255 : decode bModel_type 255 = .ok (.getfield 35, 3) := by decide +kernel
theorem dModel_type_258 : decode bModel_type 258 = .ok (.iload 6, 2) := by decide +kernel
theorem dModel_type_260 : decode bModel_type 260 = .ok (.baload, 1) := by decide +kernel
theorem dModel_type_261 : decode bModel_type 261 = .ok (.ifCond .ne 9, 3) := by decide +kernel
theorem dModel_type_264 : decode bModel_type 264 = .ok (.aload_n 0, 1) := by decide +kernel
theorem dModel_type_265 : decode bModel_type 265 = .ok (.iload_n 1, 1) := by decide +kernel
theorem dModel_type_266 : decode bModel_type 266 = .ok (.invokevirtual 275, 3) := by decide +kernel
theorem dModel_type_269 : decode bModel_type 269 = .ok (.ireturn, 1) := by decide +kernel
theorem dModel_type_270 : decode bModel_type 270 = .ok (.aload_n 0, 1) := by decide +kernel
theorem dModel_type_271 : decode bModel_type 271 = .ok (.getfield 42, 3) := by decide +kernel
theorem dModel_type_274 : decode bModel_type 274 = .ok (.iload 5, 2) := by decide +kernel
theorem dModel_type_276 : decode bModel_type 276 = .ok (.laload, 1) := by decide +kernel
theorem dModel_type_277 : decode bModel_type 277 = .ok (.lstore 7, 2) := by decide +kernel
theorem dModel_type_279 : decode bModel_type 279 = .ok (.aload_n 0, 1) := by decide +kernel
theorem dModel_type_280 : decode bModel_type 280 = .ok (.getfield 42, 3) := by decide +kernel
theorem dModel_type_283 : decode bModel_type 283 = .ok (.iload 6, 2) := by decide +kernel
theorem dModel_type_285 : decode bModel_type 285 = .ok (.laload, 1) := by decide +kernel
theorem dModel_type_286 : decode bModel_type 286 = .ok (.lstore 9, 2) := by decide +kernel
theorem dModel_type_288 : decode bModel_type 288 = .ok (.iload 4, 2) := by decide +kernel
theorem dModel_type_290 : decode bModel_type 290 = .ok (.bipush 11, 2) := by decide +kernel
theorem dModel_type_292 : decode bModel_type 292 = .ok (.if_icmp .ne 19, 3) := by decide +kernel
theorem dModel_type_295 : decode bModel_type 295 = .ok (.lload 7, 2) := by decide +kernel
theorem dModel_type_297 : decode bModel_type 297 = .ok (.lload 9, 2) := by decide +kernel
theorem dModel_type_299 : decode bModel_type 299 = .ok (.lcmp, 1) := by decide +kernel
theorem dModel_type_300 : decode bModel_type 300 = .ok (.ifCond .le 11, 3) := by decide +kernel
theorem dModel_type_303 : decode bModel_type 303 = .ok (.aload_n 0, 1) := by decide +kernel
theorem dModel_type_304 : decode bModel_type 304 = .ok (.iload_n 1, 1) := by decide +kernel
theorem dModel_type_305 : decode bModel_type 305 = .ok (.bipush 8, 2) := by decide +kernel
theorem dModel_type_307 : decode bModel_type 307 = .ok (.invokevirtual 272, 3) := by decide +kernel
theorem dModel_type_310 : decode bModel_type 310 = .ok (.ireturn, 1) := by decide +kernel
theorem dModel_type_311 : decode bModel_type 311 = .ok (.iload 4, 2) := by decide +kernel
theorem dModel_type_313 : decode bModel_type 313 = .ok (.bipush 12, 2) := by decide +kernel
theorem dModel_type_315 : decode bModel_type 315 = .ok (.if_icmp .ne 13, 3) := by decide +kernel
theorem dModel_type_318 : decode bModel_type 318 = .ok (.lload 9, 2) := by decide +kernel
theorem dModel_type_320 : decode bModel_type 320 = .ok (.lload 7, 2) := by decide +kernel
theorem dModel_type_322 : decode bModel_type 322 = .ok (.lsub, 1) := by decide +kernel
theorem dModel_type_323 : decode bModel_type 323 = .ok (.lconst 1, 1) := by decide +kernel
theorem dModel_type_324 : decode bModel_type 324 = .ok (.ladd, 1) := by decide +kernel
theorem dModel_type_325 : decode bModel_type 325 = .ok (.goto 21, 3) := by decide +kernel
theorem dModel_type_328 : decode bModel_type 328 = .ok (.iload 4, 2) := by decide +kernel
theorem dModel_type_330 : decode bModel_type 330 = .ok (.bipush 13, 2) := by decide +kernel
theorem dModel_type_332 : decode bModel_type 332 = .ok (.if_icmp .ne 13, 3) := by decide +kernel
theorem dModel_type_335 : decode bModel_type 335 = .ok (.lload 7, 2) := by decide +kernel
theorem dModel_type_337 : decode bModel_type 337 = .ok (.lload 9, 2) := by decide +kernel
theorem dModel_type_339 : decode bModel_type 339 = .ok (.lsub, 1) := by decide +kernel
theorem dModel_type_340 : decode bModel_type 340 = .ok (.lconst 1, 1) := by decide +kernel
theorem dModel_type_341 : decode bModel_type 341 = .ok (.ladd, 1) := by decide +kernel
theorem dModel_type_342 : decode bModel_type 342 = .ok (.goto 4, 3) := by decide +kernel
theorem dModel_type_345 : decode bModel_type 345 = .ok (.lconst 0, 1) := by decide +kernel
theorem dModel_type_346 : decode bModel_type 346 = .ok (.lstore 11, 2) := by decide +kernel
theorem dModel_type_348 : decode bModel_type 348 = .ok (.lload 11, 2) := by decide +kernel
theorem dModel_type_350 : decode bModel_type 350 = .ok (.ldc2_w 257, 3) := by decide +kernel
theorem dModel_type_353 : decode bModel_type 353 = .ok (.lcmp, 1) := by decide +kernel
theorem dModel_type_354 : decode bModel_type 354 = .ok (.ifCond .le 10, 3) := by decide +kernel
theorem dModel_type_357 : decode bModel_type 357 = .ok (.aload_n 0, 1) := by decide +kernel
theorem dModel_type_358 : decode bModel_type 358 = .ok (.iload_n 1, 1) := by decide +kernel
theorem dModel_type_359 : decode bModel_type 359 = .ok (.iconst 4, 1) := by decide +kernel
theorem dModel_type_360 : decode bModel_type 360 = .ok (.invokevirtual 272, 3) := by decide +kernel
theorem dModel_type_363 : decode bModel_type 363 = .ok (.ireturn, 1) := by decide +kernel
theorem dModel_type_364 : decode bModel_type 364 = .ok (.iload 4, 2) := by decide +kernel
theorem dModel_type_366 : decode bModel_type 366 = .ok (.bipush 11, 2) := by decide +kernel
theorem dModel_type_368 : decode bModel_type 368 = .ok (.if_icmp .le 32, 3) := by decide +kernel
theorem dModel_type_371 : decode bModel_type 371 = .ok (.lload 11, 2) := by decide +kernel
theorem dModel_type_373 : decode bModel_type 373 = .ok (.lconst 1, 1) := by decide +kernel
theorem dModel_type_374 : decode bModel_type 374 = .ok (.lcmp, 1) := by decide +kernel
theorem dModel_type_375 : decode bModel_type 375 = .ok (.ifCond .lt 17, 3) := by decide +kernel
theorem dModel_type_378 : decode bModel_type 378 = .ok (.lload 7, 2) := by decide +kernel
theorem dModel_type_380 : decode bModel_type 380 = .ok (.lconst 0, 1) := by decide +kernel
theorem dModel_type_381 : decode bModel_type 381 = .ok (.lcmp, 1) := by decide +kernel
theorem dModel_type_382 : decode bModel_type 382 = .ok (.ifCond .lt 10, 3) := by decide +kernel
theorem dModel_type_385 : decode bModel_type 385 = .ok (.lload 9, 2) := by decide +kernel
theorem dModel_type_387 : decode bModel_type 387 = .ok (.lconst 0, 1) := by decide +kernel
theorem dModel_type_388 : decode bModel_type 388 = .ok (.lcmp, 1) := by decide +kernel
theorem dModel_type_389 : decode bModel_type 389 = .ok (.ifCond .ge 11, 3) := by decide +kernel
theorem dModel_type_392 : decode bModel_type 392 = .ok (.aload_n 0, 1) := by decide +kernel
theorem dModel_type_393 : decode bModel_type 393 = .ok (.iload_n 1, 1) := by decide +kernel
theorem dModel_type_394 : decode bModel_type 394 = .ok (.bipush 6, 2) := by decide +kernel
theorem dModel_type_396 : decode bModel_type 396 = .ok (.invokevirtual 272, 3) := by decide +kernel
theorem dModel_type_399 : decode bModel_type 399 = .ok (.ireturn, 1) := by decide +kernel
theorem dModel_type_400 : decode bModel_type 400 = .ok (.aload_n 0, 1) := by decide +kernel
theorem dModel_type_401 : decode bModel_type 401 = .ok (.getfield 102, 3) := by decide +kernel
theorem dModel_type_404 : decode bModel_type 404 = .ok (.sipush 1000, 3) := by decide +kernel
theorem dModel_type_407 : decode bModel_type 407 = .ok (.if_icmp .ne 15, 3) := by decide +kernel
theorem dModel_type_410 : decode bModel_type 410 = .ok (.aload_n 0, 1) := by decide +kernel
theorem dModel_type_411 : decode bModel_type 411 = .ok (.iconst 2, 1) := by decide +kernel
theorem dModel_type_412 : decode bModel_type 412 = .ok (.putfield 99, 3) := by decide +kernel
theorem dModel_type_415 : decode bModel_type 415 = .ok (.aload_n 0, 1) := by decide +kernel
theorem dModel_type_416 : decode bModel_type 416 = .ok (.iload_n 2, 1) := by decide +kernel
theorem dModel_type_417 : decode bModel_type 417 = .ok (.putfield 9, 3) := by decide +kernel
theorem dModel_type_420 : decode bModel_type 420 = .ok (.iconst 0, 1) := by decide +kernel
theorem dModel_type_421 : decode bModel_type 421 = .ok (.ireturn, 1) := by decide +kernel
theorem dModel_type_422 : decode bModel_type 422 = .ok (.aload_n 0, 1) := by decide +kernel
theorem dModel_type_423 : decode bModel_type 423 = .ok (.aload_n 0, 1) := by decide +kernel
theorem dModel_type_424 : decode bModel_type 424 = .ok (.getfield 23, 3) := by decide +kernel
theorem dModel_type_427 : decode bModel_type 427 = .ok (.iload_n 1, 1) := by decide +kernel
theorem dModel_type_428 : decode bModel_type 428 = .ok (.iaload, 1) := by decide +kernel
theorem dModel_type_429 : decode bModel_type 429 = .ok (.iload_n 1, 1) := by decide +kernel
theorem dModel_type_430 : decode bModel_type 430 = .ok (.iconst 1, 1) := by decide +kernel
theorem dModel_type_431 : decode bModel_type 431 = .ok (.isub, 1) := by decide +kernel
theorem dModel_type_432 : decode bModel_type 432 = .ok (.invokevirtual 278, 3) := by decide +kernel
theorem dModel_type_435 : decode bModel_type 435 = .ok (.aload_n 0, 1) := by decide +kernel
theorem dModel_type_436 : decode bModel_type 436 = .ok (.iload 4, 2) := by decide +kernel
theorem dModel_type_438 : decode bModel_type 438 = .ok (.bipush 11, 2) := by decide +kernel
theorem dModel_type_440 : decode bModel_type 440 = .ok (.if_icmp .ne 7, 3) := by decide +kernel
theorem dModel_type_443 : decode bModel_type 443 = .ok (.iconst 2, 1) := by decide +kernel
theorem dModel_type_444 : decode bModel_type 444 = .ok (.goto 4, 3) := by decide +kernel
theorem dModel_type_447 : decode bModel_type 447 = .ok (.iconst 3, 1) := by decide +kernel
theorem dModel_type_448 : decode bModel_type 448 = .ok (.lload 7, 2) := by decide +kernel
theorem dModel_type_450 : decode bModel_type 450 = .ok (.l2i, 1) := by decide +kernel
theorem dModel_type_451 : decode bModel_type 451 = .ok (.lload 9, 2) := by decide +kernel
theorem dModel_type_453 : decode bModel_type 453 = .ok (.l2i, 1) := by decide +kernel
theorem dModel_type_454 : decode bModel_type 454 = .ok (.lload 11, 2) := by decide +kernel
theorem dModel_type_456 : decode bModel_type 456 = .ok (.l2i, 1) := by decide +kernel
theorem dModel_type_457 : decode bModel_type 457 = .ok (.iload 4, 2) := by decide +kernel
theorem dModel_type_459 : decode bModel_type 459 = .ok (.bipush 13, 2) := by decide +kernel
theorem dModel_type_461 : decode bModel_type 461 = .ok (.if_icmp .ne 7, 3) := by decide +kernel
theorem dModel_type_464 : decode bModel_type 464 = .ok (.iconst 1, 1) := by decide +kernel
theorem dModel_type_465 : decode bModel_type 465 = .ok (.goto 4, 3) := by decide +kernel
theorem dModel_type_468 : decode bModel_type 468 = .ok (.iconst 0, 1) := by decide +kernel
theorem dModel_type_469 : decode bModel_type 469 = .ok (.invokevirtual 93, 3) := by decide +kernel
theorem dModel_type_472 : decode bModel_type 472 = .ok (.ireturn, 1) := by decide +kernel
theorem dModel_constantFault_0 : decode bModel_constantFault 0 = .ok (.aload_n 0, 1) := by decide +kernel
theorem dModel_constantFault_1 : decode bModel_constantFault 1 = .ok (.iload_n 1, 1) := by decide +kernel
theorem dModel_constantFault_2 : decode bModel_constantFault 2 = .ok (.iconst 5, 1) := by decide +kernel
theorem dModel_constantFault_3 : decode bModel_constantFault 3 = .ok (.invokevirtual 272, 3) := by decide +kernel
theorem dModel_constantFault_6 : decode bModel_constantFault 6 = .ok (.ireturn, 1) := by decide +kernel
theorem dModel_enumeration_0 : decode bModel_enumeration 0 = .ok (.aload_n 0, 1) := by decide +kernel
theorem dModel_enumeration_1 : decode bModel_enumeration 1 = .ok (.aload_n 0, 1) := by decide +kernel
theorem dModel_enumeration_2 : decode bModel_enumeration 2 = .ok (.iload_n 1, 1) := by decide +kernel
theorem dModel_enumeration_3 : decode bModel_enumeration 3 = .ok (.invokevirtual 266, 3) := by decide +kernel
theorem dModel_enumeration_6 : decode bModel_enumeration 6 = .ok (.ifCond .eq 7, 3) := by decide +kernel
theorem dModel_enumeration_9 : decode bModel_enumeration 9 = .ok (.iconst 1, 1) := by decide +kernel
theorem dModel_enumeration_10 : decode bModel_enumeration 10 = .ok (.goto 4, 3) := by decide +kernel
theorem dModel_enumeration_13 : decode bModel_enumeration 13 = .ok (.iconst 0, 1) := by decide +kernel
theorem dModel_enumeration_14 : decode bModel_enumeration 14 = .ok (.putfield 99, 3) := by decide +kernel
theorem dModel_enumeration_17 : decode bModel_enumeration 17 = .ok (.aload_n 0, 1) := by decide +kernel
theorem dModel_enumeration_18 : decode bModel_enumeration 18 = .ok (.getfield 99, 3) := by decide +kernel
theorem dModel_enumeration_21 : decode bModel_enumeration 21 = .ok (.ifCond .le 5, 3) := by decide +kernel
theorem dModel_enumeration_24 : decode bModel_enumeration 24 = .ok (.iconst 0, 1) := by decide +kernel
theorem dModel_enumeration_25 : decode bModel_enumeration 25 = .ok (.ireturn, 1) := by decide +kernel
theorem dModel_enumeration_26 : decode bModel_enumeration 26 = .ok (.aload_n 0, 1) := by decide +kernel
theorem dModel_enumeration_27 : decode bModel_enumeration 27 = .ok (.getfield 20, 3) := by decide +kernel
theorem dModel_enumeration_30 : decode bModel_enumeration 30 = .ok (.iload_n 1, 1) := by decide +kernel
theorem dModel_enumeration_31 : decode bModel_enumeration 31 = .ok (.iaload, 1) := by decide +kernel
theorem dModel_enumeration_32 : decode bModel_enumeration 32 = .ok (.istore_n 2, 1) := by decide +kernel
theorem dModel_enumeration_33 : decode bModel_enumeration 33 = .ok (.aload_n 0, 1) := by decide +kernel
theorem dModel_enumeration_34 : decode bModel_enumeration 34 = .ok (.getfield 13, 3) := by decide +kernel
theorem dModel_enumeration_37 : decode bModel_enumeration 37 = .ok (.iload_n 1, 1) := by decide +kernel
theorem dModel_enumeration_38 : decode bModel_enumeration 38 = .ok (.iaload, 1) := by decide +kernel
theorem dModel_enumeration_39 : decode bModel_enumeration 39 = .ok (.bipush 53, 2) := by decide +kernel
theorem dModel_enumeration_41 : decode bModel_enumeration 41 = .ok (.if_icmp .ne 18, 3) := by decide +kernel
theorem dModel_enumeration_44 : decode bModel_enumeration 44 = .ok (.iload_n 2, 1) := by decide +kernel
theorem dModel_enumeration_45 : decode bModel_enumeration 45 = .ok (.iconst 1, 1) := by decide +kernel
theorem dModel_enumeration_46 : decode bModel_enumeration 46 = .ok (.if_icmp .lt 13, 3) := by decide +kernel
theorem dModel_enumeration_49 : decode bModel_enumeration 49 = .ok (.iload_n 2, 1) := by decide +kernel
theorem dModel_enumeration_50 : decode bModel_enumeration 50 = .ok (.bipush 64, 2) := by decide +kernel
theorem dModel_enumeration_52 : decode bModel_enumeration 52 = .ok (.if_icmp .gt 7, 3) := by decide +kernel
theorem dModel_enumeration_55 : decode bModel_enumeration 55 = .ok (.iconst 1, 1) := by decide +kernel
theorem dModel_enumeration_56 : decode bModel_enumeration 56 = .ok (.goto 4, 3) := by decide +kernel
theorem dModel_enumeration_59 : decode bModel_enumeration 59 = .ok (.iconst 0, 1) := by decide +kernel
theorem dModel_enumeration_60 : decode bModel_enumeration 60 = .ok (.istore_n 3, 1) := by decide +kernel
theorem dModel_enumeration_61 : decode bModel_enumeration 61 = .ok (.iconst 0, 1) := by decide +kernel
theorem dModel_enumeration_62 : decode bModel_enumeration 62 = .ok (.istore 4, 2) := by decide +kernel
theorem dModel_enumeration_64 : decode bModel_enumeration 64 = .ok (.iload 4, 2) := by decide +kernel
theorem dModel_enumeration_66 : decode bModel_enumeration 66 = .ok (.iload_n 2, 1) := by decide +kernel
theorem dModel_enumeration_67 : decode bModel_enumeration 67 = .ok (.if_icmp .ge 50, 3) := by decide +kernel
theorem dModel_enumeration_70 : decode bModel_enumeration 70 = .ok (.iload_n 3, 1) := by decide +kernel
theorem dModel_enumeration_71 : decode bModel_enumeration 71 = .ok (.ifCond .eq 46, 3) := by decide +kernel
theorem dModel_enumeration_74 : decode bModel_enumeration 74 = .ok (.aload_n 0, 1) := by decide +kernel
theorem dModel_enumeration_75 : decode bModel_enumeration 75 = .ok (.getfield 13, 3) := by decide +kernel
theorem dModel_enumeration_78 : decode bModel_enumeration 78 = .ok (.aload_n 0, 1) := by decide +kernel
theorem dModel_enumeration_79 : decode bModel_enumeration 79 = .ok (.iload_n 1, 1) := by decide +kernel
theorem dModel_enumeration_80 : decode bModel_enumeration 80 = .ok (.iload 4, 2) := by decide +kernel
theorem dModel_enumeration_82 : decode bModel_enumeration 82 = .ok (.invokevirtual 154, 3) := by decide +kernel
theorem dModel_enumeration_85 : decode bModel_enumeration 85 = .ok (.iaload, 1) := by decide +kernel
theorem dModel_enumeration_86 : decode bModel_enumeration 86 = .ok (.iconst 1, 1) := by decide +kernel
theorem dModel_enumeration_87 : decode bModel_enumeration 87 = .ok (.if_icmp .ne 22, 3) := by decide +kernel
theorem dModel_enumeration_90 : decode bModel_enumeration 90 = .ok (.aload_n 0, 1) := by decide +kernel
theorem dModel_enumeration_91 : decode bModel_enumeration 91 = .ok (.getfield 20, 3) := by decide +kernel
theorem dModel_enumeration_94 : decode bModel_enumeration 94 = .ok (.aload_n 0, 1) := by decide +kernel
theorem dModel_enumeration_95 : decode bModel_enumeration 95 = .ok (.iload_n 1, 1) := by decide +kernel
theorem dModel_enumeration_96 : decode bModel_enumeration 96 = .ok (.iload 4, 2) := by decide +kernel
theorem dModel_enumeration_98 : decode bModel_enumeration 98 = .ok (.invokevirtual 154, 3) := by decide +kernel
theorem dModel_enumeration_101 : decode bModel_enumeration 101 = .ok (.iaload, 1) := by decide +kernel
theorem dModel_enumeration_102 : decode bModel_enumeration 102 = .ok (.ifCond .ne 7, 3) := by decide +kernel
theorem dModel_enumeration_105 : decode bModel_enumeration 105 = .ok (.iconst 1, 1) := by decide +kernel
theorem dModel_enumeration_106 : decode bModel_enumeration 106 = .ok (.goto 4, 3) := by decide +kernel
theorem dModel_enumeration_109 : decode bModel_enumeration 109 = .ok (.iconst 0, 1) := by decide +kernel
theorem dModel_enumeration_110 : decode bModel_enumeration 110 = .ok (.istore_n 3, 1) := by decide +kernel
theorem dModel_enumeration_111 : decode bModel_enumeration 111 = .ok (.iinc 4 1, 3) := by decide +kernel
theorem dModel_enumeration_114 : decode bModel_enumeration 114 = .ok (.goto (-50), 3) := by decide +kernel
theorem dModel_enumeration_117 : decode bModel_enumeration 117 = .ok (.iload_n 3, 1) := by decide +kernel
theorem dModel_enumeration_118 : decode bModel_enumeration 118 = .ok (.ifCond .ne 11, 3) := by decide +kernel
theorem dModel_enumeration_121 : decode bModel_enumeration 121 = .ok (.aload_n 0, 1) := by decide +kernel
theorem dModel_enumeration_122 : decode bModel_enumeration 122 = .ok (.iload_n 1, 1) := by decide +kernel
theorem dModel_enumeration_123 : decode bModel_enumeration 123 = .ok (.bipush 11, 2) := by decide +kernel
theorem dModel_enumeration_125 : decode bModel_enumeration 125 = .ok (.invokevirtual 272, 3) := by decide +kernel
theorem dModel_enumeration_128 : decode bModel_enumeration 128 = .ok (.ireturn, 1) := by decide +kernel
theorem dModel_enumeration_129 : decode bModel_enumeration 129 = .ok (.aload_n 0, 1) := by decide +kernel
theorem dModel_enumeration_130 : decode bModel_enumeration 130 = .ok (.aload_n 0, 1) := by decide +kernel
theorem dModel_enumeration_131 : decode bModel_enumeration 131 = .ok (.getfield 17, 3) := by decide +kernel
theorem dModel_enumeration_134 : decode bModel_enumeration 134 = .ok (.iload_n 1, 1) := by decide +kernel
theorem dModel_enumeration_135 : decode bModel_enumeration 135 = .ok (.iaload, 1) := by decide +kernel
theorem dModel_enumeration_136 : decode bModel_enumeration 136 = .ok (.invokevirtual 281, 3) := by decide +kernel
theorem dModel_enumeration_139 : decode bModel_enumeration 139 = .ok (.ifCond .eq 11, 3) := by decide +kernel
theorem dModel_enumeration_142 : decode bModel_enumeration 142 = .ok (.aload_n 0, 1) := by decide +kernel
theorem dModel_enumeration_143 : decode bModel_enumeration 143 = .ok (.iload_n 1, 1) := by decide +kernel
theorem dModel_enumeration_144 : decode bModel_enumeration 144 = .ok (.bipush 7, 2) := by decide +kernel
theorem dModel_enumeration_146 : decode bModel_enumeration 146 = .ok (.invokevirtual 272, 3) := by decide +kernel
theorem dModel_enumeration_149 : decode bModel_enumeration 149 = .ok (.ireturn, 1) := by decide +kernel
theorem dModel_enumeration_150 : decode bModel_enumeration 150 = .ok (.iload_n 1, 1) := by decide +kernel
theorem dModel_enumeration_151 : decode bModel_enumeration 151 = .ok (.iload_n 2, 1) := by decide +kernel
theorem dModel_enumeration_152 : decode bModel_enumeration 152 = .ok (.isub, 1) := by decide +kernel
theorem dModel_enumeration_153 : decode bModel_enumeration 153 = .ok (.istore 4, 2) := by decide +kernel
theorem dModel_enumeration_155 : decode bModel_enumeration 155 = .ok (.iload 4, 2) := by decide +kernel
theorem dModel_enumeration_157 : decode bModel_enumeration 157 = .ok (.iload_n 1, 1) := by decide +kernel
theorem dModel_enumeration_158 : decode bModel_enumeration 158 = .ok (.if_icmp .ge 107, 3) := by decide +kernel
theorem dModel_enumeration_161 : decode bModel_enumeration 161 = .ok (.aload_n 0, 1) := by decide +kernel
theorem dModel_enumeration_162 : decode bModel_enumeration 162 = .ok (.aload_n 0, 1) := by decide +kernel
theorem dModel_enumeration_163 : decode bModel_enumeration 163 = .ok (.getfield 17, 3) := by decide +kernel
theorem dModel_enumeration_166 : decode bModel_enumeration 166 = .ok (.iload 4, 2) := by decide +kernel
theorem dModel_enumeration_168 : decode bModel_enumeration 168 = .ok (.iaload, 1) := by decide +kernel
theorem dModel_enumeration_169 : decode bModel_enumeration 169 = .ok (.invokevirtual 281, 3) := by decide +kernel
theorem dModel_enumeration_172 : decode bModel_enumeration 172 = .ok (.ifCond .ne 19, 3) := by decide +kernel
theorem dModel_enumeration_175 : decode bModel_enumeration 175 = .ok (.aload_n 0, 1) := by decide +kernel
theorem dModel_enumeration_176 : decode bModel_enumeration 176 = .ok (.getfield 17, 3) := by decide +kernel
theorem dModel_enumeration_179 : decode bModel_enumeration 179 = .ok (.iload 4, 2) := by decide +kernel
theorem dModel_enumeration_181 : decode bModel_enumeration 181 = .ok (.iaload, 1) := by decide +kernel
theorem dModel_enumeration_182 : decode bModel_enumeration 182 = .ok (.aload_n 0, 1) := by decide +kernel
theorem dModel_enumeration_183 : decode bModel_enumeration 183 = .ok (.getfield 17, 3) := by decide +kernel
theorem dModel_enumeration_186 : decode bModel_enumeration 186 = .ok (.iload_n 1, 1) := by decide +kernel
theorem dModel_enumeration_187 : decode bModel_enumeration 187 = .ok (.iaload, 1) := by decide +kernel
theorem dModel_enumeration_188 : decode bModel_enumeration 188 = .ok (.if_icmp .ne 7, 3) := by decide +kernel
theorem dModel_enumeration_191 : decode bModel_enumeration 191 = .ok (.iconst 1, 1) := by decide +kernel
theorem dModel_enumeration_192 : decode bModel_enumeration 192 = .ok (.goto 4, 3) := by decide +kernel
theorem dModel_enumeration_195 : decode bModel_enumeration 195 = .ok (.iconst 0, 1) := by decide +kernel
theorem dModel_enumeration_196 : decode bModel_enumeration 196 = .ok (.istore 5, 2) := by decide +kernel
theorem dModel_enumeration_198 : decode bModel_enumeration 198 = .ok (.iload_n 1, 1) := by decide +kernel
theorem dModel_enumeration_199 : decode bModel_enumeration 199 = .ok (.iload_n 2, 1) := by decide +kernel
theorem dModel_enumeration_200 : decode bModel_enumeration 200 = .ok (.isub, 1) := by decide +kernel
theorem dModel_enumeration_201 : decode bModel_enumeration 201 = .ok (.istore 6, 2) := by decide +kernel
theorem dModel_enumeration_203 : decode bModel_enumeration 203 = .ok (.iload 6, 2) := by decide +kernel
theorem dModel_enumeration_205 : decode bModel_enumeration 205 = .ok (.iload 4, 2) := by decide +kernel
theorem dModel_enumeration_207 : decode bModel_enumeration 207 = .ok (.if_icmp .ge 38, 3) := by decide +kernel
theorem dModel_enumeration_210 : decode bModel_enumeration 210 = .ok (.iload 5, 2) := by decide +kernel
theorem dModel_enumeration_212 : decode bModel_enumeration 212 = .ok (.ifCond .ne 20, 3) := by decide +kernel
theorem dModel_enumeration_215 : decode bModel_enumeration 215 = .ok (.aload_n 0, 1) := by decide +kernel
theorem dModel_enumeration_216 : decode bModel_enumeration 216 = .ok (.getfield 17, 3) := by decide +kernel
theorem dModel_enumeration_219 : decode bModel_enumeration 219 = .ok (.iload 6, 2) := by decide +kernel
theorem dModel_enumeration_221 : decode bModel_enumeration 221 = .ok (.iaload, 1) := by decide +kernel
theorem dModel_enumeration_222 : decode bModel_enumeration 222 = .ok (.aload_n 0, 1) := by decide +kernel
theorem dModel_enumeration_223 : decode bModel_enumeration 223 = .ok (.getfield 17, 3) := by decide +kernel
theorem dModel_enumeration_226 : decode bModel_enumeration 226 = .ok (.iload 4, 2) := by decide +kernel
theorem dModel_enumeration_228 : decode bModel_enumeration 228 = .ok (.iaload, 1) := by decide +kernel
theorem dModel_enumeration_229 : decode bModel_enumeration 229 = .ok (.if_icmp .ne 7, 3) := by decide +kernel
theorem dModel_enumeration_232 : decode bModel_enumeration 232 = .ok (.iconst 1, 1) := by decide +kernel
theorem dModel_enumeration_233 : decode bModel_enumeration 233 = .ok (.goto 4, 3) := by decide +kernel
theorem dModel_enumeration_236 : decode bModel_enumeration 236 = .ok (.iconst 0, 1) := by decide +kernel
theorem dModel_enumeration_237 : decode bModel_enumeration 237 = .ok (.istore 5, 2) := by decide +kernel
theorem dModel_enumeration_239 : decode bModel_enumeration 239 = .ok (.iinc 6 1, 3) := by decide +kernel
theorem dModel_enumeration_242 : decode bModel_enumeration 242 = .ok (.goto (-39), 3) := by decide +kernel
theorem dModel_enumeration_245 : decode bModel_enumeration 245 = .ok (.iload 5, 2) := by decide +kernel
theorem dModel_enumeration_247 : decode bModel_enumeration 247 = .ok (.ifCond .eq 12, 3) := by decide +kernel
theorem dModel_enumeration_250 : decode bModel_enumeration 250 = .ok (.aload_n 0, 1) := by decide +kernel
theorem dModel_enumeration_251 : decode bModel_enumeration 251 = .ok (.iload 4, 2) := by decide +kernel
theorem dModel_enumeration_253 : decode bModel_enumeration 253 = .ok (.bipush 7, 2) := by decide +kernel
theorem dModel_enumeration_255 : decode bModel_enumeration 255 = .ok (.invokevirtual 272, 3) := by decide +kernel
theorem dModel_enumeration_258 : decode bModel_enumeration 258 = .ok (.ireturn, 1) := by decide +kernel
theorem dModel_enumeration_259 : decode bModel_enumeration 259 = .ok (.iinc 4 1, 3) := by decide +kernel
theorem dModel_enumeration_262 : decode bModel_enumeration 262 = .ok (.goto (-107), 3) := by decide +kernel
theorem dModel_enumeration_265 : decode bModel_enumeration 265 = .ok (.aload_n 0, 1) := by decide +kernel
theorem dModel_enumeration_266 : decode bModel_enumeration 266 = .ok (.aload_n 0, 1) := by decide +kernel
theorem dModel_enumeration_267 : decode bModel_enumeration 267 = .ok (.getfield 102, 3) := by decide +kernel
theorem dModel_enumeration_270 : decode bModel_enumeration 270 = .ok (.sipush 1000, 3) := by decide +kernel
theorem dModel_enumeration_273 : decode bModel_enumeration 273 = .ok (.if_icmp .eq 17, 3) := by decide +kernel
theorem dModel_enumeration_276 : decode bModel_enumeration 276 = .ok (.aload_n 0, 1) := by decide +kernel
theorem dModel_enumeration_277 : decode bModel_enumeration 277 = .ok (.getfield 115, 3) := by decide +kernel
theorem dModel_enumeration_280 : decode bModel_enumeration 280 = .ok (.iload_n 2, 1) := by decide +kernel
theorem dModel_enumeration_281 : decode bModel_enumeration 281 = .ok (.iadd, 1) := by decide +kernel
theorem dModel_enumeration_282 : decode bModel_enumeration 282 = .ok (.iconst 1, 1) := by decide +kernel
theorem dModel_enumeration_283 : decode bModel_enumeration 283 = .ok (.iadd, 1) := by decide +kernel
theorem dModel_enumeration_284 : decode bModel_enumeration 284 = .ok (.sipush 3000, 3) := by decide +kernel
theorem dModel_enumeration_287 : decode bModel_enumeration 287 = .ok (.if_icmp .le 7, 3) := by decide +kernel
theorem dModel_enumeration_290 : decode bModel_enumeration 290 = .ok (.iconst 2, 1) := by decide +kernel
theorem dModel_enumeration_291 : decode bModel_enumeration 291 = .ok (.goto 4, 3) := by decide +kernel
theorem dModel_enumeration_294 : decode bModel_enumeration 294 = .ok (.iconst 0, 1) := by decide +kernel
theorem dModel_enumeration_295 : decode bModel_enumeration 295 = .ok (.putfield 99, 3) := by decide +kernel
theorem dModel_enumeration_298 : decode bModel_enumeration 298 = .ok (.aload_n 0, 1) := by decide +kernel
theorem dModel_enumeration_299 : decode bModel_enumeration 299 = .ok (.getfield 99, 3) := by decide +kernel
theorem dModel_enumeration_302 : decode bModel_enumeration 302 = .ok (.ifCond .le 5, 3) := by decide +kernel
theorem dModel_enumeration_305 : decode bModel_enumeration 305 = .ok (.iconst 0, 1) := by decide +kernel
theorem dModel_enumeration_306 : decode bModel_enumeration 306 = .ok (.ireturn, 1) := by decide +kernel
theorem dModel_enumeration_307 : decode bModel_enumeration 307 = .ok (.aload_n 0, 1) := by decide +kernel
theorem dModel_enumeration_308 : decode bModel_enumeration 308 = .ok (.iconst (-1), 1) := by decide +kernel
theorem dModel_enumeration_309 : decode bModel_enumeration 309 = .ok (.putfield 9, 3) := by decide +kernel
theorem dModel_enumeration_312 : decode bModel_enumeration 312 = .ok (.aload_n 0, 1) := by decide +kernel
theorem dModel_enumeration_313 : decode bModel_enumeration 313 = .ok (.iconst 4, 1) := by decide +kernel
theorem dModel_enumeration_314 : decode bModel_enumeration 314 = .ok (.iconst 0, 1) := by decide +kernel
theorem dModel_enumeration_315 : decode bModel_enumeration 315 = .ok (.iload_n 2, 1) := by decide +kernel
theorem dModel_enumeration_316 : decode bModel_enumeration 316 = .ok (.iconst 1, 1) := by decide +kernel
theorem dModel_enumeration_317 : decode bModel_enumeration 317 = .ok (.isub, 1) := by decide +kernel
theorem dModel_enumeration_318 : decode bModel_enumeration 318 = .ok (.iload_n 2, 1) := by decide +kernel
theorem dModel_enumeration_319 : decode bModel_enumeration 319 = .ok (.iconst 0, 1) := by decide +kernel
theorem dModel_enumeration_320 : decode bModel_enumeration 320 = .ok (.invokevirtual 93, 3) := by decide +kernel
theorem dModel_enumeration_323 : decode bModel_enumeration 323 = .ok (.istore 4, 2) := by decide +kernel
theorem dModel_enumeration_325 : decode bModel_enumeration 325 = .ok (.aload_n 0, 1) := by decide +kernel
theorem dModel_enumeration_326 : decode bModel_enumeration 326 = .ok (.aload_n 0, 1) := by decide +kernel
theorem dModel_enumeration_327 : decode bModel_enumeration 327 = .ok (.getfield 17, 3) := by decide +kernel
theorem dModel_enumeration_330 : decode bModel_enumeration 330 = .ok (.iload_n 1, 1) := by decide +kernel
theorem dModel_enumeration_331 : decode bModel_enumeration 331 = .ok (.iaload, 1) := by decide +kernel
theorem dModel_enumeration_332 : decode bModel_enumeration 332 = .ok (.iconst 0, 1) := by decide +kernel
theorem dModel_enumeration_333 : decode bModel_enumeration 333 = .ok (.iload 4, 2) := by decide +kernel
theorem dModel_enumeration_335 : decode bModel_enumeration 335 = .ok (.iconst 0, 1) := by decide +kernel
theorem dModel_enumeration_336 : decode bModel_enumeration 336 = .ok (.invokevirtual 284, 3) := by decide +kernel
theorem dModel_enumeration_339 : decode bModel_enumeration 339 = .ok (.iconst 0, 1) := by decide +kernel
theorem dModel_enumeration_340 : decode bModel_enumeration 340 = .ok (.istore 5, 2) := by decide +kernel
theorem dModel_enumeration_342 : decode bModel_enumeration 342 = .ok (.iload 5, 2) := by decide +kernel
theorem dModel_enumeration_344 : decode bModel_enumeration 344 = .ok (.iload_n 2, 1) := by decide +kernel
theorem dModel_enumeration_345 : decode bModel_enumeration 345 = .ok (.if_icmp .ge 29, 3) := by decide +kernel
theorem dModel_enumeration_348 : decode bModel_enumeration 348 = .ok (.aload_n 0, 1) := by decide +kernel
theorem dModel_enumeration_349 : decode bModel_enumeration 349 = .ok (.aload_n 0, 1) := by decide +kernel
theorem dModel_enumeration_350 : decode bModel_enumeration 350 = .ok (.getfield 17, 3) := by decide +kernel
theorem dModel_enumeration_353 : decode bModel_enumeration 353 = .ok (.iload_n 1, 1) := by decide +kernel
theorem dModel_enumeration_354 : decode bModel_enumeration 354 = .ok (.iload_n 2, 1) := by decide +kernel
theorem dModel_enumeration_355 : decode bModel_enumeration 355 = .ok (.isub, 1) := by decide +kernel
theorem dModel_enumeration_356 : decode bModel_enumeration 356 = .ok (.iload 5, 2) := by decide +kernel
theorem dModel_enumeration_358 : decode bModel_enumeration 358 = .ok (.iadd, 1) := by decide +kernel
theorem dModel_enumeration_359 : decode bModel_enumeration 359 = .ok (.iaload, 1) := by decide +kernel
theorem dModel_enumeration_360 : decode bModel_enumeration 360 = .ok (.iconst 2, 1) := by decide +kernel
theorem dModel_enumeration_361 : decode bModel_enumeration 361 = .ok (.iload 4, 2) := by decide +kernel
theorem dModel_enumeration_363 : decode bModel_enumeration 363 = .ok (.iload 5, 2) := by decide +kernel
theorem dModel_enumeration_365 : decode bModel_enumeration 365 = .ok (.invokevirtual 284, 3) := by decide +kernel
theorem dModel_enumeration_368 : decode bModel_enumeration 368 = .ok (.iinc 5 1, 3) := by decide +kernel
theorem dModel_enumeration_371 : decode bModel_enumeration 371 = .ok (.goto (-29), 3) := by decide +kernel
theorem dModel_enumeration_374 : decode bModel_enumeration 374 = .ok (.iload 4, 2) := by decide +kernel
theorem dModel_enumeration_376 : decode bModel_enumeration 376 = .ok (.ireturn, 1) := by decide +kernel
