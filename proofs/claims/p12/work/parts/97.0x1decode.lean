theorem dModel_isLow_0 : decode bModel_isLow 0 = .ok (.iload_n 0, 1) := by decide +kernel
theorem dModel_isLow_1 : decode bModel_isLow 1 = .ok (.iconst 2, 1) := by decide +kernel
theorem dModel_isLow_2 : decode bModel_isLow 2 = .ok (.if_icmp .eq 9, 3) := by decide +kernel
theorem dModel_isLow_5 : decode bModel_isLow 5 = .ok (.iload_n 0, 1) := by decide +kernel
theorem dModel_isLow_6 : decode bModel_isLow 6 = .ok (.bipush 6, 2) := by decide +kernel
theorem dModel_isLow_8 : decode bModel_isLow 8 = .ok (.if_icmp .ne 7, 3) := by decide +kernel
theorem dModel_isLow_11 : decode bModel_isLow 11 = .ok (.iconst 1, 1) := by decide +kernel
theorem dModel_isLow_12 : decode bModel_isLow 12 = .ok (.goto 4, 3) := by decide +kernel
theorem dModel_isLow_15 : decode bModel_isLow 15 = .ok (.iconst 0, 1) := by decide +kernel
theorem dModel_isLow_16 : decode bModel_isLow 16 = .ok (.ireturn, 1) := by decide +kernel
theorem dModel_isHigh_0 : decode bModel_isHigh 0 = .ok (.iload_n 0, 1) := by decide +kernel
theorem dModel_isHigh_1 : decode bModel_isHigh 1 = .ok (.iconst 3, 1) := by decide +kernel
theorem dModel_isHigh_2 : decode bModel_isHigh 2 = .ok (.if_icmp .eq 9, 3) := by decide +kernel
theorem dModel_isHigh_5 : decode bModel_isHigh 5 = .ok (.iload_n 0, 1) := by decide +kernel
theorem dModel_isHigh_6 : decode bModel_isHigh 6 = .ok (.bipush 7, 2) := by decide +kernel
theorem dModel_isHigh_8 : decode bModel_isHigh 8 = .ok (.if_icmp .ne 7, 3) := by decide +kernel
theorem dModel_isHigh_11 : decode bModel_isHigh 11 = .ok (.iconst 1, 1) := by decide +kernel
theorem dModel_isHigh_12 : decode bModel_isHigh 12 = .ok (.goto 4, 3) := by decide +kernel
theorem dModel_isHigh_15 : decode bModel_isHigh 15 = .ok (.iconst 0, 1) := by decide +kernel
theorem dModel_isHigh_16 : decode bModel_isHigh 16 = .ok (.ireturn, 1) := by decide +kernel
theorem dModel_isClear_0 : decode bModel_isClear 0 = .ok (.iconst 1, 1) := by decide +kernel
theorem dModel_isClear_1 : decode bModel_isClear 1 = .ok (.istore_n 2, 1) := by decide +kernel
theorem dModel_isClear_2 : decode bModel_isClear 2 = .ok (.iconst 0, 1) := by decide +kernel
theorem dModel_isClear_3 : decode bModel_isClear 3 = .ok (.istore_n 3, 1) := by decide +kernel
theorem dModel_isClear_4 : decode bModel_isClear 4 = .ok (.iload_n 3, 1) := by decide +kernel
theorem dModel_isClear_5 : decode bModel_isClear 5 = .ok (.aload_n 0, 1) := by decide +kernel
theorem dModel_isClear_6 : decode bModel_isClear 6 = .ok (.getfield 32, 3) := by decide +kernel
theorem dModel_isClear_9 : decode bModel_isClear 9 = .ok (.iload_n 1, 1) := by decide +kernel
theorem dModel_isClear_10 : decode bModel_isClear 10 = .ok (.iaload, 1) := by decide +kernel
theorem dModel_isClear_11 : decode bModel_isClear 11 = .ok (.if_icmp .ge 43, 3) := by decide +kernel
theorem dModel_isClear_14 : decode bModel_isClear 14 = .ok (.iload_n 2, 1) := by decide +kernel
theorem dModel_isClear_15 : decode bModel_isClear 15 = .ok (.ifCond .eq 31, 3) := by decide +kernel
theorem dModel_isClear_18 : decode bModel_isClear 18 = .ok (.aload_n 0, 1) := by decide +kernel
theorem dModel_isClear_19 : decode bModel_isClear 19 = .ok (.iload_n 1, 1) := by decide +kernel
theorem dModel_isClear_20 : decode bModel_isClear 20 = .ok (.iload_n 3, 1) := by decide +kernel
theorem dModel_isClear_21 : decode bModel_isClear 21 = .ok (.invokevirtual 131, 3) := by decide +kernel
theorem dModel_isClear_24 : decode bModel_isClear 24 = .ok (.invokestatic 135, 3) := by decide +kernel
theorem dModel_isClear_27 : decode bModel_isClear 27 = .ok (.ifCond .ne 15, 3) := by decide +kernel
theorem dModel_isClear_30 : decode bModel_isClear 30 = .ok (.aload_n 0, 1) := by decide +kernel
theorem dModel_isClear_31 : decode bModel_isClear 31 = .ok (.iload_n 1, 1) := by decide +kernel
theorem dModel_isClear_32 : decode bModel_isClear 32 = .ok (.iload_n 3, 1) := by decide +kernel
theorem dModel_isClear_33 : decode bModel_isClear 33 = .ok (.invokevirtual 131, 3) := by decide +kernel
theorem dModel_isClear_36 : decode bModel_isClear 36 = .ok (.invokestatic 138, 3) := by decide +kernel
theorem dModel_isClear_39 : decode bModel_isClear 39 = .ok (.ifCond .eq 7, 3) := by decide +kernel
theorem dModel_isClear_42 : decode bModel_isClear 42 = .ok (.iconst 1, 1) := by decide +kernel
theorem dModel_isClear_43 : decode bModel_isClear 43 = .ok (.goto 4, 3) := by decide +kernel
theorem dModel_isClear_46 : decode bModel_isClear 46 = .ok (.iconst 0, 1) := by decide +kernel
theorem dModel_isClear_47 : decode bModel_isClear 47 = .ok (.istore_n 2, 1) := by decide +kernel
theorem dModel_isClear_48 : decode bModel_isClear 48 = .ok (.iinc 3 1, 3) := by decide +kernel
theorem dModel_isClear_51 : decode bModel_isClear 51 = .ok (.goto (-47), 3) := by decide +kernel
theorem dModel_isClear_54 : decode bModel_isClear 54 = .ok (.iload_n 2, 1) := by decide +kernel
theorem dModel_isClear_55 : decode bModel_isClear 55 = .ok (.ireturn, 1) := by decide +kernel
theorem dModel_numberOf_0 : decode bModel_numberOf 0 = .ok (.lconst 0, 1) := by decide +kernel
theorem dModel_numberOf_1 : decode bModel_numberOf 1 = .ok (.lstore_n 2, 1) := by decide +kernel
theorem dModel_numberOf_2 : decode bModel_numberOf 2 = .ok (.aload_n 0, 1) := by decide +kernel
theorem dModel_numberOf_3 : decode bModel_numberOf 3 = .ok (.getfield 32, 3) := by decide +kernel
theorem dModel_numberOf_6 : decode bModel_numberOf 6 = .ok (.iload_n 1, 1) := by decide +kernel
theorem dModel_numberOf_7 : decode bModel_numberOf 7 = .ok (.iaload, 1) := by decide +kernel
theorem dModel_numberOf_8 : decode bModel_numberOf 8 = .ok (.iconst 1, 1) := by decide +kernel
theorem dModel_numberOf_9 : decode bModel_numberOf 9 = .ok (.isub, 1) := by decide +kernel
theorem dModel_numberOf_10 : decode bModel_numberOf 10 = .ok (.istore 4, 2) := by decide +kernel
theorem dModel_numberOf_12 : decode bModel_numberOf 12 = .ok (.iload 4, 2) := by decide +kernel
theorem dModel_numberOf_14 : decode bModel_numberOf 14 = .ok (.ifCond .lt 34, 3) := by decide +kernel
theorem dModel_numberOf_17 : decode bModel_numberOf 17 = .ok (.ldc2_w 141, 3) := by decide +kernel
theorem dModel_numberOf_20 : decode bModel_numberOf 20 = .ok (.lload_n 2, 1) := by decide +kernel
theorem dModel_numberOf_21 : decode bModel_numberOf 21 = .ok (.lmul, 1) := by decide +kernel
theorem dModel_numberOf_22 : decode bModel_numberOf 22 = .ok (.aload_n 0, 1) := by decide +kernel
theorem dModel_numberOf_23 : decode bModel_numberOf 23 = .ok (.iload_n 1, 1) := by decide +kernel
theorem dModel_numberOf_24 : decode bModel_numberOf 24 = .ok (.iload 4, 2) := by decide +kernel
theorem dModel_numberOf_26 : decode bModel_numberOf 26 = .ok (.invokevirtual 131, 3) := by decide +kernel
theorem dModel_numberOf_29 : decode bModel_numberOf 29 = .ok (.invokestatic 138, 3) := by decide +kernel
theorem dModel_numberOf_32 : decode bModel_numberOf 32 = .ok (.ifCond .eq 7, 3) := by decide +kernel
theorem dModel_numberOf_35 : decode bModel_numberOf 35 = .ok (.lconst 1, 1) := by decide +kernel
theorem dModel_numberOf_36 : decode bModel_numberOf 36 = .ok (.goto 4, 3) := by decide +kernel
theorem dModel_numberOf_39 : decode bModel_numberOf 39 = .ok (.lconst 0, 1) := by decide +kernel
theorem dModel_numberOf_40 : decode bModel_numberOf 40 = .ok (.ladd, 1) := by decide +kernel
theorem dModel_numberOf_41 : decode bModel_numberOf 41 = .ok (.lstore_n 2, 1) := by decide +kernel
theorem dModel_numberOf_42 : decode bModel_numberOf 42 = .ok (.iinc 4 (-1), 3) := by decide +kernel
theorem dModel_numberOf_45 : decode bModel_numberOf 45 = .ok (.goto (-33), 3) := by decide +kernel
theorem dModel_numberOf_48 : decode bModel_numberOf 48 = .ok (.lload_n 2, 1) := by decide +kernel
theorem dModel_numberOf_49 : decode bModel_numberOf 49 = .ok (.lreturn, 1) := by decide +kernel
theorem dModel_bits_0 : decode bModel_bits 0 = .ok (.iconst 0, 1) := by decide +kernel
theorem dModel_bits_1 : decode bModel_bits 1 = .ok (.istore 4, 2) := by decide +kernel
theorem dModel_bits_3 : decode bModel_bits 3 = .ok (.iload 4, 2) := by decide +kernel
theorem dModel_bits_5 : decode bModel_bits 5 = .ok (.aload_n 0, 1) := by decide +kernel
theorem dModel_bits_6 : decode bModel_bits 6 = .ok (.getfield 32, 3) := by decide +kernel
theorem dModel_bits_9 : decode bModel_bits 9 = .ok (.iload_n 1, 1) := by decide +kernel
theorem dModel_bits_10 : decode bModel_bits 10 = .ok (.iaload, 1) := by decide +kernel
theorem dModel_bits_11 : decode bModel_bits 11 = .ok (.if_icmp .ge 32, 3) := by decide +kernel
theorem dModel_bits_14 : decode bModel_bits 14 = .ok (.aload_n 0, 1) := by decide +kernel
theorem dModel_bits_15 : decode bModel_bits 15 = .ok (.iload_n 1, 1) := by decide +kernel
theorem dModel_bits_16 : decode bModel_bits 16 = .ok (.iload 4, 2) := by decide +kernel
theorem dModel_bits_18 : decode bModel_bits 18 = .ok (.lload_n 2, 1) := by decide +kernel
theorem dModel_bits_19 : decode bModel_bits 19 = .ok (.iload 4, 2) := by decide +kernel
theorem dModel_bits_21 : decode bModel_bits 21 = .ok (.lshr, 1) := by decide +kernel
theorem dModel_bits_22 : decode bModel_bits 22 = .ok (.lconst 1, 1) := by decide +kernel
theorem dModel_bits_23 : decode bModel_bits 23 = .ok (.land, 1) := by decide +kernel
theorem dModel_bits_24 : decode bModel_bits 24 = .ok (.lconst 1, 1) := by decide +kernel
theorem dModel_bits_25 : decode bModel_bits 25 = .ok (.lcmp, 1) := by decide +kernel
theorem dModel_bits_26 : decode bModel_bits 26 = .ok (.ifCond .ne 7, 3) := by decide +kernel
theorem dModel_bits_29 : decode bModel_bits 29 = .ok (.iconst 3, 1) := by decide +kernel
theorem dModel_bits_30 : decode bModel_bits 30 = .ok (.goto 4, 3) := by decide +kernel
theorem dModel_bits_33 : decode bModel_bits 33 = .ok (.iconst 2, 1) := by decide +kernel
theorem dModel_bits_34 : decode bModel_bits 34 = .ok (.invokevirtual 127, 3) := by decide +kernel
theorem dModel_bits_37 : decode bModel_bits 37 = .ok (.iinc 4 1, 3) := by decide +kernel
theorem dModel_bits_40 : decode bModel_bits 40 = .ok (.goto (-37), 3) := by decide +kernel
theorem dModel_bits_43 : decode bModel_bits 43 = .ok (.return_, 1) := by decide +kernel
theorem dModel_look_0 : decode bModel_look 0 = .ok (.aload_n 0, 1) := by decide +kernel
theorem dModel_look_1 : decode bModel_look 1 = .ok (.getfield 20, 3) := by decide +kernel
theorem dModel_look_4 : decode bModel_look 4 = .ok (.iload_n 1, 1) := by decide +kernel
theorem dModel_look_5 : decode bModel_look 5 = .ok (.iaload, 1) := by decide +kernel
theorem dModel_look_6 : decode bModel_look 6 = .ok (.istore_n 2, 1) := by decide +kernel
theorem dModel_look_7 : decode bModel_look 7 = .ok (.aload_n 0, 1) := by decide +kernel
theorem dModel_look_8 : decode bModel_look 8 = .ok (.getfield 13, 3) := by decide +kernel
theorem dModel_look_11 : decode bModel_look 11 = .ok (.iload_n 1, 1) := by decide +kernel
theorem dModel_look_12 : decode bModel_look 12 = .ok (.iaload, 1) := by decide +kernel
theorem dModel_look_13 : decode bModel_look 13 = .ok (.tableswitch 358 1 25 #[115, 130, 171, 223, 358, 358, 358, 358, 358, 358, 358, 358, 358, 358, 358, 358, 358, 358, 358, 229, 270, 318, 324, 324, 352], 115) := by decide +kernel
theorem dModel_look_128 : decode bModel_look 128 = .ok (.iload_n 2, 1) := by decide +kernel
theorem dModel_look_129 : decode bModel_look 129 = .ok (.ifCond .le 8, 3) := by decide +kernel
theorem dModel_look_132 : decode bModel_look 132 = .ok (.bipush 11, 2) := by decide +kernel
theorem dModel_look_134 : decode bModel_look 134 = .ok (.goto 8, 3) := by decide +kernel
theorem dModel_look_137 : decode bModel_look 137 = .ok (.aload_n 0, 1) := by decide +kernel
theorem dModel_look_138 : decode bModel_look 138 = .ok (.iload_n 1, 1) := by decide +kernel
theorem dModel_look_139 : decode bModel_look 139 = .ok (.invokevirtual 143, 3) := by decide +kernel
theorem dModel_look_142 : decode bModel_look 142 = .ok (.ireturn, 1) := by decide +kernel
theorem dModel_look_143 : decode bModel_look 143 = .ok (.aload_n 0, 1) := by decide +kernel
theorem dModel_look_144 : decode bModel_look 144 = .ok (.iload_n 1, 1) := by decide +kernel
theorem dModel_look_145 : decode bModel_look 145 = .ok (.iconst 2, 1) := by decide +kernel
theorem dModel_look_146 : decode bModel_look 146 = .ok (.iconst 0, 1) := by decide +kernel
theorem dModel_look_147 : decode bModel_look 147 = .ok (.iconst 1, 1) := by decide +kernel
theorem dModel_look_148 : decode bModel_look 148 = .ok (.invokevirtual 147, 3) := by decide +kernel
theorem dModel_look_151 : decode bModel_look 151 = .ok (.aload_n 0, 1) := by decide +kernel
theorem dModel_look_152 : decode bModel_look 152 = .ok (.getfield 42, 3) := by decide +kernel
theorem dModel_look_155 : decode bModel_look 155 = .ok (.iload_n 1, 1) := by decide +kernel
theorem dModel_look_156 : decode bModel_look 156 = .ok (.aload_n 0, 1) := by decide +kernel
theorem dModel_look_157 : decode bModel_look 157 = .ok (.getfield 17, 3) := by decide +kernel
theorem dModel_look_160 : decode bModel_look 160 = .ok (.iload_n 1, 1) := by decide +kernel
theorem dModel_look_161 : decode bModel_look 161 = .ok (.iaload, 1) := by decide +kernel
theorem dModel_look_162 : decode bModel_look 162 = .ok (.i2l, 1) := by decide +kernel
theorem dModel_look_163 : decode bModel_look 163 = .ok (.lastore, 1) := by decide +kernel
theorem dModel_look_164 : decode bModel_look 164 = .ok (.iload_n 2, 1) := by decide +kernel
theorem dModel_look_165 : decode bModel_look 165 = .ok (.ifCond .gt 12, 3) := by decide +kernel
theorem dModel_look_168 : decode bModel_look 168 = .ok (.aload_n 0, 1) := by decide +kernel
theorem dModel_look_169 : decode bModel_look 169 = .ok (.getfield 17, 3) := by decide +kernel
theorem dModel_look_172 : decode bModel_look 172 = .ok (.iload_n 1, 1) := by decide +kernel
theorem dModel_look_173 : decode bModel_look 173 = .ok (.iaload, 1) := by decide +kernel
theorem dModel_look_174 : decode bModel_look 174 = .ok (.ifCond .ge 8, 3) := by decide +kernel
theorem dModel_look_177 : decode bModel_look 177 = .ok (.bipush 11, 2) := by decide +kernel
theorem dModel_look_179 : decode bModel_look 179 = .ok (.goto 4, 3) := by decide +kernel
theorem dModel_look_182 : decode bModel_look 182 = .ok (.iconst 0, 1) := by decide +kernel
theorem dModel_look_183 : decode bModel_look 183 = .ok (.ireturn, 1) := by decide +kernel
theorem dModel_look_184 : decode bModel_look 184 = .ok (.aload_n 0, 1) := by decide +kernel
theorem dModel_look_185 : decode bModel_look 185 = .ok (.iload_n 1, 1) := by decide +kernel
theorem dModel_look_186 : decode bModel_look 186 = .ok (.iconst 0, 1) := by decide +kernel
theorem dModel_look_187 : decode bModel_look 187 = .ok (.iconst 0, 1) := by decide +kernel
theorem dModel_look_188 : decode bModel_look 188 = .ok (.iconst 1, 1) := by decide +kernel
theorem dModel_look_189 : decode bModel_look 189 = .ok (.invokevirtual 147, 3) := by decide +kernel
theorem dModel_look_192 : decode bModel_look 192 = .ok (.aload_n 0, 1) := by decide +kernel
theorem dModel_look_193 : decode bModel_look 193 = .ok (.getfield 42, 3) := by decide +kernel
theorem dModel_look_196 : decode bModel_look 196 = .ok (.iload_n 1, 1) := by decide +kernel
theorem dModel_look_197 : decode bModel_look 197 = .ok (.aload_n 0, 1) := by decide +kernel
theorem dModel_look_198 : decode bModel_look 198 = .ok (.getfield 17, 3) := by decide +kernel
theorem dModel_look_201 : decode bModel_look 201 = .ok (.iload_n 1, 1) := by decide +kernel
theorem dModel_look_202 : decode bModel_look 202 = .ok (.iaload, 1) := by decide +kernel
theorem dModel_look_203 : decode bModel_look 203 = .ok (.i2l, 1) := by decide +kernel
theorem dModel_look_204 : decode bModel_look 204 = .ok (.lastore, 1) := by decide +kernel
theorem dModel_look_205 : decode bModel_look 205 = .ok (.iload_n 2, 1) := by decide +kernel
theorem dModel_look_206 : decode bModel_look 206 = .ok (.ifCond .gt 23, 3) := by decide +kernel
theorem dModel_look_209 : decode bModel_look 209 = .ok (.aload_n 0, 1) := by decide +kernel
theorem dModel_look_210 : decode bModel_look 210 = .ok (.getfield 17, 3) := by decide +kernel
theorem dModel_look_213 : decode bModel_look 213 = .ok (.iload_n 1, 1) := by decide +kernel
theorem dModel_look_214 : decode bModel_look 214 = .ok (.iaload, 1) := by decide +kernel
theorem dModel_look_215 : decode bModel_look 215 = .ok (.ifCond .lt 14, 3) := by decide +kernel
theorem dModel_look_218 : decode bModel_look 218 = .ok (.aload_n 0, 1) := by decide +kernel
theorem dModel_look_219 : decode bModel_look 219 = .ok (.getfield 17, 3) := by decide +kernel
theorem dModel_look_222 : decode bModel_look 222 = .ok (.iload_n 1, 1) := by decide +kernel
theorem dModel_look_223 : decode bModel_look 223 = .ok (.iaload, 1) := by decide +kernel
theorem dModel_look_224 : decode bModel_look 224 = .ok (.bipush 8, 2) := by decide +kernel
theorem dModel_look_226 : decode bModel_look 226 = .ok (.if_icmp .le 8, 3) := by decide +kernel
theorem dModel_look_229 : decode bModel_look 229 = .ok (.bipush 11, 2) := by decide +kernel
theorem dModel_look_231 : decode bModel_look 231 = .ok (.goto 4, 3) := by decide +kernel
theorem dModel_look_234 : decode bModel_look 234 = .ok (.iconst 0, 1) := by decide +kernel
theorem dModel_look_235 : decode bModel_look 235 = .ok (.ireturn, 1) := by decide +kernel
theorem dModel_look_236 : decode bModel_look 236 = .ok (.aload_n 0, 1) := by decide +kernel
theorem dModel_look_237 : decode bModel_look 237 = .ok (.iload_n 1, 1) := by decide +kernel
theorem dModel_look_238 : decode bModel_look 238 = .ok (.invokevirtual 151, 3) := by decide +kernel
theorem dModel_look_241 : decode bModel_look 241 = .ok (.ireturn, 1) := by decide +kernel
theorem dModel_look_242 : decode bModel_look 242 = .ok (.iload_n 2, 1) := by decide +kernel
theorem dModel_look_243 : decode bModel_look 243 = .ok (.iconst 1, 1) := by decide +kernel
theorem dModel_look_244 : decode bModel_look 244 = .ok (.if_icmp .ne 22, 3) := by decide +kernel
theorem dModel_look_247 : decode bModel_look 247 = .ok (.aload_n 0, 1) := by decide +kernel
theorem dModel_look_248 : decode bModel_look 248 = .ok (.getfield 17, 3) := by decide +kernel
theorem dModel_look_251 : decode bModel_look 251 = .ok (.iload_n 1, 1) := by decide +kernel
theorem dModel_look_252 : decode bModel_look 252 = .ok (.iaload, 1) := by decide +kernel
theorem dModel_look_253 : decode bModel_look 253 = .ok (.ifCond .lt 13, 3) := by decide +kernel
theorem dModel_look_256 : decode bModel_look 256 = .ok (.aload_n 0, 1) := by decide +kernel
theorem dModel_look_257 : decode bModel_look 257 = .ok (.getfield 17, 3) := by decide +kernel
theorem dModel_look_260 : decode bModel_look 260 = .ok (.iload_n 1, 1) := by decide +kernel
theorem dModel_look_261 : decode bModel_look 261 = .ok (.iaload, 1) := by decide +kernel
theorem dModel_look_262 : decode bModel_look 262 = .ok (.iconst 3, 1) := by decide +kernel
theorem dModel_look_263 : decode bModel_look 263 = .ok (.if_icmp .le 8, 3) := by decide +kernel
theorem dModel_look_266 : decode bModel_look 266 = .ok (.bipush 11, 2) := by decide +kernel
theorem dModel_look_268 : decode bModel_look 268 = .ok (.goto 14, 3) := by decide +kernel
theorem dModel_look_271 : decode bModel_look 271 = .ok (.aload_n 0, 1) := by decide +kernel
theorem dModel_look_272 : decode bModel_look 272 = .ok (.iload_n 1, 1) := by decide +kernel
theorem dModel_look_273 : decode bModel_look 273 = .ok (.aload_n 0, 1) := by decide +kernel
theorem dModel_look_274 : decode bModel_look 274 = .ok (.iload_n 1, 1) := by decide +kernel
theorem dModel_look_275 : decode bModel_look 275 = .ok (.iconst 0, 1) := by decide +kernel
theorem dModel_look_276 : decode bModel_look 276 = .ok (.invokevirtual 154, 3) := by decide +kernel
theorem dModel_look_279 : decode bModel_look 279 = .ok (.invokevirtual 157, 3) := by decide +kernel
theorem dModel_look_282 : decode bModel_look 282 = .ok (.ireturn, 1) := by decide +kernel
theorem dModel_look_283 : decode bModel_look 283 = .ok (.iload_n 2, 1) := by decide +kernel
theorem dModel_look_284 : decode bModel_look 284 = .ok (.iconst 2, 1) := by decide +kernel
theorem dModel_look_285 : decode bModel_look 285 = .ok (.if_icmp .ne 23, 3) := by decide +kernel
theorem dModel_look_288 : decode bModel_look 288 = .ok (.aload_n 0, 1) := by decide +kernel
theorem dModel_look_289 : decode bModel_look 289 = .ok (.getfield 17, 3) := by decide +kernel
theorem dModel_look_292 : decode bModel_look 292 = .ok (.iload_n 1, 1) := by decide +kernel
theorem dModel_look_293 : decode bModel_look 293 = .ok (.iaload, 1) := by decide +kernel
theorem dModel_look_294 : decode bModel_look 294 = .ok (.ifCond .lt 14, 3) := by decide +kernel
theorem dModel_look_297 : decode bModel_look 297 = .ok (.aload_n 0, 1) := by decide +kernel
theorem dModel_look_298 : decode bModel_look 298 = .ok (.getfield 17, 3) := by decide +kernel
theorem dModel_look_301 : decode bModel_look 301 = .ok (.iload_n 1, 1) := by decide +kernel
theorem dModel_look_302 : decode bModel_look 302 = .ok (.iaload, 1) := by decide +kernel
theorem dModel_look_303 : decode bModel_look 303 = .ok (.bipush 20, 2) := by decide +kernel
theorem dModel_look_305 : decode bModel_look 305 = .ok (.if_icmp .le 8, 3) := by decide +kernel
theorem dModel_look_308 : decode bModel_look 308 = .ok (.bipush 11, 2) := by decide +kernel
theorem dModel_look_310 : decode bModel_look 310 = .ok (.goto 20, 3) := by decide +kernel
theorem dModel_look_313 : decode bModel_look 313 = .ok (.aload_n 0, 1) := by decide +kernel
theorem dModel_look_314 : decode bModel_look 314 = .ok (.iload_n 1, 1) := by decide +kernel
theorem dModel_look_315 : decode bModel_look 315 = .ok (.aload_n 0, 1) := by decide +kernel
theorem dModel_look_316 : decode bModel_look 316 = .ok (.iload_n 1, 1) := by decide +kernel
theorem dModel_look_317 : decode bModel_look 317 = .ok (.iconst 1, 1) := by decide +kernel
theorem dModel_look_318 : decode bModel_look 318 = .ok (.invokevirtual 154, 3) := by decide +kernel
theorem dModel_look_321 : decode bModel_look 321 = .ok (.aload_n 0, 1) := by decide +kernel
theorem dModel_look_322 : decode bModel_look 322 = .ok (.iload_n 1, 1) := by decide +kernel
theorem dModel_look_323 : decode bModel_look 323 = .ok (.iconst 0, 1) := by decide +kernel
theorem dModel_look_324 : decode bModel_look 324 = .ok (.invokevirtual 154, 3) := by decide +kernel
theorem dModel_look_327 : decode bModel_look 327 = .ok (.invokevirtual 160, 3) := by decide +kernel
theorem dModel_look_330 : decode bModel_look 330 = .ok (.ireturn, 1) := by decide +kernel
theorem dModel_look_331 : decode bModel_look 331 = .ok (.aload_n 0, 1) := by decide +kernel
theorem dModel_look_332 : decode bModel_look 332 = .ok (.iload_n 1, 1) := by decide +kernel
theorem dModel_look_333 : decode bModel_look 333 = .ok (.invokevirtual 164, 3) := by decide +kernel
theorem dModel_look_336 : decode bModel_look 336 = .ok (.ireturn, 1) := by decide +kernel
theorem dModel_look_337 : decode bModel_look 337 = .ok (.iload_n 2, 1) := by decide +kernel
theorem dModel_look_338 : decode bModel_look 338 = .ok (.iconst 2, 1) := by decide +kernel
theorem dModel_look_339 : decode bModel_look 339 = .ok (.if_icmp .eq 8, 3) := by decide +kernel
theorem dModel_look_342 : decode bModel_look 342 = .ok (.bipush 11, 2) := by decide +kernel
theorem dModel_look_344 : decode bModel_look 344 = .ok (.goto 20, 3) := by decide +kernel
theorem dModel_look_347 : decode bModel_look 347 = .ok (.aload_n 0, 1) := by decide +kernel
theorem dModel_look_348 : decode bModel_look 348 = .ok (.iload_n 1, 1) := by decide +kernel
theorem dModel_look_349 : decode bModel_look 349 = .ok (.aload_n 0, 1) := by decide +kernel
theorem dModel_look_350 : decode bModel_look 350 = .ok (.iload_n 1, 1) := by decide +kernel
theorem dModel_look_351 : decode bModel_look 351 = .ok (.iconst 1, 1) := by decide +kernel
theorem dModel_look_352 : decode bModel_look 352 = .ok (.invokevirtual 154, 3) := by decide +kernel
theorem dModel_look_355 : decode bModel_look 355 = .ok (.aload_n 0, 1) := by decide +kernel
theorem dModel_look_356 : decode bModel_look 356 = .ok (.iload_n 1, 1) := by decide +kernel
theorem dModel_look_357 : decode bModel_look 357 = .ok (.iconst 0, 1) := by decide +kernel
theorem dModel_look_358 : decode bModel_look 358 = .ok (.invokevirtual 154, 3) := by decide +kernel
theorem dModel_look_361 : decode bModel_look 361 = .ok (.invokevirtual 167, 3) := by decide +kernel
theorem dModel_look_364 : decode bModel_look 364 = .ok (.ireturn, 1) := by decide +kernel
theorem dModel_look_365 : decode bModel_look 365 = .ok (.aload_n 0, 1) := by decide +kernel
theorem dModel_look_366 : decode bModel_look 366 = .ok (.iload_n 1, 1) := by decide +kernel
theorem dModel_look_367 : decode bModel_look 367 = .ok (.invokevirtual 170, 3) := by decide +kernel
theorem dModel_look_370 : decode bModel_look 370 = .ok (.ireturn, 1) := by decide +kernel
theorem dModel_look_371 : decode bModel_look 371 = .ok (.bipush 11, 2) := by decide +kernel
theorem dModel_look_373 : decode bModel_look 373 = .ok (.ireturn, 1) := by decide +kernel
theorem dModel_factOfType_0 : decode bModel_factOfType 0 = .ok (.aload_n 0, 1) := by decide +kernel
theorem dModel_factOfType_1 : decode bModel_factOfType 1 = .ok (.iload_n 1, 1) := by decide +kernel
theorem dModel_factOfType_2 : decode bModel_factOfType 2 = .ok (.aload_n 0, 1) := by decide +kernel
theorem dModel_factOfType_3 : decode bModel_factOfType 3 = .ok (.getfield 54, 3) := by decide +kernel
theorem dModel_factOfType_6 : decode bModel_factOfType 6 = .ok (.iload_n 2, 1) := by decide +kernel
theorem dModel_factOfType_7 : decode bModel_factOfType 7 = .ok (.iaload, 1) := by decide +kernel
theorem dModel_factOfType_8 : decode bModel_factOfType 8 = .ok (.aload_n 0, 1) := by decide +kernel
theorem dModel_factOfType_9 : decode bModel_factOfType 9 = .ok (.getfield 54, 3) := by decide +kernel
theorem dModel_factOfType_12 : decode bModel_factOfType 12 = .ok (.iload_n 2, 1) := by decide +kernel
theorem dModel_factOfType_13 : decode bModel_factOfType 13 = .ok (.iaload, 1) := by decide +kernel
theorem dModel_factOfType_14 : decode bModel_factOfType 14 = .ok (.iconst 3, 1) := by decide +kernel
theorem dModel_factOfType_15 : decode bModel_factOfType 15 = .ok (.if_icmp .ne 12, 3) := by decide +kernel
theorem dModel_factOfType_18 : decode bModel_factOfType 18 = .ok (.aload_n 0, 1) := by decide +kernel
theorem dModel_factOfType_19 : decode bModel_factOfType 19 = .ok (.getfield 63, 3) := by decide +kernel
theorem dModel_factOfType_22 : decode bModel_factOfType 22 = .ok (.iload_n 2, 1) := by decide +kernel
theorem dModel_factOfType_23 : decode bModel_factOfType 23 = .ok (.iaload, 1) := by decide +kernel
theorem dModel_factOfType_24 : decode bModel_factOfType 24 = .ok (.goto 18, 3) := by decide +kernel
theorem dModel_factOfType_27 : decode bModel_factOfType 27 = .ok (.aload_n 0, 1) := by decide +kernel
theorem dModel_factOfType_28 : decode bModel_factOfType 28 = .ok (.getfield 54, 3) := by decide +kernel
theorem dModel_factOfType_31 : decode bModel_factOfType 31 = .ok (.iload_n 2, 1) := by decide +kernel
theorem dModel_factOfType_32 : decode bModel_factOfType 32 = .ok (.iaload, 1) := by decide +kernel
theorem dModel_factOfType_33 : decode bModel_factOfType 33 = .ok (.iconst 4, 1) := by decide +kernel
theorem dModel_factOfType_34 : decode bModel_factOfType 34 = .ok (.if_icmp .ne 7, 3) := by decide +kernel
theorem dModel_factOfType_37 : decode bModel_factOfType 37 = .ok (.iload_n 2, 1) := by decide +kernel
theorem dModel_factOfType_38 : decode bModel_factOfType 38 = .ok (.goto 4, 3) := by decide +kernel
theorem dModel_factOfType_41 : decode bModel_factOfType 41 = .ok (.iconst 0, 1) := by decide +kernel
theorem dModel_factOfType_42 : decode bModel_factOfType 42 = .ok (.iconst 0, 1) := by decide +kernel
theorem dModel_factOfType_43 : decode bModel_factOfType 43 = .ok (.invokevirtual 147, 3) := by decide +kernel
theorem dModel_factOfType_46 : decode bModel_factOfType 46 = .ok (.return_, 1) := by decide +kernel
theorem dModel_lookName_0 : decode bModel_lookName 0 = .ok (.aload_n 0, 1) := by decide +kernel
theorem dModel_lookName_1 : decode bModel_lookName 1 = .ok (.aload_n 0, 1) := by decide +kernel
theorem dModel_lookName_2 : decode bModel_lookName 2 = .ok (.getfield 17, 3) := by decide +kernel
theorem dModel_lookName_5 : decode bModel_lookName 5 = .ok (.iload_n 1, 1) := by decide +kernel
theorem dModel_lookName_6 : decode bModel_lookName 6 = .ok (.iaload, 1) := by decide +kernel
theorem dModel_lookName_7 : decode bModel_lookName 7 = .ok (.invokevirtual 173, 3) := by decide +kernel
theorem dModel_lookName_10 : decode bModel_lookName 10 = .ok (.aload_n 0, 1) := by decide +kernel
theorem dModel_lookName_11 : decode bModel_lookName 11 = .ok (.getfield 118, 3) := by decide +kernel
theorem dModel_lookName_14 : decode bModel_lookName 14 = .ok (.iconst 5, 1) := by decide +kernel
theorem dModel_lookName_15 : decode bModel_lookName 15 = .ok (.if_icmp .ne 5, 3) := by decide +kernel
theorem dModel_lookName_18 : decode bModel_lookName 18 = .ok (.iconst 1, 1) := by decide +kernel
theorem dModel_lookName_19 : decode bModel_lookName 19 = .ok (.ireturn, 1) := by decide +kernel
theorem dModel_lookName_20 : decode bModel_lookName 20 = .ok (.aload_n 0, 1) := by decide +kernel
theorem dModel_lookName_21 : decode bModel_lookName 21 = .ok (.getfield 118, 3) := by decide +kernel
theorem dModel_lookName_24 : decode bModel_lookName 24 = .ok (.iconst 1, 1) := by decide +kernel
theorem dModel_lookName_25 : decode bModel_lookName 25 = .ok (.if_icmp .ne 50, 3) := by decide +kernel
theorem dModel_lookName_28 : decode bModel_lookName 28 = .ok (.aload_n 0, 1) := by decide +kernel
theorem dModel_lookName_29 : decode bModel_lookName 29 = .ok (.getfield 121, 3) := by decide +kernel
theorem dModel_lookName_32 : decode bModel_lookName 32 = .ok (.istore_n 2, 1) := by decide +kernel
theorem dModel_lookName_33 : decode bModel_lookName 33 = .ok (.aload_n 0, 1) := by decide +kernel
theorem dModel_lookName_34 : decode bModel_lookName 34 = .ok (.getfield 69, 3) := by decide +kernel
theorem dModel_lookName_37 : decode bModel_lookName 37 = .ok (.iload_n 2, 1) := by decide +kernel
theorem dModel_lookName_38 : decode bModel_lookName 38 = .ok (.iaload, 1) := by decide +kernel
theorem dModel_lookName_39 : decode bModel_lookName 39 = .ok (.ifCond .ne 16, 3) := by decide +kernel
theorem dModel_lookName_42 : decode bModel_lookName 42 = .ok (.aload_n 0, 1) := by decide +kernel
theorem dModel_lookName_43 : decode bModel_lookName 43 = .ok (.sipush 8000, 3) := by decide +kernel
theorem dModel_lookName_46 : decode bModel_lookName 46 = .ok (.iload_n 2, 1) := by decide +kernel
theorem dModel_lookName_47 : decode bModel_lookName 47 = .ok (.iadd, 1) := by decide +kernel
theorem dModel_lookName_48 : decode bModel_lookName 48 = .ok (.iload_n 1, 1) := by decide +kernel
theorem dModel_lookName_49 : decode bModel_lookName 49 = .ok (.invokevirtual 177, 3) := by decide +kernel
theorem dModel_lookName_52 : decode bModel_lookName 52 = .ok (.goto 14, 3) := by decide +kernel
theorem dModel_lookName_55 : decode bModel_lookName 55 = .ok (.aload_n 0, 1) := by decide +kernel
theorem dModel_lookName_56 : decode bModel_lookName 56 = .ok (.iload_n 1, 1) := by decide +kernel
theorem dModel_lookName_57 : decode bModel_lookName 57 = .ok (.aload_n 0, 1) := by decide +kernel
theorem dModel_lookName_58 : decode bModel_lookName 58 = .ok (.getfield 72, 3) := by decide +kernel
theorem dModel_lookName_61 : decode bModel_lookName 61 = .ok (.iload_n 2, 1) := by decide +kernel
theorem dModel_lookName_62 : decode bModel_lookName 62 = .ok (.iaload, 1) := by decide +kernel
theorem dModel_lookName_63 : decode bModel_lookName 63 = .ok (.invokevirtual 181, 3) := by decide +kernel
theorem dModel_lookName_66 : decode bModel_lookName 66 = .ok (.aload_n 0, 1) := by decide +kernel
theorem dModel_lookName_67 : decode bModel_lookName 67 = .ok (.getfield 39, 3) := by decide +kernel
theorem dModel_lookName_70 : decode bModel_lookName 70 = .ok (.iload_n 1, 1) := by decide +kernel
theorem dModel_lookName_71 : decode bModel_lookName 71 = .ok (.iload_n 2, 1) := by decide +kernel
theorem dModel_lookName_72 : decode bModel_lookName 72 = .ok (.iastore, 1) := by decide +kernel
theorem dModel_lookName_73 : decode bModel_lookName 73 = .ok (.iconst 0, 1) := by decide +kernel
theorem dModel_lookName_74 : decode bModel_lookName 74 = .ok (.ireturn, 1) := by decide +kernel
theorem dModel_lookName_75 : decode bModel_lookName 75 = .ok (.aload_n 0, 1) := by decide +kernel
theorem dModel_lookName_76 : decode bModel_lookName 76 = .ok (.getfield 118, 3) := by decide +kernel
theorem dModel_lookName_79 : decode bModel_lookName 79 = .ok (.iconst 2, 1) := by decide +kernel
theorem dModel_lookName_80 : decode bModel_lookName 80 = .ok (.if_icmp .eq 13, 3) := by decide +kernel
theorem dModel_lookName_83 : decode bModel_lookName 83 = .ok (.aload_n 0, 1) := by decide +kernel
theorem dModel_lookName_84 : decode bModel_lookName 84 = .ok (.getfield 118, 3) := by decide +kernel
theorem dModel_lookName_87 : decode bModel_lookName 87 = .ok (.iconst 3, 1) := by decide +kernel
theorem dModel_lookName_88 : decode bModel_lookName 88 = .ok (.if_icmp .eq 5, 3) := by decide +kernel
theorem dModel_lookName_91 : decode bModel_lookName 91 = .ok (.iconst 2, 1) := by decide +kernel
theorem dModel_lookName_92 : decode bModel_lookName 92 = .ok (.ireturn, 1) := by decide +kernel
theorem dModel_lookName_93 : decode bModel_lookName 93 = .ok (.aload_n 0, 1) := by decide +kernel
theorem dModel_lookName_94 : decode bModel_lookName 94 = .ok (.iload_n 1, 1) := by decide +kernel
theorem dModel_lookName_95 : decode bModel_lookName 95 = .ok (.aload_n 0, 1) := by decide +kernel
theorem dModel_lookName_96 : decode bModel_lookName 96 = .ok (.getfield 118, 3) := by decide +kernel
theorem dModel_lookName_99 : decode bModel_lookName 99 = .ok (.iconst 2, 1) := by decide +kernel
theorem dModel_lookName_100 : decode bModel_lookName 100 = .ok (.if_icmp .ne 7, 3) := by decide +kernel
theorem dModel_lookName_103 : decode bModel_lookName 103 = .ok (.iconst 4, 1) := by decide +kernel
theorem dModel_lookName_104 : decode bModel_lookName 104 = .ok (.goto 4, 3) := by decide +kernel
theorem dModel_lookName_107 : decode bModel_lookName 107 = .ok (.iconst 1, 1) := by decide +kernel
theorem dModel_lookName_108 : decode bModel_lookName 108 = .ok (.aload_n 0, 1) := by decide +kernel
theorem dModel_lookName_109 : decode bModel_lookName 109 = .ok (.getfield 118, 3) := by decide +kernel
theorem dModel_lookName_112 : decode bModel_lookName 112 = .ok (.iconst 2, 1) := by decide +kernel
theorem dModel_lookName_113 : decode bModel_lookName 113 = .ok (.if_icmp .ne 10, 3) := by decide +kernel
theorem dModel_lookName_116 : decode bModel_lookName 116 = .ok (.aload_n 0, 1) := by decide +kernel
theorem dModel_lookName_117 : decode bModel_lookName 117 = .ok (.getfield 121, 3) := by decide +kernel
theorem dModel_lookName_120 : decode bModel_lookName 120 = .ok (.goto 4, 3) := by decide +kernel
theorem dModel_lookName_123 : decode bModel_lookName 123 = .ok (.iconst 0, 1) := by decide +kernel
theorem dModel_lookName_124 : decode bModel_lookName 124 = .ok (.iconst 1, 1) := by decide +kernel
theorem dModel_lookName_125 : decode bModel_lookName 125 = .ok (.invokevirtual 147, 3) := by decide +kernel
theorem dModel_lookName_128 : decode bModel_lookName 128 = .ok (.aload_n 0, 1) := by decide +kernel
theorem dModel_lookName_129 : decode bModel_lookName 129 = .ok (.getfield 42, 3) := by decide +kernel
theorem dModel_lookName_132 : decode bModel_lookName 132 = .ok (.iload_n 1, 1) := by decide +kernel
theorem dModel_lookName_133 : decode bModel_lookName 133 = .ok (.aload_n 0, 1) := by decide +kernel
theorem dModel_lookName_134 : decode bModel_lookName 134 = .ok (.getfield 118, 3) := by decide +kernel
theorem dModel_lookName_137 : decode bModel_lookName 137 = .ok (.iconst 2, 1) := by decide +kernel
theorem dModel_lookName_138 : decode bModel_lookName 138 = .ok (.if_icmp .ne 11, 3) := by decide +kernel
theorem dModel_lookName_141 : decode bModel_lookName 141 = .ok (.aload_n 0, 1) := by decide +kernel
theorem dModel_lookName_142 : decode bModel_lookName 142 = .ok (.getfield 124, 3) := by decide +kernel
theorem dModel_lookName_145 : decode bModel_lookName 145 = .ok (.i2l, 1) := by decide +kernel
theorem dModel_lookName_146 : decode bModel_lookName 146 = .ok (.goto 17, 3) := by decide +kernel
theorem dModel_lookName_149 : decode bModel_lookName 149 = .ok (.aload_n 0, 1) := by decide +kernel
theorem dModel_lookName_150 : decode bModel_lookName 150 = .ok (.getfield 121, 3) := by decide +kernel
theorem dModel_lookName_153 : decode bModel_lookName 153 = .ok (.bipush 6, 2) := by decide +kernel
theorem dModel_lookName_155 : decode bModel_lookName 155 = .ok (.if_icmp .ne 7, 3) := by decide +kernel
theorem dModel_lookName_158 : decode bModel_lookName 158 = .ok (.lconst 1, 1) := by decide +kernel
theorem dModel_lookName_159 : decode bModel_lookName 159 = .ok (.goto 4, 3) := by decide +kernel
theorem dModel_lookName_162 : decode bModel_lookName 162 = .ok (.lconst 0, 1) := by decide +kernel
theorem dModel_lookName_163 : decode bModel_lookName 163 = .ok (.lastore, 1) := by decide +kernel
theorem dModel_lookName_164 : decode bModel_lookName 164 = .ok (.aload_n 0, 1) := by decide +kernel
theorem dModel_lookName_165 : decode bModel_lookName 165 = .ok (.getfield 39, 3) := by decide +kernel
theorem dModel_lookName_168 : decode bModel_lookName 168 = .ok (.iload_n 1, 1) := by decide +kernel
theorem dModel_lookName_169 : decode bModel_lookName 169 = .ok (.sipush 2000, 3) := by decide +kernel
theorem dModel_lookName_172 : decode bModel_lookName 172 = .ok (.iastore, 1) := by decide +kernel
theorem dModel_lookName_173 : decode bModel_lookName 173 = .ok (.iconst 0, 1) := by decide +kernel
theorem dModel_lookName_174 : decode bModel_lookName 174 = .ok (.ireturn, 1) := by decide +kernel
theorem dModel_lookRow_0 : decode bModel_lookRow 0 = .ok (.aload_n 0, 1) := by decide +kernel
theorem dModel_lookRow_1 : decode bModel_lookRow 1 = .ok (.getfield 20, 3) := by decide +kernel
theorem dModel_lookRow_4 : decode bModel_lookRow 4 = .ok (.iload_n 1, 1) := by decide +kernel
theorem dModel_lookRow_5 : decode bModel_lookRow 5 = .ok (.iaload, 1) := by decide +kernel
theorem dModel_lookRow_6 : decode bModel_lookRow 6 = .ok (.istore_n 2, 1) := by decide +kernel
theorem dModel_lookRow_7 : decode bModel_lookRow 7 = .ok (.iload_n 2, 1) := by decide +kernel
theorem dModel_lookRow_8 : decode bModel_lookRow 8 = .ok (.iconst 1, 1) := by decide +kernel
theorem dModel_lookRow_9 : decode bModel_lookRow 9 = .ok (.if_icmp .lt 13, 3) := by decide +kernel
theorem dModel_lookRow_12 : decode bModel_lookRow 12 = .ok (.iload_n 2, 1) := by decide +kernel
theorem dModel_lookRow_13 : decode bModel_lookRow 13 = .ok (.bipush 64, 2) := by decide +kernel
theorem dModel_lookRow_15 : decode bModel_lookRow 15 = .ok (.if_icmp .gt 7, 3) := by decide +kernel
theorem dModel_lookRow_18 : decode bModel_lookRow 18 = .ok (.iconst 1, 1) := by decide +kernel
theorem dModel_lookRow_19 : decode bModel_lookRow 19 = .ok (.goto 4, 3) := by decide +kernel
theorem dModel_lookRow_22 : decode bModel_lookRow 22 = .ok (.iconst 0, 1) := by decide +kernel
theorem dModel_lookRow_23 : decode bModel_lookRow 23 = .ok (.istore_n 3, 1) := by decide +kernel
theorem dModel_lookRow_24 : decode bModel_lookRow 24 = .ok (.iconst 0, 1) := by decide +kernel
theorem dModel_lookRow_25 : decode bModel_lookRow 25 = .ok (.istore 4, 2) := by decide +kernel
theorem dModel_lookRow_27 : decode bModel_lookRow 27 = .ok (.iload 4, 2) := by decide +kernel
theorem dModel_lookRow_29 : decode bModel_lookRow 29 = .ok (.iload_n 2, 1) := by decide +kernel
theorem dModel_lookRow_30 : decode bModel_lookRow 30 = .ok (.if_icmp .ge 50, 3) := by decide +kernel
theorem dModel_lookRow_33 : decode bModel_lookRow 33 = .ok (.iload_n 3, 1) := by decide +kernel
theorem dModel_lookRow_34 : decode bModel_lookRow 34 = .ok (.ifCond .eq 46, 3) := by decide +kernel
theorem dModel_lookRow_37 : decode bModel_lookRow 37 = .ok (.aload_n 0, 1) := by decide +kernel
theorem dModel_lookRow_38 : decode bModel_lookRow 38 = .ok (.getfield 13, 3) := by decide +kernel
theorem dModel_lookRow_41 : decode bModel_lookRow 41 = .ok (.aload_n 0, 1) := by decide +kernel
theorem dModel_lookRow_42 : decode bModel_lookRow 42 = .ok (.iload_n 1, 1) := by decide +kernel
theorem dModel_lookRow_43 : decode bModel_lookRow 43 = .ok (.iload 4, 2) := by decide +kernel
theorem dModel_lookRow_45 : decode bModel_lookRow 45 = .ok (.invokevirtual 154, 3) := by decide +kernel
theorem dModel_lookRow_48 : decode bModel_lookRow 48 = .ok (.iaload, 1) := by decide +kernel
theorem dModel_lookRow_49 : decode bModel_lookRow 49 = .ok (.iconst 3, 1) := by decide +kernel
theorem dModel_lookRow_50 : decode bModel_lookRow 50 = .ok (.if_icmp .ne 22, 3) := by decide +kernel
theorem dModel_lookRow_53 : decode bModel_lookRow 53 = .ok (.aload_n 0, 1) := by decide +kernel
theorem dModel_lookRow_54 : decode bModel_lookRow 54 = .ok (.getfield 20, 3) := by decide +kernel
theorem dModel_lookRow_57 : decode bModel_lookRow 57 = .ok (.aload_n 0, 1) := by decide +kernel
theorem dModel_lookRow_58 : decode bModel_lookRow 58 = .ok (.iload_n 1, 1) := by decide +kernel
theorem dModel_lookRow_59 : decode bModel_lookRow 59 = .ok (.iload 4, 2) := by decide +kernel
theorem dModel_lookRow_61 : decode bModel_lookRow 61 = .ok (.invokevirtual 154, 3) := by decide +kernel
theorem dModel_lookRow_64 : decode bModel_lookRow 64 = .ok (.iaload, 1) := by decide +kernel
theorem dModel_lookRow_65 : decode bModel_lookRow 65 = .ok (.ifCond .ne 7, 3) := by decide +kernel
theorem dModel_lookRow_68 : decode bModel_lookRow 68 = .ok (.iconst 1, 1) := by decide +kernel
theorem dModel_lookRow_69 : decode bModel_lookRow 69 = .ok (.goto 4, 3) := by decide +kernel
theorem dModel_lookRow_72 : decode bModel_lookRow 72 = .ok (.iconst 0, 1) := by decide +kernel
theorem dModel_lookRow_73 : decode bModel_lookRow 73 = .ok (.istore_n 3, 1) := by decide +kernel
theorem dModel_lookRow_74 : decode bModel_lookRow 74 = .ok (.iinc 4 1, 3) := by decide +kernel
theorem dModel_lookRow_77 : decode bModel_lookRow 77 = .ok (.goto (-50), 3) := by decide +kernel
theorem dModel_lookRow_80 : decode bModel_lookRow 80 = .ok (.iload_n 3, 1) := by decide +kernel
theorem dModel_lookRow_81 : decode bModel_lookRow 81 = .ok (.ifCond .ne 6, 3) := by decide +kernel
theorem dModel_lookRow_84 : decode bModel_lookRow 84 = .ok (.bipush 11, 2) := by decide +kernel
theorem dModel_lookRow_86 : decode bModel_lookRow 86 = .ok (.ireturn, 1) := by decide +kernel
theorem dModel_lookRow_87 : decode bModel_lookRow 87 = .ok (.aload_n 0, 1) := by decide +kernel
theorem dModel_lookRow_88 : decode bModel_lookRow 88 = .ok (.iload_n 1, 1) := by decide +kernel
theorem dModel_lookRow_89 : decode bModel_lookRow 89 = .ok (.iconst 3, 1) := by decide +kernel
theorem dModel_lookRow_90 : decode bModel_lookRow 90 = .ok (.iload_n 2, 1) := by decide +kernel
theorem dModel_lookRow_91 : decode bModel_lookRow 91 = .ok (.iconst 1, 1) := by decide +kernel
theorem dModel_lookRow_92 : decode bModel_lookRow 92 = .ok (.invokevirtual 147, 3) := by decide +kernel
theorem dModel_lookRow_95 : decode bModel_lookRow 95 = .ok (.iconst 0, 1) := by decide +kernel
theorem dModel_lookRow_96 : decode bModel_lookRow 96 = .ok (.istore 4, 2) := by decide +kernel
theorem dModel_lookRow_98 : decode bModel_lookRow 98 = .ok (.iload 4, 2) := by decide +kernel
theorem dModel_lookRow_100 : decode bModel_lookRow 100 = .ok (.iload_n 2, 1) := by decide +kernel
theorem dModel_lookRow_101 : decode bModel_lookRow 101 = .ok (.if_icmp .ge 28, 3) := by decide +kernel
theorem dModel_lookRow_104 : decode bModel_lookRow 104 = .ok (.aload_n 0, 1) := by decide +kernel
theorem dModel_lookRow_105 : decode bModel_lookRow 105 = .ok (.iload_n 1, 1) := by decide +kernel
theorem dModel_lookRow_106 : decode bModel_lookRow 106 = .ok (.iload 4, 2) := by decide +kernel
theorem dModel_lookRow_108 : decode bModel_lookRow 108 = .ok (.aload_n 0, 1) := by decide +kernel
theorem dModel_lookRow_109 : decode bModel_lookRow 109 = .ok (.getfield 17, 3) := by decide +kernel
theorem dModel_lookRow_112 : decode bModel_lookRow 112 = .ok (.aload_n 0, 1) := by decide +kernel
theorem dModel_lookRow_113 : decode bModel_lookRow 113 = .ok (.iload_n 1, 1) := by decide +kernel
theorem dModel_lookRow_114 : decode bModel_lookRow 114 = .ok (.iload 4, 2) := by decide +kernel
theorem dModel_lookRow_116 : decode bModel_lookRow 116 = .ok (.invokevirtual 154, 3) := by decide +kernel
theorem dModel_lookRow_119 : decode bModel_lookRow 119 = .ok (.iaload, 1) := by decide +kernel
theorem dModel_lookRow_120 : decode bModel_lookRow 120 = .ok (.invokevirtual 127, 3) := by decide +kernel
theorem dModel_lookRow_123 : decode bModel_lookRow 123 = .ok (.iinc 4 1, 3) := by decide +kernel
theorem dModel_lookRow_126 : decode bModel_lookRow 126 = .ok (.goto (-28), 3) := by decide +kernel
theorem dModel_lookRow_129 : decode bModel_lookRow 129 = .ok (.iconst 0, 1) := by decide +kernel
theorem dModel_lookRow_130 : decode bModel_lookRow 130 = .ok (.ireturn, 1) := by decide +kernel
theorem dModel_not_0 : decode bModel_not 0 = .ok (.iload_n 0, 1) := by decide +kernel
theorem dModel_not_1 : decode bModel_not 1 = .ok (.ifCond .ne 7, 3) := by decide +kernel
theorem dModel_not_4 : decode bModel_not 4 = .ok (.iconst 0, 1) := by decide +kernel
theorem dModel_not_5 : decode bModel_not 5 = .ok (.goto 26, 3) := by decide +kernel
theorem dModel_not_8 : decode bModel_not 8 = .ok (.iload_n 0, 1) := by decide +kernel
theorem dModel_not_9 : decode bModel_not 9 = .ok (.invokestatic 135, 3) := by decide +kernel
theorem dModel_not_12 : decode bModel_not 12 = .ok (.ifCond .eq 7, 3) := by decide +kernel
theorem dModel_not_15 : decode bModel_not 15 = .ok (.iconst 3, 1) := by decide +kernel
theorem dModel_not_16 : decode bModel_not 16 = .ok (.goto 15, 3) := by decide +kernel
theorem dModel_not_19 : decode bModel_not 19 = .ok (.iload_n 0, 1) := by decide +kernel
theorem dModel_not_20 : decode bModel_not 20 = .ok (.invokestatic 138, 3) := by decide +kernel
theorem dModel_not_23 : decode bModel_not 23 = .ok (.ifCond .eq 7, 3) := by decide +kernel
theorem dModel_not_26 : decode bModel_not 26 = .ok (.iconst 2, 1) := by decide +kernel
theorem dModel_not_27 : decode bModel_not 27 = .ok (.goto 4, 3) := by decide +kernel
theorem dModel_not_30 : decode bModel_not 30 = .ok (.iconst 1, 1) := by decide +kernel
theorem dModel_not_31 : decode bModel_not 31 = .ok (.ireturn, 1) := by decide +kernel
theorem dModel_join_0 : decode bModel_join 0 = .ok (.iload_n 0, 1) := by decide +kernel
theorem dModel_join_1 : decode bModel_join 1 = .ok (.ifCond .ne 53, 3) := by decide +kernel
theorem dModel_join_4 : decode bModel_join 4 = .ok (.iload_n 1, 1) := by decide +kernel
theorem dModel_join_5 : decode bModel_join 5 = .ok (.invokestatic 135, 3) := by decide +kernel
theorem dModel_join_8 : decode bModel_join 8 = .ok (.ifCond .ne 10, 3) := by decide +kernel
theorem dModel_join_11 : decode bModel_join 11 = .ok (.iload_n 2, 1) := by decide +kernel
theorem dModel_join_12 : decode bModel_join 12 = .ok (.invokestatic 135, 3) := by decide +kernel
theorem dModel_join_15 : decode bModel_join 15 = .ok (.ifCond .eq 7, 3) := by decide +kernel
theorem dModel_join_18 : decode bModel_join 18 = .ok (.iconst 2, 1) := by decide +kernel
theorem dModel_join_19 : decode bModel_join 19 = .ok (.goto 34, 3) := by decide +kernel
theorem dModel_join_22 : decode bModel_join 22 = .ok (.iload_n 1, 1) := by decide +kernel
theorem dModel_join_23 : decode bModel_join 23 = .ok (.ifCond .eq 7, 3) := by decide +kernel
theorem dModel_join_26 : decode bModel_join 26 = .ok (.iload_n 2, 1) := by decide +kernel
theorem dModel_join_27 : decode bModel_join 27 = .ok (.ifCond .ne 7, 3) := by decide +kernel
theorem dModel_join_30 : decode bModel_join 30 = .ok (.iconst 0, 1) := by decide +kernel
theorem dModel_join_31 : decode bModel_join 31 = .ok (.goto 22, 3) := by decide +kernel
theorem dModel_join_34 : decode bModel_join 34 = .ok (.iload_n 1, 1) := by decide +kernel
theorem dModel_join_35 : decode bModel_join 35 = .ok (.invokestatic 138, 3) := by decide +kernel
theorem dModel_join_38 : decode bModel_join 38 = .ok (.ifCond .eq 14, 3) := by decide +kernel
theorem dModel_join_41 : decode bModel_join 41 = .ok (.iload_n 2, 1) := by decide +kernel
theorem dModel_join_42 : decode bModel_join 42 = .ok (.invokestatic 138, 3) := by decide +kernel
theorem dModel_join_45 : decode bModel_join 45 = .ok (.ifCond .eq 7, 3) := by decide +kernel
theorem dModel_join_48 : decode bModel_join 48 = .ok (.iconst 3, 1) := by decide +kernel
theorem dModel_join_49 : decode bModel_join 49 = .ok (.goto 4, 3) := by decide +kernel
theorem dModel_join_52 : decode bModel_join 52 = .ok (.iconst 1, 1) := by decide +kernel
theorem dModel_join_53 : decode bModel_join 53 = .ok (.ireturn, 1) := by decide +kernel
theorem dModel_join_54 : decode bModel_join 54 = .ok (.iload_n 0, 1) := by decide +kernel
theorem dModel_join_55 : decode bModel_join 55 = .ok (.iconst 1, 1) := by decide +kernel
theorem dModel_join_56 : decode bModel_join 56 = .ok (.if_icmp .ne 53, 3) := by decide +kernel
theorem dModel_join_59 : decode bModel_join 59 = .ok (.iload_n 1, 1) := by decide +kernel
theorem dModel_join_60 : decode bModel_join 60 = .ok (.invokestatic 138, 3) := by decide +kernel
theorem dModel_join_63 : decode bModel_join 63 = .ok (.ifCond .ne 10, 3) := by decide +kernel
theorem dModel_join_66 : decode bModel_join 66 = .ok (.iload_n 2, 1) := by decide +kernel
theorem dModel_join_67 : decode bModel_join 67 = .ok (.invokestatic 138, 3) := by decide +kernel
theorem dModel_join_70 : decode bModel_join 70 = .ok (.ifCond .eq 7, 3) := by decide +kernel
theorem dModel_join_73 : decode bModel_join 73 = .ok (.iconst 3, 1) := by decide +kernel
theorem dModel_join_74 : decode bModel_join 74 = .ok (.goto 34, 3) := by decide +kernel
theorem dModel_join_77 : decode bModel_join 77 = .ok (.iload_n 1, 1) := by decide +kernel
theorem dModel_join_78 : decode bModel_join 78 = .ok (.ifCond .eq 7, 3) := by decide +kernel
theorem dModel_join_81 : decode bModel_join 81 = .ok (.iload_n 2, 1) := by decide +kernel
theorem dModel_join_82 : decode bModel_join 82 = .ok (.ifCond .ne 7, 3) := by decide +kernel
theorem dModel_join_85 : decode bModel_join 85 = .ok (.iconst 0, 1) := by decide +kernel
theorem dModel_join_86 : decode bModel_join 86 = .ok (.goto 22, 3) := by decide +kernel
theorem dModel_join_89 : decode bModel_join 89 = .ok (.iload_n 1, 1) := by decide +kernel
theorem dModel_join_90 : decode bModel_join 90 = .ok (.invokestatic 135, 3) := by decide +kernel
theorem dModel_join_93 : decode bModel_join 93 = .ok (.ifCond .eq 14, 3) := by decide +kernel
theorem dModel_join_96 : decode bModel_join 96 = .ok (.iload_n 2, 1) := by decide +kernel
theorem dModel_join_97 : decode bModel_join 97 = .ok (.invokestatic 135, 3) := by decide +kernel
theorem dModel_join_100 : decode bModel_join 100 = .ok (.ifCond .eq 7, 3) := by decide +kernel
theorem dModel_join_103 : decode bModel_join 103 = .ok (.iconst 2, 1) := by decide +kernel
theorem dModel_join_104 : decode bModel_join 104 = .ok (.goto 4, 3) := by decide +kernel
theorem dModel_join_107 : decode bModel_join 107 = .ok (.iconst 1, 1) := by decide +kernel
theorem dModel_join_108 : decode bModel_join 108 = .ok (.ireturn, 1) := by decide +kernel
theorem dModel_join_109 : decode bModel_join 109 = .ok (.iload_n 1, 1) := by decide +kernel
theorem dModel_join_110 : decode bModel_join 110 = .ok (.ifCond .eq 7, 3) := by decide +kernel
theorem dModel_join_113 : decode bModel_join 113 = .ok (.iload_n 2, 1) := by decide +kernel
theorem dModel_join_114 : decode bModel_join 114 = .ok (.ifCond .ne 5, 3) := by decide +kernel
theorem dModel_join_117 : decode bModel_join 117 = .ok (.iconst 0, 1) := by decide +kernel
theorem dModel_join_118 : decode bModel_join 118 = .ok (.ireturn, 1) := by decide +kernel
theorem dModel_join_119 : decode bModel_join 119 = .ok (.iload_n 1, 1) := by decide +kernel
theorem dModel_join_120 : decode bModel_join 120 = .ok (.invokestatic 135, 3) := by decide +kernel
theorem dModel_join_123 : decode bModel_join 123 = .ok (.ifCond .ne 10, 3) := by decide +kernel
theorem dModel_join_126 : decode bModel_join 126 = .ok (.iload_n 1, 1) := by decide +kernel
theorem dModel_join_127 : decode bModel_join 127 = .ok (.invokestatic 138, 3) := by decide +kernel
theorem dModel_join_130 : decode bModel_join 130 = .ok (.ifCond .eq 21, 3) := by decide +kernel
theorem dModel_join_133 : decode bModel_join 133 = .ok (.iload_n 2, 1) := by decide +kernel
theorem dModel_join_134 : decode bModel_join 134 = .ok (.invokestatic 135, 3) := by decide +kernel
theorem dModel_join_137 : decode bModel_join 137 = .ok (.ifCond .ne 10, 3) := by decide +kernel
theorem dModel_join_140 : decode bModel_join 140 = .ok (.iload_n 2, 1) := by decide +kernel
theorem dModel_join_141 : decode bModel_join 141 = .ok (.invokestatic 138, 3) := by decide +kernel
theorem dModel_join_144 : decode bModel_join 144 = .ok (.ifCond .eq 7, 3) := by decide +kernel
theorem dModel_join_147 : decode bModel_join 147 = .ok (.iconst 1, 1) := by decide +kernel
theorem dModel_join_148 : decode bModel_join 148 = .ok (.goto 4, 3) := by decide +kernel
theorem dModel_join_151 : decode bModel_join 151 = .ok (.iconst 0, 1) := by decide +kernel
theorem dModel_join_152 : decode bModel_join 152 = .ok (.istore_n 3, 1) := by decide +kernel
theorem dModel_join_153 : decode bModel_join 153 = .ok (.iload_n 3, 1) := by decide +kernel
theorem dModel_join_154 : decode bModel_join 154 = .ok (.ifCond .ne 7, 3) := by decide +kernel
theorem dModel_join_157 : decode bModel_join 157 = .ok (.iconst 1, 1) := by decide +kernel
theorem dModel_join_158 : decode bModel_join 158 = .ok (.goto 19, 3) := by decide +kernel
theorem dModel_join_161 : decode bModel_join 161 = .ok (.iload_n 1, 1) := by decide +kernel
theorem dModel_join_162 : decode bModel_join 162 = .ok (.invokestatic 138, 3) := by decide +kernel
theorem dModel_join_165 : decode bModel_join 165 = .ok (.iload_n 2, 1) := by decide +kernel
theorem dModel_join_166 : decode bModel_join 166 = .ok (.invokestatic 138, 3) := by decide +kernel
theorem dModel_join_169 : decode bModel_join 169 = .ok (.if_icmp .ne 7, 3) := by decide +kernel
theorem dModel_join_172 : decode bModel_join 172 = .ok (.iconst 2, 1) := by decide +kernel
theorem dModel_join_173 : decode bModel_join 173 = .ok (.goto 4, 3) := by decide +kernel
theorem dModel_join_176 : decode bModel_join 176 = .ok (.iconst 3, 1) := by decide +kernel
theorem dModel_join_177 : decode bModel_join 177 = .ok (.ireturn, 1) := by decide +kernel
theorem dModel_logic_0 : decode bModel_logic 0 = .ok (.iload_n 0, 1) := by decide +kernel
theorem dModel_logic_1 : decode bModel_logic 1 = .ok (.iconst 2, 1) := by decide +kernel
theorem dModel_logic_2 : decode bModel_logic 2 = .ok (.if_icmp .ne 7, 3) := by decide +kernel
theorem dModel_logic_5 : decode bModel_logic 5 = .ok (.iconst 0, 1) := by decide +kernel
theorem dModel_logic_6 : decode bModel_logic 6 = .ok (.goto 22, 3) := by decide +kernel
theorem dModel_logic_9 : decode bModel_logic 9 = .ok (.iload_n 0, 1) := by decide +kernel
theorem dModel_logic_10 : decode bModel_logic 10 = .ok (.iconst 3, 1) := by decide +kernel
theorem dModel_logic_11 : decode bModel_logic 11 = .ok (.if_icmp .ne 7, 3) := by decide +kernel
theorem dModel_logic_14 : decode bModel_logic 14 = .ok (.iconst 1, 1) := by decide +kernel
theorem dModel_logic_15 : decode bModel_logic 15 = .ok (.goto 13, 3) := by decide +kernel
theorem dModel_logic_18 : decode bModel_logic 18 = .ok (.iload_n 0, 1) := by decide +kernel
theorem dModel_logic_19 : decode bModel_logic 19 = .ok (.iconst 5, 1) := by decide +kernel
theorem dModel_logic_20 : decode bModel_logic 20 = .ok (.if_icmp .ne 7, 3) := by decide +kernel
theorem dModel_logic_23 : decode bModel_logic 23 = .ok (.iconst 4, 1) := by decide +kernel
theorem dModel_logic_24 : decode bModel_logic 24 = .ok (.goto 4, 3) := by decide +kernel
theorem dModel_logic_27 : decode bModel_logic 27 = .ok (.iload_n 0, 1) := by decide +kernel
theorem dModel_logic_28 : decode bModel_logic 28 = .ok (.iload_n 1, 1) := by decide +kernel
theorem dModel_logic_29 : decode bModel_logic 29 = .ok (.iload_n 2, 1) := by decide +kernel
theorem dModel_logic_30 : decode bModel_logic 30 = .ok (.invokestatic 184, 3) := by decide +kernel
theorem dModel_logic_33 : decode bModel_logic 33 = .ok (.istore_n 3, 1) := by decide +kernel
theorem dModel_logic_34 : decode bModel_logic 34 = .ok (.iload_n 0, 1) := by decide +kernel
theorem dModel_logic_35 : decode bModel_logic 35 = .ok (.iconst 2, 1) := by decide +kernel
theorem dModel_logic_36 : decode bModel_logic 36 = .ok (.if_icmp .eq 13, 3) := by decide +kernel
theorem dModel_logic_39 : decode bModel_logic 39 = .ok (.iload_n 0, 1) := by decide +kernel
theorem dModel_logic_40 : decode bModel_logic 40 = .ok (.iconst 3, 1) := by decide +kernel
theorem dModel_logic_41 : decode bModel_logic 41 = .ok (.if_icmp .eq 8, 3) := by decide +kernel
theorem dModel_logic_44 : decode bModel_logic 44 = .ok (.iload_n 0, 1) := by decide +kernel
theorem dModel_logic_45 : decode bModel_logic 45 = .ok (.iconst 5, 1) := by decide +kernel
theorem dModel_logic_46 : decode bModel_logic 46 = .ok (.if_icmp .ne 10, 3) := by decide +kernel
theorem dModel_logic_49 : decode bModel_logic 49 = .ok (.iload_n 3, 1) := by decide +kernel
theorem dModel_logic_50 : decode bModel_logic 50 = .ok (.invokestatic 187, 3) := by decide +kernel
theorem dModel_logic_53 : decode bModel_logic 53 = .ok (.goto 4, 3) := by decide +kernel
theorem dModel_logic_56 : decode bModel_logic 56 = .ok (.iload_n 3, 1) := by decide +kernel
theorem dModel_logic_57 : decode bModel_logic 57 = .ok (.ireturn, 1) := by decide +kernel
theorem dModel_truth_0 : decode bModel_truth 0 = .ok (.iload_n 0, 1) := by decide +kernel
theorem dModel_truth_1 : decode bModel_truth 1 = .ok (.ifCond .eq 8, 3) := by decide +kernel
theorem dModel_truth_4 : decode bModel_truth 4 = .ok (.iload_n 0, 1) := by decide +kernel
theorem dModel_truth_5 : decode bModel_truth 5 = .ok (.iconst 2, 1) := by decide +kernel
theorem dModel_truth_6 : decode bModel_truth 6 = .ok (.if_icmp .ne 19, 3) := by decide +kernel
theorem dModel_truth_9 : decode bModel_truth 9 = .ok (.iload_n 1, 1) := by decide +kernel
theorem dModel_truth_10 : decode bModel_truth 10 = .ok (.ifCond .eq 11, 3) := by decide +kernel
theorem dModel_truth_13 : decode bModel_truth 13 = .ok (.iload_n 2, 1) := by decide +kernel
theorem dModel_truth_14 : decode bModel_truth 14 = .ok (.ifCond .eq 7, 3) := by decide +kernel
theorem dModel_truth_17 : decode bModel_truth 17 = .ok (.iconst 1, 1) := by decide +kernel
theorem dModel_truth_18 : decode bModel_truth 18 = .ok (.goto 43, 3) := by decide +kernel
theorem dModel_truth_21 : decode bModel_truth 21 = .ok (.iconst 0, 1) := by decide +kernel
theorem dModel_truth_22 : decode bModel_truth 22 = .ok (.goto 39, 3) := by decide +kernel
theorem dModel_truth_25 : decode bModel_truth 25 = .ok (.iload_n 0, 1) := by decide +kernel
theorem dModel_truth_26 : decode bModel_truth 26 = .ok (.iconst 1, 1) := by decide +kernel
theorem dModel_truth_27 : decode bModel_truth 27 = .ok (.if_icmp .eq 8, 3) := by decide +kernel
theorem dModel_truth_30 : decode bModel_truth 30 = .ok (.iload_n 0, 1) := by decide +kernel
theorem dModel_truth_31 : decode bModel_truth 31 = .ok (.iconst 3, 1) := by decide +kernel
theorem dModel_truth_32 : decode bModel_truth 32 = .ok (.if_icmp .ne 19, 3) := by decide +kernel
theorem dModel_truth_35 : decode bModel_truth 35 = .ok (.iload_n 1, 1) := by decide +kernel
theorem dModel_truth_36 : decode bModel_truth 36 = .ok (.ifCond .ne 7, 3) := by decide +kernel
theorem dModel_truth_39 : decode bModel_truth 39 = .ok (.iload_n 2, 1) := by decide +kernel
theorem dModel_truth_40 : decode bModel_truth 40 = .ok (.ifCond .eq 7, 3) := by decide +kernel
theorem dModel_truth_43 : decode bModel_truth 43 = .ok (.iconst 1, 1) := by decide +kernel
theorem dModel_truth_44 : decode bModel_truth 44 = .ok (.goto 17, 3) := by decide +kernel
theorem dModel_truth_47 : decode bModel_truth 47 = .ok (.iconst 0, 1) := by decide +kernel
theorem dModel_truth_48 : decode bModel_truth 48 = .ok (.goto 13, 3) := by decide +kernel
theorem dModel_truth_51 : decode bModel_truth 51 = .ok (.iload_n 1, 1) := by decide +kernel
theorem dModel_truth_52 : decode bModel_truth 52 = .ok (.iload_n 2, 1) := by decide +kernel
theorem dModel_truth_53 : decode bModel_truth 53 = .ok (.if_icmp .eq 7, 3) := by decide +kernel
theorem dModel_truth_56 : decode bModel_truth 56 = .ok (.iconst 1, 1) := by decide +kernel
theorem dModel_truth_57 : decode bModel_truth 57 = .ok (.goto 4, 3) := by decide +kernel
theorem dModel_truth_60 : decode bModel_truth 60 = .ok (.iconst 0, 1) := by decide +kernel
theorem dModel_truth_61 : decode bModel_truth 61 = .ok (.istore_n 3, 1) := by decide +kernel
theorem dModel_truth_62 : decode bModel_truth 62 = .ok (.iload_n 0, 1) := by decide +kernel
theorem dModel_truth_63 : decode bModel_truth 63 = .ok (.iconst 2, 1) := by decide +kernel
theorem dModel_truth_64 : decode bModel_truth 64 = .ok (.if_icmp .eq 13, 3) := by decide +kernel
theorem dModel_truth_67 : decode bModel_truth 67 = .ok (.iload_n 0, 1) := by decide +kernel
theorem dModel_truth_68 : decode bModel_truth 68 = .ok (.iconst 3, 1) := by decide +kernel
theorem dModel_truth_69 : decode bModel_truth 69 = .ok (.if_icmp .eq 8, 3) := by decide +kernel
theorem dModel_truth_72 : decode bModel_truth 72 = .ok (.iload_n 0, 1) := by decide +kernel
theorem dModel_truth_73 : decode bModel_truth 73 = .ok (.iconst 5, 1) := by decide +kernel
theorem dModel_truth_74 : decode bModel_truth 74 = .ok (.if_icmp .ne 7, 3) := by decide +kernel
theorem dModel_truth_77 : decode bModel_truth 77 = .ok (.iconst 1, 1) := by decide +kernel
theorem dModel_truth_78 : decode bModel_truth 78 = .ok (.goto 4, 3) := by decide +kernel
theorem dModel_truth_81 : decode bModel_truth 81 = .ok (.iconst 0, 1) := by decide +kernel
theorem dModel_truth_82 : decode bModel_truth 82 = .ok (.iload_n 3, 1) := by decide +kernel
theorem dModel_truth_83 : decode bModel_truth 83 = .ok (.if_icmp .eq 7, 3) := by decide +kernel
theorem dModel_truth_86 : decode bModel_truth 86 = .ok (.iconst 1, 1) := by decide +kernel
theorem dModel_truth_87 : decode bModel_truth 87 = .ok (.goto 4, 3) := by decide +kernel
theorem dModel_truth_90 : decode bModel_truth 90 = .ok (.iconst 0, 1) := by decide +kernel
theorem dModel_truth_91 : decode bModel_truth 91 = .ok (.ireturn, 1) := by decide +kernel
theorem dModel_known_0 : decode bModel_known 0 = .ok (.aload_n 0, 1) := by decide +kernel
theorem dModel_known_1 : decode bModel_known 1 = .ok (.getfield 35, 3) := by decide +kernel
theorem dModel_known_4 : decode bModel_known 4 = .ok (.iload_n 1, 1) := by decide +kernel
theorem dModel_known_5 : decode bModel_known 5 = .ok (.baload, 1) := by decide +kernel
theorem dModel_known_6 : decode bModel_known 6 = .ok (.ifCond .ne 31, 3) := by decide +kernel
theorem dModel_known_9 : decode bModel_known 9 = .ok (.aload_n 0, 1) := by decide +kernel
theorem dModel_known_10 : decode bModel_known 10 = .ok (.getfield 42, 3) := by decide +kernel
theorem dModel_known_13 : decode bModel_known 13 = .ok (.iload_n 1, 1) := by decide +kernel
theorem dModel_known_14 : decode bModel_known 14 = .ok (.lconst 0, 1) := by decide +kernel
theorem dModel_known_15 : decode bModel_known 15 = .ok (.lastore, 1) := by decide +kernel
theorem dModel_known_16 : decode bModel_known 16 = .ok (.iconst 0, 1) := by decide +kernel
theorem dModel_known_17 : decode bModel_known 17 = .ok (.istore_n 2, 1) := by decide +kernel
theorem dModel_known_18 : decode bModel_known 18 = .ok (.iload_n 2, 1) := by decide +kernel
theorem dModel_known_19 : decode bModel_known 19 = .ok (.bipush 64, 2) := by decide +kernel
theorem dModel_known_21 : decode bModel_known 21 = .ok (.if_icmp .ge 16, 3) := by decide +kernel
theorem dModel_known_24 : decode bModel_known 24 = .ok (.aload_n 0, 1) := by decide +kernel
theorem dModel_known_25 : decode bModel_known 25 = .ok (.iload_n 1, 1) := by decide +kernel
theorem dModel_known_26 : decode bModel_known 26 = .ok (.iload_n 2, 1) := by decide +kernel
theorem dModel_known_27 : decode bModel_known 27 = .ok (.iconst 0, 1) := by decide +kernel
theorem dModel_known_28 : decode bModel_known 28 = .ok (.invokevirtual 127, 3) := by decide +kernel
theorem dModel_known_31 : decode bModel_known 31 = .ok (.iinc 2 1, 3) := by decide +kernel
theorem dModel_known_34 : decode bModel_known 34 = .ok (.goto (-16), 3) := by decide +kernel
theorem dModel_known_37 : decode bModel_known 37 = .ok (.iconst 0, 1) := by decide +kernel
theorem dModel_known_38 : decode bModel_known 38 = .ok (.ireturn, 1) := by decide +kernel
theorem dModel_lookUnary_0 : decode bModel_lookUnary 0 = .ok (.aload_n 0, 1) := by decide +kernel
theorem dModel_lookUnary_1 : decode bModel_lookUnary 1 = .ok (.getfield 17, 3) := by decide +kernel
theorem dModel_lookUnary_4 : decode bModel_lookUnary 4 = .ok (.iload_n 1, 1) := by decide +kernel
theorem dModel_lookUnary_5 : decode bModel_lookUnary 5 = .ok (.iaload, 1) := by decide +kernel
theorem dModel_lookUnary_6 : decode bModel_lookUnary 6 = .ok (.istore_n 3, 1) := by decide +kernel
theorem dModel_lookUnary_7 : decode bModel_lookUnary 7 = .ok (.aload_n 0, 1) := by decide +kernel
theorem dModel_lookUnary_8 : decode bModel_lookUnary 8 = .ok (.iload_n 1, 1) := by decide +kernel
theorem dModel_lookUnary_9 : decode bModel_lookUnary 9 = .ok (.aload_n 0, 1) := by decide +kernel
theorem dModel_lookUnary_10 : decode bModel_lookUnary 10 = .ok (.getfield 29, 3) := by decide +kernel
theorem dModel_lookUnary_13 : decode bModel_lookUnary 13 = .ok (.iload_n 2, 1) := by decide +kernel
theorem dModel_lookUnary_14 : decode bModel_lookUnary 14 = .ok (.iaload, 1) := by decide +kernel
theorem dModel_lookUnary_15 : decode bModel_lookUnary 15 = .ok (.aload_n 0, 1) := by decide +kernel
theorem dModel_lookUnary_16 : decode bModel_lookUnary 16 = .ok (.getfield 32, 3) := by decide +kernel
theorem dModel_lookUnary_19 : decode bModel_lookUnary 19 = .ok (.iload_n 2, 1) := by decide +kernel
theorem dModel_lookUnary_20 : decode bModel_lookUnary 20 = .ok (.iaload, 1) := by decide +kernel
theorem dModel_lookUnary_21 : decode bModel_lookUnary 21 = .ok (.aload_n 0, 1) := by decide +kernel
theorem dModel_lookUnary_22 : decode bModel_lookUnary 22 = .ok (.getfield 35, 3) := by decide +kernel
theorem dModel_lookUnary_25 : decode bModel_lookUnary 25 = .ok (.iload_n 2, 1) := by decide +kernel
theorem dModel_lookUnary_26 : decode bModel_lookUnary 26 = .ok (.baload, 1) := by decide +kernel
theorem dModel_lookUnary_27 : decode bModel_lookUnary 27 = .ok (.invokevirtual 147, 3) := by decide +kernel
theorem dModel_lookUnary_30 : decode bModel_lookUnary 30 = .ok (.iload_n 3, 1) := by decide +kernel
theorem dModel_lookUnary_31 : decode bModel_lookUnary 31 = .ok (.ifCond .le 66, 3) := by decide +kernel
theorem dModel_lookUnary_34 : decode bModel_lookUnary 34 = .ok (.aload_n 0, 1) := by decide +kernel
theorem dModel_lookUnary_35 : decode bModel_lookUnary 35 = .ok (.getfield 42, 3) := by decide +kernel
theorem dModel_lookUnary_38 : decode bModel_lookUnary 38 = .ok (.iload_n 1, 1) := by decide +kernel
theorem dModel_lookUnary_39 : decode bModel_lookUnary 39 = .ok (.iload_n 3, 1) := by decide +kernel
theorem dModel_lookUnary_40 : decode bModel_lookUnary 40 = .ok (.iconst 1, 1) := by decide +kernel
theorem dModel_lookUnary_41 : decode bModel_lookUnary 41 = .ok (.if_icmp .eq 19, 3) := by decide +kernel
theorem dModel_lookUnary_44 : decode bModel_lookUnary 44 = .ok (.iload_n 3, 1) := by decide +kernel
theorem dModel_lookUnary_45 : decode bModel_lookUnary 45 = .ok (.iconst 3, 1) := by decide +kernel
theorem dModel_lookUnary_46 : decode bModel_lookUnary 46 = .ok (.if_icmp .ne 24, 3) := by decide +kernel
theorem dModel_lookUnary_49 : decode bModel_lookUnary 49 = .ok (.aload_n 0, 1) := by decide +kernel
theorem dModel_lookUnary_50 : decode bModel_lookUnary 50 = .ok (.getfield 42, 3) := by decide +kernel
theorem dModel_lookUnary_53 : decode bModel_lookUnary 53 = .ok (.iload_n 2, 1) := by decide +kernel
theorem dModel_lookUnary_54 : decode bModel_lookUnary 54 = .ok (.laload, 1) := by decide +kernel
theorem dModel_lookUnary_55 : decode bModel_lookUnary 55 = .ok (.lconst 0, 1) := by decide +kernel
theorem dModel_lookUnary_56 : decode bModel_lookUnary 56 = .ok (.lcmp, 1) := by decide +kernel
theorem dModel_lookUnary_57 : decode bModel_lookUnary 57 = .ok (.ifCond .ge 13, 3) := by decide +kernel
theorem dModel_lookUnary_60 : decode bModel_lookUnary 60 = .ok (.aload_n 0, 1) := by decide +kernel
theorem dModel_lookUnary_61 : decode bModel_lookUnary 61 = .ok (.getfield 42, 3) := by decide +kernel
theorem dModel_lookUnary_64 : decode bModel_lookUnary 64 = .ok (.iload_n 2, 1) := by decide +kernel
theorem dModel_lookUnary_65 : decode bModel_lookUnary 65 = .ok (.laload, 1) := by decide +kernel
theorem dModel_lookUnary_66 : decode bModel_lookUnary 66 = .ok (.lneg, 1) := by decide +kernel
theorem dModel_lookUnary_67 : decode bModel_lookUnary 67 = .ok (.goto 9, 3) := by decide +kernel
theorem dModel_lookUnary_70 : decode bModel_lookUnary 70 = .ok (.aload_n 0, 1) := by decide +kernel
theorem dModel_lookUnary_71 : decode bModel_lookUnary 71 = .ok (.getfield 42, 3) := by decide +kernel
theorem dModel_lookUnary_74 : decode bModel_lookUnary 74 = .ok (.iload_n 2, 1) := by decide +kernel
theorem dModel_lookUnary_75 : decode bModel_lookUnary 75 = .ok (.laload, 1) := by decide +kernel
theorem dModel_lookUnary_76 : decode bModel_lookUnary 76 = .ok (.lastore, 1) := by decide +kernel
theorem dModel_lookUnary_77 : decode bModel_lookUnary 77 = .ok (.aload_n 0, 1) := by decide +kernel
theorem dModel_lookUnary_78 : decode bModel_lookUnary 78 = .ok (.getfield 29, 3) := by decide +kernel
theorem dModel_lookUnary_81 : decode bModel_lookUnary 81 = .ok (.iload_n 2, 1) := by decide +kernel
theorem dModel_lookUnary_82 : decode bModel_lookUnary 82 = .ok (.iaload, 1) := by decide +kernel
theorem dModel_lookUnary_83 : decode bModel_lookUnary 83 = .ok (.iconst 2, 1) := by decide +kernel
theorem dModel_lookUnary_84 : decode bModel_lookUnary 84 = .ok (.if_icmp .ne 11, 3) := by decide +kernel
theorem dModel_lookUnary_87 : decode bModel_lookUnary 87 = .ok (.aload_n 0, 1) := by decide +kernel
theorem dModel_lookUnary_88 : decode bModel_lookUnary 88 = .ok (.iload_n 1, 1) := by decide +kernel
theorem dModel_lookUnary_89 : decode bModel_lookUnary 89 = .ok (.invokevirtual 190, 3) := by decide +kernel
theorem dModel_lookUnary_92 : decode bModel_lookUnary 92 = .ok (.goto 4, 3) := by decide +kernel
theorem dModel_lookUnary_95 : decode bModel_lookUnary 95 = .ok (.iconst 3, 1) := by decide +kernel
theorem dModel_lookUnary_96 : decode bModel_lookUnary 96 = .ok (.ireturn, 1) := by decide +kernel
theorem dModel_lookUnary_97 : decode bModel_lookUnary 97 = .ok (.aload_n 0, 1) := by decide +kernel
theorem dModel_lookUnary_98 : decode bModel_lookUnary 98 = .ok (.getfield 29, 3) := by decide +kernel
theorem dModel_lookUnary_101 : decode bModel_lookUnary 101 = .ok (.iload_n 2, 1) := by decide +kernel
theorem dModel_lookUnary_102 : decode bModel_lookUnary 102 = .ok (.iaload, 1) := by decide +kernel
theorem dModel_lookUnary_103 : decode bModel_lookUnary 103 = .ok (.iconst 2, 1) := by decide +kernel
theorem dModel_lookUnary_104 : decode bModel_lookUnary 104 = .ok (.if_icmp .eq 13, 3) := by decide +kernel
theorem dModel_lookUnary_107 : decode bModel_lookUnary 107 = .ok (.aload_n 0, 1) := by decide +kernel
theorem dModel_lookUnary_108 : decode bModel_lookUnary 108 = .ok (.getfield 29, 3) := by decide +kernel
theorem dModel_lookUnary_111 : decode bModel_lookUnary 111 = .ok (.iload_n 2, 1) := by decide +kernel
theorem dModel_lookUnary_112 : decode bModel_lookUnary 112 = .ok (.iaload, 1) := by decide +kernel
theorem dModel_lookUnary_113 : decode bModel_lookUnary 113 = .ok (.iconst 4, 1) := by decide +kernel
theorem dModel_lookUnary_114 : decode bModel_lookUnary 114 = .ok (.if_icmp .ne 5, 3) := by decide +kernel
theorem dModel_lookUnary_117 : decode bModel_lookUnary 117 = .ok (.iconst 3, 1) := by decide +kernel
theorem dModel_lookUnary_118 : decode bModel_lookUnary 118 = .ok (.ireturn, 1) := by decide +kernel
theorem dModel_lookUnary_119 : decode bModel_lookUnary 119 = .ok (.aload_n 0, 1) := by decide +kernel
theorem dModel_lookUnary_120 : decode bModel_lookUnary 120 = .ok (.getfield 42, 3) := by decide +kernel
theorem dModel_lookUnary_123 : decode bModel_lookUnary 123 = .ok (.iload_n 1, 1) := by decide +kernel
theorem dModel_lookUnary_124 : decode bModel_lookUnary 124 = .ok (.aload_n 0, 1) := by decide +kernel
theorem dModel_lookUnary_125 : decode bModel_lookUnary 125 = .ok (.getfield 29, 3) := by decide +kernel
theorem dModel_lookUnary_128 : decode bModel_lookUnary 128 = .ok (.iload_n 2, 1) := by decide +kernel
theorem dModel_lookUnary_129 : decode bModel_lookUnary 129 = .ok (.iaload, 1) := by decide +kernel
theorem dModel_lookUnary_130 : decode bModel_lookUnary 130 = .ok (.iconst 1, 1) := by decide +kernel
theorem dModel_lookUnary_131 : decode bModel_lookUnary 131 = .ok (.if_icmp .ne 14, 3) := by decide +kernel
theorem dModel_lookUnary_134 : decode bModel_lookUnary 134 = .ok (.lconst 1, 1) := by decide +kernel
theorem dModel_lookUnary_135 : decode bModel_lookUnary 135 = .ok (.aload_n 0, 1) := by decide +kernel
theorem dModel_lookUnary_136 : decode bModel_lookUnary 136 = .ok (.getfield 42, 3) := by decide +kernel
theorem dModel_lookUnary_139 : decode bModel_lookUnary 139 = .ok (.iload_n 2, 1) := by decide +kernel
theorem dModel_lookUnary_140 : decode bModel_lookUnary 140 = .ok (.laload, 1) := by decide +kernel
theorem dModel_lookUnary_141 : decode bModel_lookUnary 141 = .ok (.lsub, 1) := by decide +kernel
theorem dModel_lookUnary_142 : decode bModel_lookUnary 142 = .ok (.goto 27, 3) := by decide +kernel
theorem dModel_lookUnary_145 : decode bModel_lookUnary 145 = .ok (.aload_n 0, 1) := by decide +kernel
theorem dModel_lookUnary_146 : decode bModel_lookUnary 146 = .ok (.getfield 29, 3) := by decide +kernel
theorem dModel_lookUnary_149 : decode bModel_lookUnary 149 = .ok (.iload_n 2, 1) := by decide +kernel
theorem dModel_lookUnary_150 : decode bModel_lookUnary 150 = .ok (.iaload, 1) := by decide +kernel
theorem dModel_lookUnary_151 : decode bModel_lookUnary 151 = .ok (.ifCond .ne 17, 3) := by decide +kernel
theorem dModel_lookUnary_154 : decode bModel_lookUnary 154 = .ok (.aload_n 0, 1) := by decide +kernel
theorem dModel_lookUnary_155 : decode bModel_lookUnary 155 = .ok (.getfield 42, 3) := by decide +kernel
theorem dModel_lookUnary_158 : decode bModel_lookUnary 158 = .ok (.iload_n 2, 1) := by decide +kernel
theorem dModel_lookUnary_159 : decode bModel_lookUnary 159 = .ok (.laload, 1) := by decide +kernel
theorem dModel_lookUnary_160 : decode bModel_lookUnary 160 = .ok (.l2i, 1) := by decide +kernel
theorem dModel_lookUnary_161 : decode bModel_lookUnary 161 = .ok (.invokestatic 187, 3) := by decide +kernel
theorem dModel_lookUnary_164 : decode bModel_lookUnary 164 = .ok (.i2l, 1) := by decide +kernel
theorem dModel_lookUnary_165 : decode bModel_lookUnary 165 = .ok (.goto 4, 3) := by decide +kernel
theorem dModel_lookUnary_168 : decode bModel_lookUnary 168 = .ok (.lconst 0, 1) := by decide +kernel
theorem dModel_lookUnary_169 : decode bModel_lookUnary 169 = .ok (.lastore, 1) := by decide +kernel
theorem dModel_lookUnary_170 : decode bModel_lookUnary 170 = .ok (.iconst 0, 1) := by decide +kernel
theorem dModel_lookUnary_171 : decode bModel_lookUnary 171 = .ok (.istore 4, 2) := by decide +kernel
theorem dModel_lookUnary_173 : decode bModel_lookUnary 173 = .ok (.iload 4, 2) := by decide +kernel
theorem dModel_lookUnary_175 : decode bModel_lookUnary 175 = .ok (.aload_n 0, 1) := by decide +kernel
theorem dModel_lookUnary_176 : decode bModel_lookUnary 176 = .ok (.getfield 32, 3) := by decide +kernel
theorem dModel_lookUnary_179 : decode bModel_lookUnary 179 = .ok (.iload_n 2, 1) := by decide +kernel
theorem dModel_lookUnary_180 : decode bModel_lookUnary 180 = .ok (.iaload, 1) := by decide +kernel
theorem dModel_lookUnary_181 : decode bModel_lookUnary 181 = .ok (.if_icmp .ge 36, 3) := by decide +kernel
theorem dModel_lookUnary_184 : decode bModel_lookUnary 184 = .ok (.aload_n 0, 1) := by decide +kernel
theorem dModel_lookUnary_185 : decode bModel_lookUnary 185 = .ok (.getfield 29, 3) := by decide +kernel
theorem dModel_lookUnary_188 : decode bModel_lookUnary 188 = .ok (.iload_n 2, 1) := by decide +kernel
theorem dModel_lookUnary_189 : decode bModel_lookUnary 189 = .ok (.iaload, 1) := by decide +kernel
theorem dModel_lookUnary_190 : decode bModel_lookUnary 190 = .ok (.iconst 3, 1) := by decide +kernel
theorem dModel_lookUnary_191 : decode bModel_lookUnary 191 = .ok (.if_icmp .ne 26, 3) := by decide +kernel
theorem dModel_lookUnary_194 : decode bModel_lookUnary 194 = .ok (.aload_n 0, 1) := by decide +kernel
theorem dModel_lookUnary_195 : decode bModel_lookUnary 195 = .ok (.iload_n 1, 1) := by decide +kernel
theorem dModel_lookUnary_196 : decode bModel_lookUnary 196 = .ok (.iload 4, 2) := by decide +kernel
theorem dModel_lookUnary_198 : decode bModel_lookUnary 198 = .ok (.aload_n 0, 1) := by decide +kernel
theorem dModel_lookUnary_199 : decode bModel_lookUnary 199 = .ok (.iload_n 2, 1) := by decide +kernel
theorem dModel_lookUnary_200 : decode bModel_lookUnary 200 = .ok (.iload 4, 2) := by decide +kernel
theorem dModel_lookUnary_202 : decode bModel_lookUnary 202 = .ok (.invokevirtual 131, 3) := by decide +kernel
theorem dModel_lookUnary_205 : decode bModel_lookUnary 205 = .ok (.invokestatic 187, 3) := by decide +kernel
theorem dModel_lookUnary_208 : decode bModel_lookUnary 208 = .ok (.invokevirtual 127, 3) := by decide +kernel
theorem dModel_lookUnary_211 : decode bModel_lookUnary 211 = .ok (.iinc 4 1, 3) := by decide +kernel
theorem dModel_lookUnary_214 : decode bModel_lookUnary 214 = .ok (.goto (-41), 3) := by decide +kernel
theorem dModel_lookUnary_217 : decode bModel_lookUnary 217 = .ok (.aload_n 0, 1) := by decide +kernel
theorem dModel_lookUnary_218 : decode bModel_lookUnary 218 = .ok (.iload_n 1, 1) := by decide +kernel
theorem dModel_lookUnary_219 : decode bModel_lookUnary 219 = .ok (.invokevirtual 190, 3) := by decide +kernel
theorem dModel_lookUnary_222 : decode bModel_lookUnary 222 = .ok (.ireturn, 1) := by decide +kernel
theorem dModel_lookBinary_0 : decode bModel_lookBinary 0 = .ok (.aload_n 0, 1) := by decide +kernel
theorem dModel_lookBinary_1 : decode bModel_lookBinary 1 = .ok (.getfield 17, 3) := by decide +kernel
theorem dModel_lookBinary_4 : decode bModel_lookBinary 4 = .ok (.iload_n 1, 1) := by decide +kernel
theorem dModel_lookBinary_5 : decode bModel_lookBinary 5 = .ok (.iaload, 1) := by decide +kernel
theorem dModel_lookBinary_6 : decode bModel_lookBinary 6 = .ok (.istore 4, 2) := by decide +kernel
theorem dModel_lookBinary_8 : decode bModel_lookBinary 8 = .ok (.iload 4, 2) := by decide +kernel
theorem dModel_lookBinary_10 : decode bModel_lookBinary 10 = .ok (.bipush 6, 2) := by decide +kernel
theorem dModel_lookBinary_12 : decode bModel_lookBinary 12 = .ok (.if_icmp .ge 13, 3) := by decide +kernel
theorem dModel_lookBinary_15 : decode bModel_lookBinary 15 = .ok (.aload_n 0, 1) := by decide +kernel
theorem dModel_lookBinary_16 : decode bModel_lookBinary 16 = .ok (.iload_n 1, 1) := by decide +kernel
theorem dModel_lookBinary_17 : decode bModel_lookBinary 17 = .ok (.iload 4, 2) := by decide +kernel
theorem dModel_lookBinary_19 : decode bModel_lookBinary 19 = .ok (.iload_n 2, 1) := by decide +kernel
theorem dModel_lookBinary_20 : decode bModel_lookBinary 20 = .ok (.iload_n 3, 1) := by decide +kernel
theorem dModel_lookBinary_21 : decode bModel_lookBinary 21 = .ok (.invokevirtual 193, 3) := by decide +kernel
theorem dModel_lookBinary_24 : decode bModel_lookBinary 24 = .ok (.ireturn, 1) := by decide +kernel
theorem dModel_lookBinary_25 : decode bModel_lookBinary 25 = .ok (.iload 4, 2) := by decide +kernel
theorem dModel_lookBinary_27 : decode bModel_lookBinary 27 = .ok (.bipush 12, 2) := by decide +kernel
theorem dModel_lookBinary_29 : decode bModel_lookBinary 29 = .ok (.if_icmp .ge 13, 3) := by decide +kernel
theorem dModel_lookBinary_32 : decode bModel_lookBinary 32 = .ok (.aload_n 0, 1) := by decide +kernel
theorem dModel_lookBinary_33 : decode bModel_lookBinary 33 = .ok (.iload_n 1, 1) := by decide +kernel
theorem dModel_lookBinary_34 : decode bModel_lookBinary 34 = .ok (.iload 4, 2) := by decide +kernel
theorem dModel_lookBinary_36 : decode bModel_lookBinary 36 = .ok (.iload_n 2, 1) := by decide +kernel
theorem dModel_lookBinary_37 : decode bModel_lookBinary 37 = .ok (.iload_n 3, 1) := by decide +kernel
theorem dModel_lookBinary_38 : decode bModel_lookBinary 38 = .ok (.invokevirtual 197, 3) := by decide +kernel
theorem dModel_lookBinary_41 : decode bModel_lookBinary 41 = .ok (.ireturn, 1) := by decide +kernel
theorem dModel_lookBinary_42 : decode bModel_lookBinary 42 = .ok (.iload 4, 2) := by decide +kernel
theorem dModel_lookBinary_44 : decode bModel_lookBinary 44 = .ok (.bipush 12, 2) := by decide +kernel
theorem dModel_lookBinary_46 : decode bModel_lookBinary 46 = .ok (.if_icmp .eq 10, 3) := by decide +kernel
theorem dModel_lookBinary_49 : decode bModel_lookBinary 49 = .ok (.iload 4, 2) := by decide +kernel
theorem dModel_lookBinary_51 : decode bModel_lookBinary 51 = .ok (.bipush 13, 2) := by decide +kernel
theorem dModel_lookBinary_53 : decode bModel_lookBinary 53 = .ok (.if_icmp .ne 23, 3) := by decide +kernel
theorem dModel_lookBinary_56 : decode bModel_lookBinary 56 = .ok (.aload_n 0, 1) := by decide +kernel
theorem dModel_lookBinary_57 : decode bModel_lookBinary 57 = .ok (.iload_n 1, 1) := by decide +kernel
theorem dModel_lookBinary_58 : decode bModel_lookBinary 58 = .ok (.iload 4, 2) := by decide +kernel
theorem dModel_lookBinary_60 : decode bModel_lookBinary 60 = .ok (.bipush 13, 2) := by decide +kernel
theorem dModel_lookBinary_62 : decode bModel_lookBinary 62 = .ok (.if_icmp .ne 7, 3) := by decide +kernel
theorem dModel_lookBinary_65 : decode bModel_lookBinary 65 = .ok (.iconst 1, 1) := by decide +kernel
theorem dModel_lookBinary_66 : decode bModel_lookBinary 66 = .ok (.goto 4, 3) := by decide +kernel
theorem dModel_lookBinary_69 : decode bModel_lookBinary 69 = .ok (.iconst 0, 1) := by decide +kernel
theorem dModel_lookBinary_70 : decode bModel_lookBinary 70 = .ok (.iload_n 2, 1) := by decide +kernel
theorem dModel_lookBinary_71 : decode bModel_lookBinary 71 = .ok (.iload_n 3, 1) := by decide +kernel
theorem dModel_lookBinary_72 : decode bModel_lookBinary 72 = .ok (.invokevirtual 200, 3) := by decide +kernel
theorem dModel_lookBinary_75 : decode bModel_lookBinary 75 = .ok (.ireturn, 1) := by decide +kernel
theorem dModel_lookBinary_76 : decode bModel_lookBinary 76 = .ok (.iload 4, 2) := by decide +kernel
theorem dModel_lookBinary_78 : decode bModel_lookBinary 78 = .ok (.bipush 14, 2) := by decide +kernel
theorem dModel_lookBinary_80 : decode bModel_lookBinary 80 = .ok (.if_icmp .ne 11, 3) := by decide +kernel
theorem dModel_lookBinary_83 : decode bModel_lookBinary 83 = .ok (.aload_n 0, 1) := by decide +kernel
theorem dModel_lookBinary_84 : decode bModel_lookBinary 84 = .ok (.iload_n 1, 1) := by decide +kernel
theorem dModel_lookBinary_85 : decode bModel_lookBinary 85 = .ok (.iload_n 2, 1) := by decide +kernel
theorem dModel_lookBinary_86 : decode bModel_lookBinary 86 = .ok (.iload_n 3, 1) := by decide +kernel
theorem dModel_lookBinary_87 : decode bModel_lookBinary 87 = .ok (.invokevirtual 204, 3) := by decide +kernel
theorem dModel_lookBinary_90 : decode bModel_lookBinary 90 = .ok (.ireturn, 1) := by decide +kernel
theorem dModel_lookBinary_91 : decode bModel_lookBinary 91 = .ok (.iload 4, 2) := by decide +kernel
theorem dModel_lookBinary_93 : decode bModel_lookBinary 93 = .ok (.bipush 19, 2) := by decide +kernel
theorem dModel_lookBinary_95 : decode bModel_lookBinary 95 = .ok (.if_icmp .ge 15, 3) := by decide +kernel
theorem dModel_lookBinary_98 : decode bModel_lookBinary 98 = .ok (.aload_n 0, 1) := by decide +kernel
theorem dModel_lookBinary_99 : decode bModel_lookBinary 99 = .ok (.iload_n 1, 1) := by decide +kernel
theorem dModel_lookBinary_100 : decode bModel_lookBinary 100 = .ok (.iload 4, 2) := by decide +kernel
theorem dModel_lookBinary_102 : decode bModel_lookBinary 102 = .ok (.iload_n 2, 1) := by decide +kernel
theorem dModel_lookBinary_103 : decode bModel_lookBinary 103 = .ok (.iload_n 3, 1) := by decide +kernel
theorem dModel_lookBinary_104 : decode bModel_lookBinary 104 = .ok (.invokevirtual 207, 3) := by decide +kernel
theorem dModel_lookBinary_107 : decode bModel_lookBinary 107 = .ok (.goto 22, 3) := by decide +kernel
theorem dModel_lookBinary_110 : decode bModel_lookBinary 110 = .ok (.aload_n 0, 1) := by decide +kernel
theorem dModel_lookBinary_111 : decode bModel_lookBinary 111 = .ok (.iload_n 1, 1) := by decide +kernel
theorem dModel_lookBinary_112 : decode bModel_lookBinary 112 = .ok (.iload 4, 2) := by decide +kernel
theorem dModel_lookBinary_114 : decode bModel_lookBinary 114 = .ok (.bipush 19, 2) := by decide +kernel
theorem dModel_lookBinary_116 : decode bModel_lookBinary 116 = .ok (.if_icmp .ne 7, 3) := by decide +kernel
theorem dModel_lookBinary_119 : decode bModel_lookBinary 119 = .ok (.iconst 1, 1) := by decide +kernel
theorem dModel_lookBinary_120 : decode bModel_lookBinary 120 = .ok (.goto 4, 3) := by decide +kernel
theorem dModel_lookBinary_123 : decode bModel_lookBinary 123 = .ok (.iconst 0, 1) := by decide +kernel
theorem dModel_lookBinary_124 : decode bModel_lookBinary 124 = .ok (.iload_n 2, 1) := by decide +kernel
theorem dModel_lookBinary_125 : decode bModel_lookBinary 125 = .ok (.iload_n 3, 1) := by decide +kernel
theorem dModel_lookBinary_126 : decode bModel_lookBinary 126 = .ok (.invokevirtual 210, 3) := by decide +kernel
theorem dModel_lookBinary_129 : decode bModel_lookBinary 129 = .ok (.ireturn, 1) := by decide +kernel
theorem dModel_lookLogic_0 : decode bModel_lookLogic 0 = .ok (.aload_n 0, 1) := by decide +kernel
theorem dModel_lookLogic_1 : decode bModel_lookLogic 1 = .ok (.getfield 29, 3) := by decide +kernel
theorem dModel_lookLogic_4 : decode bModel_lookLogic 4 = .ok (.iload_n 3, 1) := by decide +kernel
theorem dModel_lookLogic_5 : decode bModel_lookLogic 5 = .ok (.iaload, 1) := by decide +kernel
theorem dModel_lookLogic_6 : decode bModel_lookLogic 6 = .ok (.aload_n 0, 1) := by decide +kernel
theorem dModel_lookLogic_7 : decode bModel_lookLogic 7 = .ok (.getfield 29, 3) := by decide +kernel
theorem dModel_lookLogic_10 : decode bModel_lookLogic 10 = .ok (.iload 4, 2) := by decide +kernel
theorem dModel_lookLogic_12 : decode bModel_lookLogic 12 = .ok (.iaload, 1) := by decide +kernel
theorem dModel_lookLogic_13 : decode bModel_lookLogic 13 = .ok (.if_icmp .ne 23, 3) := by decide +kernel
theorem dModel_lookLogic_16 : decode bModel_lookLogic 16 = .ok (.aload_n 0, 1) := by decide +kernel
theorem dModel_lookLogic_17 : decode bModel_lookLogic 17 = .ok (.getfield 29, 3) := by decide +kernel
theorem dModel_lookLogic_20 : decode bModel_lookLogic 20 = .ok (.iload_n 3, 1) := by decide +kernel
theorem dModel_lookLogic_21 : decode bModel_lookLogic 21 = .ok (.iaload, 1) := by decide +kernel
theorem dModel_lookLogic_22 : decode bModel_lookLogic 22 = .ok (.iconst 2, 1) := by decide +kernel
theorem dModel_lookLogic_23 : decode bModel_lookLogic 23 = .ok (.if_icmp .eq 13, 3) := by decide +kernel
theorem dModel_lookLogic_26 : decode bModel_lookLogic 26 = .ok (.aload_n 0, 1) := by decide +kernel
theorem dModel_lookLogic_27 : decode bModel_lookLogic 27 = .ok (.getfield 29, 3) := by decide +kernel
theorem dModel_lookLogic_30 : decode bModel_lookLogic 30 = .ok (.iload_n 3, 1) := by decide +kernel
theorem dModel_lookLogic_31 : decode bModel_lookLogic 31 = .ok (.iaload, 1) := by decide +kernel
theorem dModel_lookLogic_32 : decode bModel_lookLogic 32 = .ok (.iconst 4, 1) := by decide +kernel
theorem dModel_lookLogic_33 : decode bModel_lookLogic 33 = .ok (.if_icmp .ne 5, 3) := by decide +kernel
theorem dModel_lookLogic_36 : decode bModel_lookLogic 36 = .ok (.iconst 3, 1) := by decide +kernel
theorem dModel_lookLogic_37 : decode bModel_lookLogic 37 = .ok (.ireturn, 1) := by decide +kernel
theorem dModel_lookLogic_38 : decode bModel_lookLogic 38 = .ok (.aload_n 0, 1) := by decide +kernel
theorem dModel_lookLogic_39 : decode bModel_lookLogic 39 = .ok (.getfield 32, 3) := by decide +kernel
theorem dModel_lookLogic_42 : decode bModel_lookLogic 42 = .ok (.iload_n 3, 1) := by decide +kernel
theorem dModel_lookLogic_43 : decode bModel_lookLogic 43 = .ok (.iaload, 1) := by decide +kernel
theorem dModel_lookLogic_44 : decode bModel_lookLogic 44 = .ok (.aload_n 0, 1) := by decide +kernel
theorem dModel_lookLogic_45 : decode bModel_lookLogic 45 = .ok (.getfield 32, 3) := by decide +kernel
theorem dModel_lookLogic_48 : decode bModel_lookLogic 48 = .ok (.iload 4, 2) := by decide +kernel
theorem dModel_lookLogic_50 : decode bModel_lookLogic 50 = .ok (.iaload, 1) := by decide +kernel
theorem dModel_lookLogic_51 : decode bModel_lookLogic 51 = .ok (.if_icmp .eq 5, 3) := by decide +kernel
theorem dModel_lookLogic_54 : decode bModel_lookLogic 54 = .ok (.iconst 4, 1) := by decide +kernel
theorem dModel_lookLogic_55 : decode bModel_lookLogic 55 = .ok (.ireturn, 1) := by decide +kernel
theorem dModel_lookLogic_56 : decode bModel_lookLogic 56 = .ok (.aload_n 0, 1) := by decide +kernel
theorem dModel_lookLogic_57 : decode bModel_lookLogic 57 = .ok (.iload_n 1, 1) := by decide +kernel
theorem dModel_lookLogic_58 : decode bModel_lookLogic 58 = .ok (.aload_n 0, 1) := by decide +kernel
theorem dModel_lookLogic_59 : decode bModel_lookLogic 59 = .ok (.getfield 29, 3) := by decide +kernel
theorem dModel_lookLogic_62 : decode bModel_lookLogic 62 = .ok (.iload_n 3, 1) := by decide +kernel
theorem dModel_lookLogic_63 : decode bModel_lookLogic 63 = .ok (.iaload, 1) := by decide +kernel
theorem dModel_lookLogic_64 : decode bModel_lookLogic 64 = .ok (.aload_n 0, 1) := by decide +kernel
theorem dModel_lookLogic_65 : decode bModel_lookLogic 65 = .ok (.getfield 32, 3) := by decide +kernel
theorem dModel_lookLogic_68 : decode bModel_lookLogic 68 = .ok (.iload_n 3, 1) := by decide +kernel
theorem dModel_lookLogic_69 : decode bModel_lookLogic 69 = .ok (.iaload, 1) := by decide +kernel
theorem dModel_lookLogic_70 : decode bModel_lookLogic 70 = .ok (.aload_n 0, 1) := by decide +kernel
theorem dModel_lookLogic_71 : decode bModel_lookLogic 71 = .ok (.getfield 35, 3) := by decide +kernel
theorem dModel_lookLogic_74 : decode bModel_lookLogic 74 = .ok (.iload_n 3, 1) := by decide +kernel
theorem dModel_lookLogic_75 : decode bModel_lookLogic 75 = .ok (.baload, 1) := by decide +kernel
theorem dModel_lookLogic_76 : decode bModel_lookLogic 76 = .ok (.ifCond .eq 17, 3) := by decide +kernel
theorem dModel_lookLogic_79 : decode bModel_lookLogic 79 = .ok (.aload_n 0, 1) := by decide +kernel
theorem dModel_lookLogic_80 : decode bModel_lookLogic 80 = .ok (.getfield 35, 3) := by decide +kernel
theorem dModel_lookLogic_83 : decode bModel_lookLogic 83 = .ok (.iload 4, 2) := by decide +kernel
theorem dModel_lookLogic_85 : decode bModel_lookLogic 85 = .ok (.baload, 1) := by decide +kernel
theorem dModel_lookLogic_86 : decode bModel_lookLogic 86 = .ok (.ifCond .eq 7, 3) := by decide +kernel
theorem dModel_lookLogic_89 : decode bModel_lookLogic 89 = .ok (.iconst 1, 1) := by decide +kernel
theorem dModel_lookLogic_90 : decode bModel_lookLogic 90 = .ok (.goto 4, 3) := by decide +kernel
theorem dModel_lookLogic_93 : decode bModel_lookLogic 93 = .ok (.iconst 0, 1) := by decide +kernel
theorem dModel_lookLogic_94 : decode bModel_lookLogic 94 = .ok (.invokevirtual 147, 3) := by decide +kernel
theorem dModel_lookLogic_97 : decode bModel_lookLogic 97 = .ok (.aload_n 0, 1) := by decide +kernel
theorem dModel_lookLogic_98 : decode bModel_lookLogic 98 = .ok (.getfield 29, 3) := by decide +kernel
theorem dModel_lookLogic_101 : decode bModel_lookLogic 101 = .ok (.iload_n 3, 1) := by decide +kernel
theorem dModel_lookLogic_102 : decode bModel_lookLogic 102 = .ok (.iaload, 1) := by decide +kernel
theorem dModel_lookLogic_103 : decode bModel_lookLogic 103 = .ok (.iconst 1, 1) := by decide +kernel
theorem dModel_lookLogic_104 : decode bModel_lookLogic 104 = .ok (.if_icmp .ne 57, 3) := by decide +kernel
theorem dModel_lookLogic_107 : decode bModel_lookLogic 107 = .ok (.aload_n 0, 1) := by decide +kernel
theorem dModel_lookLogic_108 : decode bModel_lookLogic 108 = .ok (.getfield 42, 3) := by decide +kernel
theorem dModel_lookLogic_111 : decode bModel_lookLogic 111 = .ok (.iload_n 1, 1) := by decide +kernel
theorem dModel_lookLogic_112 : decode bModel_lookLogic 112 = .ok (.iload_n 2, 1) := by decide +kernel
theorem dModel_lookLogic_113 : decode bModel_lookLogic 113 = .ok (.aload_n 0, 1) := by decide +kernel
theorem dModel_lookLogic_114 : decode bModel_lookLogic 114 = .ok (.getfield 42, 3) := by decide +kernel
theorem dModel_lookLogic_117 : decode bModel_lookLogic 117 = .ok (.iload_n 3, 1) := by decide +kernel
theorem dModel_lookLogic_118 : decode bModel_lookLogic 118 = .ok (.laload, 1) := by decide +kernel
theorem dModel_lookLogic_119 : decode bModel_lookLogic 119 = .ok (.lconst 1, 1) := by decide +kernel
theorem dModel_lookLogic_120 : decode bModel_lookLogic 120 = .ok (.lcmp, 1) := by decide +kernel
theorem dModel_lookLogic_121 : decode bModel_lookLogic 121 = .ok (.ifCond .ne 7, 3) := by decide +kernel
theorem dModel_lookLogic_124 : decode bModel_lookLogic 124 = .ok (.iconst 1, 1) := by decide +kernel
theorem dModel_lookLogic_125 : decode bModel_lookLogic 125 = .ok (.goto 4, 3) := by decide +kernel
theorem dModel_lookLogic_128 : decode bModel_lookLogic 128 = .ok (.iconst 0, 1) := by decide +kernel
theorem dModel_lookLogic_129 : decode bModel_lookLogic 129 = .ok (.aload_n 0, 1) := by decide +kernel
theorem dModel_lookLogic_130 : decode bModel_lookLogic 130 = .ok (.getfield 42, 3) := by decide +kernel
theorem dModel_lookLogic_133 : decode bModel_lookLogic 133 = .ok (.iload 4, 2) := by decide +kernel
theorem dModel_lookLogic_135 : decode bModel_lookLogic 135 = .ok (.laload, 1) := by decide +kernel
theorem dModel_lookLogic_136 : decode bModel_lookLogic 136 = .ok (.lconst 1, 1) := by decide +kernel
theorem dModel_lookLogic_137 : decode bModel_lookLogic 137 = .ok (.lcmp, 1) := by decide +kernel
theorem dModel_lookLogic_138 : decode bModel_lookLogic 138 = .ok (.ifCond .ne 7, 3) := by decide +kernel
theorem dModel_lookLogic_141 : decode bModel_lookLogic 141 = .ok (.iconst 1, 1) := by decide +kernel
theorem dModel_lookLogic_142 : decode bModel_lookLogic 142 = .ok (.goto 4, 3) := by decide +kernel
theorem dModel_lookLogic_145 : decode bModel_lookLogic 145 = .ok (.iconst 0, 1) := by decide +kernel
theorem dModel_lookLogic_146 : decode bModel_lookLogic 146 = .ok (.invokestatic 213, 3) := by decide +kernel
theorem dModel_lookLogic_149 : decode bModel_lookLogic 149 = .ok (.ifCond .eq 7, 3) := by decide +kernel
theorem dModel_lookLogic_152 : decode bModel_lookLogic 152 = .ok (.lconst 1, 1) := by decide +kernel
theorem dModel_lookLogic_153 : decode bModel_lookLogic 153 = .ok (.goto 4, 3) := by decide +kernel
theorem dModel_lookLogic_156 : decode bModel_lookLogic 156 = .ok (.lconst 0, 1) := by decide +kernel
theorem dModel_lookLogic_157 : decode bModel_lookLogic 157 = .ok (.lastore, 1) := by decide +kernel
theorem dModel_lookLogic_158 : decode bModel_lookLogic 158 = .ok (.goto 87, 3) := by decide +kernel
theorem dModel_lookLogic_161 : decode bModel_lookLogic 161 = .ok (.aload_n 0, 1) := by decide +kernel
theorem dModel_lookLogic_162 : decode bModel_lookLogic 162 = .ok (.getfield 29, 3) := by decide +kernel
theorem dModel_lookLogic_165 : decode bModel_lookLogic 165 = .ok (.iload_n 3, 1) := by decide +kernel
theorem dModel_lookLogic_166 : decode bModel_lookLogic 166 = .ok (.iaload, 1) := by decide +kernel
theorem dModel_lookLogic_167 : decode bModel_lookLogic 167 = .ok (.ifCond .ne 32, 3) := by decide +kernel
theorem dModel_lookLogic_170 : decode bModel_lookLogic 170 = .ok (.aload_n 0, 1) := by decide +kernel
theorem dModel_lookLogic_171 : decode bModel_lookLogic 171 = .ok (.getfield 42, 3) := by decide +kernel
theorem dModel_lookLogic_174 : decode bModel_lookLogic 174 = .ok (.iload_n 1, 1) := by decide +kernel
theorem dModel_lookLogic_175 : decode bModel_lookLogic 175 = .ok (.iload_n 2, 1) := by decide +kernel
theorem dModel_lookLogic_176 : decode bModel_lookLogic 176 = .ok (.aload_n 0, 1) := by decide +kernel
theorem dModel_lookLogic_177 : decode bModel_lookLogic 177 = .ok (.getfield 42, 3) := by decide +kernel
theorem dModel_lookLogic_180 : decode bModel_lookLogic 180 = .ok (.iload_n 3, 1) := by decide +kernel
theorem dModel_lookLogic_181 : decode bModel_lookLogic 181 = .ok (.laload, 1) := by decide +kernel
theorem dModel_lookLogic_182 : decode bModel_lookLogic 182 = .ok (.l2i, 1) := by decide +kernel
theorem dModel_lookLogic_183 : decode bModel_lookLogic 183 = .ok (.aload_n 0, 1) := by decide +kernel
theorem dModel_lookLogic_184 : decode bModel_lookLogic 184 = .ok (.getfield 42, 3) := by decide +kernel
theorem dModel_lookLogic_187 : decode bModel_lookLogic 187 = .ok (.iload 4, 2) := by decide +kernel
theorem dModel_lookLogic_189 : decode bModel_lookLogic 189 = .ok (.laload, 1) := by decide +kernel
theorem dModel_lookLogic_190 : decode bModel_lookLogic 190 = .ok (.l2i, 1) := by decide +kernel
theorem dModel_lookLogic_191 : decode bModel_lookLogic 191 = .ok (.invokestatic 217, 3) := by decide +kernel
theorem dModel_lookLogic_194 : decode bModel_lookLogic 194 = .ok (.i2l, 1) := by decide +kernel
theorem dModel_lookLogic_195 : decode bModel_lookLogic 195 = .ok (.lastore, 1) := by decide +kernel
theorem dModel_lookLogic_196 : decode bModel_lookLogic 196 = .ok (.goto 49, 3) := by decide +kernel
theorem dModel_lookLogic_199 : decode bModel_lookLogic 199 = .ok (.iconst 0, 1) := by decide +kernel
theorem dModel_lookLogic_200 : decode bModel_lookLogic 200 = .ok (.istore 5, 2) := by decide +kernel
theorem dModel_lookLogic_202 : decode bModel_lookLogic 202 = .ok (.iload 5, 2) := by decide +kernel
theorem dModel_lookLogic_204 : decode bModel_lookLogic 204 = .ok (.aload_n 0, 1) := by decide +kernel
theorem dModel_lookLogic_205 : decode bModel_lookLogic 205 = .ok (.getfield 32, 3) := by decide +kernel
theorem dModel_lookLogic_208 : decode bModel_lookLogic 208 = .ok (.iload_n 3, 1) := by decide +kernel
theorem dModel_lookLogic_209 : decode bModel_lookLogic 209 = .ok (.iaload, 1) := by decide +kernel
theorem dModel_lookLogic_210 : decode bModel_lookLogic 210 = .ok (.if_icmp .ge 35, 3) := by decide +kernel
theorem dModel_lookLogic_213 : decode bModel_lookLogic 213 = .ok (.aload_n 0, 1) := by decide +kernel
theorem dModel_lookLogic_214 : decode bModel_lookLogic 214 = .ok (.iload_n 1, 1) := by decide +kernel
theorem dModel_lookLogic_215 : decode bModel_lookLogic 215 = .ok (.iload 5, 2) := by decide +kernel
theorem dModel_lookLogic_217 : decode bModel_lookLogic 217 = .ok (.iload_n 2, 1) := by decide +kernel
theorem dModel_lookLogic_218 : decode bModel_lookLogic 218 = .ok (.aload_n 0, 1) := by decide +kernel
theorem dModel_lookLogic_219 : decode bModel_lookLogic 219 = .ok (.iload_n 3, 1) := by decide +kernel
theorem dModel_lookLogic_220 : decode bModel_lookLogic 220 = .ok (.iload 5, 2) := by decide +kernel
theorem dModel_lookLogic_222 : decode bModel_lookLogic 222 = .ok (.invokevirtual 131, 3) := by decide +kernel
theorem dModel_lookLogic_225 : decode bModel_lookLogic 225 = .ok (.aload_n 0, 1) := by decide +kernel
theorem dModel_lookLogic_226 : decode bModel_lookLogic 226 = .ok (.iload 4, 2) := by decide +kernel
theorem dModel_lookLogic_228 : decode bModel_lookLogic 228 = .ok (.iload 5, 2) := by decide +kernel
theorem dModel_lookLogic_230 : decode bModel_lookLogic 230 = .ok (.invokevirtual 131, 3) := by decide +kernel
theorem dModel_lookLogic_233 : decode bModel_lookLogic 233 = .ok (.invokestatic 217, 3) := by decide +kernel
theorem dModel_lookLogic_236 : decode bModel_lookLogic 236 = .ok (.invokevirtual 127, 3) := by decide +kernel
theorem dModel_lookLogic_239 : decode bModel_lookLogic 239 = .ok (.iinc 5 1, 3) := by decide +kernel
theorem dModel_lookLogic_242 : decode bModel_lookLogic 242 = .ok (.goto (-40), 3) := by decide +kernel
theorem dModel_lookLogic_245 : decode bModel_lookLogic 245 = .ok (.aload_n 0, 1) := by decide +kernel
theorem dModel_lookLogic_246 : decode bModel_lookLogic 246 = .ok (.iload_n 1, 1) := by decide +kernel
theorem dModel_lookLogic_247 : decode bModel_lookLogic 247 = .ok (.invokevirtual 190, 3) := by decide +kernel
theorem dModel_lookLogic_250 : decode bModel_lookLogic 250 = .ok (.ireturn, 1) := by decide +kernel
theorem dModel_lookOrder_0 : decode bModel_lookOrder 0 = .ok (.aload_n 0, 1) := by decide +kernel
theorem dModel_lookOrder_1 : decode bModel_lookOrder 1 = .ok (.getfield 29, 3) := by decide +kernel
theorem dModel_lookOrder_4 : decode bModel_lookOrder 4 = .ok (.iload_n 3, 1) := by decide +kernel
theorem dModel_lookOrder_5 : decode bModel_lookOrder 5 = .ok (.iaload, 1) := by decide +kernel
theorem dModel_lookOrder_6 : decode bModel_lookOrder 6 = .ok (.aload_n 0, 1) := by decide +kernel
theorem dModel_lookOrder_7 : decode bModel_lookOrder 7 = .ok (.getfield 29, 3) := by decide +kernel
theorem dModel_lookOrder_10 : decode bModel_lookOrder 10 = .ok (.iload 4, 2) := by decide +kernel
theorem dModel_lookOrder_12 : decode bModel_lookOrder 12 = .ok (.iaload, 1) := by decide +kernel
theorem dModel_lookOrder_13 : decode bModel_lookOrder 13 = .ok (.if_icmp .ne 54, 3) := by decide +kernel
theorem dModel_lookOrder_16 : decode bModel_lookOrder 16 = .ok (.aload_n 0, 1) := by decide +kernel
theorem dModel_lookOrder_17 : decode bModel_lookOrder 17 = .ok (.getfield 29, 3) := by decide +kernel
theorem dModel_lookOrder_20 : decode bModel_lookOrder 20 = .ok (.iload_n 3, 1) := by decide +kernel
theorem dModel_lookOrder_21 : decode bModel_lookOrder 21 = .ok (.iaload, 1) := by decide +kernel
theorem dModel_lookOrder_22 : decode bModel_lookOrder 22 = .ok (.iconst 4, 1) := by decide +kernel
theorem dModel_lookOrder_23 : decode bModel_lookOrder 23 = .ok (.if_icmp .ne 19, 3) := by decide +kernel
theorem dModel_lookOrder_26 : decode bModel_lookOrder 26 = .ok (.aload_n 0, 1) := by decide +kernel
theorem dModel_lookOrder_27 : decode bModel_lookOrder 27 = .ok (.getfield 32, 3) := by decide +kernel
theorem dModel_lookOrder_30 : decode bModel_lookOrder 30 = .ok (.iload_n 3, 1) := by decide +kernel
theorem dModel_lookOrder_31 : decode bModel_lookOrder 31 = .ok (.iaload, 1) := by decide +kernel
theorem dModel_lookOrder_32 : decode bModel_lookOrder 32 = .ok (.aload_n 0, 1) := by decide +kernel
theorem dModel_lookOrder_33 : decode bModel_lookOrder 33 = .ok (.getfield 32, 3) := by decide +kernel
theorem dModel_lookOrder_36 : decode bModel_lookOrder 36 = .ok (.iload 4, 2) := by decide +kernel
theorem dModel_lookOrder_38 : decode bModel_lookOrder 38 = .ok (.iaload, 1) := by decide +kernel
theorem dModel_lookOrder_39 : decode bModel_lookOrder 39 = .ok (.if_icmp .ne 28, 3) := by decide +kernel
theorem dModel_lookOrder_42 : decode bModel_lookOrder 42 = .ok (.iload_n 2, 1) := by decide +kernel
theorem dModel_lookOrder_43 : decode bModel_lookOrder 43 = .ok (.bipush 7, 2) := by decide +kernel
theorem dModel_lookOrder_45 : decode bModel_lookOrder 45 = .ok (.if_icmp .le 24, 3) := by decide +kernel
theorem dModel_lookOrder_48 : decode bModel_lookOrder 48 = .ok (.aload_n 0, 1) := by decide +kernel
theorem dModel_lookOrder_49 : decode bModel_lookOrder 49 = .ok (.getfield 29, 3) := by decide +kernel
theorem dModel_lookOrder_52 : decode bModel_lookOrder 52 = .ok (.iload_n 3, 1) := by decide +kernel
theorem dModel_lookOrder_53 : decode bModel_lookOrder 53 = .ok (.iaload, 1) := by decide +kernel
theorem dModel_lookOrder_54 : decode bModel_lookOrder 54 = .ok (.ifCond .eq 13, 3) := by decide +kernel
theorem dModel_lookOrder_57 : decode bModel_lookOrder 57 = .ok (.aload_n 0, 1) := by decide +kernel
theorem dModel_lookOrder_58 : decode bModel_lookOrder 58 = .ok (.getfield 29, 3) := by decide +kernel
theorem dModel_lookOrder_61 : decode bModel_lookOrder 61 = .ok (.iload_n 3, 1) := by decide +kernel
theorem dModel_lookOrder_62 : decode bModel_lookOrder 62 = .ok (.iaload, 1) := by decide +kernel
theorem dModel_lookOrder_63 : decode bModel_lookOrder 63 = .ok (.iconst 1, 1) := by decide +kernel
theorem dModel_lookOrder_64 : decode bModel_lookOrder 64 = .ok (.if_icmp .ne 5, 3) := by decide +kernel
theorem dModel_lookOrder_67 : decode bModel_lookOrder 67 = .ok (.iconst 3, 1) := by decide +kernel
theorem dModel_lookOrder_68 : decode bModel_lookOrder 68 = .ok (.ireturn, 1) := by decide +kernel
theorem dModel_lookOrder_69 : decode bModel_lookOrder 69 = .ok (.aload_n 0, 1) := by decide +kernel
theorem dModel_lookOrder_70 : decode bModel_lookOrder 70 = .ok (.getfield 32, 3) := by decide +kernel
theorem dModel_lookOrder_73 : decode bModel_lookOrder 73 = .ok (.iload_n 3, 1) := by decide +kernel
theorem dModel_lookOrder_74 : decode bModel_lookOrder 74 = .ok (.iaload, 1) := by decide +kernel
theorem dModel_lookOrder_75 : decode bModel_lookOrder 75 = .ok (.aload_n 0, 1) := by decide +kernel
theorem dModel_lookOrder_76 : decode bModel_lookOrder 76 = .ok (.getfield 32, 3) := by decide +kernel
theorem dModel_lookOrder_79 : decode bModel_lookOrder 79 = .ok (.iload 4, 2) := by decide +kernel
theorem dModel_lookOrder_81 : decode bModel_lookOrder 81 = .ok (.iaload, 1) := by decide +kernel
theorem dModel_lookOrder_82 : decode bModel_lookOrder 82 = .ok (.if_icmp .eq 5, 3) := by decide +kernel
theorem dModel_lookOrder_85 : decode bModel_lookOrder 85 = .ok (.iconst 4, 1) := by decide +kernel
theorem dModel_lookOrder_86 : decode bModel_lookOrder 86 = .ok (.ireturn, 1) := by decide +kernel
theorem dModel_lookOrder_87 : decode bModel_lookOrder 87 = .ok (.aload_n 0, 1) := by decide +kernel
theorem dModel_lookOrder_88 : decode bModel_lookOrder 88 = .ok (.getfield 29, 3) := by decide +kernel
theorem dModel_lookOrder_91 : decode bModel_lookOrder 91 = .ok (.iload_n 3, 1) := by decide +kernel
theorem dModel_lookOrder_92 : decode bModel_lookOrder 92 = .ok (.iaload, 1) := by decide +kernel
theorem dModel_lookOrder_93 : decode bModel_lookOrder 93 = .ok (.iconst 3, 1) := by decide +kernel
theorem dModel_lookOrder_94 : decode bModel_lookOrder 94 = .ok (.if_icmp .ne 7, 3) := by decide +kernel
theorem dModel_lookOrder_97 : decode bModel_lookOrder 97 = .ok (.iconst 1, 1) := by decide +kernel
theorem dModel_lookOrder_98 : decode bModel_lookOrder 98 = .ok (.goto 4, 3) := by decide +kernel
theorem dModel_lookOrder_101 : decode bModel_lookOrder 101 = .ok (.iconst 0, 1) := by decide +kernel
theorem dModel_lookOrder_102 : decode bModel_lookOrder 102 = .ok (.istore 5, 2) := by decide +kernel
theorem dModel_lookOrder_104 : decode bModel_lookOrder 104 = .ok (.aload_n 0, 1) := by decide +kernel
theorem dModel_lookOrder_105 : decode bModel_lookOrder 105 = .ok (.getfield 42, 3) := by decide +kernel
theorem dModel_lookOrder_108 : decode bModel_lookOrder 108 = .ok (.iload_n 3, 1) := by decide +kernel
theorem dModel_lookOrder_109 : decode bModel_lookOrder 109 = .ok (.laload, 1) := by decide +kernel
theorem dModel_lookOrder_110 : decode bModel_lookOrder 110 = .ok (.aload_n 0, 1) := by decide +kernel
theorem dModel_lookOrder_111 : decode bModel_lookOrder 111 = .ok (.getfield 42, 3) := by decide +kernel
theorem dModel_lookOrder_114 : decode bModel_lookOrder 114 = .ok (.iload 4, 2) := by decide +kernel
theorem dModel_lookOrder_116 : decode bModel_lookOrder 116 = .ok (.laload, 1) := by decide +kernel
theorem dModel_lookOrder_117 : decode bModel_lookOrder 117 = .ok (.lcmp, 1) := by decide +kernel
theorem dModel_lookOrder_118 : decode bModel_lookOrder 118 = .ok (.ifCond .ne 7, 3) := by decide +kernel
theorem dModel_lookOrder_121 : decode bModel_lookOrder 121 = .ok (.iconst 1, 1) := by decide +kernel
theorem dModel_lookOrder_122 : decode bModel_lookOrder 122 = .ok (.goto 4, 3) := by decide +kernel
theorem dModel_lookOrder_125 : decode bModel_lookOrder 125 = .ok (.iconst 0, 1) := by decide +kernel
theorem dModel_lookOrder_126 : decode bModel_lookOrder 126 = .ok (.istore 6, 2) := by decide +kernel
theorem dModel_lookOrder_128 : decode bModel_lookOrder 128 = .ok (.iconst 0, 1) := by decide +kernel
theorem dModel_lookOrder_129 : decode bModel_lookOrder 129 = .ok (.istore 7, 2) := by decide +kernel
theorem dModel_lookOrder_131 : decode bModel_lookOrder 131 = .ok (.iload 7, 2) := by decide +kernel
theorem dModel_lookOrder_133 : decode bModel_lookOrder 133 = .ok (.aload_n 0, 1) := by decide +kernel
theorem dModel_lookOrder_134 : decode bModel_lookOrder 134 = .ok (.getfield 32, 3) := by decide +kernel
theorem dModel_lookOrder_137 : decode bModel_lookOrder 137 = .ok (.iload_n 3, 1) := by decide +kernel
theorem dModel_lookOrder_138 : decode bModel_lookOrder 138 = .ok (.iaload, 1) := by decide +kernel
theorem dModel_lookOrder_139 : decode bModel_lookOrder 139 = .ok (.if_icmp .ge 44, 3) := by decide +kernel
theorem dModel_lookOrder_142 : decode bModel_lookOrder 142 = .ok (.iload 5, 2) := by decide +kernel
theorem dModel_lookOrder_144 : decode bModel_lookOrder 144 = .ok (.ifCond .eq 39, 3) := by decide +kernel
theorem dModel_lookOrder_147 : decode bModel_lookOrder 147 = .ok (.iload 6, 2) := by decide +kernel
theorem dModel_lookOrder_149 : decode bModel_lookOrder 149 = .ok (.ifCond .eq 25, 3) := by decide +kernel
theorem dModel_lookOrder_152 : decode bModel_lookOrder 152 = .ok (.aload_n 0, 1) := by decide +kernel
theorem dModel_lookOrder_153 : decode bModel_lookOrder 153 = .ok (.iload_n 3, 1) := by decide +kernel
theorem dModel_lookOrder_154 : decode bModel_lookOrder 154 = .ok (.iload 7, 2) := by decide +kernel
theorem dModel_lookOrder_156 : decode bModel_lookOrder 156 = .ok (.invokevirtual 131, 3) := by decide +kernel
theorem dModel_lookOrder_159 : decode bModel_lookOrder 159 = .ok (.aload_n 0, 1) := by decide +kernel
theorem dModel_lookOrder_160 : decode bModel_lookOrder 160 = .ok (.iload 4, 2) := by decide +kernel
theorem dModel_lookOrder_162 : decode bModel_lookOrder 162 = .ok (.iload 7, 2) := by decide +kernel
theorem dModel_lookOrder_164 : decode bModel_lookOrder 164 = .ok (.invokevirtual 131, 3) := by decide +kernel
theorem dModel_lookOrder_167 : decode bModel_lookOrder 167 = .ok (.if_icmp .ne 7, 3) := by decide +kernel
theorem dModel_lookOrder_170 : decode bModel_lookOrder 170 = .ok (.iconst 1, 1) := by decide +kernel
theorem dModel_lookOrder_171 : decode bModel_lookOrder 171 = .ok (.goto 4, 3) := by decide +kernel
theorem dModel_lookOrder_174 : decode bModel_lookOrder 174 = .ok (.iconst 0, 1) := by decide +kernel
theorem dModel_lookOrder_175 : decode bModel_lookOrder 175 = .ok (.istore 6, 2) := by decide +kernel
theorem dModel_lookOrder_177 : decode bModel_lookOrder 177 = .ok (.iinc 7 1, 3) := by decide +kernel
theorem dModel_lookOrder_180 : decode bModel_lookOrder 180 = .ok (.goto (-49), 3) := by decide +kernel
theorem dModel_lookOrder_183 : decode bModel_lookOrder 183 = .ok (.aload_n 0, 1) := by decide +kernel
theorem dModel_lookOrder_184 : decode bModel_lookOrder 184 = .ok (.iload_n 1, 1) := by decide +kernel
theorem dModel_lookOrder_185 : decode bModel_lookOrder 185 = .ok (.iconst 1, 1) := by decide +kernel
theorem dModel_lookOrder_186 : decode bModel_lookOrder 186 = .ok (.iconst 0, 1) := by decide +kernel
theorem dModel_lookOrder_187 : decode bModel_lookOrder 187 = .ok (.aload_n 0, 1) := by decide +kernel
theorem dModel_lookOrder_188 : decode bModel_lookOrder 188 = .ok (.getfield 35, 3) := by decide +kernel
theorem dModel_lookOrder_191 : decode bModel_lookOrder 191 = .ok (.iload_n 3, 1) := by decide +kernel
theorem dModel_lookOrder_192 : decode bModel_lookOrder 192 = .ok (.baload, 1) := by decide +kernel
theorem dModel_lookOrder_193 : decode bModel_lookOrder 193 = .ok (.ifCond .eq 17, 3) := by decide +kernel
theorem dModel_lookOrder_196 : decode bModel_lookOrder 196 = .ok (.aload_n 0, 1) := by decide +kernel
theorem dModel_lookOrder_197 : decode bModel_lookOrder 197 = .ok (.getfield 35, 3) := by decide +kernel
theorem dModel_lookOrder_200 : decode bModel_lookOrder 200 = .ok (.iload 4, 2) := by decide +kernel
theorem dModel_lookOrder_202 : decode bModel_lookOrder 202 = .ok (.baload, 1) := by decide +kernel
theorem dModel_lookOrder_203 : decode bModel_lookOrder 203 = .ok (.ifCond .eq 7, 3) := by decide +kernel
theorem dModel_lookOrder_206 : decode bModel_lookOrder 206 = .ok (.iconst 1, 1) := by decide +kernel
theorem dModel_lookOrder_207 : decode bModel_lookOrder 207 = .ok (.goto 4, 3) := by decide +kernel
theorem dModel_lookOrder_210 : decode bModel_lookOrder 210 = .ok (.iconst 0, 1) := by decide +kernel
theorem dModel_lookOrder_211 : decode bModel_lookOrder 211 = .ok (.invokevirtual 147, 3) := by decide +kernel
theorem dModel_lookOrder_214 : decode bModel_lookOrder 214 = .ok (.iload_n 2, 1) := by decide +kernel
theorem dModel_lookOrder_215 : decode bModel_lookOrder 215 = .ok (.bipush 6, 2) := by decide +kernel
theorem dModel_lookOrder_217 : decode bModel_lookOrder 217 = .ok (.if_icmp .ne 8, 3) := by decide +kernel
theorem dModel_lookOrder_220 : decode bModel_lookOrder 220 = .ok (.iload 6, 2) := by decide +kernel
theorem dModel_lookOrder_222 : decode bModel_lookOrder 222 = .ok (.goto 13, 3) := by decide +kernel
theorem dModel_lookOrder_225 : decode bModel_lookOrder 225 = .ok (.iload 6, 2) := by decide +kernel
theorem dModel_lookOrder_227 : decode bModel_lookOrder 227 = .ok (.ifCond .ne 7, 3) := by decide +kernel
theorem dModel_lookOrder_230 : decode bModel_lookOrder 230 = .ok (.iconst 1, 1) := by decide +kernel
theorem dModel_lookOrder_231 : decode bModel_lookOrder 231 = .ok (.goto 4, 3) := by decide +kernel
theorem dModel_lookOrder_234 : decode bModel_lookOrder 234 = .ok (.iconst 0, 1) := by decide +kernel
theorem dModel_lookOrder_235 : decode bModel_lookOrder 235 = .ok (.istore 7, 2) := by decide +kernel
theorem dModel_lookOrder_237 : decode bModel_lookOrder 237 = .ok (.iload_n 2, 1) := by decide +kernel
theorem dModel_lookOrder_238 : decode bModel_lookOrder 238 = .ok (.bipush 7, 2) := by decide +kernel
theorem dModel_lookOrder_240 : decode bModel_lookOrder 240 = .ok (.if_icmp .le 213, 3) := by decide +kernel
theorem dModel_lookOrder_243 : decode bModel_lookOrder 243 = .ok (.aload_n 0, 1) := by decide +kernel
theorem dModel_lookOrder_244 : decode bModel_lookOrder 244 = .ok (.getfield 42, 3) := by decide +kernel
theorem dModel_lookOrder_247 : decode bModel_lookOrder 247 = .ok (.iload_n 3, 1) := by decide +kernel
theorem dModel_lookOrder_248 : decode bModel_lookOrder 248 = .ok (.laload, 1) := by decide +kernel
theorem dModel_lookOrder_249 : decode bModel_lookOrder 249 = .ok (.aload_n 0, 1) := by decide +kernel
theorem dModel_lookOrder_250 : decode bModel_lookOrder 250 = .ok (.getfield 42, 3) := by decide +kernel
theorem dModel_lookOrder_253 : decode bModel_lookOrder 253 = .ok (.iload 4, 2) := by decide +kernel
theorem dModel_lookOrder_255 : decode bModel_lookOrder 255 = .ok (.laload, 1) := by decide +kernel
theorem dModel_lookOrder_256 : decode bModel_lookOrder 256 = .ok (.lcmp, 1) := by decide +kernel
theorem dModel_lookOrder_257 : decode bModel_lookOrder 257 = .ok (.ifCond .ge 7, 3) := by decide +kernel
theorem dModel_lookOrder_260 : decode bModel_lookOrder 260 = .ok (.iconst (-1), 1) := by decide +kernel
theorem dModel_lookOrder_261 : decode bModel_lookOrder 261 = .ok (.goto 25, 3) := by decide +kernel
theorem dModel_lookOrder_264 : decode bModel_lookOrder 264 = .ok (.aload_n 0, 1) := by decide +kernel
theorem dModel_lookOrder_265 : decode bModel_lookOrder 265 = .ok (.getfield 42, 3) := by decide +kernel
theorem dModel_lookOrder_268 : decode bModel_lookOrder 268 = .ok (.iload_n 3, 1) := by decide +kernel
theorem dModel_lookOrder_269 : decode bModel_lookOrder 269 = .ok (.laload, 1) := by decide +kernel
theorem dModel_lookOrder_270 : decode bModel_lookOrder 270 = .ok (.aload_n 0, 1) := by decide +kernel
theorem dModel_lookOrder_271 : decode bModel_lookOrder 271 = .ok (.getfield 42, 3) := by decide +kernel
theorem dModel_lookOrder_274 : decode bModel_lookOrder 274 = .ok (.iload 4, 2) := by decide +kernel
theorem dModel_lookOrder_276 : decode bModel_lookOrder 276 = .ok (.laload, 1) := by decide +kernel
theorem dModel_lookOrder_277 : decode bModel_lookOrder 277 = .ok (.lcmp, 1) := by decide +kernel
theorem dModel_lookOrder_278 : decode bModel_lookOrder 278 = .ok (.ifCond .le 7, 3) := by decide +kernel
theorem dModel_lookOrder_281 : decode bModel_lookOrder 281 = .ok (.iconst 1, 1) := by decide +kernel
theorem dModel_lookOrder_282 : decode bModel_lookOrder 282 = .ok (.goto 4, 3) := by decide +kernel
theorem dModel_lookOrder_285 : decode bModel_lookOrder 285 = .ok (.iconst 0, 1) := by decide +kernel
theorem dModel_lookOrder_286 : decode bModel_lookOrder 286 = .ok (.istore 8, 2) := by decide +kernel
theorem dModel_lookOrder_288 : decode bModel_lookOrder 288 = .ok (.iconst 0, 1) := by decide +kernel
theorem dModel_lookOrder_289 : decode bModel_lookOrder 289 = .ok (.istore 9, 2) := by decide +kernel
theorem dModel_lookOrder_291 : decode bModel_lookOrder 291 = .ok (.iload 9, 2) := by decide +kernel
theorem dModel_lookOrder_293 : decode bModel_lookOrder 293 = .ok (.aload_n 0, 1) := by decide +kernel
theorem dModel_lookOrder_294 : decode bModel_lookOrder 294 = .ok (.getfield 32, 3) := by decide +kernel
theorem dModel_lookOrder_297 : decode bModel_lookOrder 297 = .ok (.iload_n 3, 1) := by decide +kernel
theorem dModel_lookOrder_298 : decode bModel_lookOrder 298 = .ok (.iaload, 1) := by decide +kernel
theorem dModel_lookOrder_299 : decode bModel_lookOrder 299 = .ok (.if_icmp .ge 64, 3) := by decide +kernel
theorem dModel_lookOrder_302 : decode bModel_lookOrder 302 = .ok (.iload 5, 2) := by decide +kernel
theorem dModel_lookOrder_304 : decode bModel_lookOrder 304 = .ok (.ifCond .eq 59, 3) := by decide +kernel
theorem dModel_lookOrder_307 : decode bModel_lookOrder 307 = .ok (.aload_n 0, 1) := by decide +kernel
theorem dModel_lookOrder_308 : decode bModel_lookOrder 308 = .ok (.iload_n 3, 1) := by decide +kernel
theorem dModel_lookOrder_309 : decode bModel_lookOrder 309 = .ok (.iload 9, 2) := by decide +kernel
theorem dModel_lookOrder_311 : decode bModel_lookOrder 311 = .ok (.invokevirtual 131, 3) := by decide +kernel
theorem dModel_lookOrder_314 : decode bModel_lookOrder 314 = .ok (.invokestatic 138, 3) := by decide +kernel
theorem dModel_lookOrder_317 : decode bModel_lookOrder 317 = .ok (.aload_n 0, 1) := by decide +kernel
theorem dModel_lookOrder_318 : decode bModel_lookOrder 318 = .ok (.iload 4, 2) := by decide +kernel
theorem dModel_lookOrder_320 : decode bModel_lookOrder 320 = .ok (.iload 9, 2) := by decide +kernel
theorem dModel_lookOrder_322 : decode bModel_lookOrder 322 = .ok (.invokevirtual 131, 3) := by decide +kernel
theorem dModel_lookOrder_325 : decode bModel_lookOrder 325 = .ok (.invokestatic 138, 3) := by decide +kernel
theorem dModel_lookOrder_328 : decode bModel_lookOrder 328 = .ok (.if_icmp .ne 8, 3) := by decide +kernel
theorem dModel_lookOrder_331 : decode bModel_lookOrder 331 = .ok (.iload 8, 2) := by decide +kernel
theorem dModel_lookOrder_333 : decode bModel_lookOrder 333 = .ok (.goto 22, 3) := by decide +kernel
theorem dModel_lookOrder_336 : decode bModel_lookOrder 336 = .ok (.aload_n 0, 1) := by decide +kernel
theorem dModel_lookOrder_337 : decode bModel_lookOrder 337 = .ok (.iload 4, 2) := by decide +kernel
theorem dModel_lookOrder_339 : decode bModel_lookOrder 339 = .ok (.iload 9, 2) := by decide +kernel
theorem dModel_lookOrder_341 : decode bModel_lookOrder 341 = .ok (.invokevirtual 131, 3) := by decide +kernel
theorem dModel_lookOrder_344 : decode bModel_lookOrder 344 = .ok (.invokestatic 138, 3) := by decide +kernel
theorem dModel_lookOrder_347 : decode bModel_lookOrder 347 = .ok (.ifCond .eq 7, 3) := by decide +kernel
theorem dModel_lookOrder_350 : decode bModel_lookOrder 350 = .ok (.iconst (-1), 1) := by decide +kernel
theorem dModel_lookOrder_351 : decode bModel_lookOrder 351 = .ok (.goto 4, 3) := by decide +kernel
theorem dModel_lookOrder_354 : decode bModel_lookOrder 354 = .ok (.iconst 1, 1) := by decide +kernel
theorem dModel_lookOrder_355 : decode bModel_lookOrder 355 = .ok (.istore 8, 2) := by decide +kernel
theorem dModel_lookOrder_357 : decode bModel_lookOrder 357 = .ok (.iinc 9 1, 3) := by decide +kernel
theorem dModel_lookOrder_360 : decode bModel_lookOrder 360 = .ok (.goto (-69), 3) := by decide +kernel
theorem dModel_lookOrder_363 : decode bModel_lookOrder 363 = .ok (.iload 5, 2) := by decide +kernel
theorem dModel_lookOrder_365 : decode bModel_lookOrder 365 = .ok (.ifCond .eq 20, 3) := by decide +kernel
theorem dModel_lookOrder_368 : decode bModel_lookOrder 368 = .ok (.aload_n 0, 1) := by decide +kernel
theorem dModel_lookOrder_369 : decode bModel_lookOrder 369 = .ok (.iload_n 3, 1) := by decide +kernel
theorem dModel_lookOrder_370 : decode bModel_lookOrder 370 = .ok (.invokevirtual 220, 3) := by decide +kernel
theorem dModel_lookOrder_373 : decode bModel_lookOrder 373 = .ok (.ifCond .eq 16, 3) := by decide +kernel
theorem dModel_lookOrder_376 : decode bModel_lookOrder 376 = .ok (.aload_n 0, 1) := by decide +kernel
theorem dModel_lookOrder_377 : decode bModel_lookOrder 377 = .ok (.iload 4, 2) := by decide +kernel
theorem dModel_lookOrder_379 : decode bModel_lookOrder 379 = .ok (.invokevirtual 220, 3) := by decide +kernel
theorem dModel_lookOrder_382 : decode bModel_lookOrder 382 = .ok (.ifCond .eq 7, 3) := by decide +kernel
theorem dModel_lookOrder_385 : decode bModel_lookOrder 385 = .ok (.iconst 1, 1) := by decide +kernel
theorem dModel_lookOrder_386 : decode bModel_lookOrder 386 = .ok (.goto 4, 3) := by decide +kernel
theorem dModel_lookOrder_389 : decode bModel_lookOrder 389 = .ok (.iconst 0, 1) := by decide +kernel
theorem dModel_lookOrder_390 : decode bModel_lookOrder 390 = .ok (.istore 9, 2) := by decide +kernel
theorem dModel_lookOrder_392 : decode bModel_lookOrder 392 = .ok (.iload 9, 2) := by decide +kernel
theorem dModel_lookOrder_394 : decode bModel_lookOrder 394 = .ok (.ifCond .eq 56, 3) := by decide +kernel
theorem dModel_lookOrder_397 : decode bModel_lookOrder 397 = .ok (.iload_n 2, 1) := by decide +kernel
theorem dModel_lookOrder_398 : decode bModel_lookOrder 398 = .ok (.bipush 8, 2) := by decide +kernel
theorem dModel_lookOrder_400 : decode bModel_lookOrder 400 = .ok (.if_icmp .ne 11, 3) := by decide +kernel
theorem dModel_lookOrder_403 : decode bModel_lookOrder 403 = .ok (.iload 8, 2) := by decide +kernel
theorem dModel_lookOrder_405 : decode bModel_lookOrder 405 = .ok (.ifCond .ge 45, 3) := by decide +kernel
theorem dModel_lookOrder_408 : decode bModel_lookOrder 408 = .ok (.goto 38, 3) := by decide +kernel
theorem dModel_lookOrder_411 : decode bModel_lookOrder 411 = .ok (.iload_n 2, 1) := by decide +kernel
theorem dModel_lookOrder_412 : decode bModel_lookOrder 412 = .ok (.bipush 9, 2) := by decide +kernel
theorem dModel_lookOrder_414 : decode bModel_lookOrder 414 = .ok (.if_icmp .ne 12, 3) := by decide +kernel
theorem dModel_lookOrder_417 : decode bModel_lookOrder 417 = .ok (.iload 8, 2) := by decide +kernel
theorem dModel_lookOrder_419 : decode bModel_lookOrder 419 = .ok (.iconst 1, 1) := by decide +kernel
theorem dModel_lookOrder_420 : decode bModel_lookOrder 420 = .ok (.if_icmp .ge 30, 3) := by decide +kernel
theorem dModel_lookOrder_423 : decode bModel_lookOrder 423 = .ok (.goto 23, 3) := by decide +kernel
theorem dModel_lookOrder_426 : decode bModel_lookOrder 426 = .ok (.iload_n 2, 1) := by decide +kernel
theorem dModel_lookOrder_427 : decode bModel_lookOrder 427 = .ok (.bipush 10, 2) := by decide +kernel
theorem dModel_lookOrder_429 : decode bModel_lookOrder 429 = .ok (.if_icmp .ne 11, 3) := by decide +kernel
theorem dModel_lookOrder_432 : decode bModel_lookOrder 432 = .ok (.iload 8, 2) := by decide +kernel
theorem dModel_lookOrder_434 : decode bModel_lookOrder 434 = .ok (.ifCond .le 16, 3) := by decide +kernel
theorem dModel_lookOrder_437 : decode bModel_lookOrder 437 = .ok (.goto 9, 3) := by decide +kernel
theorem dModel_lookOrder_440 : decode bModel_lookOrder 440 = .ok (.iload 8, 2) := by decide +kernel
theorem dModel_lookOrder_442 : decode bModel_lookOrder 442 = .ok (.iconst (-1), 1) := by decide +kernel
theorem dModel_lookOrder_443 : decode bModel_lookOrder 443 = .ok (.if_icmp .le 7, 3) := by decide +kernel
theorem dModel_lookOrder_446 : decode bModel_lookOrder 446 = .ok (.iconst 1, 1) := by decide +kernel
theorem dModel_lookOrder_447 : decode bModel_lookOrder 447 = .ok (.goto 4, 3) := by decide +kernel
theorem dModel_lookOrder_450 : decode bModel_lookOrder 450 = .ok (.iconst 0, 1) := by decide +kernel
theorem dModel_lookOrder_451 : decode bModel_lookOrder 451 = .ok (.istore 7, 2) := by decide +kernel
theorem dModel_lookOrder_453 : decode bModel_lookOrder 453 = .ok (.aload_n 0, 1) := by decide +kernel
theorem dModel_lookOrder_454 : decode bModel_lookOrder 454 = .ok (.getfield 42, 3) := by decide +kernel
theorem dModel_lookOrder_457 : decode bModel_lookOrder 457 = .ok (.iload_n 1, 1) := by decide +kernel
theorem dModel_lookOrder_458 : decode bModel_lookOrder 458 = .ok (.iload 7, 2) := by decide +kernel
theorem dModel_lookOrder_460 : decode bModel_lookOrder 460 = .ok (.ifCond .eq 7, 3) := by decide +kernel
theorem dModel_lookOrder_463 : decode bModel_lookOrder 463 = .ok (.lconst 1, 1) := by decide +kernel
theorem dModel_lookOrder_464 : decode bModel_lookOrder 464 = .ok (.goto 4, 3) := by decide +kernel
theorem dModel_lookOrder_467 : decode bModel_lookOrder 467 = .ok (.lconst 0, 1) := by decide +kernel
theorem dModel_lookOrder_468 : decode bModel_lookOrder 468 = .ok (.lastore, 1) := by decide +kernel
theorem dModel_lookOrder_469 : decode bModel_lookOrder 469 = .ok (.aload_n 0, 1) := by decide +kernel
theorem dModel_lookOrder_470 : decode bModel_lookOrder 470 = .ok (.iload_n 1, 1) := by decide +kernel
theorem dModel_lookOrder_471 : decode bModel_lookOrder 471 = .ok (.invokevirtual 190, 3) := by decide +kernel
theorem dModel_lookOrder_474 : decode bModel_lookOrder 474 = .ok (.ireturn, 1) := by decide +kernel
theorem dModel_integer_0 : decode bModel_integer 0 = .ok (.aload_n 0, 1) := by decide +kernel
theorem dModel_integer_1 : decode bModel_integer 1 = .ok (.iload_n 1, 1) := by decide +kernel
theorem dModel_integer_2 : decode bModel_integer 2 = .ok (.iconst 2, 1) := by decide +kernel
theorem dModel_integer_3 : decode bModel_integer 3 = .ok (.iconst 0, 1) := by decide +kernel
theorem dModel_integer_4 : decode bModel_integer 4 = .ok (.iload_n 2, 1) := by decide +kernel
theorem dModel_integer_5 : decode bModel_integer 5 = .ok (.invokevirtual 147, 3) := by decide +kernel
theorem dModel_integer_8 : decode bModel_integer 8 = .ok (.iload_n 2, 1) := by decide +kernel
theorem dModel_integer_9 : decode bModel_integer 9 = .ok (.ifCond .eq 22, 3) := by decide +kernel
theorem dModel_integer_12 : decode bModel_integer 12 = .ok (.lload_n 3, 1) := by decide +kernel
theorem dModel_integer_13 : decode bModel_integer 13 = .ok (.ldc2_w 223, 3) := by decide +kernel
theorem dModel_integer_16 : decode bModel_integer 16 = .ok (.lcmp, 1) := by decide +kernel
theorem dModel_integer_17 : decode bModel_integer 17 = .ok (.ifCond .gt 11, 3) := by decide +kernel
theorem dModel_integer_20 : decode bModel_integer 20 = .ok (.lload_n 3, 1) := by decide +kernel
theorem dModel_integer_21 : decode bModel_integer 21 = .ok (.ldc2_w 225, 3) := by decide +kernel
theorem dModel_integer_24 : decode bModel_integer 24 = .ok (.lcmp, 1) := by decide +kernel
theorem dModel_integer_25 : decode bModel_integer 25 = .ok (.ifCond .ge 6, 3) := by decide +kernel
theorem dModel_integer_28 : decode bModel_integer 28 = .ok (.bipush 9, 2) := by decide +kernel
theorem dModel_integer_30 : decode bModel_integer 30 = .ok (.ireturn, 1) := by decide +kernel
theorem dModel_integer_31 : decode bModel_integer 31 = .ok (.aload_n 0, 1) := by decide +kernel
theorem dModel_integer_32 : decode bModel_integer 32 = .ok (.getfield 42, 3) := by decide +kernel
theorem dModel_integer_35 : decode bModel_integer 35 = .ok (.iload_n 1, 1) := by decide +kernel
theorem dModel_integer_36 : decode bModel_integer 36 = .ok (.iload_n 2, 1) := by decide +kernel
theorem dModel_integer_37 : decode bModel_integer 37 = .ok (.ifCond .eq 7, 3) := by decide +kernel
theorem dModel_integer_40 : decode bModel_integer 40 = .ok (.lload_n 3, 1) := by decide +kernel
theorem dModel_integer_41 : decode bModel_integer 41 = .ok (.goto 4, 3) := by decide +kernel
theorem dModel_integer_44 : decode bModel_integer 44 = .ok (.lconst 0, 1) := by decide +kernel
theorem dModel_integer_45 : decode bModel_integer 45 = .ok (.lastore, 1) := by decide +kernel
theorem dModel_integer_46 : decode bModel_integer 46 = .ok (.iconst 0, 1) := by decide +kernel
theorem dModel_integer_47 : decode bModel_integer 47 = .ok (.ireturn, 1) := by decide +kernel
theorem dModel_lookSum_0 : decode bModel_lookSum 0 = .ok (.aload_n 0, 1) := by decide +kernel
theorem dModel_lookSum_1 : decode bModel_lookSum 1 = .ok (.getfield 29, 3) := by decide +kernel
theorem dModel_lookSum_4 : decode bModel_lookSum 4 = .ok (.iload_n 3, 1) := by decide +kernel
theorem dModel_lookSum_5 : decode bModel_lookSum 5 = .ok (.iaload, 1) := by decide +kernel
theorem dModel_lookSum_6 : decode bModel_lookSum 6 = .ok (.iconst 3, 1) := by decide +kernel
theorem dModel_lookSum_7 : decode bModel_lookSum 7 = .ok (.if_icmp .ne 7, 3) := by decide +kernel
theorem dModel_lookSum_10 : decode bModel_lookSum 10 = .ok (.iconst 1, 1) := by decide +kernel
theorem dModel_lookSum_11 : decode bModel_lookSum 11 = .ok (.goto 4, 3) := by decide +kernel
theorem dModel_lookSum_14 : decode bModel_lookSum 14 = .ok (.iconst 0, 1) := by decide +kernel
theorem dModel_lookSum_15 : decode bModel_lookSum 15 = .ok (.istore 5, 2) := by decide +kernel
theorem dModel_lookSum_17 : decode bModel_lookSum 17 = .ok (.aload_n 0, 1) := by decide +kernel
theorem dModel_lookSum_18 : decode bModel_lookSum 18 = .ok (.getfield 29, 3) := by decide +kernel
theorem dModel_lookSum_21 : decode bModel_lookSum 21 = .ok (.iload 4, 2) := by decide +kernel
theorem dModel_lookSum_23 : decode bModel_lookSum 23 = .ok (.iaload, 1) := by decide +kernel
theorem dModel_lookSum_24 : decode bModel_lookSum 24 = .ok (.iconst 3, 1) := by decide +kernel
theorem dModel_lookSum_25 : decode bModel_lookSum 25 = .ok (.if_icmp .ne 7, 3) := by decide +kernel
theorem dModel_lookSum_28 : decode bModel_lookSum 28 = .ok (.iconst 1, 1) := by decide +kernel
theorem dModel_lookSum_29 : decode bModel_lookSum 29 = .ok (.goto 4, 3) := by decide +kernel
theorem dModel_lookSum_32 : decode bModel_lookSum 32 = .ok (.iconst 0, 1) := by decide +kernel
theorem dModel_lookSum_33 : decode bModel_lookSum 33 = .ok (.istore 6, 2) := by decide +kernel
theorem dModel_lookSum_35 : decode bModel_lookSum 35 = .ok (.aload_n 0, 1) := by decide +kernel
theorem dModel_lookSum_36 : decode bModel_lookSum 36 = .ok (.getfield 35, 3) := by decide +kernel
theorem dModel_lookSum_39 : decode bModel_lookSum 39 = .ok (.iload_n 3, 1) := by decide +kernel
theorem dModel_lookSum_40 : decode bModel_lookSum 40 = .ok (.baload, 1) := by decide +kernel
theorem dModel_lookSum_41 : decode bModel_lookSum 41 = .ok (.ifCond .eq 17, 3) := by decide +kernel
theorem dModel_lookSum_44 : decode bModel_lookSum 44 = .ok (.aload_n 0, 1) := by decide +kernel
theorem dModel_lookSum_45 : decode bModel_lookSum 45 = .ok (.getfield 35, 3) := by decide +kernel
theorem dModel_lookSum_48 : decode bModel_lookSum 48 = .ok (.iload 4, 2) := by decide +kernel
theorem dModel_lookSum_50 : decode bModel_lookSum 50 = .ok (.baload, 1) := by decide +kernel
theorem dModel_lookSum_51 : decode bModel_lookSum 51 = .ok (.ifCond .eq 7, 3) := by decide +kernel
theorem dModel_lookSum_54 : decode bModel_lookSum 54 = .ok (.iconst 1, 1) := by decide +kernel
theorem dModel_lookSum_55 : decode bModel_lookSum 55 = .ok (.goto 4, 3) := by decide +kernel
theorem dModel_lookSum_58 : decode bModel_lookSum 58 = .ok (.iconst 0, 1) := by decide +kernel
theorem dModel_lookSum_59 : decode bModel_lookSum 59 = .ok (.istore 7, 2) := by decide +kernel
theorem dModel_lookSum_61 : decode bModel_lookSum 61 = .ok (.aload_n 0, 1) := by decide +kernel
theorem dModel_lookSum_62 : decode bModel_lookSum 62 = .ok (.getfield 29, 3) := by decide +kernel
theorem dModel_lookSum_65 : decode bModel_lookSum 65 = .ok (.iload_n 3, 1) := by decide +kernel
theorem dModel_lookSum_66 : decode bModel_lookSum 66 = .ok (.iaload, 1) := by decide +kernel
theorem dModel_lookSum_67 : decode bModel_lookSum 67 = .ok (.iconst 2, 1) := by decide +kernel
theorem dModel_lookSum_68 : decode bModel_lookSum 68 = .ok (.if_icmp .ne 57, 3) := by decide +kernel
theorem dModel_lookSum_71 : decode bModel_lookSum 71 = .ok (.aload_n 0, 1) := by decide +kernel
theorem dModel_lookSum_72 : decode bModel_lookSum 72 = .ok (.getfield 29, 3) := by decide +kernel
theorem dModel_lookSum_75 : decode bModel_lookSum 75 = .ok (.iload 4, 2) := by decide +kernel
theorem dModel_lookSum_77 : decode bModel_lookSum 77 = .ok (.iaload, 1) := by decide +kernel
theorem dModel_lookSum_78 : decode bModel_lookSum 78 = .ok (.iconst 2, 1) := by decide +kernel
theorem dModel_lookSum_79 : decode bModel_lookSum 79 = .ok (.if_icmp .ne 46, 3) := by decide +kernel
theorem dModel_lookSum_82 : decode bModel_lookSum 82 = .ok (.aload_n 0, 1) := by decide +kernel
theorem dModel_lookSum_83 : decode bModel_lookSum 83 = .ok (.iload_n 1, 1) := by decide +kernel
theorem dModel_lookSum_84 : decode bModel_lookSum 84 = .ok (.iload 7, 2) := by decide +kernel
theorem dModel_lookSum_86 : decode bModel_lookSum 86 = .ok (.iload_n 2, 1) := by decide +kernel
theorem dModel_lookSum_87 : decode bModel_lookSum 87 = .ok (.ifCond .eq 20, 3) := by decide +kernel
theorem dModel_lookSum_90 : decode bModel_lookSum 90 = .ok (.aload_n 0, 1) := by decide +kernel
theorem dModel_lookSum_91 : decode bModel_lookSum 91 = .ok (.getfield 42, 3) := by decide +kernel
theorem dModel_lookSum_94 : decode bModel_lookSum 94 = .ok (.iload_n 3, 1) := by decide +kernel
theorem dModel_lookSum_95 : decode bModel_lookSum 95 = .ok (.laload, 1) := by decide +kernel
theorem dModel_lookSum_96 : decode bModel_lookSum 96 = .ok (.aload_n 0, 1) := by decide +kernel
theorem dModel_lookSum_97 : decode bModel_lookSum 97 = .ok (.getfield 42, 3) := by decide +kernel
theorem dModel_lookSum_100 : decode bModel_lookSum 100 = .ok (.iload 4, 2) := by decide +kernel
theorem dModel_lookSum_102 : decode bModel_lookSum 102 = .ok (.laload, 1) := by decide +kernel
theorem dModel_lookSum_103 : decode bModel_lookSum 103 = .ok (.lsub, 1) := by decide +kernel
theorem dModel_lookSum_104 : decode bModel_lookSum 104 = .ok (.goto 17, 3) := by decide +kernel
theorem dModel_lookSum_107 : decode bModel_lookSum 107 = .ok (.aload_n 0, 1) := by decide +kernel
theorem dModel_lookSum_108 : decode bModel_lookSum 108 = .ok (.getfield 42, 3) := by decide +kernel
theorem dModel_lookSum_111 : decode bModel_lookSum 111 = .ok (.iload_n 3, 1) := by decide +kernel
theorem dModel_lookSum_112 : decode bModel_lookSum 112 = .ok (.laload, 1) := by decide +kernel
theorem dModel_lookSum_113 : decode bModel_lookSum 113 = .ok (.aload_n 0, 1) := by decide +kernel
theorem dModel_lookSum_114 : decode bModel_lookSum 114 = .ok (.getfield 42, 3) := by decide +kernel
theorem dModel_lookSum_117 : decode bModel_lookSum 117 = .ok (.iload 4, 2) := by decide +kernel
theorem dModel_lookSum_119 : decode bModel_lookSum 119 = .ok (.laload, 1) := by decide +kernel
theorem dModel_lookSum_120 : decode bModel_lookSum 120 = .ok (.ladd, 1) := by decide +kernel
theorem dModel_lookSum_121 : decode bModel_lookSum 121 = .ok (.invokevirtual 227, 3) := by decide +kernel
theorem dModel_lookSum_124 : decode bModel_lookSum 124 = .ok (.ireturn, 1) := by decide +kernel
theorem dModel_lookSum_125 : decode bModel_lookSum 125 = .ok (.iload 5, 2) := by decide +kernel
theorem dModel_lookSum_127 : decode bModel_lookSum 127 = .ok (.ifCond .ne 13, 3) := by decide +kernel
theorem dModel_lookSum_130 : decode bModel_lookSum 130 = .ok (.aload_n 0, 1) := by decide +kernel
theorem dModel_lookSum_131 : decode bModel_lookSum 131 = .ok (.getfield 29, 3) := by decide +kernel
theorem dModel_lookSum_134 : decode bModel_lookSum 134 = .ok (.iload_n 3, 1) := by decide +kernel
theorem dModel_lookSum_135 : decode bModel_lookSum 135 = .ok (.iaload, 1) := by decide +kernel
theorem dModel_lookSum_136 : decode bModel_lookSum 136 = .ok (.iconst 2, 1) := by decide +kernel
theorem dModel_lookSum_137 : decode bModel_lookSum 137 = .ok (.if_icmp .ne 19, 3) := by decide +kernel
theorem dModel_lookSum_140 : decode bModel_lookSum 140 = .ok (.iload 6, 2) := by decide +kernel
theorem dModel_lookSum_142 : decode bModel_lookSum 142 = .ok (.ifCond .ne 16, 3) := by decide +kernel
theorem dModel_lookSum_145 : decode bModel_lookSum 145 = .ok (.aload_n 0, 1) := by decide +kernel
theorem dModel_lookSum_146 : decode bModel_lookSum 146 = .ok (.getfield 29, 3) := by decide +kernel
theorem dModel_lookSum_149 : decode bModel_lookSum 149 = .ok (.iload 4, 2) := by decide +kernel
theorem dModel_lookSum_151 : decode bModel_lookSum 151 = .ok (.iaload, 1) := by decide +kernel
theorem dModel_lookSum_152 : decode bModel_lookSum 152 = .ok (.iconst 2, 1) := by decide +kernel
theorem dModel_lookSum_153 : decode bModel_lookSum 153 = .ok (.if_icmp .eq 5, 3) := by decide +kernel
theorem dModel_lookSum_156 : decode bModel_lookSum 156 = .ok (.iconst 3, 1) := by decide +kernel
theorem dModel_lookSum_157 : decode bModel_lookSum 157 = .ok (.ireturn, 1) := by decide +kernel
theorem dModel_lookSum_158 : decode bModel_lookSum 158 = .ok (.iload 5, 2) := by decide +kernel
theorem dModel_lookSum_160 : decode bModel_lookSum 160 = .ok (.ifCond .eq 26, 3) := by decide +kernel
theorem dModel_lookSum_163 : decode bModel_lookSum 163 = .ok (.iload 6, 2) := by decide +kernel
theorem dModel_lookSum_165 : decode bModel_lookSum 165 = .ok (.ifCond .eq 21, 3) := by decide +kernel
theorem dModel_lookSum_168 : decode bModel_lookSum 168 = .ok (.aload_n 0, 1) := by decide +kernel
theorem dModel_lookSum_169 : decode bModel_lookSum 169 = .ok (.getfield 32, 3) := by decide +kernel
theorem dModel_lookSum_172 : decode bModel_lookSum 172 = .ok (.iload_n 3, 1) := by decide +kernel
theorem dModel_lookSum_173 : decode bModel_lookSum 173 = .ok (.iaload, 1) := by decide +kernel
theorem dModel_lookSum_174 : decode bModel_lookSum 174 = .ok (.aload_n 0, 1) := by decide +kernel
theorem dModel_lookSum_175 : decode bModel_lookSum 175 = .ok (.getfield 32, 3) := by decide +kernel
theorem dModel_lookSum_178 : decode bModel_lookSum 178 = .ok (.iload 4, 2) := by decide +kernel
theorem dModel_lookSum_180 : decode bModel_lookSum 180 = .ok (.iaload, 1) := by decide +kernel
theorem dModel_lookSum_181 : decode bModel_lookSum 181 = .ok (.if_icmp .eq 5, 3) := by decide +kernel
theorem dModel_lookSum_184 : decode bModel_lookSum 184 = .ok (.iconst 4, 1) := by decide +kernel
theorem dModel_lookSum_185 : decode bModel_lookSum 185 = .ok (.ireturn, 1) := by decide +kernel
theorem dModel_lookSum_186 : decode bModel_lookSum 186 = .ok (.aload_n 0, 1) := by decide +kernel
theorem dModel_lookSum_187 : decode bModel_lookSum 187 = .ok (.iload_n 1, 1) := by decide +kernel
theorem dModel_lookSum_188 : decode bModel_lookSum 188 = .ok (.iconst 3, 1) := by decide +kernel
theorem dModel_lookSum_189 : decode bModel_lookSum 189 = .ok (.iload 5, 2) := by decide +kernel
theorem dModel_lookSum_191 : decode bModel_lookSum 191 = .ok (.ifCond .eq 12, 3) := by decide +kernel
theorem dModel_lookSum_194 : decode bModel_lookSum 194 = .ok (.aload_n 0, 1) := by decide +kernel
theorem dModel_lookSum_195 : decode bModel_lookSum 195 = .ok (.getfield 32, 3) := by decide +kernel
theorem dModel_lookSum_198 : decode bModel_lookSum 198 = .ok (.iload_n 3, 1) := by decide +kernel
theorem dModel_lookSum_199 : decode bModel_lookSum 199 = .ok (.iaload, 1) := by decide +kernel
theorem dModel_lookSum_200 : decode bModel_lookSum 200 = .ok (.goto 10, 3) := by decide +kernel
theorem dModel_lookSum_203 : decode bModel_lookSum 203 = .ok (.aload_n 0, 1) := by decide +kernel
theorem dModel_lookSum_204 : decode bModel_lookSum 204 = .ok (.getfield 32, 3) := by decide +kernel
theorem dModel_lookSum_207 : decode bModel_lookSum 207 = .ok (.iload 4, 2) := by decide +kernel
theorem dModel_lookSum_209 : decode bModel_lookSum 209 = .ok (.iaload, 1) := by decide +kernel
theorem dModel_lookSum_210 : decode bModel_lookSum 210 = .ok (.iload 7, 2) := by decide +kernel
theorem dModel_lookSum_212 : decode bModel_lookSum 212 = .ok (.invokevirtual 147, 3) := by decide +kernel
theorem dModel_lookSum_215 : decode bModel_lookSum 215 = .ok (.iload 5, 2) := by decide +kernel
theorem dModel_lookSum_217 : decode bModel_lookSum 217 = .ok (.ifCond .eq 11, 3) := by decide +kernel
theorem dModel_lookSum_220 : decode bModel_lookSum 220 = .ok (.aload_n 0, 1) := by decide +kernel
theorem dModel_lookSum_221 : decode bModel_lookSum 221 = .ok (.iload_n 3, 1) := by decide +kernel
theorem dModel_lookSum_222 : decode bModel_lookSum 222 = .ok (.invokevirtual 231, 3) := by decide +kernel
theorem dModel_lookSum_225 : decode bModel_lookSum 225 = .ok (.goto 9, 3) := by decide +kernel
theorem dModel_lookSum_228 : decode bModel_lookSum 228 = .ok (.aload_n 0, 1) := by decide +kernel
theorem dModel_lookSum_229 : decode bModel_lookSum 229 = .ok (.getfield 42, 3) := by decide +kernel
theorem dModel_lookSum_232 : decode bModel_lookSum 232 = .ok (.iload_n 3, 1) := by decide +kernel
theorem dModel_lookSum_233 : decode bModel_lookSum 233 = .ok (.laload, 1) := by decide +kernel
theorem dModel_lookSum_234 : decode bModel_lookSum 234 = .ok (.lstore 8, 2) := by decide +kernel
theorem dModel_lookSum_236 : decode bModel_lookSum 236 = .ok (.iload 6, 2) := by decide +kernel
theorem dModel_lookSum_238 : decode bModel_lookSum 238 = .ok (.ifCond .eq 12, 3) := by decide +kernel
theorem dModel_lookSum_241 : decode bModel_lookSum 241 = .ok (.aload_n 0, 1) := by decide +kernel
theorem dModel_lookSum_242 : decode bModel_lookSum 242 = .ok (.iload 4, 2) := by decide +kernel
theorem dModel_lookSum_244 : decode bModel_lookSum 244 = .ok (.invokevirtual 231, 3) := by decide +kernel
theorem dModel_lookSum_247 : decode bModel_lookSum 247 = .ok (.goto 10, 3) := by decide +kernel
theorem dModel_lookSum_250 : decode bModel_lookSum 250 = .ok (.aload_n 0, 1) := by decide +kernel
theorem dModel_lookSum_251 : decode bModel_lookSum 251 = .ok (.getfield 42, 3) := by decide +kernel
theorem dModel_lookSum_254 : decode bModel_lookSum 254 = .ok (.iload 4, 2) := by decide +kernel
theorem dModel_lookSum_256 : decode bModel_lookSum 256 = .ok (.laload, 1) := by decide +kernel
theorem dModel_lookSum_257 : decode bModel_lookSum 257 = .ok (.lstore 10, 2) := by decide +kernel
theorem dModel_lookSum_259 : decode bModel_lookSum 259 = .ok (.iload 5, 2) := by decide +kernel
theorem dModel_lookSum_261 : decode bModel_lookSum 261 = .ok (.ifCond .eq 11, 3) := by decide +kernel
theorem dModel_lookSum_264 : decode bModel_lookSum 264 = .ok (.aload_n 0, 1) := by decide +kernel
theorem dModel_lookSum_265 : decode bModel_lookSum 265 = .ok (.iload_n 3, 1) := by decide +kernel
theorem dModel_lookSum_266 : decode bModel_lookSum 266 = .ok (.invokevirtual 220, 3) := by decide +kernel
theorem dModel_lookSum_269 : decode bModel_lookSum 269 = .ok (.ifCond .eq 21, 3) := by decide +kernel
theorem dModel_lookSum_272 : decode bModel_lookSum 272 = .ok (.iload 6, 2) := by decide +kernel
theorem dModel_lookSum_274 : decode bModel_lookSum 274 = .ok (.ifCond .eq 12, 3) := by decide +kernel
theorem dModel_lookSum_277 : decode bModel_lookSum 277 = .ok (.aload_n 0, 1) := by decide +kernel
theorem dModel_lookSum_278 : decode bModel_lookSum 278 = .ok (.iload 4, 2) := by decide +kernel
theorem dModel_lookSum_280 : decode bModel_lookSum 280 = .ok (.invokevirtual 220, 3) := by decide +kernel
theorem dModel_lookSum_283 : decode bModel_lookSum 283 = .ok (.ifCond .eq 7, 3) := by decide +kernel
theorem dModel_lookSum_286 : decode bModel_lookSum 286 = .ok (.iconst 1, 1) := by decide +kernel
theorem dModel_lookSum_287 : decode bModel_lookSum 287 = .ok (.goto 4, 3) := by decide +kernel
theorem dModel_lookSum_290 : decode bModel_lookSum 290 = .ok (.iconst 0, 1) := by decide +kernel
theorem dModel_lookSum_291 : decode bModel_lookSum 291 = .ok (.istore 12, 2) := by decide +kernel
theorem dModel_lookSum_293 : decode bModel_lookSum 293 = .ok (.iload 12, 2) := by decide +kernel
theorem dModel_lookSum_295 : decode bModel_lookSum 295 = .ok (.ifCond .eq 25, 3) := by decide +kernel
theorem dModel_lookSum_298 : decode bModel_lookSum 298 = .ok (.aload_n 0, 1) := by decide +kernel
theorem dModel_lookSum_299 : decode bModel_lookSum 299 = .ok (.iload_n 1, 1) := by decide +kernel
theorem dModel_lookSum_300 : decode bModel_lookSum 300 = .ok (.iload_n 2, 1) := by decide +kernel
theorem dModel_lookSum_301 : decode bModel_lookSum 301 = .ok (.ifCond .eq 11, 3) := by decide +kernel
theorem dModel_lookSum_304 : decode bModel_lookSum 304 = .ok (.lload 8, 2) := by decide +kernel
theorem dModel_lookSum_306 : decode bModel_lookSum 306 = .ok (.lload 10, 2) := by decide +kernel
theorem dModel_lookSum_308 : decode bModel_lookSum 308 = .ok (.lsub, 1) := by decide +kernel
theorem dModel_lookSum_309 : decode bModel_lookSum 309 = .ok (.goto 8, 3) := by decide +kernel
theorem dModel_lookSum_312 : decode bModel_lookSum 312 = .ok (.lload 8, 2) := by decide +kernel
theorem dModel_lookSum_314 : decode bModel_lookSum 314 = .ok (.lload 10, 2) := by decide +kernel
theorem dModel_lookSum_316 : decode bModel_lookSum 316 = .ok (.ladd, 1) := by decide +kernel
theorem dModel_lookSum_317 : decode bModel_lookSum 317 = .ok (.invokevirtual 235, 3) := by decide +kernel
theorem dModel_lookSum_320 : decode bModel_lookSum 320 = .ok (.iconst 0, 1) := by decide +kernel
theorem dModel_lookSum_321 : decode bModel_lookSum 321 = .ok (.istore 13, 2) := by decide +kernel
theorem dModel_lookSum_323 : decode bModel_lookSum 323 = .ok (.iload 13, 2) := by decide +kernel
theorem dModel_lookSum_325 : decode bModel_lookSum 325 = .ok (.aload_n 0, 1) := by decide +kernel
theorem dModel_lookSum_326 : decode bModel_lookSum 326 = .ok (.getfield 32, 3) := by decide +kernel
theorem dModel_lookSum_329 : decode bModel_lookSum 329 = .ok (.iload_n 1, 1) := by decide +kernel
theorem dModel_lookSum_330 : decode bModel_lookSum 330 = .ok (.iaload, 1) := by decide +kernel
theorem dModel_lookSum_331 : decode bModel_lookSum 331 = .ok (.if_icmp .ge 22, 3) := by decide +kernel
theorem dModel_lookSum_334 : decode bModel_lookSum 334 = .ok (.iload 12, 2) := by decide +kernel
theorem dModel_lookSum_336 : decode bModel_lookSum 336 = .ok (.ifCond .ne 17, 3) := by decide +kernel
theorem dModel_lookSum_339 : decode bModel_lookSum 339 = .ok (.aload_n 0, 1) := by decide +kernel
theorem dModel_lookSum_340 : decode bModel_lookSum 340 = .ok (.iload_n 1, 1) := by decide +kernel
theorem dModel_lookSum_341 : decode bModel_lookSum 341 = .ok (.iload 13, 2) := by decide +kernel
theorem dModel_lookSum_343 : decode bModel_lookSum 343 = .ok (.iconst 1, 1) := by decide +kernel
theorem dModel_lookSum_344 : decode bModel_lookSum 344 = .ok (.invokevirtual 127, 3) := by decide +kernel
theorem dModel_lookSum_347 : decode bModel_lookSum 347 = .ok (.iinc 13 1, 3) := by decide +kernel
theorem dModel_lookSum_350 : decode bModel_lookSum 350 = .ok (.goto (-27), 3) := by decide +kernel
theorem dModel_lookSum_353 : decode bModel_lookSum 353 = .ok (.aload_n 0, 1) := by decide +kernel
theorem dModel_lookSum_354 : decode bModel_lookSum 354 = .ok (.iload_n 1, 1) := by decide +kernel
theorem dModel_lookSum_355 : decode bModel_lookSum 355 = .ok (.invokevirtual 190, 3) := by decide +kernel
theorem dModel_lookSum_358 : decode bModel_lookSum 358 = .ok (.ireturn, 1) := by decide +kernel
theorem dModel_lookJoined_0 : decode bModel_lookJoined 0 = .ok (.aload_n 0, 1) := by decide +kernel
theorem dModel_lookJoined_1 : decode bModel_lookJoined 1 = .ok (.getfield 29, 3) := by decide +kernel
theorem dModel_lookJoined_4 : decode bModel_lookJoined 4 = .ok (.iload_n 2, 1) := by decide +kernel
theorem dModel_lookJoined_5 : decode bModel_lookJoined 5 = .ok (.iaload, 1) := by decide +kernel
theorem dModel_lookJoined_6 : decode bModel_lookJoined 6 = .ok (.ifCond .eq 13, 3) := by decide +kernel
theorem dModel_lookJoined_9 : decode bModel_lookJoined 9 = .ok (.aload_n 0, 1) := by decide +kernel
theorem dModel_lookJoined_10 : decode bModel_lookJoined 10 = .ok (.getfield 29, 3) := by decide +kernel
theorem dModel_lookJoined_13 : decode bModel_lookJoined 13 = .ok (.iload_n 2, 1) := by decide +kernel
theorem dModel_lookJoined_14 : decode bModel_lookJoined 14 = .ok (.iaload, 1) := by decide +kernel
theorem dModel_lookJoined_15 : decode bModel_lookJoined 15 = .ok (.iconst 3, 1) := by decide +kernel
theorem dModel_lookJoined_16 : decode bModel_lookJoined 16 = .ok (.if_icmp .ne 22, 3) := by decide +kernel
theorem dModel_lookJoined_19 : decode bModel_lookJoined 19 = .ok (.aload_n 0, 1) := by decide +kernel
theorem dModel_lookJoined_20 : decode bModel_lookJoined 20 = .ok (.getfield 29, 3) := by decide +kernel
theorem dModel_lookJoined_23 : decode bModel_lookJoined 23 = .ok (.iload_n 3, 1) := by decide +kernel
theorem dModel_lookJoined_24 : decode bModel_lookJoined 24 = .ok (.iaload, 1) := by decide +kernel
theorem dModel_lookJoined_25 : decode bModel_lookJoined 25 = .ok (.ifCond .eq 15, 3) := by decide +kernel
theorem dModel_lookJoined_28 : decode bModel_lookJoined 28 = .ok (.aload_n 0, 1) := by decide +kernel
theorem dModel_lookJoined_29 : decode bModel_lookJoined 29 = .ok (.getfield 29, 3) := by decide +kernel
theorem dModel_lookJoined_32 : decode bModel_lookJoined 32 = .ok (.iload_n 3, 1) := by decide +kernel
theorem dModel_lookJoined_33 : decode bModel_lookJoined 33 = .ok (.iaload, 1) := by decide +kernel
theorem dModel_lookJoined_34 : decode bModel_lookJoined 34 = .ok (.iconst 3, 1) := by decide +kernel
theorem dModel_lookJoined_35 : decode bModel_lookJoined 35 = .ok (.if_icmp .eq 5, 3) := by decide +kernel
theorem dModel_lookJoined_38 : decode bModel_lookJoined 38 = .ok (.iconst 3, 1) := by decide +kernel
theorem dModel_lookJoined_39 : decode bModel_lookJoined 39 = .ok (.ireturn, 1) := by decide +kernel
theorem dModel_lookJoined_40 : decode bModel_lookJoined 40 = .ok (.aload_n 0, 1) := by decide +kernel
theorem dModel_lookJoined_41 : decode bModel_lookJoined 41 = .ok (.getfield 29, 3) := by decide +kernel
theorem dModel_lookJoined_44 : decode bModel_lookJoined 44 = .ok (.iload_n 2, 1) := by decide +kernel
theorem dModel_lookJoined_45 : decode bModel_lookJoined 45 = .ok (.iaload, 1) := by decide +kernel
theorem dModel_lookJoined_46 : decode bModel_lookJoined 46 = .ok (.ifCond .ne 7, 3) := by decide +kernel
theorem dModel_lookJoined_49 : decode bModel_lookJoined 49 = .ok (.iconst 1, 1) := by decide +kernel
theorem dModel_lookJoined_50 : decode bModel_lookJoined 50 = .ok (.goto 9, 3) := by decide +kernel
theorem dModel_lookJoined_53 : decode bModel_lookJoined 53 = .ok (.aload_n 0, 1) := by decide +kernel
theorem dModel_lookJoined_54 : decode bModel_lookJoined 54 = .ok (.getfield 32, 3) := by decide +kernel
theorem dModel_lookJoined_57 : decode bModel_lookJoined 57 = .ok (.iload_n 2, 1) := by decide +kernel
theorem dModel_lookJoined_58 : decode bModel_lookJoined 58 = .ok (.iaload, 1) := by decide +kernel
theorem dModel_lookJoined_59 : decode bModel_lookJoined 59 = .ok (.istore 4, 2) := by decide +kernel
theorem dModel_lookJoined_61 : decode bModel_lookJoined 61 = .ok (.aload_n 0, 1) := by decide +kernel
theorem dModel_lookJoined_62 : decode bModel_lookJoined 62 = .ok (.getfield 29, 3) := by decide +kernel
theorem dModel_lookJoined_65 : decode bModel_lookJoined 65 = .ok (.iload_n 3, 1) := by decide +kernel
theorem dModel_lookJoined_66 : decode bModel_lookJoined 66 = .ok (.iaload, 1) := by decide +kernel
theorem dModel_lookJoined_67 : decode bModel_lookJoined 67 = .ok (.ifCond .ne 7, 3) := by decide +kernel
theorem dModel_lookJoined_70 : decode bModel_lookJoined 70 = .ok (.iconst 1, 1) := by decide +kernel
theorem dModel_lookJoined_71 : decode bModel_lookJoined 71 = .ok (.goto 9, 3) := by decide +kernel
theorem dModel_lookJoined_74 : decode bModel_lookJoined 74 = .ok (.aload_n 0, 1) := by decide +kernel
theorem dModel_lookJoined_75 : decode bModel_lookJoined 75 = .ok (.getfield 32, 3) := by decide +kernel
theorem dModel_lookJoined_78 : decode bModel_lookJoined 78 = .ok (.iload_n 3, 1) := by decide +kernel
theorem dModel_lookJoined_79 : decode bModel_lookJoined 79 = .ok (.iaload, 1) := by decide +kernel
theorem dModel_lookJoined_80 : decode bModel_lookJoined 80 = .ok (.istore 5, 2) := by decide +kernel
theorem dModel_lookJoined_82 : decode bModel_lookJoined 82 = .ok (.iload 4, 2) := by decide +kernel
theorem dModel_lookJoined_84 : decode bModel_lookJoined 84 = .ok (.iload 5, 2) := by decide +kernel
theorem dModel_lookJoined_86 : decode bModel_lookJoined 86 = .ok (.iadd, 1) := by decide +kernel
theorem dModel_lookJoined_87 : decode bModel_lookJoined 87 = .ok (.bipush 64, 2) := by decide +kernel
theorem dModel_lookJoined_89 : decode bModel_lookJoined 89 = .ok (.if_icmp .le 5, 3) := by decide +kernel
theorem dModel_lookJoined_92 : decode bModel_lookJoined 92 = .ok (.iconst 4, 1) := by decide +kernel
theorem dModel_lookJoined_93 : decode bModel_lookJoined 93 = .ok (.ireturn, 1) := by decide +kernel
theorem dModel_lookJoined_94 : decode bModel_lookJoined 94 = .ok (.aload_n 0, 1) := by decide +kernel
theorem dModel_lookJoined_95 : decode bModel_lookJoined 95 = .ok (.iload_n 1, 1) := by decide +kernel
theorem dModel_lookJoined_96 : decode bModel_lookJoined 96 = .ok (.iconst 3, 1) := by decide +kernel
theorem dModel_lookJoined_97 : decode bModel_lookJoined 97 = .ok (.iload 4, 2) := by decide +kernel
theorem dModel_lookJoined_99 : decode bModel_lookJoined 99 = .ok (.iload 5, 2) := by decide +kernel
theorem dModel_lookJoined_101 : decode bModel_lookJoined 101 = .ok (.iadd, 1) := by decide +kernel
theorem dModel_lookJoined_102 : decode bModel_lookJoined 102 = .ok (.aload_n 0, 1) := by decide +kernel
theorem dModel_lookJoined_103 : decode bModel_lookJoined 103 = .ok (.getfield 35, 3) := by decide +kernel
theorem dModel_lookJoined_106 : decode bModel_lookJoined 106 = .ok (.iload_n 2, 1) := by decide +kernel
theorem dModel_lookJoined_107 : decode bModel_lookJoined 107 = .ok (.baload, 1) := by decide +kernel
theorem dModel_lookJoined_108 : decode bModel_lookJoined 108 = .ok (.ifCond .eq 16, 3) := by decide +kernel
theorem dModel_lookJoined_111 : decode bModel_lookJoined 111 = .ok (.aload_n 0, 1) := by decide +kernel
theorem dModel_lookJoined_112 : decode bModel_lookJoined 112 = .ok (.getfield 35, 3) := by decide +kernel
theorem dModel_lookJoined_115 : decode bModel_lookJoined 115 = .ok (.iload_n 3, 1) := by decide +kernel
theorem dModel_lookJoined_116 : decode bModel_lookJoined 116 = .ok (.baload, 1) := by decide +kernel
theorem dModel_lookJoined_117 : decode bModel_lookJoined 117 = .ok (.ifCond .eq 7, 3) := by decide +kernel
theorem dModel_lookJoined_120 : decode bModel_lookJoined 120 = .ok (.iconst 1, 1) := by decide +kernel
theorem dModel_lookJoined_121 : decode bModel_lookJoined 121 = .ok (.goto 4, 3) := by decide +kernel
theorem dModel_lookJoined_124 : decode bModel_lookJoined 124 = .ok (.iconst 0, 1) := by decide +kernel
theorem dModel_lookJoined_125 : decode bModel_lookJoined 125 = .ok (.invokevirtual 147, 3) := by decide +kernel
theorem dModel_lookJoined_128 : decode bModel_lookJoined 128 = .ok (.iconst 0, 1) := by decide +kernel
theorem dModel_lookJoined_129 : decode bModel_lookJoined 129 = .ok (.istore 6, 2) := by decide +kernel
theorem dModel_lookJoined_131 : decode bModel_lookJoined 131 = .ok (.iload 6, 2) := by decide +kernel
theorem dModel_lookJoined_133 : decode bModel_lookJoined 133 = .ok (.iload 5, 2) := by decide +kernel
theorem dModel_lookJoined_135 : decode bModel_lookJoined 135 = .ok (.if_icmp .ge 42, 3) := by decide +kernel
theorem dModel_lookJoined_138 : decode bModel_lookJoined 138 = .ok (.aload_n 0, 1) := by decide +kernel
theorem dModel_lookJoined_139 : decode bModel_lookJoined 139 = .ok (.iload_n 1, 1) := by decide +kernel
theorem dModel_lookJoined_140 : decode bModel_lookJoined 140 = .ok (.iload 6, 2) := by decide +kernel
theorem dModel_lookJoined_142 : decode bModel_lookJoined 142 = .ok (.aload_n 0, 1) := by decide +kernel
theorem dModel_lookJoined_143 : decode bModel_lookJoined 143 = .ok (.getfield 29, 3) := by decide +kernel
theorem dModel_lookJoined_146 : decode bModel_lookJoined 146 = .ok (.iload_n 3, 1) := by decide +kernel
theorem dModel_lookJoined_147 : decode bModel_lookJoined 147 = .ok (.iaload, 1) := by decide +kernel
theorem dModel_lookJoined_148 : decode bModel_lookJoined 148 = .ok (.ifCond .ne 13, 3) := by decide +kernel
theorem dModel_lookJoined_151 : decode bModel_lookJoined 151 = .ok (.aload_n 0, 1) := by decide +kernel
theorem dModel_lookJoined_152 : decode bModel_lookJoined 152 = .ok (.getfield 42, 3) := by decide +kernel
theorem dModel_lookJoined_155 : decode bModel_lookJoined 155 = .ok (.iload_n 3, 1) := by decide +kernel
theorem dModel_lookJoined_156 : decode bModel_lookJoined 156 = .ok (.laload, 1) := by decide +kernel
theorem dModel_lookJoined_157 : decode bModel_lookJoined 157 = .ok (.l2i, 1) := by decide +kernel
theorem dModel_lookJoined_158 : decode bModel_lookJoined 158 = .ok (.goto 10, 3) := by decide +kernel
theorem dModel_lookJoined_161 : decode bModel_lookJoined 161 = .ok (.aload_n 0, 1) := by decide +kernel
theorem dModel_lookJoined_162 : decode bModel_lookJoined 162 = .ok (.iload_n 3, 1) := by decide +kernel
theorem dModel_lookJoined_163 : decode bModel_lookJoined 163 = .ok (.iload 6, 2) := by decide +kernel
theorem dModel_lookJoined_165 : decode bModel_lookJoined 165 = .ok (.invokevirtual 131, 3) := by decide +kernel
theorem dModel_lookJoined_168 : decode bModel_lookJoined 168 = .ok (.invokevirtual 127, 3) := by decide +kernel
theorem dModel_lookJoined_171 : decode bModel_lookJoined 171 = .ok (.iinc 6 1, 3) := by decide +kernel
theorem dModel_lookJoined_174 : decode bModel_lookJoined 174 = .ok (.goto (-43), 3) := by decide +kernel
theorem dModel_lookJoined_177 : decode bModel_lookJoined 177 = .ok (.iconst 0, 1) := by decide +kernel
theorem dModel_lookJoined_178 : decode bModel_lookJoined 178 = .ok (.istore 6, 2) := by decide +kernel
theorem dModel_lookJoined_180 : decode bModel_lookJoined 180 = .ok (.iload 6, 2) := by decide +kernel
theorem dModel_lookJoined_182 : decode bModel_lookJoined 182 = .ok (.iload 4, 2) := by decide +kernel
theorem dModel_lookJoined_184 : decode bModel_lookJoined 184 = .ok (.if_icmp .ge 45, 3) := by decide +kernel
theorem dModel_lookJoined_187 : decode bModel_lookJoined 187 = .ok (.aload_n 0, 1) := by decide +kernel
theorem dModel_lookJoined_188 : decode bModel_lookJoined 188 = .ok (.iload_n 1, 1) := by decide +kernel
theorem dModel_lookJoined_189 : decode bModel_lookJoined 189 = .ok (.iload 5, 2) := by decide +kernel
theorem dModel_lookJoined_191 : decode bModel_lookJoined 191 = .ok (.iload 6, 2) := by decide +kernel
theorem dModel_lookJoined_193 : decode bModel_lookJoined 193 = .ok (.iadd, 1) := by decide +kernel
theorem dModel_lookJoined_194 : decode bModel_lookJoined 194 = .ok (.aload_n 0, 1) := by decide +kernel
theorem dModel_lookJoined_195 : decode bModel_lookJoined 195 = .ok (.getfield 29, 3) := by decide +kernel
theorem dModel_lookJoined_198 : decode bModel_lookJoined 198 = .ok (.iload_n 2, 1) := by decide +kernel
theorem dModel_lookJoined_199 : decode bModel_lookJoined 199 = .ok (.iaload, 1) := by decide +kernel
theorem dModel_lookJoined_200 : decode bModel_lookJoined 200 = .ok (.ifCond .ne 13, 3) := by decide +kernel
theorem dModel_lookJoined_203 : decode bModel_lookJoined 203 = .ok (.aload_n 0, 1) := by decide +kernel
theorem dModel_lookJoined_204 : decode bModel_lookJoined 204 = .ok (.getfield 42, 3) := by decide +kernel
theorem dModel_lookJoined_207 : decode bModel_lookJoined 207 = .ok (.iload_n 2, 1) := by decide +kernel
theorem dModel_lookJoined_208 : decode bModel_lookJoined 208 = .ok (.laload, 1) := by decide +kernel
theorem dModel_lookJoined_209 : decode bModel_lookJoined 209 = .ok (.l2i, 1) := by decide +kernel
theorem dModel_lookJoined_210 : decode bModel_lookJoined 210 = .ok (.goto 10, 3) := by decide +kernel
theorem dModel_lookJoined_213 : decode bModel_lookJoined 213 = .ok (.aload_n 0, 1) := by decide +kernel
theorem dModel_lookJoined_214 : decode bModel_lookJoined 214 = .ok (.iload_n 2, 1) := by decide +kernel
theorem dModel_lookJoined_215 : decode bModel_lookJoined 215 = .ok (.iload 6, 2) := by decide +kernel
theorem dModel_lookJoined_217 : decode bModel_lookJoined 217 = .ok (.invokevirtual 131, 3) := by decide +kernel
theorem dModel_lookJoined_220 : decode bModel_lookJoined 220 = .ok (.invokevirtual 127, 3) := by decide +kernel
theorem dModel_lookJoined_223 : decode bModel_lookJoined 223 = .ok (.iinc 6 1, 3) := by decide +kernel
theorem dModel_lookJoined_226 : decode bModel_lookJoined 226 = .ok (.goto (-46), 3) := by decide +kernel
theorem dModel_lookJoined_229 : decode bModel_lookJoined 229 = .ok (.aload_n 0, 1) := by decide +kernel
theorem dModel_lookJoined_230 : decode bModel_lookJoined 230 = .ok (.iload_n 1, 1) := by decide +kernel
theorem dModel_lookJoined_231 : decode bModel_lookJoined 231 = .ok (.invokevirtual 190, 3) := by decide +kernel
theorem dModel_lookJoined_234 : decode bModel_lookJoined 234 = .ok (.ireturn, 1) := by decide +kernel
