theorem dModel_isLow_0 : decode bModel_isLow 0 = .ok (.iload_n 0, 1) := by decide +kernel
theorem dModel_isLow_1 : decode bModel_isLow 1 = .ok (.iconst 2, 1) := by decide +kernel
theorem dModel_isLow_2 : decode bModel_isLow 2 = .ok (.if_icmp .eq 9, 3) := by decide +kernel
theorem dModel_isLow_5 : decode bModel_isLow 5 = .ok (.iload_n 0, 1) := by decide +kernel
theorem dModel_isLow_6 : decode bModel_isLow 6 = .ok (.bipush 6, 2) := by decide +kernel
theorem dModel_isLow_8 : decode bModel_isLow 8 = .ok (.if_icmp .ne 7, 3) := by decide +kernel
theorem dModel_isLow_11 : decode bModel_isLow 11 = .ok (.iconst 1, 1) := by decide +kernel
theorem dModel_isLow_12 : decode bModel_isLow 12 = .ok (.goto 4, 3) := by decide +kernel
theorem dModel_isLow_15 : decode bModel_isLow 15 = .ok (.iconst 0, 1) := by decide +kernel
theorem dModel_isLow_16 : decode bModel_isLow 16 = .ok (.ireturn, 1) := by decide +kernel
theorem dModel_isHigh_0 : decode bModel_isHigh 0 = .ok (.iload_n 0, 1) := by decide +kernel
theorem dModel_isHigh_1 : decode bModel_isHigh 1 = .ok (.iconst 3, 1) := by decide +kernel
theorem dModel_isHigh_2 : decode bModel_isHigh 2 = .ok (.if_icmp .eq 9, 3) := by decide +kernel
theorem dModel_isHigh_5 : decode bModel_isHigh 5 = .ok (.iload_n 0, 1) := by decide +kernel
theorem dModel_isHigh_6 : decode bModel_isHigh 6 = .ok (.bipush 7, 2) := by decide +kernel
theorem dModel_isHigh_8 : decode bModel_isHigh 8 = .ok (.if_icmp .ne 7, 3) := by decide +kernel
theorem dModel_isHigh_11 : decode bModel_isHigh 11 = .ok (.iconst 1, 1) := by decide +kernel
theorem dModel_isHigh_12 : decode bModel_isHigh 12 = .ok (.goto 4, 3) := by decide +kernel
theorem dModel_isHigh_15 : decode bModel_isHigh 15 = .ok (.iconst 0, 1) := by decide +kernel
theorem dModel_isHigh_16 : decode bModel_isHigh 16 = .ok (.ireturn, 1) := by decide +kernel
theorem dModel_isClear_0 : decode bModel_isClear 0 = .ok (.iconst 1, 1) := by decide +kernel
theorem dModel_isClear_1 : decode bModel_isClear 1 = .ok (.istore_n 2, 1) := by decide +kernel
theorem dModel_isClear_2 : decode bModel_isClear 2 = .ok (.iconst 0, 1) := by decide +kernel
theorem dModel_isClear_3 : decode bModel_isClear 3 = .ok (.istore_n 3, 1) := by decide +kernel
theorem dModel_isClear_4 : decode bModel_isClear 4 = .ok (.iload_n 3, 1) := by decide +kernel
theorem dModel_isClear_5 : decode bModel_isClear 5 = .ok (.aload_n 0, 1) := by decide +kernel
theorem dModel_isClear_6 : decode bModel_isClear 6 = .ok (.getfield 32, 3) := by decide +kernel
theorem dModel_isClear_9 : decode bModel_isClear 9 = .ok (.iload_n 1, 1) := by decide +kernel
theorem dModel_isClear_10 : decode bModel_isClear 10 = .ok (.iaload, 1) := by decide +kernel
theorem dModel_isClear_11 : decode bModel_isClear 11 = .ok (.if_icmp .ge 43, 3) := by decide +kernel
theorem dModel_isClear_14 : decode bModel_isClear 14 = .ok (.iload_n 2, 1) := by decide +kernel
theorem dModel_isClear_15 : decode bModel_isClear 15 = .ok (.ifCond .eq 31, 3) := by decide +kernel
theorem dModel_isClear_18 : decode bModel_isClear 18 = .ok (.aload_n 0, 1) := by decide +kernel
theorem dModel_isClear_19 : decode bModel_isClear 19 = .ok (.iload_n 1, 1) := by decide +kernel
theorem dModel_isClear_20 : decode bModel_isClear 20 = .ok (.iload_n 3, 1) := by decide +kernel
theorem dModel_isClear_21 : decode bModel_isClear 21 = .ok (.invokevirtual 131, 3) := by decide +kernel
theorem dModel_isClear_24 : decode bModel_isClear 24 = .ok (.invokestatic 135, 3) := by decide +kernel
theorem dModel_isClear_27 : decode bModel_isClear 27 = .ok (.ifCond .ne 15, 3) := by decide +kernel
theorem dModel_isClear_30 : decode bModel_isClear 30 = .ok (.aload_n 0, 1) := by decide +kernel
theorem dModel_isClear_31 : decode bModel_isClear 31 = .ok (.iload_n 1, 1) := by decide +kernel
theorem dModel_isClear_32 : decode bModel_isClear 32 = .ok (.iload_n 3, 1) := by decide +kernel
theorem dModel_isClear_33 : decode bModel_isClear 33 = .ok (.invokevirtual 131, 3) := by decide +kernel
theorem dModel_isClear_36 : decode bModel_isClear 36 = .ok (.invokestatic 138, 3) := by decide +kernel
theorem dModel_isClear_39 : decode bModel_isClear 39 = .ok (.ifCond .eq 7, 3) := by decide +kernel
theorem dModel_isClear_42 : decode bModel_isClear 42 = .ok (.iconst 1, 1) := by decide +kernel
theorem dModel_isClear_43 : decode bModel_isClear 43 = .ok (.goto 4, 3) := by decide +kernel
theorem dModel_isClear_46 : decode bModel_isClear 46 = .ok (.iconst 0, 1) := by decide +kernel
theorem dModel_isClear_47 : decode bModel_isClear 47 = .ok (.istore_n 2, 1) := by decide +kernel
theorem dModel_isClear_48 : decode bModel_isClear 48 = .ok (.iinc 3 1, 3) := by decide +kernel
theorem dModel_isClear_51 : decode bModel_isClear 51 = .ok (.goto (-47), 3) := by decide +kernel
theorem dModel_isClear_54 : decode bModel_isClear 54 = .ok (.iload_n 2, 1) := by decide +kernel
theorem dModel_isClear_55 : decode bModel_isClear 55 = .ok (.ireturn, 1) := by decide +kernel
theorem dModel_numberOf_0 : decode bModel_numberOf 0 = .ok (.lconst 0, 1) := by decide +kernel
theorem dModel_numberOf_1 : decode bModel_numberOf 1 = .ok (.lstore_n 2, 1) := by decide +kernel
theorem dModel_numberOf_2 : decode bModel_numberOf 2 = .ok (.aload_n 0, 1) := by decide +kernel
theorem dModel_numberOf_3 : decode bModel_numberOf 3 = .ok (.getfield 32, 3) := by decide +kernel
theorem dModel_numberOf_6 : decode bModel_numberOf 6 = .ok (.iload_n 1, 1) := by decide +kernel
theorem dModel_numberOf_7 : decode bModel_numberOf 7 = .ok (.iaload, 1) := by decide +kernel
theorem dModel_numberOf_8 : decode bModel_numberOf 8 = .ok (.iconst 1, 1) := by decide +kernel
theorem dModel_numberOf_9 : decode bModel_numberOf 9 = .ok (.isub, 1) := by decide +kernel
theorem dModel_numberOf_10 : decode bModel_numberOf 10 = .ok (.istore 4, 2) := by decide +kernel
theorem dModel_numberOf_12 : decode bModel_numberOf 12 = .ok (.iload 4, 2) := by decide +kernel
theorem dModel_numberOf_14 : decode bModel_numberOf 14 = .ok (.ifCond .lt 34, 3) := by decide +kernel
theorem dModel_numberOf_17 : decode bModel_numberOf 17 = .ok (.ldc2_w 141, 3) := by decide +kernel
theorem dModel_numberOf_20 : decode bModel_numberOf 20 = .ok (.lload_n 2, 1) := by decide +kernel
theorem dModel_numberOf_21 : decode bModel_numberOf 21 = .ok (.lmul, 1) := by decide +kernel
theorem dModel_numberOf_22 : decode bModel_numberOf 22 = .ok (.aload_n 0, 1) := by decide +kernel
theorem dModel_numberOf_23 : decode bModel_numberOf 23 = .ok (.iload_n 1, 1) := by decide +kernel
theorem dModel_numberOf_24 : decode bModel_numberOf 24 = .ok (.iload 4, 2) := by decide +kernel
theorem dModel_numberOf_26 : decode bModel_numberOf 26 = .ok (.invokevirtual 131, 3) := by decide +kernel
theorem dModel_numberOf_29 : decode bModel_numberOf 29 = .ok (.invokestatic 138, 3) := by decide +kernel
theorem dModel_numberOf_32 : decode bModel_numberOf 32 = .ok (.ifCond .eq 7, 3) := by decide +kernel
theorem dModel_numberOf_35 : decode bModel_numberOf 35 = .ok (.lconst 1, 1) := by decide +kernel
theorem dModel_numberOf_36 : decode bModel_numberOf 36 = .ok (.goto 4, 3) := by decide +kernel
theorem dModel_numberOf_39 : decode bModel_numberOf 39 = .ok (.lconst 0, 1) := by decide +kernel
theorem dModel_numberOf_40 : decode bModel_numberOf 40 = .ok (.ladd, 1) := by decide +kernel
theorem dModel_numberOf_41 : decode bModel_numberOf 41 = .ok (.lstore_n 2, 1) := by decide +kernel
theorem dModel_numberOf_42 : decode bModel_numberOf 42 = .ok (.iinc 4 (-1), 3) := by decide +kernel
theorem dModel_numberOf_45 : decode bModel_numberOf 45 = .ok (.goto (-33), 3) := by decide +kernel
theorem dModel_numberOf_48 : decode bModel_numberOf 48 = .ok (.lload_n 2, 1) := by decide +kernel
theorem dModel_numberOf_49 : decode bModel_numberOf 49 = .ok (.lreturn, 1) := by decide +kernel
theorem dModel_bits_0 : decode bModel_bits 0 = .ok (.iconst 0, 1) := by decide +kernel
theorem dModel_bits_1 : decode bModel_bits 1 = .ok (.istore 4, 2) := by decide +kernel
theorem dModel_bits_3 : decode bModel_bits 3 = .ok (.iload 4, 2) := by decide +kernel
theorem dModel_bits_5 : decode bModel_bits 5 = .ok (.aload_n 0, 1) := by decide +kernel
theorem dModel_bits_6 : decode bModel_bits 6 = .ok (.getfield 32, 3) := by decide +kernel
theorem dModel_bits_9 : decode bModel_bits 9 = .ok (.iload_n 1, 1) := by decide +kernel
theorem dModel_bits_10 : decode bModel_bits 10 = .ok (.iaload, 1) := by decide +kernel
theorem dModel_bits_11 : decode bModel_bits 11 = .ok (.if_icmp .ge 32, 3) := by decide +kernel
theorem dModel_bits_14 : decode bModel_bits 14 = .ok (.aload_n 0, 1) := by decide +kernel
theorem dModel_bits_15 : decode bModel_bits 15 = .ok (.iload_n 1, 1) := by decide +kernel
theorem dModel_bits_16 : decode bModel_bits 16 = .ok (.iload 4, 2) := by decide +kernel
theorem dModel_bits_18 : decode bModel_bits 18 = .ok (.lload_n 2, 1) := by decide +kernel
theorem dModel_bits_19 : decode bModel_bits 19 = .ok (.iload 4, 2) := by decide +kernel
theorem dModel_bits_21 : decode bModel_bits 21 = .ok (.lshr, 1) := by decide +kernel
theorem dModel_bits_22 : decode bModel_bits 22 = .ok (.lconst 1, 1) := by decide +kernel
theorem dModel_bits_23 : decode bModel_bits 23 = .ok (.land, 1) := by decide +kernel
theorem dModel_bits_24 : decode bModel_bits 24 = .ok (.lconst 1, 1) := by decide +kernel
theorem dModel_bits_25 : decode bModel_bits 25 = .ok (.lcmp, 1) := by decide +kernel
theorem dModel_bits_26 : decode bModel_bits 26 = .ok (.ifCond .ne 7, 3) := by decide +kernel
theorem dModel_bits_29 : decode bModel_bits 29 = .ok (.iconst 3, 1) := by decide +kernel
theorem dModel_bits_30 : decode bModel_bits 30 = .ok (.goto 4, 3) := by decide +kernel
theorem dModel_bits_33 : decode bModel_bits 33 = .ok (.iconst 2, 1) := by decide +kernel
theorem dModel_bits_34 : decode bModel_bits 34 = .ok (.invokevirtual 127, 3) := by decide +kernel
theorem dModel_bits_37 : decode bModel_bits 37 = .ok (.iinc 4 1, 3) := by decide +kernel
theorem dModel_bits_40 : decode bModel_bits 40 = .ok (.goto (-37), 3) := by decide +kernel
theorem dModel_bits_43 : decode bModel_bits 43 = .ok (.return_, 1) := by decide +kernel
theorem dModel_look_0 : decode bModel_look 0 = .ok (.aload_n 0, 1) := by decide +kernel
theorem dModel_look_1 : decode bModel_look 1 = .ok (.getfield 20, 3) := by decide +kernel
theorem dModel_look_4 : decode bModel_look 4 = .ok (.iload_n 1, 1) := by decide +kernel
theorem dModel_look_5 : decode bModel_look 5 = .ok (.iaload, 1) := by decide +kernel
theorem dModel_look_6 : decode bModel_look 6 = .ok (.istore_n 2, 1) := by decide +kernel
theorem dModel_look_7 : decode bModel_look 7 = .ok (.aload_n 0, 1) := by decide +kernel
theorem dModel_look_8 : decode bModel_look 8 = .ok (.getfield 13, 3) := by decide +kernel
theorem dModel_look_11 : decode bModel_look 11 = .ok (.iload_n 1, 1) := by decide +kernel
theorem dModel_look_12 : decode bModel_look 12 = .ok (.iaload, 1) := by decide +kernel
theorem dModel_look_13 : decode bModel_look 13 = .ok (.tableswitch 358 1 25 #[115, 130, 171, 223, 358, 358, 358, 358, 358, 358, 358, 358, 358, 358, 358, 358, 358, 358, 358, 229, 270, 318, 324, 324, 352], 115) := by decide +kernel
theorem dModel_look_128 : decode bModel_look 128 = .ok (.iload_n 2, 1) := by decide +kernel
theorem dModel_look_129 : decode bModel_look 129 = .ok (.ifCond .le 8, 3) := by decide +kernel
theorem dModel_look_132 : decode bModel_look 132 = .ok (.bipush 11, 2) := by decide +kernel
theorem dModel_look_134 : decode bModel_look 134 = .ok (.goto 8, 3) := by decide +kernel
theorem dModel_look_137 : decode bModel_look 137 = .ok (.aload_n 0, 1) := by decide +kernel
theorem dModel_look_138 : decode bModel_look 138 = .ok (.iload_n 1, 1) := by decide +kernel
theorem dModel_look_139 : decode bModel_look 139 = .ok (.invokevirtual 143, 3) := by decide +kernel
theorem dModel_look_142 : decode bModel_look 142 = .ok (.ireturn, 1) := by decide +kernel
theorem dModel_look_143 : decode bModel_look 143 = .ok (.aload_n 0, 1) := by decide +kernel
theorem dModel_look_144 : decode bModel_look 144 = .ok (.iload_n 1, 1) := by decide +kernel
theorem dModel_look_145 : decode bModel_look 145 = .ok (.iconst 2, 1) := by decide +kernel
theorem dModel_look_146 : decode bModel_look 146 = .ok (.iconst 0, 1) := by decide +kernel
theorem dModel_look_147 : decode bModel_look 147 = .ok (.iconst 1, 1) := by decide +kernel
theorem dModel_look_148 : decode bModel_look 148 = .ok (.invokevirtual 147, 3) := by decide +kernel
theorem dModel_look_151 : decode bModel_look 151 = .ok (.aload_n 0, 1) := by decide +kernel
theorem dModel_look_152 : decode bModel_look 152 = .ok (.getfield 42, 3) := by decide +kernel
theorem dModel_look_155 : decode bModel_look 155 = .ok (.iload_n 1, 1) := by decide +kernel
theorem dModel_look_156 : decode bModel_look 156 = .ok (.aload_n 0, 1) := by decide +kernel
theorem dModel_look_157 : decode bModel_look 157 = .ok (.getfield 17, 3) := by decide +kernel
theorem dModel_look_160 : decode bModel_look 160 = .ok (.iload_n 1, 1) := by decide +kernel
theorem dModel_look_161 : decode bModel_look 161 = .ok (.iaload, 1) := by decide +kernel
theorem dModel_look_162 : decode bModel_look 162 = .ok (.i2l, 1) := by decide +kernel
theorem dModel_look_163 : decode bModel_look 163 = .ok (.lastore, 1) := by decide +kernel
theorem dModel_look_164 : decode bModel_look 164 = .ok (.iload_n 2, 1) := by decide +kernel
theorem dModel_look_165 : decode bModel_look 165 = .ok (.ifCond .gt 12, 3) := by decide +kernel
theorem dModel_look_168 : decode bModel_look 168 = .ok (.aload_n 0, 1) := by decide +kernel
theorem dModel_look_169 : decode bModel_look 169 = .ok (.getfield 17, 3) := by decide +kernel
theorem dModel_look_172 : decode bModel_look 172 = .ok (.iload_n 1, 1) := by decide +kernel
theorem dModel_look_173 : decode bModel_look 173 = .ok (.iaload, 1) := by decide +kernel
theorem dModel_look_174 : decode bModel_look 174 = .ok (.ifCond .ge 8, 3) := by decide +kernel
theorem dModel_look_177 : decode bModel_look 177 = .ok (.bipush 11, 2) := by decide +kernel
theorem dModel_look_179 : decode bModel_look 179 = .ok (.goto 4, 3) := by decide +kernel
theorem dModel_look_182 : decode bModel_look 182 = .ok (.iconst 0, 1) := by decide +kernel
theorem dModel_look_183 : decode bModel_look 183 = .ok (.ireturn, 1) := by decide +kernel
theorem dModel_look_184 : decode bModel_look 184 = .ok (.aload_n 0, 1) := by decide +kernel
theorem dModel_look_185 : decode bModel_look 185 = .ok (.iload_n 1, 1) := by decide +kernel
theorem dModel_look_186 : decode bModel_look 186 = .ok (.iconst 0, 1) := by decide +kernel
theorem dModel_look_187 : decode bModel_look 187 = .ok (.iconst 0, 1) := by decide +kernel
theorem dModel_look_188 : decode bModel_look 188 = .ok (.iconst 1, 1) := by decide +kernel
theorem dModel_look_189 : decode bModel_look 189 = .ok (.invokevirtual 147, 3) := by decide +kernel
theorem dModel_look_192 : decode bModel_look 192 = .ok (.aload_n 0, 1) := by decide +kernel
theorem dModel_look_193 : decode bModel_look 193 = .ok (.getfield 42, 3) := by decide +kernel
theorem dModel_look_196 : decode bModel_look 196 = .ok (.iload_n 1, 1) := by decide +kernel
theorem dModel_look_197 : decode bModel_look 197 = .ok (.aload_n 0, 1) := by decide +kernel
theorem dModel_look_198 : decode bModel_look 198 = .ok (.getfield 17, 3) := by decide +kernel
theorem dModel_look_201 : decode bModel_look 201 = .ok (.iload_n 1, 1) := by decide +kernel
theorem dModel_look_202 : decode bModel_look 202 = .ok (.iaload, 1) := by decide +kernel
theorem dModel_look_203 : decode bModel_look 203 = .ok (.i2l, 1) := by decide +kernel
theorem dModel_look_204 : decode bModel_look 204 = .ok (.lastore, 1) := by decide +kernel
theorem dModel_look_205 : decode bModel_look 205 = .ok (.iload_n 2, 1) := by decide +kernel
theorem dModel_look_206 : decode bModel_look 206 = .ok (.ifCond .gt 23, 3) := by decide +kernel
theorem dModel_look_209 : decode bModel_look 209 = .ok (.aload_n 0, 1) := by decide +kernel
theorem dModel_look_210 : decode bModel_look 210 = .ok (.getfield 17, 3) := by decide +kernel
theorem dModel_look_213 : decode bModel_look 213 = .ok (.iload_n 1, 1) := by decide +kernel
theorem dModel_look_214 : decode bModel_look 214 = .ok (.iaload, 1) := by decide +kernel
theorem dModel_look_215 : decode bModel_look 215 = .ok (.ifCond .lt 14, 3) := by decide +kernel
theorem dModel_look_218 : decode bModel_look 218 = .ok (.aload_n 0, 1) := by decide +kernel
theorem dModel_look_219 : decode bModel_look 219 = .ok (.getfield 17, 3) := by decide +kernel
theorem dModel_look_222 : decode bModel_look 222 = .ok (.iload_n 1, 1) := by decide +kernel
theorem dModel_look_223 : decode bModel_look 223 = .ok (.iaload, 1) := by decide +kernel
theorem dModel_look_224 : decode bModel_look 224 = .ok (.bipush 8, 2) := by decide +kernel
theorem dModel_look_226 : decode bModel_look 226 = .ok (.if_icmp .le 8, 3) := by decide +kernel
theorem dModel_look_229 : decode bModel_look 229 = .ok (.bipush 11, 2) := by decide +kernel
theorem dModel_look_231 : decode bModel_look 231 = .ok (.goto 4, 3) := by decide +kernel
theorem dModel_look_234 : decode bModel_look 234 = .ok (.iconst 0, 1) := by decide +kernel
theorem dModel_look_235 : decode bModel_look 235 = .ok (.ireturn, 1) := by decide +kernel
theorem dModel_look_236 : decode bModel_look 236 = .ok (.aload_n 0, 1) := by decide +kernel
theorem dModel_look_237 : decode bModel_look 237 = .ok (.iload_n 1, 1) := by decide +kernel
theorem dModel_look_238 : decode bModel_look 238 = .ok (.invokevirtual 151, 3) := by decide +kernel
theorem dModel_look_241 : decode bModel_look 241 = .ok (.ireturn, 1) := by decide +kernel
theorem dModel_look_242 : decode bModel_look 242 = .ok (.iload_n 2, 1) := by decide +kernel
theorem dModel_look_243 : decode bModel_look 243 = .ok (.iconst 1, 1) := by decide +kernel
theorem dModel_look_244 : decode bModel_look 244 = .ok (.if_icmp .ne 22, 3) := by decide +kernel
theorem dModel_look_247 : decode bModel_look 247 = .ok (.aload_n 0, 1) := by decide +kernel
theorem dModel_look_248 : decode bModel_look 248 = .ok (.getfield 17, 3) := by decide +kernel
theorem dModel_look_251 : decode bModel_look 251 = .ok (.iload_n 1, 1) := by decide +kernel
theorem dModel_look_252 : decode bModel_look 252 = .ok (.iaload, 1) := by decide +kernel
theorem dModel_look_253 : decode bModel_look 253 = .ok (.ifCond .lt 13, 3) := by decide +kernel
theorem dModel_look_256 : decode bModel_look 256 = .ok (.aload_n 0, 1) := by decide +kernel
theorem dModel_look_257 : decode bModel_look 257 = .ok (.getfield 17, 3) := by decide +kernel
theorem dModel_look_260 : decode bModel_look 260 = .ok (.iload_n 1, 1) := by decide +kernel
theorem dModel_look_261 : decode bModel_look 261 = .ok (.iaload, 1) := by decide +kernel
theorem dModel_look_262 : decode bModel_look 262 = .ok (.iconst 3, 1) := by decide +kernel
theorem dModel_look_263 : decode bModel_look 263 = .ok (.if_icmp .le 8, 3) := by decide +kernel
theorem dModel_look_266 : decode bModel_look 266 = .ok (.bipush 11, 2) := by decide +kernel
theorem dModel_look_268 : decode bModel_look 268 = .ok (.goto 14, 3) := by decide +kernel
theorem dModel_look_271 : decode bModel_look 271 = .ok (.aload_n 0, 1) := by decide +kernel
theorem dModel_look_272 : decode bModel_look 272 = .ok (.iload_n 1, 1) := by decide +kernel
theorem dModel_look_273 : decode bModel_look 273 = .ok (.aload_n 0, 1) := by decide +kernel
theorem dModel_look_274 : decode bModel_look 274 = .ok (.iload_n 1, 1) := by decide +kernel
theorem dModel_look_275 : decode bModel_look 275 = .ok (.iconst 0, 1) := by decide +kernel
theorem dModel_look_276 : decode bModel_look 276 = .ok (.invokevirtual 154, 3) := by decide +kernel
theorem dModel_look_279 : decode bModel_look 279 = .ok (.invokevirtual 157, 3) := by decide +kernel
theorem dModel_look_282 : decode bModel_look 282 = .ok (.ireturn, 1) := by decide +kernel
theorem dModel_look_283 : decode bModel_look 283 = .ok (.iload_n 2, 1) := by decide +kernel
theorem dModel_look_284 : decode bModel_look 284 = .ok (.iconst 2, 1) := by decide +kernel
theorem dModel_look_285 : decode bModel_look 285 = .ok (.if_icmp .ne 23, 3) := by decide +kernel
theorem dModel_look_288 : decode bModel_look 288 = .ok (.aload_n 0, 1) := by decide +kernel
theorem dModel_look_289 : decode bModel_look 289 = .ok (.getfield 17, 3) := by decide +kernel
theorem dModel_look_292 : decode bModel_look 292 = .ok (.iload_n 1, 1) := by decide +kernel
theorem dModel_look_293 : decode bModel_look 293 = .ok (.iaload, 1) := by decide +kernel
theorem dModel_look_294 : decode bModel_look 294 = .ok (.ifCond .lt 14, 3) := by decide +kernel
theorem dModel_look_297 : decode bModel_look 297 = .ok (.aload_n 0, 1) := by decide +kernel
theorem dModel_look_298 : decode bModel_look 298 = .ok (.getfield 17, 3) := by decide +kernel
theorem dModel_look_301 : decode bModel_look 301 = .ok (.iload_n 1, 1) := by decide +kernel
theorem dModel_look_302 : decode bModel_look 302 = .ok (.iaload, 1) := by decide +kernel
theorem dModel_look_303 : decode bModel_look 303 = .ok (.bipush 20, 2) := by decide +kernel
theorem dModel_look_305 : decode bModel_look 305 = .ok (.if_icmp .le 8, 3) := by decide +kernel
theorem dModel_look_308 : decode bModel_look 308 = .ok (.bipush 11, 2) := by decide +kernel
theorem dModel_look_310 : decode bModel_look 310 = .ok (.goto 20, 3) := by decide +kernel
theorem dModel_look_313 : decode bModel_look 313 = .ok (.aload_n 0, 1) := by decide +kernel
theorem dModel_look_314 : decode bModel_look 314 = .ok (.iload_n 1, 1) := by decide +kernel
theorem dModel_look_315 : decode bModel_look 315 = .ok (.aload_n 0, 1) := by decide +kernel
theorem dModel_look_316 : decode bModel_look 316 = .ok (.iload_n 1, 1) := by decide +kernel
theorem dModel_look_317 : decode bModel_look 317 = .ok (.iconst 1, 1) := by decide +kernel
theorem dModel_look_318 : decode bModel_look 318 = .ok (.invokevirtual 154, 3) := by decide +kernel
theorem dModel_look_321 : decode bModel_look 321 = .ok (.aload_n 0, 1) := by decide +kernel
theorem dModel_look_322 : decode bModel_look 322 = .ok (.iload_n 1, 1) := by decide +kernel
theorem dModel_look_323 : decode bModel_look 323 = .ok (.iconst 0, 1) := by decide +kernel
theorem dModel_look_324 : decode bModel_look 324 = .ok (.invokevirtual 154, 3) := by decide +kernel
theorem dModel_look_327 : decode bModel_look 327 = .ok (.invokevirtual 160, 3) := by decide +kernel
theorem dModel_look_330 : decode bModel_look 330 = .ok (.ireturn, 1) := by decide +kernel
theorem dModel_look_331 : decode bModel_look 331 = .ok (.aload_n 0, 1) := by decide +kernel
theorem dModel_look_332 : decode bModel_look 332 = .ok (.iload_n 1, 1) := by decide +kernel
theorem dModel_look_333 : decode bModel_look 333 = .ok (.invokevirtual 164, 3) := by decide +kernel
theorem dModel_look_336 : decode bModel_look 336 = .ok (.ireturn, 1) := by decide +kernel
theorem dModel_look_337 : decode bModel_look 337 = .ok (.iload_n 2, 1) := by decide +kernel
theorem dModel_look_338 : decode bModel_look 338 = .ok (.iconst 2, 1) := by decide +kernel
theorem dModel_look_339 : decode bModel_look 339 = .ok (.if_icmp .eq 8, 3) := by decide +kernel
theorem dModel_look_342 : decode bModel_look 342 = .ok (.bipush 11, 2) := by decide +kernel
theorem dModel_look_344 : decode bModel_look 344 = .ok (.goto 20, 3) := by decide +kernel
theorem dModel_look_347 : decode bModel_look 347 = .ok (.aload_n 0, 1) := by decide +kernel
theorem dModel_look_348 : decode bModel_look 348 = .ok (.iload_n 1, 1) := by decide +kernel
theorem dModel_look_349 : decode bModel_look 349 = .ok (.aload_n 0, 1) := by decide +kernel
theorem dModel_look_350 : decode bModel_look 350 = .ok (.iload_n 1, 1) := by decide +kernel
theorem dModel_look_351 : decode bModel_look 351 = .ok (.iconst 1, 1) := by decide +kernel
theorem dModel_look_352 : decode bModel_look 352 = .ok (.invokevirtual 154, 3) := by decide +kernel
theorem dModel_look_355 : decode bModel_look 355 = .ok (.aload_n 0, 1) := by decide +kernel
theorem dModel_look_356 : decode bModel_look 356 = .ok (.iload_n 1, 1) := by decide +kernel
theorem dModel_look_357 : decode bModel_look 357 = .ok (.iconst 0, 1) := by decide +kernel
theorem dModel_look_358 : decode bModel_look 358 = .ok (.invokevirtual 154, 3) := by decide +kernel
theorem dModel_look_361 : decode bModel_look 361 = .ok (.invokevirtual 167, 3) := by decide +kernel
theorem dModel_look_364 : decode bModel_look 364 = .ok (.ireturn, 1) := by decide +kernel
theorem dModel_look_365 : decode bModel_look 365 = .ok (.aload_n 0, 1) := by decide +kernel
theorem dModel_look_366 : decode bModel_look 366 = .ok (.iload_n 1, 1) := by decide +kernel
theorem dModel_look_367 : decode bModel_look 367 = .ok (.invokevirtual 170, 3) := by decide +kernel
theorem dModel_look_370 : decode bModel_look 370 = .ok (.ireturn, 1) := by decide +kernel
theorem dModel_look_371 : decode bModel_look 371 = .ok (.bipush 11, 2) := by decide +kernel
theorem dModel_look_373 : decode bModel_look 373 = .ok (.ireturn, 1) := by decide +kernel
theorem dModel_factOfType_0 : decode bModel_factOfType 0 = .ok (.aload_n 0, 1) := by decide +kernel
theorem dModel_factOfType_1 : decode bModel_factOfType 1 = .ok (.iload_n 1, 1) := by decide +kernel
theorem dModel_factOfType_2 : decode bModel_factOfType 2 = .ok (.aload_n 0, 1) := by decide +kernel
theorem dModel_factOfType_3 : decode bModel_factOfType 3 = .ok (.getfield 54, 3) := by decide +kernel
theorem dModel_factOfType_6 : decode bModel_factOfType 6 = .ok (.iload_n 2, 1) := by decide +kernel
theorem dModel_factOfType_7 : decode bModel_factOfType 7 = .ok (.iaload, 1) := by decide +kernel
theorem dModel_factOfType_8 : decode bModel_factOfType 8 = .ok (.aload_n 0, 1) := by decide +kernel
theorem dModel_factOfType_9 : decode bModel_factOfType 9 = .ok (.getfield 54, 3) := by decide +kernel
theorem dModel_factOfType_12 : decode bModel_factOfType 12 = .ok (.iload_n 2, 1) := by decide +kernel
theorem dModel_factOfType_13 : decode bModel_factOfType 13 = .ok (.iaload, 1) := by decide +kernel
theorem dModel_factOfType_14 : decode bModel_factOfType 14 = .ok (.iconst 3, 1) := by decide +kernel
theorem dModel_factOfType_15 : decode bModel_factOfType 15 = .ok (.if_icmp .ne 12, 3) := by decide +kernel
theorem dModel_factOfType_18 : decode bModel_factOfType 18 = .ok (.aload_n 0, 1) := by decide +kernel
theorem dModel_factOfType_19 : decode bModel_factOfType 19 = .ok (.getfield 63, 3) := by decide +kernel
theorem dModel_factOfType_22 : decode bModel_factOfType 22 = .ok (.iload_n 2, 1) := by decide +kernel
theorem dModel_factOfType_23 : decode bModel_factOfType 23 = .ok (.iaload, 1) := by decide +kernel
theorem dModel_factOfType_24 : decode bModel_factOfType 24 = .ok (.goto 18, 3) := by decide +kernel
theorem dModel_factOfType_27 : decode bModel_factOfType 27 = .ok (.aload_n 0, 1) := by decide +kernel
theorem dModel_factOfType_28 : decode bModel_factOfType 28 = .ok (.getfield 54, 3) := by decide +kernel
theorem dModel_factOfType_31 : decode bModel_factOfType 31 = .ok (.iload_n 2, 1) := by decide +kernel
theorem dModel_factOfType_32 : decode bModel_factOfType 32 = .ok (.iaload, 1) := by decide +kernel
theorem dModel_factOfType_33 : decode bModel_factOfType 33 = .ok (.iconst 4, 1) := by decide +kernel
theorem dModel_factOfType_34 : decode bModel_factOfType 34 = .ok (.if_icmp .ne 7, 3) := by decide +kernel
theorem dModel_factOfType_37 : decode bModel_factOfType 37 = .ok (.iload_n 2, 1) := by decide +kernel
theorem dModel_factOfType_38 : decode bModel_factOfType 38 = .ok (.goto 4, 3) := by decide +kernel
theorem dModel_factOfType_41 : decode bModel_factOfType 41 = .ok (.iconst 0, 1) := by decide +kernel
theorem dModel_factOfType_42 : decode bModel_factOfType 42 = .ok (.iconst 0, 1) := by decide +kernel
theorem dModel_factOfType_43 : decode bModel_factOfType 43 = .ok (.invokevirtual 147, 3) := by decide +kernel
theorem dModel_factOfType_46 : decode bModel_factOfType 46 = .ok (.return_, 1) := by decide +kernel
theorem dModel_lookName_0 : decode bModel_lookName 0 = .ok (.aload_n 0, 1) := by decide +kernel
theorem dModel_lookName_1 : decode bModel_lookName 1 = .ok (.aload_n 0, 1) := by decide +kernel
theorem dModel_lookName_2 : decode bModel_lookName 2 = .ok (.getfield 17, 3) := by decide +kernel
theorem dModel_lookName_5 : decode bModel_lookName 5 = .ok (.iload_n 1, 1) := by decide +kernel
theorem dModel_lookName_6 : decode bModel_lookName 6 = .ok (.iaload, 1) := by decide +kernel
theorem dModel_lookName_7 : decode bModel_lookName 7 = .ok (.invokevirtual 173, 3) := by decide +kernel
theorem dModel_lookName_10 : decode bModel_lookName 10 = .ok (.aload_n 0, 1) := by decide +kernel
theorem dModel_lookName_11 : decode bModel_lookName 11 = .ok (.getfield 118, 3) := by decide +kernel
theorem dModel_lookName_14 : decode bModel_lookName 14 = .ok (.iconst 5, 1) := by decide +kernel
theorem dModel_lookName_15 : decode bModel_lookName 15 = .ok (.if_icmp .ne 5, 3) := by decide +kernel
theorem dModel_lookName_18 : decode bModel_lookName 18 = .ok (.iconst 1, 1) := by decide +kernel
theorem dModel_lookName_19 : decode bModel_lookName 19 = .ok (.ireturn, 1) := by decide +kernel
theorem dModel_lookName_20 : decode bModel_lookName 20 = .ok (.aload_n 0, 1) := by decide +kernel
theorem dModel_lookName_21 : decode bModel_lookName 21 = .ok (.getfield 118, 3) := by decide +kernel
theorem dModel_lookName_24 : decode bModel_lookName 24 = .ok (.iconst 1, 1) := by decide +kernel
theorem dModel_lookName_25 : decode bModel_lookName 25 = .ok (.if_icmp .ne 50, 3) := by decide +kernel
theorem dModel_lookName_28 : decode bModel_lookName 28 = .ok (.aload_n 0, 1) := by decide +kernel
theorem dModel_lookName_29 : decode bModel_lookName 29 = .ok (.getfield 121, 3) := by decide +kernel
theorem dModel_lookName_32 : decode bModel_lookName 32 = .ok (.istore_n 2, 1) := by decide +kernel
theorem dModel_lookName_33 : decode bModel_lookName 33 = .ok (.aload_n 0, 1) := by decide +kernel
theorem dModel_lookName_34 : decode bModel_lookName 34 = .ok (.getfield 69, 3) := by decide +kernel
theorem dModel_lookName_37 : decode bModel_lookName 37 = .ok (.iload_n 2, 1) := by decide +kernel
theorem dModel_lookName_38 : decode bModel_lookName 38 = .ok (.iaload, 1) := by decide +kernel
theorem dModel_lookName_39 : decode bModel_lookName 39 = .ok (.ifCond .ne 16, 3) := by decide +kernel
theorem dModel_lookName_42 : decode bModel_lookName 42 = .ok (.aload_n 0, 1) := by decide +kernel
theorem dModel_lookName_43 : decode bModel_lookName 43 = .ok (.sipush 8000, 3) := by decide +kernel
theorem dModel_lookName_46 : decode bModel_lookName 46 = .ok (.iload_n 2, 1) := by decide +kernel
theorem dModel_lookName_47 : decode bModel_lookName 47 = .ok (.iadd, 1) := by decide +kernel
theorem dModel_lookName_48 : decode bModel_lookName 48 = .ok (.iload_n 1, 1) := by decide +kernel
theorem dModel_lookName_49 : decode bModel_lookName 49 = .ok (.invokevirtual 177, 3) := by decide +kernel
theorem dModel_lookName_52 : decode bModel_lookName 52 = .ok (.goto 14, 3) := by decide +kernel
theorem dModel_lookName_55 : decode bModel_lookName 55 = .ok (.aload_n 0, 1) := by decide +kernel
theorem dModel_lookName_56 : decode bModel_lookName 56 = .ok (.iload_n 1, 1) := by decide +kernel
theorem dModel_lookName_57 : decode bModel_lookName 57 = .ok (.aload_n 0, 1) := by decide +kernel
theorem dModel_lookName_58 : decode bModel_lookName 58 = .ok (.getfield 72, 3) := by decide +kernel
theorem dModel_lookName_61 : decode bModel_lookName 61 = .ok (.iload_n 2, 1) := by decide +kernel
theorem dModel_lookName_62 : decode bModel_lookName 62 = .ok (.iaload, 1) := by decide +kernel
theorem dModel_lookName_63 : decode bModel_lookName 63 = .ok (.invokevirtual 181, 3) := by decide +kernel
theorem dModel_lookName_66 : decode bModel_lookName 66 = .ok (.aload_n 0, 1) := by decide +kernel
theorem dModel_lookName_67 : decode bModel_lookName 67 = .ok (.getfield 39, 3) := by decide +kernel
theorem dModel_lookName_70 : decode bModel_lookName 70 = .ok (.iload_n 1, 1) := by decide +kernel
theorem dModel_lookName_71 : decode bModel_lookName 71 = .ok (.iload_n 2, 1) := by decide +kernel
theorem dModel_lookName_72 : decode bModel_lookName 72 = .ok (.iastore, 1) := by decide +kernel
theorem dModel_lookName_73 : decode bModel_lookName 73 = .ok (.iconst 0, 1) := by decide +kernel
theorem dModel_lookName_74 : decode bModel_lookName 74 = .ok (.ireturn, 1) := by decide +kernel
theorem dModel_lookName_75 : decode bModel_lookName 75 = .ok (.aload_n 0, 1) := by decide +kernel
theorem dModel_lookName_76 : decode bModel_lookName 76 = .ok (.getfield 118, 3) := by decide +kernel
theorem dModel_lookName_79 : decode bModel_lookName 79 = .ok (.iconst 2, 1) := by decide +kernel
theorem dModel_lookName_80 : decode bModel_lookName 80 = .ok (.if_icmp .eq 13, 3) := by decide +kernel
theorem dModel_lookName_83 : decode bModel_lookName 83 = .ok (.aload_n 0, 1) := by decide +kernel
theorem dModel_lookName_84 : decode bModel_lookName 84 = .ok (.getfield 118, 3) := by decide +kernel
theorem dModel_lookName_87 : decode bModel_lookName 87 = .ok (.iconst 3, 1) := by decide +kernel
theorem dModel_lookName_88 : decode bModel_lookName 88 = .ok (.if_icmp .eq 5, 3) := by decide +kernel
theorem dModel_lookName_91 : decode bModel_lookName 91 = .ok (.iconst 2, 1) := by decide +kernel
theorem dModel_lookName_92 : decode bModel_lookName 92 = .ok (.ireturn, 1) := by decide +kernel
theorem dModel_lookName_93 : decode bModel_lookName 93 = .ok (.aload_n 0, 1) := by decide +kernel
theorem dModel_lookName_94 : decode bModel_lookName 94 = .ok (.iload_n 1, 1) := by decide +kernel
theorem dModel_lookName_95 : decode bModel_lookName 95 = .ok (.aload_n 0, 1) := by decide +kernel
theorem dModel_lookName_96 : decode bModel_lookName 96 = .ok (.getfield 118, 3) := by decide +kernel
theorem dModel_lookName_99 : decode bModel_lookName 99 = .ok (.iconst 2, 1) := by decide +kernel
theorem dModel_lookName_100 : decode bModel_lookName 100 = .ok (.if_icmp .ne 7, 3) := by decide +kernel
theorem dModel_lookName_103 : decode bModel_lookName 103 = .ok (.iconst 4, 1) := by decide +kernel
theorem dModel_lookName_104 : decode bModel_lookName 104 = .ok (.goto 4, 3) := by decide +kernel
theorem dModel_lookName_107 : decode bModel_lookName 107 = .ok (.iconst 1, 1) := by decide +kernel
theorem dModel_lookName_108 : decode bModel_lookName 108 = .ok (.aload_n 0, 1) := by decide +kernel
theorem dModel_lookName_109 : decode bModel_lookName 109 = .ok (.getfield 118, 3) := by decide +kernel
theorem dModel_lookName_112 : decode bModel_lookName 112 = .ok (.iconst 2, 1) := by decide +kernel
theorem dModel_lookName_113 : decode bModel_lookName 113 = .ok (.if_icmp .ne 10, 3) := by decide +kernel
theorem dModel_lookName_116 : decode bModel_lookName 116 = .ok (.aload_n 0, 1) := by decide +kernel
theorem dModel_lookName_117 : decode bModel_lookName 117 = .ok (.getfield 121, 3) := by decide +kernel
theorem dModel_lookName_120 : decode bModel_lookName 120 = .ok (.goto 4, 3) := by decide +kernel
theorem dModel_lookName_123 : decode bModel_lookName 123 = .ok (.iconst 0, 1) := by decide +kernel
theorem dModel_lookName_124 : decode bModel_lookName 124 = .ok (.iconst 1, 1) := by decide +kernel
theorem dModel_lookName_125 : decode bModel_lookName 125 = .ok (.invokevirtual 147, 3) := by decide +kernel
theorem dModel_lookName_128 : decode bModel_lookName 128 = .ok (.aload_n 0, 1) := by decide +kernel
theorem dModel_lookName_129 : decode bModel_lookName 129 = .ok (.getfield 42, 3) := by decide +kernel
theorem dModel_lookName_132 : decode bModel_lookName 132 = .ok (.iload_n 1, 1) := by decide +kernel
theorem dModel_lookName_133 : decode bModel_lookName 133 = .ok (.aload_n 0, 1) := by decide +kernel
theorem dModel_lookName_134 : decode bModel_lookName 134 = .ok (.getfield 118, 3) := by decide +kernel
theorem dModel_lookName_137 : decode bModel_lookName 137 = .ok (.iconst 2, 1) := by decide +kernel
theorem dModel_lookName_138 : decode bModel_lookName 138 = .ok (.if_icmp .ne 11, 3) := by decide +kernel
theorem dModel_lookName_141 : decode bModel_lookName 141 = .ok (.aload_n 0, 1) := by decide +kernel
theorem dModel_lookName_142 : decode bModel_lookName 142 = .ok (.getfield 124, 3) := by decide +kernel
theorem dModel_lookName_145 : decode bModel_lookName 145 = .ok (.i2l, 1) := by decide +kernel
theorem dModel_lookName_146 : decode bModel_lookName 146 = .ok (.goto 17, 3) := by decide +kernel
theorem dModel_lookName_149 : decode bModel_lookName 149 = .ok (.aload_n 0, 1) := by decide +kernel
theorem dModel_lookName_150 : decode bModel_lookName 150 = .ok (.getfield 121, 3) := by decide +kernel
theorem dModel_lookName_153 : decode bModel_lookName 153 = .ok (.bipush 6, 2) := by decide +kernel
theorem dModel_lookName_155 : decode bModel_lookName 155 = .ok (.if_icmp .ne 7, 3) := by decide +kernel
theorem dModel_lookName_158 : decode bModel_lookName 158 = .ok (.lconst 1, 1) := by decide +kernel
theorem dModel_lookName_159 : decode bModel_lookName 159 = .ok (.goto 4, 3) := by decide +kernel
theorem dModel_lookName_162 : decode bModel_lookName 162 = .ok (.lconst 0, 1) := by decide +kernel
theorem dModel_lookName_163 : decode bModel_lookName 163 = .ok (.lastore, 1) := by decide +kernel
theorem dModel_lookName_164 : decode bModel_lookName 164 = .ok (.aload_n 0, 1) := by decide +kernel
theorem dModel_lookName_165 : decode bModel_lookName 165 = .ok (.getfield 39, 3) := by decide +kernel
theorem dModel_lookName_168 : decode bModel_lookName 168 = .ok (.iload_n 1, 1) := by decide +kernel
theorem dModel_lookName_169 : decode bModel_lookName 169 = .ok (.sipush 2000, 3) := by decide +kernel
theorem dModel_lookName_172 : decode bModel_lookName 172 = .ok (.iastore, 1) := by decide +kernel
theorem dModel_lookName_173 : decode bModel_lookName 173 = .ok (.iconst 0, 1) := by decide +kernel
theorem dModel_lookName_174 : decode bModel_lookName 174 = .ok (.ireturn, 1) := by decide +kernel
theorem dModel_lookRow_0 : decode bModel_lookRow 0 = .ok (.aload_n 0, 1) := by decide +kernel
theorem dModel_lookRow_1 : decode bModel_lookRow 1 = .ok (.getfield 20, 3) := by decide +kernel
theorem dModel_lookRow_4 : decode bModel_lookRow 4 = .ok (.iload_n 1, 1) := by decide +kernel
theorem dModel_lookRow_5 : decode bModel_lookRow 5 = .ok (.iaload, 1) := by decide +kernel
theorem dModel_lookRow_6 : decode bModel_lookRow 6 = .ok (.istore_n 2, 1) := by decide +kernel
theorem dModel_lookRow_7 : decode bModel_lookRow 7 = .ok (.iload_n 2, 1) := by decide +kernel
theorem dModel_lookRow_8 : decode bModel_lookRow 8 = .ok (.iconst 1, 1) := by decide +kernel
theorem dModel_lookRow_9 : decode bModel_lookRow 9 = .ok (.if_icmp .lt 13, 3) := by decide +kernel
theorem dModel_lookRow_12 : decode bModel_lookRow 12 = .ok (.iload_n 2, 1) := by decide +kernel
theorem dModel_lookRow_13 : decode bModel_lookRow 13 = .ok (.bipush 64, 2) := by decide +kernel
theorem dModel_lookRow_15 : decode bModel_lookRow 15 = .ok (.if_icmp .gt 7, 3) := by decide +kernel
theorem dModel_lookRow_18 : decode bModel_lookRow 18 = .ok (.iconst 1, 1) := by decide +kernel
theorem dModel_lookRow_19 : decode bModel_lookRow 19 = .ok (.goto 4, 3) := by decide +kernel
theorem dModel_lookRow_22 : decode bModel_lookRow 22 = .ok (.iconst 0, 1) := by decide +kernel
theorem dModel_lookRow_23 : decode bModel_lookRow 23 = .ok (.istore_n 3, 1) := by decide +kernel
theorem dModel_lookRow_24 : decode bModel_lookRow 24 = .ok (.iconst 0, 1) := by decide +kernel
theorem dModel_lookRow_25 : decode bModel_lookRow 25 = .ok (.istore 4, 2) := by decide +kernel
theorem dModel_lookRow_27 : decode bModel_lookRow 27 = .ok (.iload 4, 2) := by decide +kernel
theorem dModel_lookRow_29 : decode bModel_lookRow 29 = .ok (.iload_n 2, 1) := by decide +kernel
theorem dModel_lookRow_30 : decode bModel_lookRow 30 = .ok (.if_icmp .ge 50, 3) := by decide +kernel
theorem dModel_lookRow_33 : decode bModel_lookRow 33 = .ok (.iload_n 3, 1) := by decide +kernel
theorem dModel_lookRow_34 : decode bModel_lookRow 34 = .ok (.ifCond .eq 46, 3) := by decide +kernel
theorem dModel_lookRow_37 : decode bModel_lookRow 37 = .ok (.aload_n 0, 1) := by decide +kernel
theorem dModel_lookRow_38 : decode bModel_lookRow 38 = .ok (.getfield 13, 3) := by decide +kernel
theorem dModel_lookRow_41 : decode bModel_lookRow 41 = .ok (.aload_n 0, 1) := by decide +kernel
theorem dModel_lookRow_42 : decode bModel_lookRow 42 = .ok (.iload_n 1, 1) := by decide +kernel
theorem dModel_lookRow_43 : decode bModel_lookRow 43 = .ok (.iload 4, 2) := by decide +kernel
theorem dModel_lookRow_45 : decode bModel_lookRow 45 = .ok (.invokevirtual 154, 3) := by decide +kernel
theorem dModel_lookRow_48 : decode bModel_lookRow 48 = .ok (.iaload, 1) := by decide +kernel
theorem dModel_lookRow_49 : decode bModel_lookRow 49 = .ok (.iconst 3, 1) := by decide +kernel
theorem dModel_lookRow_50 : decode bModel_lookRow 50 = .ok (.if_icmp .ne 22, 3) := by decide +kernel
theorem dModel_lookRow_53 : decode bModel_lookRow 53 = .ok (.aload_n 0, 1) := by decide +kernel
theorem dModel_lookRow_54 : decode bModel_lookRow 54 = .ok (.getfield 20, 3) := by decide +kernel
theorem dModel_lookRow_57 : decode bModel_lookRow 57 = .ok (.aload_n 0, 1) := by decide +kernel
theorem dModel_lookRow_58 : decode bModel_lookRow 58 = .ok (.iload_n 1, 1) := by decide +kernel
theorem dModel_lookRow_59 : decode bModel_lookRow 59 = .ok (.iload 4, 2) := by decide +kernel
theorem dModel_lookRow_61 : decode bModel_lookRow 61 = .ok (.invokevirtual 154, 3) := by decide +kernel
theorem dModel_lookRow_64 : decode bModel_lookRow 64 = .ok (.iaload, 1) := by decide +kernel
theorem dModel_lookRow_65 : decode bModel_lookRow 65 = .ok (.ifCond .ne 7, 3) := by decide +kernel
theorem dModel_lookRow_68 : decode bModel_lookRow 68 = .ok (.iconst 1, 1) := by decide +kernel
theorem dModel_lookRow_69 : decode bModel_lookRow 69 = .ok (.goto 4, 3) := by decide +kernel
theorem dModel_lookRow_72 : decode bModel_lookRow 72 = .ok (.iconst 0, 1) := by decide +kernel
theorem dModel_lookRow_73 : decode bModel_lookRow 73 = .ok (.istore_n 3, 1) := by decide +kernel
theorem dModel_lookRow_74 : decode bModel_lookRow 74 = .ok (.iinc 4 1, 3) := by decide +kernel
theorem dModel_lookRow_77 : decode bModel_lookRow 77 = .ok (.goto (-50), 3) := by decide +kernel
theorem dModel_lookRow_80 : decode bModel_lookRow 80 = .ok (.iload_n 3, 1) := by decide +kernel
theorem dModel_lookRow_81 : decode bModel_lookRow 81 = .ok (.ifCond .ne 6, 3) := by decide +kernel
theorem dModel_lookRow_84 : decode bModel_lookRow 84 = .ok (.bipush 11, 2) := by decide +kernel
theorem dModel_lookRow_86 : decode bModel_lookRow 86 = .ok (.ireturn, 1) := by decide +kernel
theorem dModel_lookRow_87 : decode bModel_lookRow 87 = .ok (.aload_n 0, 1) := by decide +kernel
theorem dModel_lookRow_88 : decode bModel_lookRow 88 = .ok (.iload_n 1, 1) := by decide +kernel
theorem dModel_lookRow_89 : decode bModel_lookRow 89 = .ok (.iconst 3, 1) := by decide +kernel
theorem dModel_lookRow_90 : decode bModel_lookRow 90 = .ok (.iload_n 2, 1) := by decide +kernel
theorem dModel_lookRow_91 : decode bModel_lookRow 91 = .ok (.iconst 1, 1) := by decide +kernel
theorem dModel_lookRow_92 : decode bModel_lookRow 92 = .ok (.invokevirtual 147, 3) := by decide +kernel
theorem dModel_lookRow_95 : decode bModel_lookRow 95 = .ok (.iconst 0, 1) := by decide +kernel
theorem dModel_lookRow_96 : decode bModel_lookRow 96 = .ok (.istore 4, 2) := by decide +kernel
theorem dModel_lookRow_98 : decode bModel_lookRow 98 = .ok (.iload 4, 2) := by decide +kernel
theorem dModel_lookRow_100 : decode bModel_lookRow 100 = .ok (.iload_n 2, 1) := by decide +kernel
theorem dModel_lookRow_101 : decode bModel_lookRow 101 = .ok (.if_icmp .ge 28, 3) := by decide +kernel
theorem dModel_lookRow_104 : decode bModel_lookRow 104 = .ok (.aload_n 0, 1) := by decide +kernel
theorem dModel_lookRow_105 : decode bModel_lookRow 105 = .ok (.iload_n 1, 1) := by decide +kernel
theorem dModel_lookRow_106 : decode bModel_lookRow 106 = .ok (.iload 4, 2) := by decide +kernel
theorem dModel_lookRow_108 : decode bModel_lookRow 108 = .ok (.aload_n 0, 1) := by decide +kernel
theorem dModel_lookRow_109 : decode bModel_lookRow 109 = .ok (.getfield 17, 3) := by decide +kernel
theorem dModel_lookRow_112 : decode bModel_lookRow 112 = .ok (.aload_n 0, 1) := by decide +kernel
theorem dModel_lookRow_113 : decode bModel_lookRow 113 = .ok (.iload_n 1, 1) := by decide +kernel
theorem dModel_lookRow_114 : decode bModel_lookRow 114 = .ok (.iload 4, 2) := by decide +kernel
theorem dModel_lookRow_116 : decode bModel_lookRow 116 = .ok (.invokevirtual 154, 3) := by decide +kernel
theorem dModel_lookRow_119 : decode bModel_lookRow 119 = .ok (.iaload, 1) := by decide +kernel
theorem dModel_lookRow_120 : decode bModel_lookRow 120 = .ok (.invokevirtual 127, 3) := by decide +kernel
theorem dModel_lookRow_123 : decode bModel_lookRow 123 = .ok (.iinc 4 1, 3) := by decide +kernel
theorem dModel_lookRow_126 : decode bModel_lookRow 126 = .ok (.goto (-28), 3) := by decide +kernel
theorem dModel_lookRow_129 : decode bModel_lookRow 129 = .ok (.iconst 0, 1) := by decide +kernel
theorem dModel_lookRow_130 : decode bModel_lookRow 130 = .ok (.ireturn, 1) := by decide +kernel
theorem dModel_not_0 : decode bModel_not 0 = .ok (.iload_n 0, 1) := by decide +kernel
theorem dModel_not_1 : decode bModel_not 1 = .ok (.ifCond .ne 7, 3) := by decide +kernel
theorem dModel_not_4 : decode bModel_not 4 = .ok (.iconst 0, 1) := by decide +kernel
theorem dModel_not_5 : decode bModel_not 5 = .ok (.goto 26, 3) := by decide +kernel
theorem dModel_not_8 : decode bModel_not 8 = .ok (.iload_n 0, 1) := by decide +kernel
theorem dModel_not_9 : decode bModel_not 9 = .ok (.invokestatic 135, 3) := by decide +kernel
theorem dModel_not_12 : decode bModel_not 12 = .ok (.ifCond .eq 7, 3) := by decide +kernel
theorem dModel_not_15 : decode bModel_not 15 = .ok (.iconst 3, 1) := by decide +kernel
theorem dModel_not_16 : decode bModel_not 16 = .ok (.goto 15, 3) := by decide +kernel
theorem dModel_not_19 : decode bModel_not 19 = .ok (.iload_n 0, 1) := by decide +kernel
theorem dModel_not_20 : decode bModel_not 20 = .ok (.invokestatic 138, 3) := by decide +kernel
theorem dModel_not_23 : decode bModel_not 23 = .ok (.ifCond .eq 7, 3) := by decide +kernel
theorem dModel_not_26 : decode bModel_not 26 = .ok (.iconst 2, 1) := by decide +kernel
theorem dModel_not_27 : decode bModel_not 27 = .ok (.goto 4, 3) := by decide +kernel
theorem dModel_not_30 : decode bModel_not 30 = .ok (.iconst 1, 1) := by decide +kernel
theorem dModel_not_31 : decode bModel_not 31 = .ok (.ireturn, 1) := by decide +kernel
theorem dModel_join_0 : decode bModel_join 0 = .ok (.iload_n 0, 1) := by decide +kernel
theorem dModel_join_1 : decode bModel_join 1 = .ok (.ifCond .ne 53, 3) := by decide +kernel
theorem dModel_join_4 : decode bModel_join 4 = .ok (.iload_n 1, 1) := by decide +kernel
theorem dModel_join_5 : decode bModel_join 5 = .ok (.invokestatic 135, 3) := by decide +kernel
theorem dModel_join_8 : decode bModel_join 8 = .ok (.ifCond .ne 10, 3) := by decide +kernel
theorem dModel_join_11 : decode bModel_join 11 = .ok (.iload_n 2, 1) := by decide +kernel
theorem dModel_join_12 : decode bModel_join 12 = .ok (.invokestatic 135, 3) := by decide +kernel
theorem dModel_join_15 : decode bModel_join 15 = .ok (.ifCond .eq 7, 3) := by decide +kernel
theorem dModel_join_18 : decode bModel_join 18 = .ok (.iconst 2, 1) := by decide +kernel
theorem dModel_join_19 : decode bModel_join 19 = .ok (.goto 34, 3) := by decide +kernel
theorem dModel_join_22 : decode bModel_join 22 = .ok (.iload_n 1, 1) := by decide +kernel
theorem dModel_join_23 : decode bModel_join 23 = .ok (.ifCond .eq 7, 3) := by decide +kernel
theorem dModel_join_26 : decode bModel_join 26 = .ok (.iload_n 2, 1) := by decide +kernel
theorem dModel_join_27 : decode bModel_join 27 = .ok (.ifCond .ne 7, 3) := by decide +kernel
theorem dModel_join_30 : decode bModel_join 30 = .ok (.iconst 0, 1) := by decide +kernel
theorem dModel_join_31 : decode bModel_join 31 = .ok (.goto 22, 3) := by decide +kernel
theorem dModel_join_34 : decode bModel_join 34 = .ok (.iload_n 1, 1) := by decide +kernel
theorem dModel_join_35 : decode bModel_join 35 = .ok (.invokestatic 138, 3) := by decide +kernel
theorem dModel_join_38 : decode bModel_join 38 = .ok (.ifCond .eq 14, 3) := by decide +kernel
theorem dModel_join_41 : decode bModel_join 41 = .ok (.iload_n 2, 1) := by decide +kernel
theorem dModel_join_42 : decode bModel_join 42 = .ok (.invokestatic 138, 3) := by decide +kernel
theorem dModel_join_45 : decode bModel_join 45 = .ok (.ifCond .eq 7, 3) := by decide +kernel
theorem dModel_join_48 : decode bModel_join 48 = .ok (.iconst 3, 1) := by decide +kernel
theorem dModel_join_49 : decode bModel_join 49 = .ok (.goto 4, 3) := by decide +kernel
theorem dModel_join_52 : decode bModel_join 52 = .ok (.iconst 1, 1) := by decide +kernel
theorem dModel_join_53 : decode bModel_join 53 = .ok (.ireturn, 1) := by decide +kernel
theorem dModel_join_54 : decode bModel_join 54 = .ok (.iload_n 0, 1) := by decide +kernel
theorem dModel_join_55 : decode bModel_join 55 = .ok (.iconst 1, 1) := by decide +kernel
theorem dModel_join_56 : decode bModel_join 56 = .ok (.if_icmp .ne 53, 3) := by decide +kernel
theorem dModel_join_59 : decode bModel_join 59 = .ok (.iload_n 1, 1) := by decide +kernel
theorem dModel_join_60 : decode bModel_join 60 = .ok (.invokestatic 138, 3) := by decide +kernel
theorem dModel_join_63 : decode bModel_join 63 = .ok (.ifCond .ne 10, 3) := by decide +kernel
theorem dModel_join_66 : decode bModel_join 66 = .ok (.iload_n 2, 1) := by decide +kernel
theorem dModel_join_67 : decode bModel_join 67 = .ok (.invokestatic 138, 3) := by decide +kernel
theorem dModel_join_70 : decode bModel_join 70 = .ok (.ifCond .eq 7, 3) := by decide +kernel
theorem dModel_join_73 : decode bModel_join 73 = .ok (.iconst 3, 1) := by decide +kernel
theorem dModel_join_74 : decode bModel_join 74 = .ok (.goto 34, 3) := by decide +kernel
theorem dModel_join_77 : decode bModel_join 77 = .ok (.iload_n 1, 1) := by decide +kernel
theorem dModel_join_78 : decode bModel_join 78 = .ok (.ifCond .eq 7, 3) := by decide +kernel
theorem dModel_join_81 : decode bModel_join 81 = .ok (.iload_n 2, 1) := by decide +kernel
theorem dModel_join_82 : decode bModel_join 82 = .ok (.ifCond .ne 7, 3) := by decide +kernel
theorem dModel_join_85 : decode bModel_join 85 = .ok (.iconst 0, 1) := by decide +kernel
theorem dModel_join_86 : decode bModel_join 86 = .ok (.goto 22, 3) := by decide +kernel
theorem dModel_join_89 : decode bModel_join 89 = .ok (.iload_n 1, 1) := by decide +kernel
theorem dModel_join_90 : decode bModel_join 90 = .ok (.invokestatic 135, 3) := by decide +kernel
theorem dModel_join_93 : decode bModel_join 93 = .ok (.ifCond .eq 14, 3) := by decide +kernel
theorem dModel_join_96 : decode bModel_join 96 = .ok (.iload_n 2, 1) := by decide +kernel
theorem dModel_join_97 : decode bModel_join 97 = .ok (.invokestatic 135, 3) := by decide +kernel
theorem dModel_join_100 : decode bModel_join 100 = .ok (.ifCond .eq 7, 3) := by decide +kernel
theorem dModel_join_103 : decode bModel_join 103 = .ok (.iconst 2, 1) := by decide +kernel
theorem dModel_join_104 : decode bModel_join 104 = .ok (.goto 4, 3) := by decide +kernel
theorem dModel_join_107 : decode bModel_join 107 = .ok (.iconst 1, 1) := by decide +kernel
theorem dModel_join_108 : decode bModel_join 108 = .ok (.ireturn, 1) := by decide +kernel
theorem dModel_join_109 : decode bModel_join 109 = .ok (.iload_n 1, 1) := by decide +kernel
theorem dModel_join_110 : decode bModel_join 110 = .ok (.ifCond .eq 7, 3) := by decide +kernel
theorem dModel_join_113 : decode bModel_join 113 = .ok (.iload_n 2, 1) := by decide +kernel
theorem dModel_join_114 : decode bModel_join 114 = .ok (.ifCond .ne 5, 3) := by decide +kernel
theorem dModel_join_117 : decode bModel_join 117 = .ok (.iconst 0, 1) := by decide +kernel
theorem dModel_join_118 : decode bModel_join 118 = .ok (.ireturn, 1) := by decide +kernel
theorem dModel_join_119 : decode bModel_join 119 = .ok (.iload_n 1, 1) := by decide +kernel
theorem dModel_join_120 : decode bModel_join 120 = .ok (.invokestatic 135, 3) := by decide +kernel
theorem dModel_join_123 : decode bModel_join 123 = .ok (.ifCond .ne 10, 3) := by decide +kernel
theorem dModel_join_126 : decode bModel_join 126 = .ok (.iload_n 1, 1) := by decide +kernel
theorem dModel_join_127 : decode bModel_join 127 = .ok (.invokestatic 138, 3) := by decide +kernel
theorem dModel_join_130 : decode bModel_join 130 = .ok (.ifCond .eq 21, 3) := by decide +kernel
theorem dModel_join_133 : decode bModel_join 133 = .ok (.iload_n 2, 1) := by decide +kernel
theorem dModel_join_134 : decode bModel_join 134 = .ok (.invokestatic 135, 3) := by decide +kernel
theorem dModel_join_137 : decode bModel_join 137 = .ok (.ifCond .ne 10, 3) := by decide +kernel
theorem dModel_join_140 : decode bModel_join 140 = .ok (.iload_n 2, 1) := by decide +kernel
theorem dModel_join_141 : decode bModel_join 141 = .ok (.invokestatic 138, 3) := by decide +kernel
theorem dModel_join_144 : decode bModel_join 144 = .ok (.ifCond .eq 7, 3) := by decide +kernel
theorem dModel_join_147 : decode bModel_join 147 = .ok (.iconst 1, 1) := by decide +kernel
theorem dModel_join_148 : decode bModel_join 148 = .ok (.goto 4, 3) := by decide +kernel
theorem dModel_join_151 : decode bModel_join 151 = .ok (.iconst 0, 1) := by decide +kernel
theorem dModel_join_152 : decode bModel_join 152 = .ok (.istore_n 3, 1) := by decide +kernel
theorem dModel_join_153 : decode bModel_join 153 = .ok (.iload_n 3, 1) := by decide +kernel
theorem dModel_join_154 : decode bModel_join 154 = .ok (.ifCond .ne 7, 3) := by decide +kernel
theorem dModel_join_157 : decode bModel_join 157 = .ok (.iconst 1, 1) := by decide +kernel
theorem dModel_join_158 : decode bModel_join 158 = .ok (.goto 19, 3) := by decide +kernel
theorem dModel_join_161 : decode bModel_join 161 = .ok (.iload_n 1, 1) := by decide +kernel
theorem dModel_join_162 : decode bModel_join 162 = .ok (.invokestatic 138, 3) := by decide +kernel
theorem dModel_join_165 : decode bModel_join 165 = .ok (.iload_n 2, 1) := by decide +kernel
theorem dModel_join_166 : decode bModel_join 166 = .ok (.invokestatic 138, 3) := by decide +kernel
theorem dModel_join_169 : decode bModel_join 169 = .ok (.if_icmp .ne 7, 3) := by decide +kernel
theorem dModel_join_172 : decode bModel_join 172 = .ok (.iconst 2, 1) := by decide +kernel
theorem dModel_join_173 : decode bModel_join 173 = .ok (.goto 4, 3) := by decide +kernel
theorem dModel_join_176 : decode bModel_join 176 = .ok (.iconst 3, 1) := by decide +kernel
theorem dModel_join_177 : decode bModel_join 177 = .ok (.ireturn, 1) := by decide +kernel
theorem dModel_logic_0 : decode bModel_logic 0 = .ok (.iload_n 0, 1) := by decide +kernel
theorem dModel_logic_1 : decode bModel_logic 1 = .ok (.iconst 2, 1) := by decide +kernel
theorem dModel_logic_2 : decode bModel_logic 2 = .ok (.if_icmp .ne 7, 3) := by decide +kernel
theorem dModel_logic_5 : decode bModel_logic 5 = .ok (.iconst 0, 1) := by decide +kernel
theorem dModel_logic_6 : decode bModel_logic 6 = .ok (.goto 22, 3) := by decide +kernel
theorem dModel_logic_9 : decode bModel_logic 9 = .ok (.iload_n 0, 1) := by decide +kernel
theorem dModel_logic_10 : decode bModel_logic 10 = .ok (.iconst 3, 1) := by decide +kernel
theorem dModel_logic_11 : decode bModel_logic 11 = .ok (.if_icmp .ne 7, 3) := by decide +kernel
theorem dModel_logic_14 : decode bModel_logic 14 = .ok (.iconst 1, 1) := by decide +kernel
theorem dModel_logic_15 : decode bModel_logic 15 = .ok (.goto 13, 3) := by decide +kernel
theorem dModel_logic_18 : decode bModel_logic 18 = .ok (.iload_n 0, 1) := by decide +kernel
theorem dModel_logic_19 : decode bModel_logic 19 = .ok (.iconst 5, 1) := by decide +kernel
theorem dModel_logic_20 : decode bModel_logic 20 = .ok (.if_icmp .ne 7, 3) := by decide +kernel
theorem dModel_logic_23 : decode bModel_logic 23 = .ok (.iconst 4, 1) := by decide +kernel
theorem dModel_logic_24 : decode bModel_logic 24 = .ok (.goto 4, 3) := by decide +kernel
theorem dModel_logic_27 : decode bModel_logic 27 = .ok (.iload_n 0, 1) := by decide +kernel
theorem dModel_logic_28 : decode bModel_logic 28 = .ok (.iload_n 1, 1) := by decide +kernel
theorem dModel_logic_29 : decode bModel_logic 29 = .ok (.iload_n 2, 1) := by decide +kernel
theorem dModel_logic_30 : decode bModel_logic 30 = .ok (.invokestatic 184, 3) := by decide +kernel
theorem dModel_logic_33 : decode bModel_logic 33 = .ok (.istore_n 3, 1) := by decide +kernel
theorem dModel_logic_34 : decode bModel_logic 34 = .ok (.iload_n 0, 1) := by decide +kernel
theorem dModel_logic_35 : decode bModel_logic 35 = .ok (.iconst 2, 1) := by decide +kernel
theorem dModel_logic_36 : decode bModel_logic 36 = .ok (.if_icmp .eq 13, 3) := by decide +kernel
theorem dModel_logic_39 : decode bModel_logic 39 = .ok (.iload_n 0, 1) := by decide +kernel
theorem dModel_logic_40 : decode bModel_logic 40 = .ok (.iconst 3, 1) := by decide +kernel
theorem dModel_logic_41 : decode bModel_logic 41 = .ok (.if_icmp .eq 8, 3) := by decide +kernel
theorem dModel_logic_44 : decode bModel_logic 44 = .ok (.iload_n 0, 1) := by decide +kernel
theorem dModel_logic_45 : decode bModel_logic 45 = .ok (.iconst 5, 1) := by decide +kernel
theorem dModel_logic_46 : decode bModel_logic 46 = .ok (.if_icmp .ne 10, 3) := by decide +kernel
theorem dModel_logic_49 : decode bModel_logic 49 = .ok (.iload_n 3, 1) := by decide +kernel
theorem dModel_logic_50 : decode bModel_logic 50 = .ok (.invokestatic 187, 3) := by decide +kernel
theorem dModel_logic_53 : decode bModel_logic 53 = .ok (.goto 4, 3) := by decide +kernel
theorem dModel_logic_56 : decode bModel_logic 56 = .ok (.iload_n 3, 1) := by decide +kernel
theorem dModel_logic_57 : decode bModel_logic 57 = .ok (.ireturn, 1) := by decide +kernel
theorem dModel_truth_0 : decode bModel_truth 0 = .ok (.iload_n 0, 1) := by decide +kernel
theorem dModel_truth_1 : decode bModel_truth 1 = .ok (.ifCond .eq 8, 3) := by decide +kernel
theorem dModel_truth_4 : decode bModel_truth 4 = .ok (.iload_n 0, 1) := by decide +kernel
theorem dModel_truth_5 : decode bModel_truth 5 = .ok (.iconst 2, 1) := by decide +kernel
theorem dModel_truth_6 : decode bModel_truth 6 = .ok (.if_icmp .ne 19, 3) := by decide +kernel
theorem dModel_truth_9 : decode bModel_truth 9 = .ok (.iload_n 1, 1) := by decide +kernel
theorem dModel_truth_10 : decode bModel_truth 10 = .ok (.ifCond .eq 11, 3) := by decide +kernel
theorem dModel_truth_13 : decode bModel_truth 13 = .ok (.iload_n 2, 1) := by decide +kernel
theorem dModel_truth_14 : decode bModel_truth 14 = .ok (.ifCond .eq 7, 3) := by decide +kernel
theorem dModel_truth_17 : decode bModel_truth 17 = .ok (.iconst 1, 1) := by decide +kernel
theorem dModel_truth_18 : decode bModel_truth 18 = .ok (.goto 43, 3) := by decide +kernel
theorem dModel_truth_21 : decode bModel_truth 21 = .ok (.iconst 0, 1) := by decide +kernel
theorem dModel_truth_22 : decode bModel_truth 22 = .ok (.goto 39, 3) := by decide +kernel
theorem dModel_truth_25 : decode bModel_truth 25 = .ok (.iload_n 0, 1) := by decide +kernel
theorem dModel_truth_26 : decode bModel_truth 26 = .ok (.iconst 1, 1) := by decide +kernel
theorem dModel_truth_27 : decode bModel_truth 27 = .ok (.if_icmp .eq 8, 3) := by decide +kernel
theorem dModel_truth_30 : decode bModel_truth 30 = .ok (.iload_n 0, 1) := by decide +kernel
theorem dModel_truth_31 : decode bModel_truth 31 = .ok (.iconst 3, 1) := by decide +kernel
theorem dModel_truth_32 : decode bModel_truth 32 = .ok (.if_icmp .ne 19, 3) := by decide +kernel
theorem dModel_truth_35 : decode bModel_truth 35 = .ok (.iload_n 1, 1) := by decide +kernel
theorem dModel_truth_36 : decode bModel_truth 36 = .ok (.ifCond .ne 7, 3) := by decide +kernel
theorem dModel_truth_39 : decode bModel_truth 39 = .ok (.iload_n 2, 1) := by decide +kernel
theorem dModel_truth_40 : decode bModel_truth 40 = .ok (.ifCond .eq 7, 3) := by decide +kernel
theorem dModel_truth_43 : decode bModel_truth 43 = .ok (.iconst 1, 1) := by decide +kernel
theorem dModel_truth_44 : decode bModel_truth 44 = .ok (.goto 17, 3) := by decide +kernel
theorem dModel_truth_47 : decode bModel_truth 47 = .ok (.iconst 0, 1) := by decide +kernel
theorem dModel_truth_48 : decode bModel_truth 48 = .ok (.goto 13, 3) := by decide +kernel
theorem dModel_truth_51 : decode bModel_truth 51 = .ok (.iload_n 1, 1) := by decide +kernel
theorem dModel_truth_52 : decode bModel_truth 52 = .ok (.iload_n 2, 1) := by decide +kernel
theorem dModel_truth_53 : decode bModel_truth 53 = .ok (.if_icmp .eq 7, 3) := by decide +kernel
theorem dModel_truth_56 : decode bModel_truth 56 = .ok (.iconst 1, 1) := by decide +kernel
theorem dModel_truth_57 : decode bModel_truth 57 = .ok (.goto 4, 3) := by decide +kernel
theorem dModel_truth_60 : decode bModel_truth 60 = .ok (.iconst 0, 1) := by decide +kernel
theorem dModel_truth_61 : decode bModel_truth 61 = .ok (.istore_n 3, 1) := by decide +kernel
theorem dModel_truth_62 : decode bModel_truth 62 = .ok (.iload_n 0, 1) := by decide +kernel
theorem dModel_truth_63 : decode bModel_truth 63 = .ok (.iconst 2, 1) := by decide +kernel
theorem dModel_truth_64 : decode bModel_truth 64 = .ok (.if_icmp .eq 13, 3) := by decide +kernel
theorem dModel_truth_67 : decode bModel_truth 67 = .ok (.iload_n 0, 1) := by decide +kernel
theorem dModel_truth_68 : decode bModel_truth 68 = .ok (.iconst 3, 1) := by decide +kernel
theorem dModel_truth_69 : decode bModel_truth 69 = .ok (.if_icmp .eq 8, 3) := by decide +kernel
theorem dModel_truth_72 : decode bModel_truth 72 = .ok (.iload_n 0, 1) := by decide +kernel
theorem dModel_truth_73 : decode bModel_truth 73 = .ok (.iconst 5, 1) := by decide +kernel
theorem dModel_truth_74 : decode bModel_truth 74 = .ok (.if_icmp .ne 7, 3) := by decide +kernel
theorem dModel_truth_77 : decode bModel_truth 77 = .ok (.iconst 1, 1) := by decide +kernel
theorem dModel_truth_78 : decode bModel_truth 78 = .ok (.goto 4, 3) := by decide +kernel
theorem dModel_truth_81 : decode bModel_truth 81 = .ok (.iconst 0, 1) := by decide +kernel
theorem dModel_truth_82 : decode bModel_truth 82 = .ok (.iload_n 3, 1) := by decide +kernel
theorem dModel_truth_83 : decode bModel_truth 83 = .ok (.if_icmp .eq 7, 3) := by decide +kernel
theorem dModel_truth_86 : decode bModel_truth 86 = .ok (.iconst 1, 1) := by decide +kernel
theorem dModel_truth_87 : decode bModel_truth 87 = .ok (.goto 4, 3) := by decide +kernel
theorem dModel_truth_90 : decode bModel_truth 90 = .ok (.iconst 0, 1) := by decide +kernel
theorem dModel_truth_91 : decode bModel_truth 91 = .ok (.ireturn, 1) := by decide +kernel
theorem dModel_known_0 : decode bModel_known 0 = .ok (.aload_n 0, 1) := by decide +kernel
theorem dModel_known_1 : decode bModel_known 1 = .ok (.getfield 35, 3) := by decide +kernel
theorem dModel_known_4 : decode bModel_known 4 = .ok (.iload_n 1, 1) := by decide +kernel
theorem dModel_known_5 : decode bModel_known 5 = .ok (.baload, 1) := by decide +kernel
theorem dModel_known_6 : decode bModel_known 6 = .ok (.ifCond .ne 31, 3) := by decide +kernel
theorem dModel_known_9 : decode bModel_known 9 = .ok (.aload_n 0, 1) := by decide +kernel
theorem dModel_known_10 : decode bModel_known 10 = .ok (.getfield 42, 3) := by decide +kernel
theorem dModel_known_13 : decode bModel_known 13 = .ok (.iload_n 1, 1) := by decide +kernel
theorem dModel_known_14 : decode bModel_known 14 = .ok (.lconst 0, 1) := by decide +kernel
theorem dModel_known_15 : decode bModel_known 15 = .ok (.lastore, 1) := by decide +kernel
theorem dModel_known_16 : decode bModel_known 16 = .ok (.iconst 0, 1) := by decide +kernel
theorem dModel_known_17 : decode bModel_known 17 = .ok (.istore_n 2, 1) := by decide +kernel
theorem dModel_known_18 : decode bModel_known 18 = .ok (.iload_n 2, 1) := by decide +kernel
theorem dModel_known_19 : decode bModel_known 19 = .ok (.bipush 64, 2) := by decide +kernel
theorem dModel_known_21 : decode bModel_known 21 = .ok (.if_icmp .ge 16, 3) := by decide +kernel
theorem dModel_known_24 : decode bModel_known 24 = .ok (.aload_n 0, 1) := by decide +kernel
theorem dModel_known_25 : decode bModel_known 25 = .ok (.iload_n 1, 1) := by decide +kernel
theorem dModel_known_26 : decode bModel_known 26 = .ok (.iload_n 2, 1) := by decide +kernel
theorem dModel_known_27 : decode bModel_known 27 = .ok (.iconst 0, 1) := by decide +kernel
theorem dModel_known_28 : decode bModel_known 28 = .ok (.invokevirtual 127, 3) := by decide +kernel
theorem dModel_known_31 : decode bModel_known 31 = .ok (.iinc 2 1, 3) := by decide +kernel
theorem dModel_known_34 : decode bModel_known 34 = .ok (.goto (-16), 3) := by decide +kernel
theorem dModel_known_37 : decode bModel_known 37 = .ok (.iconst 0, 1) := by decide +kernel
theorem dModel_known_38 : decode bModel_known 38 = .ok (.ireturn, 1) := by decide +kernel
theorem dModel_lookUnary_0 : decode bModel_lookUnary 0 = .ok (.aload_n 0, 1) := by decide +kernel
theorem dModel_lookUnary_1 : decode bModel_lookUnary 1 = .ok (.getfield 17, 3) := by decide +kernel
theorem dModel_lookUnary_4 : decode bModel_lookUnary 4 = .ok (.iload_n 1, 1) := by decide +kernel
theorem dModel_lookUnary_5 : decode bModel_lookUnary 5 = .ok (.iaload, 1) := by decide +kernel
theorem dModel_lookUnary_6 : decode bModel_lookUnary 6 = .ok (.istore_n 3, 1) := by decide +kernel
theorem dModel_lookUnary_7 : decode bModel_lookUnary 7 = .ok (.aload_n 0, 1) := by decide +kernel
theorem dModel_lookUnary_8 : decode bModel_lookUnary 8 = .ok (.iload_n 1, 1) := by decide +kernel
theorem dModel_lookUnary_9 : decode bModel_lookUnary 9 = .ok (.aload_n 0, 1) := by decide +kernel
theorem dModel_lookUnary_10 : decode bModel_lookUnary 10 = .ok (.getfield 29, 3) := by decide +kernel
theorem dModel_lookUnary_13 : decode bModel_lookUnary 13 = .ok (.iload_n 2, 1) := by decide +kernel
theorem dModel_lookUnary_14 : decode bModel_lookUnary 14 = .ok (.iaload, 1) := by decide +kernel
theorem dModel_lookUnary_15 : decode bModel_lookUnary 15 = .ok (.aload_n 0, 1) := by decide +kernel
theorem dModel_lookUnary_16 : decode bModel_lookUnary 16 = .ok (.getfield 32, 3) := by decide +kernel
theorem dModel_lookUnary_19 : decode bModel_lookUnary 19 = .ok (.iload_n 2, 1) := by decide +kernel
theorem dModel_lookUnary_20 : decode bModel_lookUnary 20 = .ok (.iaload, 1) := by decide +kernel
theorem dModel_lookUnary_21 : decode bModel_lookUnary 21 = .ok (.aload_n 0, 1) := by decide +kernel
theorem dModel_lookUnary_22 : decode bModel_lookUnary 22 = .ok (.getfield 35, 3) := by decide +kernel
theorem dModel_lookUnary_25 : decode bModel_lookUnary 25 = .ok (.iload_n 2, 1) := by decide +kernel
theorem dModel_lookUnary_26 : decode bModel_lookUnary 26 = .ok (.baload, 1) := by decide +kernel
theorem dModel_lookUnary_27 : decode bModel_lookUnary 27 = .ok (.invokevirtual 147, 3) := by decide +kernel
theorem dModel_lookUnary_30 : decode bModel_lookUnary 30 = .ok (.iload_n 3, 1) := by decide +kernel
theorem dModel_lookUnary_31 : decode bModel_lookUnary 31 = .ok (.ifCond .le 66, 3) := by decide +kernel
theorem dModel_lookUnary_34 : decode bModel_lookUnary 34 = .ok (.aload_n 0, 1) := by decide +kernel
theorem dModel_lookUnary_35 : decode bModel_lookUnary 35 = .ok (.getfield 42, 3) := by decide +kernel
theorem dModel_lookUnary_38 : decode bModel_lookUnary 38 = .ok (.iload_n 1, 1) := by decide +kernel
theorem dModel_lookUnary_39 : decode bModel_lookUnary 39 = .ok (.iload_n 3, 1) := by decide +kernel
theorem dModel_lookUnary_40 : decode bModel_lookUnary 40 = .ok (.iconst 1, 1) := by decide +kernel
theorem dModel_lookUnary_41 : decode bModel_lookUnary 41 = .ok (.if_icmp .eq 19, 3) := by decide +kernel
theorem dModel_lookUnary_44 : decode bModel_lookUnary 44 = .ok (.iload_n 3, 1) := by decide +kernel
theorem dModel_lookUnary_45 : decode bModel_lookUnary 45 = .ok (.iconst 3, 1) := by decide +kernel
theorem dModel_lookUnary_46 : decode bModel_lookUnary 46 = .ok (.if_icmp .ne 24, 3) := by decide +kernel
theorem dModel_lookUnary_49 : decode bModel_lookUnary 49 = .ok (.aload_n 0, 1) := by decide +kernel
theorem dModel_lookUnary_50 : decode bModel_lookUnary 50 = .ok (.getfield 42, 3) := by decide +kernel
theorem dModel_lookUnary_53 : decode bModel_lookUnary 53 = .ok (.iload_n 2, 1) := by decide +kernel
theorem dModel_lookUnary_54 : decode bModel_lookUnary 54 = .ok (.laload, 1) := by decide +kernel
theorem dModel_lookUnary_55 : decode bModel_lookUnary 55 = .ok (.lconst 0, 1) := by decide +kernel
theorem dModel_lookUnary_56 : decode bModel_lookUnary 56 = .ok (.lcmp, 1) := by decide +kernel
theorem dModel_lookUnary_57 : decode bModel_lookUnary 57 = .ok (.ifCond .ge 13, 3) := by decide +kernel
theorem dModel_lookUnary_60 : decode bModel_lookUnary 60 = .ok (.aload_n 0, 1) := by decide +kernel
theorem dModel_lookUnary_61 : decode bModel_lookUnary 61 = .ok (.getfield 42, 3) := by decide +kernel
theorem dModel_lookUnary_64 : decode bModel_lookUnary 64 = .ok (.iload_n 2, 1) := by decide +kernel
theorem dModel_lookUnary_65 : decode bModel_lookUnary 65 = .ok (.laload, 1) := by decide +kernel
theorem dModel_lookUnary_66 : decode bModel_lookUnary 66 = .ok (.lneg, 1) := by decide +kernel
theorem dModel_lookUnary_67 : decode bModel_lookUnary 67 = .ok (.goto 9, 3) := by decide +kernel
theorem dModel_lookUnary_70 : decode bModel_lookUnary 70 = .ok (.aload_n 0, 1) := by decide +kernel
theorem dModel_lookUnary_71 : decode bModel_lookUnary 71 = .ok (.getfield 42, 3) := by decide +kernel
theorem dModel_lookUnary_74 : decode bModel_lookUnary 74 = .ok (.iload_n 2, 1) := by decide +kernel
theorem dModel_lookUnary_75 : decode bModel_lookUnary 75 = .ok (.laload, 1) := by decide +kernel
theorem dModel_lookUnary_76 : decode bModel_lookUnary 76 = .ok (.lastore, 1) := by decide +kernel
theorem dModel_lookUnary_77 : decode bModel_lookUnary 77 = .ok (.aload_n 0, 1) := by decide +kernel
theorem dModel_lookUnary_78 : decode bModel_lookUnary 78 = .ok (.getfield 29, 3) := by decide +kernel
theorem dModel_lookUnary_81 : decode bModel_lookUnary 81 = .ok (.iload_n 2, 1) := by decide +kernel
theorem dModel_lookUnary_82 : decode bModel_lookUnary 82 = .ok (.iaload, 1) := by decide +kernel
theorem dModel_lookUnary_83 : decode bModel_lookUnary 83 = .ok (.iconst 2, 1) := by decide +kernel
theorem dModel_lookUnary_84 : decode bModel_lookUnary 84 = .ok (.if_icmp .ne 11, 3) := by decide +kernel
theorem dModel_lookUnary_87 : decode bModel_lookUnary 87 = .ok (.aload_n 0, 1) := by decide +kernel
theorem dModel_lookUnary_88 : decode bModel_lookUnary 88 = .ok (.iload_n 1, 1) := by decide +kernel
theorem dModel_lookUnary_89 : decode bModel_lookUnary 89 = .ok (.invokevirtual 190, 3) := by decide +kernel
theorem dModel_lookUnary_92 : decode bModel_lookUnary 92 = .ok (.goto 4, 3) := by decide +kernel
theorem dModel_lookUnary_95 : decode bModel_lookUnary 95 = .ok (.iconst 3, 1) := by decide +kernel
theorem dModel_lookUnary_96 : decode bModel_lookUnary 96 = .ok (.ireturn, 1) := by decide +kernel
theorem dModel_lookUnary_97 : decode bModel_lookUnary 97 = .ok (.aload_n 0, 1) := by decide +kernel
theorem dModel_lookUnary_98 : decode bModel_lookUnary 98 = .ok (.getfield 29, 3) := by decide +kernel
theorem dModel_lookUnary_101 : decode bModel_lookUnary 101 = .ok (.iload_n 2, 1) := by decide +kernel
theorem dModel_lookUnary_102 : decode bModel_lookUnary 102 = .ok (.iaload, 1) := by decide +kernel
theorem dModel_lookUnary_103 : decode bModel_lookUnary 103 = .ok (.iconst 2, 1) := by decide +kernel
theorem dModel_lookUnary_104 : decode bModel_lookUnary 104 = .ok (.if_icmp .eq 13, 3) := by decide +kernel
theorem dModel_lookUnary_107 : decode bModel_lookUnary 107 = .ok (.aload_n 0, 1) := by decide +kernel
theorem dModel_lookUnary_108 : decode bModel_lookUnary 108 = .ok (.getfield 29, 3) := by decide +kernel
theorem dModel_lookUnary_111 : decode bModel_lookUnary 111 = .ok (.iload_n 2, 1) := by decide +kernel
theorem dModel_lookUnary_112 : decode bModel_lookUnary 112 = .ok (.iaload, 1) := by decide +kernel
theorem dModel_lookUnary_113 : decode bModel_lookUnary 113 = .ok (.iconst 4, 1) := by decide +kernel
theorem dModel_lookUnary_114 : decode bModel_lookUnary 114 = .ok (.if_icmp .ne 5, 3) := by decide +kernel
theorem dModel_lookUnary_117 : decode bModel_lookUnary 117 = .ok (.iconst 3, 1) := by decide +kernel
theorem dModel_lookUnary_118 : decode bModel_lookUnary 118 = .ok (.ireturn, 1) := by decide +kernel
theorem dModel_lookUnary_119 : decode bModel_lookUnary 119 = .ok (.aload_n 0, 1) := by decide +kernel
theorem dModel_lookUnary_120 : decode bModel_lookUnary 120 = .ok (.getfield 42, 3) := by decide +kernel
theorem dModel_lookUnary_123 : decode bModel_lookUnary 123 = .ok (.iload_n 1, 1) := by decide +kernel
theorem dModel_lookUnary_124 : decode bModel_lookUnary 124 = .ok (.aload_n 0, 1) := by decide +kernel
theorem dModel_lookUnary_125 : decode bModel_lookUnary 125 = .ok (.getfield 29, 3) := by decide +kernel
theorem dModel_lookUnary_128 : decode bModel_lookUnary 128 = .ok (.iload_n 2, 1) := by decide +kernel
theorem dModel_lookUnary_129 : decode bModel_lookUnary 129 = .ok (.iaload, 1) := by decide +kernel
theorem dModel_lookUnary_130 : decode bModel_lookUnary 130 = .ok (.iconst 1, 1) := by decide +kernel
theorem dModel_lookUnary_131 : decode bModel_lookUnary 131 = .ok (.if_icmp .ne 14, 3) := by decide +kernel
theorem dModel_lookUnary_134 : decode bModel_lookUnary 134 = .ok (.lconst 1, 1) := by decide +kernel
theorem dModel_lookUnary_135 : decode bModel_lookUnary 135 = .ok (.aload_n 0, 1) := by decide +kernel
theorem dModel_lookUnary_136 : decode bModel_lookUnary 136 = .ok (.getfield 42, 3) := by decide +kernel
theorem dModel_lookUnary_139 : decode bModel_lookUnary 139 = .ok (.iload_n 2, 1) := by decide +kernel
theorem dModel_lookUnary_140 : decode bModel_lookUnary 140 = .ok (.laload, 1) := by decide +kernel
theorem dModel_lookUnary_141 : decode bModel_lookUnary 141 = .ok (.lsub, 1) := by decide +kernel
theorem dModel_lookUnary_142 : decode bModel_lookUnary 142 = .ok (.goto 27, 3) := by decide +kernel
theorem dModel_lookUnary_145 : decode bModel_lookUnary 145 = .ok (.aload_n 0, 1) := by decide +kernel
theorem dModel_lookUnary_146 : decode bModel_lookUnary 146 = .ok (.getfield 29, 3) := by decide +kernel
theorem dModel_lookUnary_149 : decode bModel_lookUnary 149 = .ok (.iload_n 2, 1) := by decide +kernel
theorem dModel_lookUnary_150 : decode bModel_lookUnary 150 = .ok (.iaload, 1) := by decide +kernel
theorem dModel_lookUnary_151 : decode bModel_lookUnary 151 = .ok (.ifCond .ne 17, 3) := by decide +kernel
theorem dModel_lookUnary_154 : decode bModel_lookUnary 154 = .ok (.aload_n 0, 1) := by decide +kernel
theorem dModel_lookUnary_155 : decode bModel_lookUnary 155 = .ok (.getfield 42, 3) := by decide +kernel
theorem dModel_lookUnary_158 : decode bModel_lookUnary 158 = .ok (.iload_n 2, 1) := by decide +kernel
theorem dModel_lookUnary_159 : decode bModel_lookUnary 159 = .ok (.laload, 1) := by decide +kernel
theorem dModel_lookUnary_160 : decode bModel_lookUnary 160 = .ok (.l2i, 1) := by decide +kernel
theorem dModel_lookUnary_161 : decode bModel_lookUnary 161 = .ok (.invokestatic 187, 3) := by decide +kernel
theorem dModel_lookUnary_164 : decode bModel_lookUnary 164 = .ok (.i2l, 1) := by decide +kernel
theorem dModel_lookUnary_165 : decode bModel_lookUnary 165 = .ok (.goto 4, 3) := by decide +kernel
theorem dModel_lookUnary_168 : decode bModel_lookUnary 168 = .ok (.lconst 0, 1) := by decide +kernel
theorem dModel_lookUnary_169 : decode bModel_lookUnary 169 = .ok (.lastore, 1) := by decide +kernel
theorem dModel_lookUnary_170 : decode bModel_lookUnary 170 = .ok (.iconst 0, 1) := by decide +kernel
theorem dModel_lookUnary_171 : decode bModel_lookUnary 171 = .ok (.istore 4, 2) := by decide +kernel
theorem dModel_lookUnary_173 : decode bModel_lookUnary 173 = .ok (.iload 4, 2) := by decide +kernel
theorem dModel_lookUnary_175 : decode bModel_lookUnary 175 = .ok (.aload_n 0, 1) := by decide +kernel
theorem dModel_lookUnary_176 : decode bModel_lookUnary 176 = .ok (.getfield 32, 3) := by decide +kernel
theorem dModel_lookUnary_179 : decode bModel_lookUnary 179 = .ok (.iload_n 2, 1) := by decide +kernel
theorem dModel_lookUnary_180 : decode bModel_lookUnary 180 = .ok (.iaload, 1) := by decide +kernel
theorem dModel_lookUnary_181 : decode bModel_lookUnary 181 = .ok (.if_icmp .ge 36, 3) := by decide +kernel
theorem dModel_lookUnary_184 : decode bModel_lookUnary 184 = .ok (.aload_n 0, 1) := by decide +kernel
theorem dModel_lookUnary_185 : decode bModel_lookUnary 185 = .ok (.getfield 29, 3) := by decide +kernel
theorem dModel_lookUnary_188 : decode bModel_lookUnary 188 = .ok (.iload_n 2, 1) := by decide +kernel
theorem dModel_lookUnary_189 : decode bModel_lookUnary 189 = .ok (.iaload, 1) := by decide +kernel
theorem dModel_lookUnary_190 : decode bModel_lookUnary 190 = .ok (.iconst 3, 1) := by decide +kernel
theorem dModel_lookUnary_191 : decode bModel_lookUnary 191 = .ok (.if_icmp .ne 26, 3) := by decide +kernel
theorem dModel_lookUnary_194 : decode bModel_lookUnary 194 = .ok (.aload_n 0, 1) := by decide +kernel
theorem dModel_lookUnary_195 : decode bModel_lookUnary 195 = .ok (.iload_n 1, 1) := by decide +kernel
theorem dModel_lookUnary_196 : decode bModel_lookUnary 196 = .ok (.iload 4, 2) := by decide +kernel
theorem dModel_lookUnary_198 : decode bModel_lookUnary 198 = .ok (.aload_n 0, 1) := by decide +kernel
theorem dModel_lookUnary_199 : decode bModel_lookUnary 199 = .ok (.iload_n 2, 1) := by decide +kernel
theorem dModel_lookUnary_200 : decode bModel_lookUnary 200 = .ok (.iload 4, 2) := by decide +kernel
theorem dModel_lookUnary_202 : decode bModel_lookUnary 202 = .ok (.invokevirtual 131, 3) := by decide +kernel
theorem dModel_lookUnary_205 : decode bModel_lookUnary 205 = .ok (.invokestatic 187, 3) := by decide +kernel
theorem dModel_lookUnary_208 : decode bModel_lookUnary 208 = .ok (.invokevirtual 127, 3) := by decide +kernel
theorem dModel_lookUnary_211 : decode bModel_lookUnary 211 = .ok (.iinc 4 1, 3) := by decide +kernel
theorem dModel_lookUnary_214 : decode bModel_lookUnary 214 = .ok (.goto (-41), 3) := by decide +kernel
theorem dModel_lookUnary_217 : decode bModel_lookUnary 217 = .ok (.aload_n 0, 1) := by decide +kernel
theorem dModel_lookUnary_218 : decode bModel_lookUnary 218 = .ok (.iload_n 1, 1) := by decide +kernel
theorem dModel_lookUnary_219 : decode bModel_lookUnary 219 = .ok (.invokevirtual 190, 3) := by decide +kernel
theorem dModel_lookUnary_222 : decode bModel_lookUnary 222 = .ok (.ireturn, 1) := by decide +kernel
