theorem dX2_changeLink_86 : decode cX2_changeLink 86 = .ok (.invokevirtual 187, 3) := by decide +kernel
theorem dX2_changeLink_89 : decode cX2_changeLink 89 = .ok (.iload 4, 2) := by decide +kernel
theorem dX2_changeLink_91 : decode cX2_changeLink 91 = .ok (.ireturn, 1) := by decide +kernel
theorem dX2_carry_0 : decode cX2_carry 0 = .ok (.aload_n 0, 1) := by decide +kernel
theorem dX2_carry_1 : decode cX2_carry 1 = .ok (.getfield 43, 3) := by decide +kernel
theorem dX2_carry_4 : decode cX2_carry 4 = .ok (.getfield 162, 3) := by decide +kernel
theorem dX2_carry_7 : decode cX2_carry 7 = .ok (.iload_n 1, 1) := by decide +kernel
theorem dX2_carry_8 : decode cX2_carry 8 = .ok (.iaload, 1) := by decide +kernel
theorem dX2_carry_9 : decode cX2_carry 9 = .ok (.istore_n 3, 1) := by decide +kernel
theorem dX2_carry_10 : decode cX2_carry 10 = .ok (.iload_n 2, 1) := by decide +kernel
theorem dX2_carry_11 : decode cX2_carry 11 = .ok (.iload_n 3, 1) := by decide +kernel
theorem dX2_carry_12 : decode cX2_carry 12 = .ok (.invokestatic 198, 3) := by decide +kernel
theorem dX2_carry_15 : decode cX2_carry 15 = .ok (.istore 4, 2) := by decide +kernel
theorem dX2_carry_17 : decode cX2_carry 17 = .ok (.aload_n 0, 1) := by decide +kernel
theorem dX2_carry_18 : decode cX2_carry 18 = .ok (.getfield 43, 3) := by decide +kernel
theorem dX2_carry_21 : decode cX2_carry 21 = .ok (.getfield 244, 3) := by decide +kernel
theorem dX2_carry_24 : decode cX2_carry 24 = .ok (.iload_n 1, 1) := by decide +kernel
theorem dX2_carry_25 : decode cX2_carry 25 = .ok (.iload_n 2, 1) := by decide +kernel
theorem dX2_carry_26 : decode cX2_carry 26 = .ok (.iastore, 1) := by decide +kernel
theorem dX2_carry_27 : decode cX2_carry 27 = .ok (.iload_n 2, 1) := by decide +kernel
theorem dX2_carry_28 : decode cX2_carry 28 = .ok (.iload_n 3, 1) := by decide +kernel
theorem dX2_carry_29 : decode cX2_carry 29 = .ok (.if_icmp .ne 18, 3) := by decide +kernel
theorem dX2_carry_32 : decode cX2_carry 32 = .ok (.aload_n 0, 1) := by decide +kernel
theorem dX2_carry_33 : decode cX2_carry 33 = .ok (.getfield 43, 3) := by decide +kernel
theorem dX2_carry_36 : decode cX2_carry 36 = .ok (.iload_n 1, 1) := by decide +kernel
theorem dX2_carry_37 : decode cX2_carry 37 = .ok (.aload_n 0, 1) := by decide +kernel
theorem dX2_carry_38 : decode cX2_carry 38 = .ok (.getfield 70, 3) := by decide +kernel
theorem dX2_carry_41 : decode cX2_carry 41 = .ok (.invokevirtual 247, 3) := by decide +kernel
theorem dX2_carry_44 : decode cX2_carry 44 = .ok (.goto 239, 3) := by decide +kernel
theorem dX2_carry_47 : decode cX2_carry 47 = .ok (.aload_n 0, 1) := by decide +kernel
theorem dX2_carry_48 : decode cX2_carry 48 = .ok (.getfield 43, 3) := by decide +kernel
theorem dX2_carry_51 : decode cX2_carry 51 = .ok (.getfield 250, 3) := by decide +kernel
theorem dX2_carry_54 : decode cX2_carry 54 = .ok (.iload_n 1, 1) := by decide +kernel
theorem dX2_carry_55 : decode cX2_carry 55 = .ok (.iaload, 1) := by decide +kernel
theorem dX2_carry_56 : decode cX2_carry 56 = .ok (.bipush 30, 2) := by decide +kernel
theorem dX2_carry_58 : decode cX2_carry 58 = .ok (.if_icmp .lt 20, 3) := by decide +kernel
theorem dX2_carry_61 : decode cX2_carry 61 = .ok (.aload_n 0, 1) := by decide +kernel
theorem dX2_carry_62 : decode cX2_carry 62 = .ok (.getfield 43, 3) := by decide +kernel
theorem dX2_carry_65 : decode cX2_carry 65 = .ok (.iload_n 1, 1) := by decide +kernel
theorem dX2_carry_66 : decode cX2_carry 66 = .ok (.bipush 23, 2) := by decide +kernel
theorem dX2_carry_68 : decode cX2_carry 68 = .ok (.aload_n 0, 1) := by decide +kernel
theorem dX2_carry_69 : decode cX2_carry 69 = .ok (.getfield 70, 3) := by decide +kernel
theorem dX2_carry_72 : decode cX2_carry 72 = .ok (.invokevirtual 194, 3) := by decide +kernel
theorem dX2_carry_75 : decode cX2_carry 75 = .ok (.goto 208, 3) := by decide +kernel
theorem dX2_carry_78 : decode cX2_carry 78 = .ok (.aload_n 0, 1) := by decide +kernel
theorem dX2_carry_79 : decode cX2_carry 79 = .ok (.getfield 29, 3) := by decide +kernel
theorem dX2_carry_82 : decode cX2_carry 82 = .ok (.iload 4, 2) := by decide +kernel
theorem dX2_carry_84 : decode cX2_carry 84 = .ok (.aload_n 0, 1) := by decide +kernel
theorem dX2_carry_85 : decode cX2_carry 85 = .ok (.getfield 70, 3) := by decide +kernel
theorem dX2_carry_88 : decode cX2_carry 88 = .ok (.invokevirtual 201, 3) := by decide +kernel
theorem dX2_carry_91 : decode cX2_carry 91 = .ok (.ifCond .eq 14, 3) := by decide +kernel
theorem dX2_carry_94 : decode cX2_carry 94 = .ok (.aload_n 0, 1) := by decide +kernel
theorem dX2_carry_95 : decode cX2_carry 95 = .ok (.iload_n 1, 1) := by decide +kernel
theorem dX2_carry_96 : decode cX2_carry 96 = .ok (.iload_n 2, 1) := by decide +kernel
theorem dX2_carry_97 : decode cX2_carry 97 = .ok (.iload 4, 2) := by decide +kernel
theorem dX2_carry_99 : decode cX2_carry 99 = .ok (.invokevirtual 253, 3) := by decide +kernel
theorem dX2_carry_102 : decode cX2_carry 102 = .ok (.goto 181, 3) := by decide +kernel
theorem dX2_carry_105 : decode cX2_carry 105 = .ok (.iload_n 2, 1) := by decide +kernel
theorem dX2_carry_106 : decode cX2_carry 106 = .ok (.aload_n 0, 1) := by decide +kernel
theorem dX2_carry_107 : decode cX2_carry 107 = .ok (.getfield 43, 3) := by decide +kernel
theorem dX2_carry_110 : decode cX2_carry 110 = .ok (.getfield 159, 3) := by decide +kernel
theorem dX2_carry_113 : decode cX2_carry 113 = .ok (.iload_n 1, 1) := by decide +kernel
theorem dX2_carry_114 : decode cX2_carry 114 = .ok (.iaload, 1) := by decide +kernel
theorem dX2_carry_115 : decode cX2_carry 115 = .ok (.if_icmp .ne 52, 3) := by decide +kernel
theorem dX2_carry_118 : decode cX2_carry 118 = .ok (.aload_n 0, 1) := by decide +kernel
theorem dX2_carry_119 : decode cX2_carry 119 = .ok (.iload_n 1, 1) := by decide +kernel
theorem dX2_carry_120 : decode cX2_carry 120 = .ok (.iload 4, 2) := by decide +kernel
theorem dX2_carry_122 : decode cX2_carry 122 = .ok (.invokevirtual 256, 3) := by decide +kernel
theorem dX2_carry_125 : decode cX2_carry 125 = .ok (.aload_n 0, 1) := by decide +kernel
theorem dX2_carry_126 : decode cX2_carry 126 = .ok (.getfield 36, 3) := by decide +kernel
theorem dX2_carry_129 : decode cX2_carry 129 = .ok (.iload 4, 2) := by decide +kernel
theorem dX2_carry_131 : decode cX2_carry 131 = .ok (.invokevirtual 228, 3) := by decide +kernel
theorem dX2_carry_134 : decode cX2_carry 134 = .ok (.ifCond .eq 149, 3) := by decide +kernel
theorem dX2_carry_137 : decode cX2_carry 137 = .ok (.aload_n 0, 1) := by decide +kernel
theorem dX2_carry_138 : decode cX2_carry 138 = .ok (.getfield 36, 3) := by decide +kernel
theorem dX2_carry_141 : decode cX2_carry 141 = .ok (.iload 4, 2) := by decide +kernel
theorem dX2_carry_143 : decode cX2_carry 143 = .ok (.iconst 1, 1) := by decide +kernel
theorem dX2_carry_144 : decode cX2_carry 144 = .ok (.invokevirtual 259, 3) := by decide +kernel
theorem dX2_carry_147 : decode cX2_carry 147 = .ok (.aload_n 0, 1) := by decide +kernel
theorem dX2_carry_148 : decode cX2_carry 148 = .ok (.iload_n 2, 1) := by decide +kernel
theorem dX2_carry_149 : decode cX2_carry 149 = .ok (.aload_n 0, 1) := by decide +kernel
theorem dX2_carry_150 : decode cX2_carry 150 = .ok (.iload_n 2, 1) := by decide +kernel
theorem dX2_carry_151 : decode cX2_carry 151 = .ok (.iload_n 3, 1) := by decide +kernel
theorem dX2_carry_152 : decode cX2_carry 152 = .ok (.aload_n 0, 1) := by decide +kernel
theorem dX2_carry_153 : decode cX2_carry 153 = .ok (.getfield 18, 3) := by decide +kernel
theorem dX2_carry_156 : decode cX2_carry 156 = .ok (.iconst 1, 1) := by decide +kernel
theorem dX2_carry_157 : decode cX2_carry 157 = .ok (.iaload, 1) := by decide +kernel
theorem dX2_carry_158 : decode cX2_carry 158 = .ok (.invokevirtual 262, 3) := by decide +kernel
theorem dX2_carry_161 : decode cX2_carry 161 = .ok (.invokevirtual 266, 3) := by decide +kernel
theorem dX2_carry_164 : decode cX2_carry 164 = .ok (.goto 119, 3) := by decide +kernel
theorem dX2_carry_167 : decode cX2_carry 167 = .ok (.aload_n 0, 1) := by decide +kernel
theorem dX2_carry_168 : decode cX2_carry 168 = .ok (.iload 4, 2) := by decide +kernel
theorem dX2_carry_170 : decode cX2_carry 170 = .ok (.invokevirtual 270, 3) := by decide +kernel
theorem dX2_carry_173 : decode cX2_carry 173 = .ok (.ifCond .eq 58, 3) := by decide +kernel
theorem dX2_carry_176 : decode cX2_carry 176 = .ok (.aload_n 0, 1) := by decide +kernel
theorem dX2_carry_177 : decode cX2_carry 177 = .ok (.iload_n 1, 1) := by decide +kernel
theorem dX2_carry_178 : decode cX2_carry 178 = .ok (.iload 4, 2) := by decide +kernel
theorem dX2_carry_180 : decode cX2_carry 180 = .ok (.invokevirtual 256, 3) := by decide +kernel
theorem dX2_carry_183 : decode cX2_carry 183 = .ok (.aload_n 0, 1) := by decide +kernel
theorem dX2_carry_184 : decode cX2_carry 184 = .ok (.getfield 36, 3) := by decide +kernel
theorem dX2_carry_187 : decode cX2_carry 187 = .ok (.iload 4, 2) := by decide +kernel
theorem dX2_carry_189 : decode cX2_carry 189 = .ok (.invokevirtual 228, 3) := by decide +kernel
theorem dX2_carry_192 : decode cX2_carry 192 = .ok (.ifCond .eq 91, 3) := by decide +kernel
theorem dX2_carry_195 : decode cX2_carry 195 = .ok (.aload_n 0, 1) := by decide +kernel
theorem dX2_carry_196 : decode cX2_carry 196 = .ok (.getfield 36, 3) := by decide +kernel
theorem dX2_carry_199 : decode cX2_carry 199 = .ok (.iload 4, 2) := by decide +kernel
theorem dX2_carry_201 : decode cX2_carry 201 = .ok (.iconst 2, 1) := by decide +kernel
theorem dX2_carry_202 : decode cX2_carry 202 = .ok (.invokevirtual 259, 3) := by decide +kernel
theorem dX2_carry_205 : decode cX2_carry 205 = .ok (.aload_n 0, 1) := by decide +kernel
theorem dX2_carry_206 : decode cX2_carry 206 = .ok (.iload_n 2, 1) := by decide +kernel
theorem dX2_carry_207 : decode cX2_carry 207 = .ok (.aload_n 0, 1) := by decide +kernel
theorem dX2_carry_208 : decode cX2_carry 208 = .ok (.iload_n 2, 1) := by decide +kernel
theorem dX2_carry_209 : decode cX2_carry 209 = .ok (.iload_n 3, 1) := by decide +kernel
theorem dX2_carry_210 : decode cX2_carry 210 = .ok (.aload_n 0, 1) := by decide +kernel
theorem dX2_carry_211 : decode cX2_carry 211 = .ok (.getfield 29, 3) := by decide +kernel
theorem dX2_carry_214 : decode cX2_carry 214 = .ok (.getfield 273, 3) := by decide +kernel
theorem dX2_carry_217 : decode cX2_carry 217 = .ok (.iload 4, 2) := by decide +kernel
theorem dX2_carry_219 : decode cX2_carry 219 = .ok (.iaload, 1) := by decide +kernel
theorem dX2_carry_220 : decode cX2_carry 220 = .ok (.iconst 2, 1) := by decide +kernel
theorem dX2_carry_221 : decode cX2_carry 221 = .ok (.iadd, 1) := by decide +kernel
theorem dX2_carry_222 : decode cX2_carry 222 = .ok (.invokevirtual 262, 3) := by decide +kernel
theorem dX2_carry_225 : decode cX2_carry 225 = .ok (.invokevirtual 266, 3) := by decide +kernel
theorem dX2_carry_228 : decode cX2_carry 228 = .ok (.goto 55, 3) := by decide +kernel
theorem dX2_carry_231 : decode cX2_carry 231 = .ok (.aload_n 0, 1) := by decide +kernel
theorem dX2_carry_232 : decode cX2_carry 232 = .ok (.getfield 43, 3) := by decide +kernel
theorem dX2_carry_235 : decode cX2_carry 235 = .ok (.iload_n 1, 1) := by decide +kernel
theorem dX2_carry_236 : decode cX2_carry 236 = .ok (.bipush 12, 2) := by decide +kernel
theorem dX2_carry_238 : decode cX2_carry 238 = .ok (.aload_n 0, 1) := by decide +kernel
theorem dX2_carry_239 : decode cX2_carry 239 = .ok (.getfield 70, 3) := by decide +kernel
theorem dX2_carry_242 : decode cX2_carry 242 = .ok (.invokevirtual 194, 3) := by decide +kernel
theorem dX2_carry_245 : decode cX2_carry 245 = .ok (.aload_n 0, 1) := by decide +kernel
theorem dX2_carry_246 : decode cX2_carry 246 = .ok (.getfield 43, 3) := by decide +kernel
theorem dX2_carry_249 : decode cX2_carry 249 = .ok (.getfield 165, 3) := by decide +kernel
theorem dX2_carry_252 : decode cX2_carry 252 = .ok (.iload_n 1, 1) := by decide +kernel
theorem dX2_carry_253 : decode cX2_carry 253 = .ok (.iaload, 1) := by decide +kernel
theorem dX2_carry_254 : decode cX2_carry 254 = .ok (.istore 5, 2) := by decide +kernel
theorem dX2_carry_256 : decode cX2_carry 256 = .ok (.iload 5, 2) := by decide +kernel
theorem dX2_carry_258 : decode cX2_carry 258 = .ok (.iconst (-1), 1) := by decide +kernel
theorem dX2_carry_259 : decode cX2_carry 259 = .ok (.if_icmp .eq 24, 3) := by decide +kernel
theorem dX2_carry_262 : decode cX2_carry 262 = .ok (.aload_n 0, 1) := by decide +kernel
theorem dX2_carry_263 : decode cX2_carry 263 = .ok (.getfield 66, 3) := by decide +kernel
theorem dX2_carry_266 : decode cX2_carry 266 = .ok (.iload_n 2, 1) := by decide +kernel
theorem dX2_carry_267 : decode cX2_carry 267 = .ok (.iload 5, 2) := by decide +kernel
theorem dX2_carry_269 : decode cX2_carry 269 = .ok (.invokevirtual 276, 3) := by decide +kernel
theorem dX2_carry_272 : decode cX2_carry 272 = .ok (.ifCond .eq 11, 3) := by decide +kernel
theorem dX2_carry_275 : decode cX2_carry 275 = .ok (.aload_n 0, 1) := by decide +kernel
theorem dX2_carry_276 : decode cX2_carry 276 = .ok (.iload_n 2, 1) := by decide +kernel
theorem dX2_carry_277 : decode cX2_carry 277 = .ok (.iload 5, 2) := by decide +kernel
theorem dX2_carry_279 : decode cX2_carry 279 = .ok (.iload_n 3, 1) := by decide +kernel
theorem dX2_carry_280 : decode cX2_carry 280 = .ok (.invokevirtual 279, 3) := by decide +kernel
theorem dX2_carry_283 : decode cX2_carry 283 = .ok (.return_, 1) := by decide +kernel
theorem dX2_hold_0 : decode cX2_hold 0 = .ok (.aload_n 0, 1) := by decide +kernel
theorem dX2_hold_1 : decode cX2_hold 1 = .ok (.getfield 36, 3) := by decide +kernel
theorem dX2_hold_4 : decode cX2_hold 4 = .ok (.iload_n 2, 1) := by decide +kernel
theorem dX2_hold_5 : decode cX2_hold 5 = .ok (.invokevirtual 298, 3) := by decide +kernel
theorem dX2_hold_8 : decode cX2_hold 8 = .ok (.ifCond .eq 24, 3) := by decide +kernel
theorem dX2_hold_11 : decode cX2_hold 11 = .ok (.aload_n 0, 1) := by decide +kernel
theorem dX2_hold_12 : decode cX2_hold 12 = .ok (.getfield 43, 3) := by decide +kernel
theorem dX2_hold_15 : decode cX2_hold 15 = .ok (.aload_n 0, 1) := by decide +kernel
theorem dX2_hold_16 : decode cX2_hold 16 = .ok (.getfield 36, 3) := by decide +kernel
theorem dX2_hold_19 : decode cX2_hold 19 = .ok (.iload_n 2, 1) := by decide +kernel
theorem dX2_hold_20 : decode cX2_hold 20 = .ok (.invokevirtual 241, 3) := by decide +kernel
theorem dX2_hold_23 : decode cX2_hold 23 = .ok (.bipush 21, 2) := by decide +kernel
theorem dX2_hold_25 : decode cX2_hold 25 = .ok (.aload_n 0, 1) := by decide +kernel
theorem dX2_hold_26 : decode cX2_hold 26 = .ok (.getfield 70, 3) := by decide +kernel
theorem dX2_hold_29 : decode cX2_hold 29 = .ok (.invokevirtual 194, 3) := by decide +kernel
theorem dX2_hold_32 : decode cX2_hold 32 = .ok (.aload_n 0, 1) := by decide +kernel
theorem dX2_hold_33 : decode cX2_hold 33 = .ok (.getfield 36, 3) := by decide +kernel
theorem dX2_hold_36 : decode cX2_hold 36 = .ok (.iload_n 2, 1) := by decide +kernel
theorem dX2_hold_37 : decode cX2_hold 37 = .ok (.iload_n 1, 1) := by decide +kernel
theorem dX2_hold_38 : decode cX2_hold 38 = .ok (.invokevirtual 301, 3) := by decide +kernel
theorem dX2_hold_41 : decode cX2_hold 41 = .ok (.aload_n 0, 1) := by decide +kernel
theorem dX2_hold_42 : decode cX2_hold 42 = .ok (.getfield 43, 3) := by decide +kernel
theorem dX2_hold_45 : decode cX2_hold 45 = .ok (.getfield 302, 3) := by decide +kernel
theorem dX2_hold_48 : decode cX2_hold 48 = .ok (.iload_n 1, 1) := by decide +kernel
theorem dX2_hold_49 : decode cX2_hold 49 = .ok (.iconst 0, 1) := by decide +kernel
theorem dX2_hold_50 : decode cX2_hold 50 = .ok (.iastore, 1) := by decide +kernel
theorem dX2_hold_51 : decode cX2_hold 51 = .ok (.return_, 1) := by decide +kernel
theorem dX2_dropBuffer_0 : decode cX2_dropBuffer 0 = .ok (.aload_n 0, 1) := by decide +kernel
theorem dX2_dropBuffer_1 : decode cX2_dropBuffer 1 = .ok (.getfield 36, 3) := by decide +kernel
theorem dX2_dropBuffer_4 : decode cX2_dropBuffer 4 = .ok (.getfield 238, 3) := by decide +kernel
theorem dX2_dropBuffer_7 : decode cX2_dropBuffer 7 = .ok (.iload_n 1, 1) := by decide +kernel
theorem dX2_dropBuffer_8 : decode cX2_dropBuffer 8 = .ok (.iaload, 1) := by decide +kernel
theorem dX2_dropBuffer_9 : decode cX2_dropBuffer 9 = .ok (.istore_n 3, 1) := by decide +kernel
theorem dX2_dropBuffer_10 : decode cX2_dropBuffer 10 = .ok (.iload_n 3, 1) := by decide +kernel
theorem dX2_dropBuffer_11 : decode cX2_dropBuffer 11 = .ok (.ifCond .le 29, 3) := by decide +kernel
theorem dX2_dropBuffer_14 : decode cX2_dropBuffer 14 = .ok (.aload_n 0, 1) := by decide +kernel
theorem dX2_dropBuffer_15 : decode cX2_dropBuffer 15 = .ok (.getfield 43, 3) := by decide +kernel
theorem dX2_dropBuffer_18 : decode cX2_dropBuffer 18 = .ok (.aload_n 0, 1) := by decide +kernel
theorem dX2_dropBuffer_19 : decode cX2_dropBuffer 19 = .ok (.getfield 36, 3) := by decide +kernel
theorem dX2_dropBuffer_22 : decode cX2_dropBuffer 22 = .ok (.iload_n 1, 1) := by decide +kernel
theorem dX2_dropBuffer_23 : decode cX2_dropBuffer 23 = .ok (.invokevirtual 241, 3) := by decide +kernel
theorem dX2_dropBuffer_26 : decode cX2_dropBuffer 26 = .ok (.iload_n 2, 1) := by decide +kernel
theorem dX2_dropBuffer_27 : decode cX2_dropBuffer 27 = .ok (.aload_n 0, 1) := by decide +kernel
theorem dX2_dropBuffer_28 : decode cX2_dropBuffer 28 = .ok (.getfield 70, 3) := by decide +kernel
theorem dX2_dropBuffer_31 : decode cX2_dropBuffer 31 = .ok (.invokevirtual 194, 3) := by decide +kernel
theorem dX2_dropBuffer_34 : decode cX2_dropBuffer 34 = .ok (.iinc 3 (-1), 3) := by decide +kernel
theorem dX2_dropBuffer_37 : decode cX2_dropBuffer 37 = .ok (.goto (-27), 3) := by decide +kernel
theorem dX2_dropBuffer_40 : decode cX2_dropBuffer 40 = .ok (.return_, 1) := by decide +kernel
theorem dX2_newRequest_0 : decode cX2_newRequest 0 = .ok (.iload_n 1, 1) := by decide +kernel
theorem dX2_newRequest_1 : decode cX2_newRequest 1 = .ok (.iload_n 2, 1) := by decide +kernel
theorem dX2_newRequest_2 : decode cX2_newRequest 2 = .ok (.invokestatic 198, 3) := by decide +kernel
theorem dX2_newRequest_5 : decode cX2_newRequest 5 = .ok (.istore 4, 2) := by decide +kernel
theorem dX2_newRequest_7 : decode cX2_newRequest 7 = .ok (.aload_n 0, 1) := by decide +kernel
theorem dX2_newRequest_8 : decode cX2_newRequest 8 = .ok (.getfield 36, 3) := by decide +kernel
theorem dX2_newRequest_11 : decode cX2_newRequest 11 = .ok (.iload 4, 2) := by decide +kernel
theorem dX2_newRequest_13 : decode cX2_newRequest 13 = .ok (.iload_n 3, 1) := by decide +kernel
theorem dX2_newRequest_14 : decode cX2_newRequest 14 = .ok (.aload_n 0, 1) := by decide +kernel
theorem dX2_newRequest_15 : decode cX2_newRequest 15 = .ok (.getfield 70, 3) := by decide +kernel
theorem dX2_newRequest_18 : decode cX2_newRequest 18 = .ok (.aload_n 0, 1) := by decide +kernel
theorem dX2_newRequest_19 : decode cX2_newRequest 19 = .ok (.getfield 18, 3) := by decide +kernel
theorem dX2_newRequest_22 : decode cX2_newRequest 22 = .ok (.bipush 6, 2) := by decide +kernel
theorem dX2_newRequest_24 : decode cX2_newRequest 24 = .ok (.iaload, 1) := by decide +kernel
theorem dX2_newRequest_25 : decode cX2_newRequest 25 = .ok (.iload_n 3, 1) := by decide +kernel
theorem dX2_newRequest_26 : decode cX2_newRequest 26 = .ok (.iconst 1, 1) := by decide +kernel
theorem dX2_newRequest_27 : decode cX2_newRequest 27 = .ok (.iadd, 1) := by decide +kernel
theorem dX2_newRequest_28 : decode cX2_newRequest 28 = .ok (.imul, 1) := by decide +kernel
theorem dX2_newRequest_29 : decode cX2_newRequest 29 = .ok (.iadd, 1) := by decide +kernel
theorem dX2_newRequest_30 : decode cX2_newRequest 30 = .ok (.invokevirtual 305, 3) := by decide +kernel
theorem dX2_newRequest_33 : decode cX2_newRequest 33 = .ok (.aload_n 0, 1) := by decide +kernel
theorem dX2_newRequest_34 : decode cX2_newRequest 34 = .ok (.getfield 23, 3) := by decide +kernel
theorem dX2_newRequest_37 : decode cX2_newRequest 37 = .ok (.iload_n 1, 1) := by decide +kernel
theorem dX2_newRequest_38 : decode cX2_newRequest 38 = .ok (.dup2, 1) := by decide +kernel
theorem dX2_newRequest_39 : decode cX2_newRequest 39 = .ok (.iaload, 1) := by decide +kernel
theorem dX2_newRequest_40 : decode cX2_newRequest 40 = .ok (.iconst 1, 1) := by decide +kernel
theorem dX2_newRequest_41 : decode cX2_newRequest 41 = .ok (.iadd, 1) := by decide +kernel
theorem dX2_newRequest_42 : decode cX2_newRequest 42 = .ok (.iastore, 1) := by decide +kernel
theorem dX2_newRequest_43 : decode cX2_newRequest 43 = .ok (.aload_n 0, 1) := by decide +kernel
theorem dX2_newRequest_44 : decode cX2_newRequest 44 = .ok (.getfield 53, 3) := by decide +kernel
theorem dX2_newRequest_47 : decode cX2_newRequest 47 = .ok (.iload_n 1, 1) := by decide +kernel
theorem dX2_newRequest_48 : decode cX2_newRequest 48 = .ok (.putfield 308, 3) := by decide +kernel
theorem dX2_newRequest_51 : decode cX2_newRequest 51 = .ok (.aload_n 0, 1) := by decide +kernel
theorem dX2_newRequest_52 : decode cX2_newRequest 52 = .ok (.getfield 53, 3) := by decide +kernel
theorem dX2_newRequest_55 : decode cX2_newRequest 55 = .ok (.aload_n 0, 1) := by decide +kernel
theorem dX2_newRequest_56 : decode cX2_newRequest 56 = .ok (.getfield 23, 3) := by decide +kernel
theorem dX2_newRequest_59 : decode cX2_newRequest 59 = .ok (.iload_n 1, 1) := by decide +kernel
theorem dX2_newRequest_60 : decode cX2_newRequest 60 = .ok (.iaload, 1) := by decide +kernel
theorem dX2_newRequest_61 : decode cX2_newRequest 61 = .ok (.putfield 311, 3) := by decide +kernel
theorem dX2_newRequest_64 : decode cX2_newRequest 64 = .ok (.aload_n 0, 1) := by decide +kernel
theorem dX2_newRequest_65 : decode cX2_newRequest 65 = .ok (.getfield 53, 3) := by decide +kernel
theorem dX2_newRequest_68 : decode cX2_newRequest 68 = .ok (.aload_n 0, 1) := by decide +kernel
theorem dX2_newRequest_69 : decode cX2_newRequest 69 = .ok (.iload_n 1, 1) := by decide +kernel
theorem dX2_newRequest_70 : decode cX2_newRequest 70 = .ok (.invokevirtual 314, 3) := by decide +kernel
theorem dX2_newRequest_73 : decode cX2_newRequest 73 = .ok (.putfield 317, 3) := by decide +kernel
theorem dX2_newRequest_76 : decode cX2_newRequest 76 = .ok (.aload_n 0, 1) := by decide +kernel
theorem dX2_newRequest_77 : decode cX2_newRequest 77 = .ok (.getfield 53, 3) := by decide +kernel
theorem dX2_newRequest_80 : decode cX2_newRequest 80 = .ok (.iload_n 2, 1) := by decide +kernel
theorem dX2_newRequest_81 : decode cX2_newRequest 81 = .ok (.putfield 320, 3) := by decide +kernel
theorem dX2_newRequest_84 : decode cX2_newRequest 84 = .ok (.aload_n 0, 1) := by decide +kernel
theorem dX2_newRequest_85 : decode cX2_newRequest 85 = .ok (.getfield 53, 3) := by decide +kernel
theorem dX2_newRequest_88 : decode cX2_newRequest 88 = .ok (.aload_n 0, 1) := by decide +kernel
theorem dX2_newRequest_89 : decode cX2_newRequest 89 = .ok (.getfield 29, 3) := by decide +kernel
theorem dX2_newRequest_92 : decode cX2_newRequest 92 = .ok (.getfield 211, 3) := by decide +kernel
theorem dX2_newRequest_95 : decode cX2_newRequest 95 = .ok (.iload 4, 2) := by decide +kernel
theorem dX2_newRequest_97 : decode cX2_newRequest 97 = .ok (.iaload, 1) := by decide +kernel
theorem dX2_newRequest_98 : decode cX2_newRequest 98 = .ok (.putfield 323, 3) := by decide +kernel
theorem dX2_newRequest_101 : decode cX2_newRequest 101 = .ok (.aload_n 0, 1) := by decide +kernel
theorem dX2_newRequest_102 : decode cX2_newRequest 102 = .ok (.getfield 53, 3) := by decide +kernel
theorem dX2_newRequest_105 : decode cX2_newRequest 105 = .ok (.iconst 0, 1) := by decide +kernel
theorem dX2_newRequest_106 : decode cX2_newRequest 106 = .ok (.putfield 326, 3) := by decide +kernel
theorem dX2_newRequest_109 : decode cX2_newRequest 109 = .ok (.aload_n 0, 1) := by decide +kernel
theorem dX2_newRequest_110 : decode cX2_newRequest 110 = .ok (.getfield 53, 3) := by decide +kernel
theorem dX2_newRequest_113 : decode cX2_newRequest 113 = .ok (.iload_n 3, 1) := by decide +kernel
theorem dX2_newRequest_114 : decode cX2_newRequest 114 = .ok (.putfield 329, 3) := by decide +kernel
theorem dX2_newRequest_117 : decode cX2_newRequest 117 = .ok (.aload_n 0, 1) := by decide +kernel
theorem dX2_newRequest_118 : decode cX2_newRequest 118 = .ok (.getfield 53, 3) := by decide +kernel
theorem dX2_newRequest_121 : decode cX2_newRequest 121 = .ok (.areturn, 1) := by decide +kernel
theorem dX2_newAsk_0 : decode cX2_newAsk 0 = .ok (.aload_n 0, 1) := by decide +kernel
theorem dX2_newAsk_1 : decode cX2_newAsk 1 = .ok (.getfield 90, 3) := by decide +kernel
theorem dX2_newAsk_4 : decode cX2_newAsk 4 = .ok (.aload_n 0, 1) := by decide +kernel
theorem dX2_newAsk_5 : decode cX2_newAsk 5 = .ok (.getfield 47, 3) := by decide +kernel
theorem dX2_newAsk_8 : decode cX2_newAsk 8 = .ok (.arraylength, 1) := by decide +kernel
theorem dX2_newAsk_9 : decode cX2_newAsk 9 = .ok (.if_icmp .lt 20, 3) := by decide +kernel
theorem dX2_newAsk_12 : decode cX2_newAsk 12 = .ok (.aload_n 0, 1) := by decide +kernel
theorem dX2_newAsk_13 : decode cX2_newAsk 13 = .ok (.aload_n 0, 1) := by decide +kernel
theorem dX2_newAsk_14 : decode cX2_newAsk 14 = .ok (.getfield 47, 3) := by decide +kernel
theorem dX2_newAsk_17 : decode cX2_newAsk 17 = .ok (.iconst 2, 1) := by decide +kernel
theorem dX2_newAsk_18 : decode cX2_newAsk 18 = .ok (.aload_n 0, 1) := by decide +kernel
theorem dX2_newAsk_19 : decode cX2_newAsk 19 = .ok (.getfield 90, 3) := by decide +kernel
theorem dX2_newAsk_22 : decode cX2_newAsk 22 = .ok (.imul, 1) := by decide +kernel
theorem dX2_newAsk_23 : decode cX2_newAsk 23 = .ok (.invokestatic 332, 3) := by decide +kernel
theorem dX2_newAsk_26 : decode cX2_newAsk 26 = .ok (.putfield 47, 3) := by decide +kernel
theorem dX2_newAsk_29 : decode cX2_newAsk 29 = .ok (.aload_n 0, 1) := by decide +kernel
theorem dX2_newAsk_30 : decode cX2_newAsk 30 = .ok (.getfield 47, 3) := by decide +kernel
theorem dX2_newAsk_33 : decode cX2_newAsk 33 = .ok (.aload_n 0, 1) := by decide +kernel
theorem dX2_newAsk_34 : decode cX2_newAsk 34 = .ok (.getfield 90, 3) := by decide +kernel
theorem dX2_newAsk_37 : decode cX2_newAsk 37 = .ok (.iconst 1, 1) := by decide +kernel
theorem dX2_newAsk_38 : decode cX2_newAsk 38 = .ok (.iload_n 1, 1) := by decide +kernel
theorem dX2_newAsk_39 : decode cX2_newAsk 39 = .ok (.ishl, 1) := by decide +kernel
theorem dX2_newAsk_40 : decode cX2_newAsk 40 = .ok (.iastore, 1) := by decide +kernel
theorem dX2_newAsk_41 : decode cX2_newAsk 41 = .ok (.aload_n 0, 1) := by decide +kernel
theorem dX2_newAsk_42 : decode cX2_newAsk 42 = .ok (.dup, 1) := by decide +kernel
theorem dX2_newAsk_43 : decode cX2_newAsk 43 = .ok (.getfield 90, 3) := by decide +kernel
theorem dX2_newAsk_46 : decode cX2_newAsk 46 = .ok (.iconst 1, 1) := by decide +kernel
theorem dX2_newAsk_47 : decode cX2_newAsk 47 = .ok (.iadd, 1) := by decide +kernel
theorem dX2_newAsk_48 : decode cX2_newAsk 48 = .ok (.putfield 90, 3) := by decide +kernel
theorem dX2_newAsk_51 : decode cX2_newAsk 51 = .ok (.aload_n 0, 1) := by decide +kernel
theorem dX2_newAsk_52 : decode cX2_newAsk 52 = .ok (.getfield 90, 3) := by decide +kernel
theorem dX2_newAsk_55 : decode cX2_newAsk 55 = .ok (.iconst 1, 1) := by decide +kernel
theorem dX2_newAsk_56 : decode cX2_newAsk 56 = .ok (.isub, 1) := by decide +kernel
theorem dX2_newAsk_57 : decode cX2_newAsk 57 = .ok (.ireturn, 1) := by decide +kernel
theorem dX2_handleTimeout_0 : decode cX2_handleTimeout 0 = .ok (.iload_n 1, 1) := by decide +kernel
theorem dX2_handleTimeout_1 : decode cX2_handleTimeout 1 = .ok (.bipush 10, 2) := by decide +kernel
theorem dX2_handleTimeout_3 : decode cX2_handleTimeout 3 = .ok (.idiv, 1) := by decide +kernel
theorem dX2_handleTimeout_4 : decode cX2_handleTimeout 4 = .ok (.istore_n 2, 1) := by decide +kernel
theorem dX2_handleTimeout_5 : decode cX2_handleTimeout 5 = .ok (.iload_n 1, 1) := by decide +kernel
theorem dX2_handleTimeout_6 : decode cX2_handleTimeout 6 = .ok (.bipush 10, 2) := by decide +kernel
theorem dX2_handleTimeout_8 : decode cX2_handleTimeout 8 = .ok (.irem, 1) := by decide +kernel
theorem dX2_handleTimeout_9 : decode cX2_handleTimeout 9 = .ok (.istore_n 3, 1) := by decide +kernel
theorem dX2_handleTimeout_10 : decode cX2_handleTimeout 10 = .ok (.aload_n 0, 1) := by decide +kernel
theorem dX2_handleTimeout_11 : decode cX2_handleTimeout 11 = .ok (.getfield 36, 3) := by decide +kernel
theorem dX2_handleTimeout_14 : decode cX2_handleTimeout 14 = .ok (.getfield 338, 3) := by decide +kernel
theorem dX2_handleTimeout_17 : decode cX2_handleTimeout 17 = .ok (.iload_n 1, 1) := by decide +kernel
theorem dX2_handleTimeout_18 : decode cX2_handleTimeout 18 = .ok (.iaload, 1) := by decide +kernel
theorem dX2_handleTimeout_19 : decode cX2_handleTimeout 19 = .ok (.iconst 2, 1) := by decide +kernel
theorem dX2_handleTimeout_20 : decode cX2_handleTimeout 20 = .ok (.if_icmp .ne 25, 3) := by decide +kernel
theorem dX2_handleTimeout_23 : decode cX2_handleTimeout 23 = .ok (.aload_n 0, 1) := by decide +kernel
theorem dX2_handleTimeout_24 : decode cX2_handleTimeout 24 = .ok (.getfield 36, 3) := by decide +kernel
theorem dX2_handleTimeout_27 : decode cX2_handleTimeout 27 = .ok (.iload_n 1, 1) := by decide +kernel
theorem dX2_handleTimeout_28 : decode cX2_handleTimeout 28 = .ok (.invokevirtual 232, 3) := by decide +kernel
theorem dX2_handleTimeout_31 : decode cX2_handleTimeout 31 = .ok (.aload_n 0, 1) := by decide +kernel
theorem dX2_handleTimeout_32 : decode cX2_handleTimeout 32 = .ok (.iload_n 1, 1) := by decide +kernel
theorem dX2_handleTimeout_33 : decode cX2_handleTimeout 33 = .ok (.bipush 13, 2) := by decide +kernel
theorem dX2_handleTimeout_35 : decode cX2_handleTimeout 35 = .ok (.invokevirtual 341, 3) := by decide +kernel
theorem dX2_handleTimeout_38 : decode cX2_handleTimeout 38 = .ok (.aload_n 0, 1) := by decide +kernel
theorem dX2_handleTimeout_39 : decode cX2_handleTimeout 39 = .ok (.iload_n 2, 1) := by decide +kernel
theorem dX2_handleTimeout_40 : decode cX2_handleTimeout 40 = .ok (.iload_n 3, 1) := by decide +kernel
theorem dX2_handleTimeout_41 : decode cX2_handleTimeout 41 = .ok (.invokevirtual 214, 3) := by decide +kernel
theorem dX2_handleTimeout_44 : decode cX2_handleTimeout 44 = .ok (.return_, 1) := by decide +kernel
theorem dX2_handleTimeout_45 : decode cX2_handleTimeout 45 = .ok (.aload_n 0, 1) := by decide +kernel
theorem dX2_handleTimeout_46 : decode cX2_handleTimeout 46 = .ok (.getfield 36, 3) := by decide +kernel
theorem dX2_handleTimeout_49 : decode cX2_handleTimeout 49 = .ok (.getfield 344, 3) := by decide +kernel
theorem dX2_handleTimeout_52 : decode cX2_handleTimeout 52 = .ok (.iload_n 1, 1) := by decide +kernel
theorem dX2_handleTimeout_53 : decode cX2_handleTimeout 53 = .ok (.iaload, 1) := by decide +kernel
theorem dX2_handleTimeout_54 : decode cX2_handleTimeout 54 = .ok (.istore 4, 2) := by decide +kernel
theorem dX2_handleTimeout_56 : decode cX2_handleTimeout 56 = .ok (.aload_n 0, 1) := by decide +kernel
theorem dX2_handleTimeout_57 : decode cX2_handleTimeout 57 = .ok (.getfield 36, 3) := by decide +kernel
theorem dX2_handleTimeout_60 : decode cX2_handleTimeout 60 = .ok (.getfield 347, 3) := by decide +kernel
theorem dX2_handleTimeout_63 : decode cX2_handleTimeout 63 = .ok (.iload_n 1, 1) := by decide +kernel
theorem dX2_handleTimeout_64 : decode cX2_handleTimeout 64 = .ok (.iaload, 1) := by decide +kernel
theorem dX2_handleTimeout_65 : decode cX2_handleTimeout 65 = .ok (.ifCond .ne 50, 3) := by decide +kernel
theorem dX2_handleTimeout_68 : decode cX2_handleTimeout 68 = .ok (.iload 4, 2) := by decide +kernel
theorem dX2_handleTimeout_70 : decode cX2_handleTimeout 70 = .ok (.aload_n 0, 1) := by decide +kernel
theorem dX2_handleTimeout_71 : decode cX2_handleTimeout 71 = .ok (.getfield 18, 3) := by decide +kernel
theorem dX2_handleTimeout_74 : decode cX2_handleTimeout 74 = .ok (.iconst 3, 1) := by decide +kernel
theorem dX2_handleTimeout_75 : decode cX2_handleTimeout 75 = .ok (.iaload, 1) := by decide +kernel
theorem dX2_handleTimeout_76 : decode cX2_handleTimeout 76 = .ok (.if_icmp .ge 39, 3) := by decide +kernel
theorem dX2_handleTimeout_79 : decode cX2_handleTimeout 79 = .ok (.iload 4, 2) := by decide +kernel
theorem dX2_handleTimeout_81 : decode cX2_handleTimeout 81 = .ok (.aload_n 0, 1) := by decide +kernel
theorem dX2_handleTimeout_82 : decode cX2_handleTimeout 82 = .ok (.getfield 18, 3) := by decide +kernel
theorem dX2_handleTimeout_85 : decode cX2_handleTimeout 85 = .ok (.iconst 2, 1) := by decide +kernel
theorem dX2_handleTimeout_86 : decode cX2_handleTimeout 86 = .ok (.iaload, 1) := by decide +kernel
theorem dX2_handleTimeout_87 : decode cX2_handleTimeout 87 = .ok (.iadd, 1) := by decide +kernel
theorem dX2_handleTimeout_88 : decode cX2_handleTimeout 88 = .ok (.aload_n 0, 1) := by decide +kernel
theorem dX2_handleTimeout_89 : decode cX2_handleTimeout 89 = .ok (.getfield 18, 3) := by decide +kernel
theorem dX2_handleTimeout_92 : decode cX2_handleTimeout 92 = .ok (.iconst 3, 1) := by decide +kernel
theorem dX2_handleTimeout_93 : decode cX2_handleTimeout 93 = .ok (.iaload, 1) := by decide +kernel
theorem dX2_handleTimeout_94 : decode cX2_handleTimeout 94 = .ok (.invokestatic 178, 3) := by decide +kernel
theorem dX2_handleTimeout_97 : decode cX2_handleTimeout 97 = .ok (.istore 5, 2) := by decide +kernel
theorem dX2_handleTimeout_99 : decode cX2_handleTimeout 99 = .ok (.aload_n 0, 1) := by decide +kernel
theorem dX2_handleTimeout_100 : decode cX2_handleTimeout 100 = .ok (.iload_n 2, 1) := by decide +kernel
theorem dX2_handleTimeout_101 : decode cX2_handleTimeout 101 = .ok (.aload_n 0, 1) := by decide +kernel
theorem dX2_handleTimeout_102 : decode cX2_handleTimeout 102 = .ok (.iload_n 2, 1) := by decide +kernel
theorem dX2_handleTimeout_103 : decode cX2_handleTimeout 103 = .ok (.iload_n 3, 1) := by decide +kernel
theorem dX2_handleTimeout_104 : decode cX2_handleTimeout 104 = .ok (.iload 5, 2) := by decide +kernel
theorem dX2_handleTimeout_106 : decode cX2_handleTimeout 106 = .ok (.invokevirtual 262, 3) := by decide +kernel
theorem dX2_handleTimeout_109 : decode cX2_handleTimeout 109 = .ok (.invokevirtual 266, 3) := by decide +kernel
theorem dX2_handleTimeout_112 : decode cX2_handleTimeout 112 = .ok (.goto 69, 3) := by decide +kernel
theorem dX2_handleTimeout_115 : decode cX2_handleTimeout 115 = .ok (.aload_n 0, 1) := by decide +kernel
theorem dX2_handleTimeout_116 : decode cX2_handleTimeout 116 = .ok (.getfield 36, 3) := by decide +kernel
theorem dX2_handleTimeout_119 : decode cX2_handleTimeout 119 = .ok (.getfield 347, 3) := by decide +kernel
theorem dX2_handleTimeout_122 : decode cX2_handleTimeout 122 = .ok (.iload_n 1, 1) := by decide +kernel
theorem dX2_handleTimeout_123 : decode cX2_handleTimeout 123 = .ok (.iaload, 1) := by decide +kernel
theorem dX2_handleTimeout_124 : decode cX2_handleTimeout 124 = .ok (.aload_n 0, 1) := by decide +kernel
theorem dX2_handleTimeout_125 : decode cX2_handleTimeout 125 = .ok (.getfield 18, 3) := by decide +kernel
theorem dX2_handleTimeout_128 : decode cX2_handleTimeout 128 = .ok (.iconst 5, 1) := by decide +kernel
theorem dX2_handleTimeout_129 : decode cX2_handleTimeout 129 = .ok (.iaload, 1) := by decide +kernel
theorem dX2_handleTimeout_130 : decode cX2_handleTimeout 130 = .ok (.if_icmp .ge 36, 3) := by decide +kernel
theorem dX2_handleTimeout_133 : decode cX2_handleTimeout 133 = .ok (.aload_n 0, 1) := by decide +kernel
theorem dX2_handleTimeout_134 : decode cX2_handleTimeout 134 = .ok (.getfield 36, 3) := by decide +kernel
theorem dX2_handleTimeout_137 : decode cX2_handleTimeout 137 = .ok (.getfield 347, 3) := by decide +kernel
theorem dX2_handleTimeout_140 : decode cX2_handleTimeout 140 = .ok (.iload_n 1, 1) := by decide +kernel
theorem dX2_handleTimeout_141 : decode cX2_handleTimeout 141 = .ok (.dup2, 1) := by decide +kernel
theorem dX2_handleTimeout_142 : decode cX2_handleTimeout 142 = .ok (.iaload, 1) := by decide +kernel
theorem dX2_handleTimeout_143 : decode cX2_handleTimeout 143 = .ok (.iconst 1, 1) := by decide +kernel
theorem dX2_handleTimeout_144 : decode cX2_handleTimeout 144 = .ok (.iadd, 1) := by decide +kernel
theorem dX2_handleTimeout_145 : decode cX2_handleTimeout 145 = .ok (.iastore, 1) := by decide +kernel
theorem dX2_handleTimeout_146 : decode cX2_handleTimeout 146 = .ok (.aload_n 0, 1) := by decide +kernel
theorem dX2_handleTimeout_147 : decode cX2_handleTimeout 147 = .ok (.iload_n 2, 1) := by decide +kernel
theorem dX2_handleTimeout_148 : decode cX2_handleTimeout 148 = .ok (.aload_n 0, 1) := by decide +kernel
theorem dX2_handleTimeout_149 : decode cX2_handleTimeout 149 = .ok (.iload_n 2, 1) := by decide +kernel
theorem dX2_handleTimeout_150 : decode cX2_handleTimeout 150 = .ok (.iload_n 3, 1) := by decide +kernel
theorem dX2_handleTimeout_151 : decode cX2_handleTimeout 151 = .ok (.aload_n 0, 1) := by decide +kernel
theorem dX2_handleTimeout_152 : decode cX2_handleTimeout 152 = .ok (.getfield 18, 3) := by decide +kernel
theorem dX2_handleTimeout_155 : decode cX2_handleTimeout 155 = .ok (.iconst 4, 1) := by decide +kernel
theorem dX2_handleTimeout_156 : decode cX2_handleTimeout 156 = .ok (.iaload, 1) := by decide +kernel
theorem dX2_handleTimeout_157 : decode cX2_handleTimeout 157 = .ok (.invokevirtual 262, 3) := by decide +kernel
theorem dX2_handleTimeout_160 : decode cX2_handleTimeout 160 = .ok (.invokevirtual 266, 3) := by decide +kernel
theorem dX2_handleTimeout_163 : decode cX2_handleTimeout 163 = .ok (.goto 18, 3) := by decide +kernel
theorem dX2_handleTimeout_166 : decode cX2_handleTimeout 166 = .ok (.aload_n 0, 1) := by decide +kernel
theorem dX2_handleTimeout_167 : decode cX2_handleTimeout 167 = .ok (.getfield 36, 3) := by decide +kernel
theorem dX2_handleTimeout_170 : decode cX2_handleTimeout 170 = .ok (.iload_n 1, 1) := by decide +kernel
theorem dX2_handleTimeout_171 : decode cX2_handleTimeout 171 = .ok (.invokevirtual 232, 3) := by decide +kernel
theorem dX2_handleTimeout_174 : decode cX2_handleTimeout 174 = .ok (.aload_n 0, 1) := by decide +kernel
theorem dX2_handleTimeout_175 : decode cX2_handleTimeout 175 = .ok (.iload_n 1, 1) := by decide +kernel
theorem dX2_handleTimeout_176 : decode cX2_handleTimeout 176 = .ok (.bipush 11, 2) := by decide +kernel
theorem dX2_handleTimeout_178 : decode cX2_handleTimeout 178 = .ok (.invokevirtual 341, 3) := by decide +kernel
theorem dX2_handleTimeout_181 : decode cX2_handleTimeout 181 = .ok (.return_, 1) := by decide +kernel
theorem dX2_broadcast_0 : decode cX2_broadcast 0 = .ok (.iconst 0, 1) := by decide +kernel
theorem dX2_broadcast_1 : decode cX2_broadcast 1 = .ok (.istore_n 3, 1) := by decide +kernel
theorem dX2_broadcast_2 : decode cX2_broadcast 2 = .ok (.iload_n 3, 1) := by decide +kernel
theorem dX2_broadcast_3 : decode cX2_broadcast 3 = .ok (.aload_n 0, 1) := by decide +kernel
theorem dX2_broadcast_4 : decode cX2_broadcast 4 = .ok (.getfield 57, 3) := by decide +kernel
theorem dX2_broadcast_7 : decode cX2_broadcast 7 = .ok (.if_icmp .ge 45, 3) := by decide +kernel
theorem dX2_broadcast_10 : decode cX2_broadcast 10 = .ok (.aload_n 0, 1) := by decide +kernel
theorem dX2_broadcast_11 : decode cX2_broadcast 11 = .ok (.getfield 66, 3) := by decide +kernel
theorem dX2_broadcast_14 : decode cX2_broadcast 14 = .ok (.iload_n 1, 1) := by decide +kernel
theorem dX2_broadcast_15 : decode cX2_broadcast 15 = .ok (.iload_n 3, 1) := by decide +kernel
theorem dX2_broadcast_16 : decode cX2_broadcast 16 = .ok (.invokevirtual 276, 3) := by decide +kernel
theorem dX2_broadcast_19 : decode cX2_broadcast 19 = .ok (.ifCond .eq 27, 3) := by decide +kernel
theorem dX2_broadcast_22 : decode cX2_broadcast 22 = .ok (.aload_n 0, 1) := by decide +kernel
theorem dX2_broadcast_23 : decode cX2_broadcast 23 = .ok (.getfield 66, 3) := by decide +kernel
theorem dX2_broadcast_26 : decode cX2_broadcast 26 = .ok (.iconst 0, 1) := by decide +kernel
theorem dX2_broadcast_27 : decode cX2_broadcast 27 = .ok (.iload_n 1, 1) := by decide +kernel
theorem dX2_broadcast_28 : decode cX2_broadcast 28 = .ok (.iload_n 3, 1) := by decide +kernel
theorem dX2_broadcast_29 : decode cX2_broadcast 29 = .ok (.aload_n 0, 1) := by decide +kernel
theorem dX2_broadcast_30 : decode cX2_broadcast 30 = .ok (.iload_n 1, 1) := by decide +kernel
theorem dX2_broadcast_31 : decode cX2_broadcast 31 = .ok (.iload_n 3, 1) := by decide +kernel
theorem dX2_broadcast_32 : decode cX2_broadcast 32 = .ok (.invokevirtual 285, 3) := by decide +kernel
theorem dX2_broadcast_35 : decode cX2_broadcast 35 = .ok (.invokevirtual 288, 3) := by decide +kernel
theorem dX2_broadcast_38 : decode cX2_broadcast 38 = .ok (.astore 4, 2) := by decide +kernel
theorem dX2_broadcast_40 : decode cX2_broadcast 40 = .ok (.aload 4, 2) := by decide +kernel
theorem dX2_broadcast_42 : decode cX2_broadcast 42 = .ok (.aload_n 2, 1) := by decide +kernel
theorem dX2_broadcast_43 : decode cX2_broadcast 43 = .ok (.invokevirtual 350, 3) := by decide +kernel
theorem dX2_broadcast_46 : decode cX2_broadcast 46 = .ok (.iinc 3 1, 3) := by decide +kernel
theorem dX2_broadcast_49 : decode cX2_broadcast 49 = .ok (.goto (-47), 3) := by decide +kernel
theorem dX2_broadcast_52 : decode cX2_broadcast 52 = .ok (.return_, 1) := by decide +kernel
theorem dX2_walk_0 : decode cX2_walk 0 = .ok (.iload_n 1, 1) := by decide +kernel
theorem dX2_walk_1 : decode cX2_walk 1 = .ok (.istore_n 3, 1) := by decide +kernel
theorem dX2_walk_2 : decode cX2_walk 2 = .ok (.iconst 0, 1) := by decide +kernel
theorem dX2_walk_3 : decode cX2_walk 3 = .ok (.istore 4, 2) := by decide +kernel
theorem dX2_walk_5 : decode cX2_walk 5 = .ok (.iload 4, 2) := by decide +kernel
theorem dX2_walk_7 : decode cX2_walk 7 = .ok (.aload_n 0, 1) := by decide +kernel
theorem dX2_walk_8 : decode cX2_walk 8 = .ok (.getfield 57, 3) := by decide +kernel
theorem dX2_walk_11 : decode cX2_walk 11 = .ok (.if_icmp .ge 53, 3) := by decide +kernel
theorem dX2_walk_14 : decode cX2_walk 14 = .ok (.iload_n 3, 1) := by decide +kernel
theorem dX2_walk_15 : decode cX2_walk 15 = .ok (.iload_n 2, 1) := by decide +kernel
theorem dX2_walk_16 : decode cX2_walk 16 = .ok (.if_icmp .ne 6, 3) := by decide +kernel
theorem dX2_walk_19 : decode cX2_walk 19 = .ok (.iload 4, 2) := by decide +kernel
theorem dX2_walk_21 : decode cX2_walk 21 = .ok (.ireturn, 1) := by decide +kernel
theorem dX2_walk_22 : decode cX2_walk 22 = .ok (.iload_n 3, 1) := by decide +kernel
theorem dX2_walk_23 : decode cX2_walk 23 = .ok (.iload_n 2, 1) := by decide +kernel
theorem dX2_walk_24 : decode cX2_walk 24 = .ok (.invokestatic 198, 3) := by decide +kernel
theorem dX2_walk_27 : decode cX2_walk 27 = .ok (.istore 5, 2) := by decide +kernel
theorem dX2_walk_29 : decode cX2_walk 29 = .ok (.aload_n 0, 1) := by decide +kernel
theorem dX2_walk_30 : decode cX2_walk 30 = .ok (.getfield 29, 3) := by decide +kernel
theorem dX2_walk_33 : decode cX2_walk 33 = .ok (.iload 5, 2) := by decide +kernel
theorem dX2_walk_35 : decode cX2_walk 35 = .ok (.aload_n 0, 1) := by decide +kernel
theorem dX2_walk_36 : decode cX2_walk 36 = .ok (.getfield 70, 3) := by decide +kernel
theorem dX2_walk_39 : decode cX2_walk 39 = .ok (.invokevirtual 201, 3) := by decide +kernel
theorem dX2_walk_42 : decode cX2_walk 42 = .ok (.ifCond .ne 5, 3) := by decide +kernel
theorem dX2_walk_45 : decode cX2_walk 45 = .ok (.iconst (-1), 1) := by decide +kernel
theorem dX2_walk_46 : decode cX2_walk 46 = .ok (.ireturn, 1) := by decide +kernel
theorem dX2_walk_47 : decode cX2_walk 47 = .ok (.aload_n 0, 1) := by decide +kernel
theorem dX2_walk_48 : decode cX2_walk 48 = .ok (.getfield 29, 3) := by decide +kernel
theorem dX2_walk_51 : decode cX2_walk 51 = .ok (.getfield 205, 3) := by decide +kernel
theorem dX2_walk_54 : decode cX2_walk 54 = .ok (.iload 5, 2) := by decide +kernel
theorem dX2_walk_56 : decode cX2_walk 56 = .ok (.iaload, 1) := by decide +kernel
theorem dX2_walk_57 : decode cX2_walk 57 = .ok (.istore_n 3, 1) := by decide +kernel
theorem dX2_walk_58 : decode cX2_walk 58 = .ok (.iinc 4 1, 3) := by decide +kernel
theorem dX2_walk_61 : decode cX2_walk 61 = .ok (.goto (-56), 3) := by decide +kernel
theorem dX2_walk_64 : decode cX2_walk 64 = .ok (.bipush (-2), 2) := by decide +kernel
theorem dX2_walk_66 : decode cX2_walk 66 = .ok (.ireturn, 1) := by decide +kernel
theorem dX2_sequenceShown_0 : decode cX2_sequenceShown 0 = .ok (.iload_n 1, 1) := by decide +kernel
theorem dX2_sequenceShown_1 : decode cX2_sequenceShown 1 = .ok (.iload_n 2, 1) := by decide +kernel
theorem dX2_sequenceShown_2 : decode cX2_sequenceShown 2 = .ok (.if_icmp .ne 10, 3) := by decide +kernel
theorem dX2_sequenceShown_5 : decode cX2_sequenceShown 5 = .ok (.aload_n 0, 1) := by decide +kernel
theorem dX2_sequenceShown_6 : decode cX2_sequenceShown 6 = .ok (.getfield 23, 3) := by decide +kernel
theorem dX2_sequenceShown_9 : decode cX2_sequenceShown 9 = .ok (.iload_n 1, 1) := by decide +kernel
theorem dX2_sequenceShown_10 : decode cX2_sequenceShown 10 = .ok (.iaload, 1) := by decide +kernel
theorem dX2_sequenceShown_11 : decode cX2_sequenceShown 11 = .ok (.ireturn, 1) := by decide +kernel
theorem dX2_sequenceShown_12 : decode cX2_sequenceShown 12 = .ok (.iload_n 1, 1) := by decide +kernel
theorem dX2_sequenceShown_13 : decode cX2_sequenceShown 13 = .ok (.iload_n 2, 1) := by decide +kernel
theorem dX2_sequenceShown_14 : decode cX2_sequenceShown 14 = .ok (.invokestatic 198, 3) := by decide +kernel
theorem dX2_sequenceShown_17 : decode cX2_sequenceShown 17 = .ok (.istore_n 3, 1) := by decide +kernel
theorem dX2_sequenceShown_18 : decode cX2_sequenceShown 18 = .ok (.aload_n 0, 1) := by decide +kernel
theorem dX2_sequenceShown_19 : decode cX2_sequenceShown 19 = .ok (.getfield 29, 3) := by decide +kernel
theorem dX2_sequenceShown_22 : decode cX2_sequenceShown 22 = .ok (.iload_n 3, 1) := by decide +kernel
theorem dX2_sequenceShown_23 : decode cX2_sequenceShown 23 = .ok (.invokevirtual 282, 3) := by decide +kernel
theorem dX2_sequenceShown_26 : decode cX2_sequenceShown 26 = .ok (.ifCond .eq 15, 3) := by decide +kernel
theorem dX2_sequenceShown_29 : decode cX2_sequenceShown 29 = .ok (.aload_n 0, 1) := by decide +kernel
theorem dX2_sequenceShown_30 : decode cX2_sequenceShown 30 = .ok (.getfield 29, 3) := by decide +kernel
theorem dX2_sequenceShown_33 : decode cX2_sequenceShown 33 = .ok (.getfield 211, 3) := by decide +kernel
theorem dX2_sequenceShown_36 : decode cX2_sequenceShown 36 = .ok (.iload_n 3, 1) := by decide +kernel
theorem dX2_sequenceShown_37 : decode cX2_sequenceShown 37 = .ok (.iaload, 1) := by decide +kernel
theorem dX2_sequenceShown_38 : decode cX2_sequenceShown 38 = .ok (.goto 5, 3) := by decide +kernel
theorem dX2_sequenceShown_41 : decode cX2_sequenceShown 41 = .ok (.bipush (-2), 2) := by decide +kernel
theorem dX2_sequenceShown_43 : decode cX2_sequenceShown 43 = .ok (.ireturn, 1) := by decide +kernel
theorem dX2_cellMixedInto_0 : decode cX2_cellMixedInto 0 = .ok (.iload_n 3, 1) := by decide +kernel
theorem dX2_cellMixedInto_1 : decode cX2_cellMixedInto 1 = .ok (.iload 4, 2) := by decide +kernel
theorem dX2_cellMixedInto_3 : decode cX2_cellMixedInto 3 = .ok (.invokestatic 198, 3) := by decide +kernel
theorem dX2_cellMixedInto_6 : decode cX2_cellMixedInto 6 = .ok (.istore 5, 2) := by decide +kernel
theorem dX2_cellMixedInto_8 : decode cX2_cellMixedInto 8 = .ok (.lload_n 1, 1) := by decide +kernel
theorem dX2_cellMixedInto_9 : decode cX2_cellMixedInto 9 = .ok (.ldc2_w 372, 3) := by decide +kernel
theorem dX2_cellMixedInto_12 : decode cX2_cellMixedInto 12 = .ok (.lmul, 1) := by decide +kernel
theorem dX2_cellMixedInto_13 : decode cX2_cellMixedInto 13 = .ok (.aload_n 0, 1) := by decide +kernel
theorem dX2_cellMixedInto_14 : decode cX2_cellMixedInto 14 = .ok (.getfield 29, 3) := by decide +kernel
theorem dX2_cellMixedInto_17 : decode cX2_cellMixedInto 17 = .ok (.iload 5, 2) := by decide +kernel
theorem dX2_cellMixedInto_19 : decode cX2_cellMixedInto 19 = .ok (.aload_n 0, 1) := by decide +kernel
theorem dX2_cellMixedInto_20 : decode cX2_cellMixedInto 20 = .ok (.getfield 70, 3) := by decide +kernel
theorem dX2_cellMixedInto_23 : decode cX2_cellMixedInto 23 = .ok (.invokevirtual 201, 3) := by decide +kernel
theorem dX2_cellMixedInto_26 : decode cX2_cellMixedInto 26 = .ok (.ifCond .eq 7, 3) := by decide +kernel
theorem dX2_cellMixedInto_29 : decode cX2_cellMixedInto 29 = .ok (.iconst 1, 1) := by decide +kernel
theorem dX2_cellMixedInto_30 : decode cX2_cellMixedInto 30 = .ok (.goto 4, 3) := by decide +kernel
theorem dX2_cellMixedInto_33 : decode cX2_cellMixedInto 33 = .ok (.iconst 0, 1) := by decide +kernel
theorem dX2_cellMixedInto_34 : decode cX2_cellMixedInto 34 = .ok (.i2l, 1) := by decide +kernel
theorem dX2_cellMixedInto_35 : decode cX2_cellMixedInto 35 = .ok (.ladd, 1) := by decide +kernel
theorem dX2_cellMixedInto_36 : decode cX2_cellMixedInto 36 = .ok (.lstore 6, 2) := by decide +kernel
theorem dX2_cellMixedInto_38 : decode cX2_cellMixedInto 38 = .ok (.lload 6, 2) := by decide +kernel
theorem dX2_cellMixedInto_40 : decode cX2_cellMixedInto 40 = .ok (.ldc2_w 372, 3) := by decide +kernel
theorem dX2_cellMixedInto_43 : decode cX2_cellMixedInto 43 = .ok (.lmul, 1) := by decide +kernel
theorem dX2_cellMixedInto_44 : decode cX2_cellMixedInto 44 = .ok (.aload_n 0, 1) := by decide +kernel
theorem dX2_cellMixedInto_45 : decode cX2_cellMixedInto 45 = .ok (.getfield 29, 3) := by decide +kernel
theorem dX2_cellMixedInto_48 : decode cX2_cellMixedInto 48 = .ok (.getfield 205, 3) := by decide +kernel
theorem dX2_cellMixedInto_51 : decode cX2_cellMixedInto 51 = .ok (.iload 5, 2) := by decide +kernel
theorem dX2_cellMixedInto_53 : decode cX2_cellMixedInto 53 = .ok (.iaload, 1) := by decide +kernel
theorem dX2_cellMixedInto_54 : decode cX2_cellMixedInto 54 = .ok (.i2l, 1) := by decide +kernel
theorem dX2_cellMixedInto_55 : decode cX2_cellMixedInto 55 = .ok (.ladd, 1) := by decide +kernel
theorem dX2_cellMixedInto_56 : decode cX2_cellMixedInto 56 = .ok (.lstore 6, 2) := by decide +kernel
theorem dX2_cellMixedInto_58 : decode cX2_cellMixedInto 58 = .ok (.lload 6, 2) := by decide +kernel
theorem dX2_cellMixedInto_60 : decode cX2_cellMixedInto 60 = .ok (.ldc2_w 372, 3) := by decide +kernel
theorem dX2_cellMixedInto_63 : decode cX2_cellMixedInto 63 = .ok (.lmul, 1) := by decide +kernel
theorem dX2_cellMixedInto_64 : decode cX2_cellMixedInto 64 = .ok (.aload_n 0, 1) := by decide +kernel
theorem dX2_cellMixedInto_65 : decode cX2_cellMixedInto 65 = .ok (.getfield 29, 3) := by decide +kernel
theorem dX2_cellMixedInto_68 : decode cX2_cellMixedInto 68 = .ok (.getfield 273, 3) := by decide +kernel
theorem dX2_cellMixedInto_71 : decode cX2_cellMixedInto 71 = .ok (.iload 5, 2) := by decide +kernel
theorem dX2_cellMixedInto_73 : decode cX2_cellMixedInto 73 = .ok (.iaload, 1) := by decide +kernel
theorem dX2_cellMixedInto_74 : decode cX2_cellMixedInto 74 = .ok (.i2l, 1) := by decide +kernel
theorem dX2_cellMixedInto_75 : decode cX2_cellMixedInto 75 = .ok (.ladd, 1) := by decide +kernel
theorem dX2_cellMixedInto_76 : decode cX2_cellMixedInto 76 = .ok (.lstore 6, 2) := by decide +kernel
theorem dX2_cellMixedInto_78 : decode cX2_cellMixedInto 78 = .ok (.lload 6, 2) := by decide +kernel
theorem dX2_cellMixedInto_80 : decode cX2_cellMixedInto 80 = .ok (.ldc2_w 372, 3) := by decide +kernel
theorem dX2_cellMixedInto_83 : decode cX2_cellMixedInto 83 = .ok (.lmul, 1) := by decide +kernel
theorem dX2_cellMixedInto_84 : decode cX2_cellMixedInto 84 = .ok (.aload_n 0, 1) := by decide +kernel
theorem dX2_cellMixedInto_85 : decode cX2_cellMixedInto 85 = .ok (.iload_n 3, 1) := by decide +kernel
theorem dX2_cellMixedInto_86 : decode cX2_cellMixedInto 86 = .ok (.iload 4, 2) := by decide +kernel
theorem dX2_cellMixedInto_88 : decode cX2_cellMixedInto 88 = .ok (.invokevirtual 374, 3) := by decide +kernel
theorem dX2_cellMixedInto_91 : decode cX2_cellMixedInto 91 = .ok (.i2l, 1) := by decide +kernel
theorem dX2_cellMixedInto_92 : decode cX2_cellMixedInto 92 = .ok (.ladd, 1) := by decide +kernel
theorem dX2_cellMixedInto_93 : decode cX2_cellMixedInto 93 = .ok (.lstore 6, 2) := by decide +kernel
theorem dX2_cellMixedInto_95 : decode cX2_cellMixedInto 95 = .ok (.lload 6, 2) := by decide +kernel
theorem dX2_cellMixedInto_97 : decode cX2_cellMixedInto 97 = .ok (.ldc2_w 372, 3) := by decide +kernel
theorem dX2_cellMixedInto_100 : decode cX2_cellMixedInto 100 = .ok (.lmul, 1) := by decide +kernel
theorem dX2_cellMixedInto_101 : decode cX2_cellMixedInto 101 = .ok (.aload_n 0, 1) := by decide +kernel
theorem dX2_cellMixedInto_102 : decode cX2_cellMixedInto 102 = .ok (.getfield 29, 3) := by decide +kernel
theorem dX2_cellMixedInto_105 : decode cX2_cellMixedInto 105 = .ok (.getfield 369, 3) := by decide +kernel
theorem dX2_cellMixedInto_108 : decode cX2_cellMixedInto 108 = .ok (.iload 5, 2) := by decide +kernel
theorem dX2_cellMixedInto_110 : decode cX2_cellMixedInto 110 = .ok (.iaload, 1) := by decide +kernel
theorem dX2_cellMixedInto_111 : decode cX2_cellMixedInto 111 = .ok (.i2l, 1) := by decide +kernel
theorem dX2_cellMixedInto_112 : decode cX2_cellMixedInto 112 = .ok (.ladd, 1) := by decide +kernel
theorem dX2_cellMixedInto_113 : decode cX2_cellMixedInto 113 = .ok (.lstore 6, 2) := by decide +kernel
theorem dX2_cellMixedInto_115 : decode cX2_cellMixedInto 115 = .ok (.lload 6, 2) := by decide +kernel
theorem dX2_cellMixedInto_117 : decode cX2_cellMixedInto 117 = .ok (.ldc2_w 372, 3) := by decide +kernel
theorem dX2_cellMixedInto_120 : decode cX2_cellMixedInto 120 = .ok (.lmul, 1) := by decide +kernel
theorem dX2_cellMixedInto_121 : decode cX2_cellMixedInto 121 = .ok (.aload_n 0, 1) := by decide +kernel
theorem dX2_cellMixedInto_122 : decode cX2_cellMixedInto 122 = .ok (.getfield 36, 3) := by decide +kernel
theorem dX2_cellMixedInto_125 : decode cX2_cellMixedInto 125 = .ok (.getfield 338, 3) := by decide +kernel
theorem dX2_cellMixedInto_128 : decode cX2_cellMixedInto 128 = .ok (.iload 5, 2) := by decide +kernel
theorem dX2_cellMixedInto_130 : decode cX2_cellMixedInto 130 = .ok (.iaload, 1) := by decide +kernel
theorem dX2_cellMixedInto_131 : decode cX2_cellMixedInto 131 = .ok (.i2l, 1) := by decide +kernel
theorem dX2_cellMixedInto_132 : decode cX2_cellMixedInto 132 = .ok (.ladd, 1) := by decide +kernel
theorem dX2_cellMixedInto_133 : decode cX2_cellMixedInto 133 = .ok (.lstore 6, 2) := by decide +kernel
theorem dX2_cellMixedInto_135 : decode cX2_cellMixedInto 135 = .ok (.lload 6, 2) := by decide +kernel
theorem dX2_cellMixedInto_137 : decode cX2_cellMixedInto 137 = .ok (.ldc2_w 372, 3) := by decide +kernel
theorem dX2_cellMixedInto_140 : decode cX2_cellMixedInto 140 = .ok (.lmul, 1) := by decide +kernel
theorem dX2_cellMixedInto_141 : decode cX2_cellMixedInto 141 = .ok (.aload_n 0, 1) := by decide +kernel
theorem dX2_cellMixedInto_142 : decode cX2_cellMixedInto 142 = .ok (.getfield 36, 3) := by decide +kernel
theorem dX2_cellMixedInto_145 : decode cX2_cellMixedInto 145 = .ok (.getfield 238, 3) := by decide +kernel
theorem dX2_cellMixedInto_148 : decode cX2_cellMixedInto 148 = .ok (.iload 5, 2) := by decide +kernel
theorem dX2_cellMixedInto_150 : decode cX2_cellMixedInto 150 = .ok (.iaload, 1) := by decide +kernel
theorem dX2_cellMixedInto_151 : decode cX2_cellMixedInto 151 = .ok (.i2l, 1) := by decide +kernel
theorem dX2_cellMixedInto_152 : decode cX2_cellMixedInto 152 = .ok (.ladd, 1) := by decide +kernel
theorem dX2_cellMixedInto_153 : decode cX2_cellMixedInto 153 = .ok (.lreturn, 1) := by decide +kernel
theorem dX3_init_0 : decode cX3_init 0 = .ok (.aload_n 0, 1) := by decide +kernel
theorem dX3_init_1 : decode cX3_init 1 = .ok (.invokespecial 3, 3) := by decide +kernel
theorem dX3_init_4 : decode cX3_init 4 = .ok (.aload_n 0, 1) := by decide +kernel
theorem dX3_init_5 : decode cX3_init 5 = .ok (.sipush 200, 3) := by decide +kernel
theorem dX3_init_8 : decode cX3_init 8 = .ok (.newarray .int, 2) := by decide +kernel
theorem dX3_init_10 : decode cX3_init 10 = .ok (.putfield 9, 3) := by decide +kernel
theorem dX3_init_13 : decode cX3_init 13 = .ok (.aload_n 0, 1) := by decide +kernel
theorem dX3_init_14 : decode cX3_init 14 = .ok (.sipush 200, 3) := by decide +kernel
theorem dX3_init_17 : decode cX3_init 17 = .ok (.newarray .int, 2) := by decide +kernel
theorem dX3_init_19 : decode cX3_init 19 = .ok (.putfield 15, 3) := by decide +kernel
theorem dX3_init_22 : decode cX3_init 22 = .ok (.aload_n 0, 1) := by decide +kernel
theorem dX3_init_23 : decode cX3_init 23 = .ok (.sipush 200, 3) := by decide +kernel
theorem dX3_init_26 : decode cX3_init 26 = .ok (.newarray .int, 2) := by decide +kernel
theorem dX3_init_28 : decode cX3_init 28 = .ok (.putfield 18, 3) := by decide +kernel
theorem dX3_init_31 : decode cX3_init 31 = .ok (.aload_n 0, 1) := by decide +kernel
theorem dX3_init_32 : decode cX3_init 32 = .ok (.sipush 200, 3) := by decide +kernel
theorem dX3_init_35 : decode cX3_init 35 = .ok (.newarray .int, 2) := by decide +kernel
