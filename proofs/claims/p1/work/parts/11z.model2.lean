theorem dX7_carries_104 : decode cX7_carries 104 = .ok (.iload 4, 2) := by decide +kernel
theorem dX7_carries_106 : decode cX7_carries 106 = .ok (.iconst 4, 1) := by decide +kernel
theorem dX7_carries_107 : decode cX7_carries 107 = .ok (.iadd, 1) := by decide +kernel
theorem dX7_carries_108 : decode cX7_carries 108 = .ok (.dup2, 1) := by decide +kernel
theorem dX7_carries_109 : decode cX7_carries 109 = .ok (.laload, 1) := by decide +kernel
theorem dX7_carries_110 : decode cX7_carries 110 = .ok (.lconst 1, 1) := by decide +kernel
theorem dX7_carries_111 : decode cX7_carries 111 = .ok (.ladd, 1) := by decide +kernel
theorem dX7_carries_112 : decode cX7_carries 112 = .ok (.lastore, 1) := by decide +kernel
theorem dX7_carries_113 : decode cX7_carries 113 = .ok (.aload_n 0, 1) := by decide +kernel
theorem dX7_carries_114 : decode cX7_carries 114 = .ok (.getfield 8, 3) := by decide +kernel
theorem dX7_carries_117 : decode cX7_carries 117 = .ok (.iload 4, 2) := by decide +kernel
theorem dX7_carries_119 : decode cX7_carries 119 = .ok (.iconst 2, 1) := by decide +kernel
theorem dX7_carries_120 : decode cX7_carries 120 = .ok (.iadd, 1) := by decide +kernel
theorem dX7_carries_121 : decode cX7_carries 121 = .ok (.lconst 1, 1) := by decide +kernel
theorem dX7_carries_122 : decode cX7_carries 122 = .ok (.lastore, 1) := by decide +kernel
theorem dX7_carries_123 : decode cX7_carries 123 = .ok (.aload_n 0, 1) := by decide +kernel
theorem dX7_carries_124 : decode cX7_carries 124 = .ok (.getfield 8, 3) := by decide +kernel
theorem dX7_carries_127 : decode cX7_carries 127 = .ok (.iload 4, 2) := by decide +kernel
theorem dX7_carries_129 : decode cX7_carries 129 = .ok (.iconst 3, 1) := by decide +kernel
theorem dX7_carries_130 : decode cX7_carries 130 = .ok (.iadd, 1) := by decide +kernel
theorem dX7_carries_131 : decode cX7_carries 131 = .ok (.iload 6, 2) := by decide +kernel
theorem dX7_carries_133 : decode cX7_carries 133 = .ok (.i2l, 1) := by decide +kernel
theorem dX7_carries_134 : decode cX7_carries 134 = .ok (.lastore, 1) := by decide +kernel
theorem dX7_carries_135 : decode cX7_carries 135 = .ok (.aload_n 0, 1) := by decide +kernel
theorem dX7_carries_136 : decode cX7_carries 136 = .ok (.iload_n 2, 1) := by decide +kernel
theorem dX7_carries_137 : decode cX7_carries 137 = .ok (.iload 5, 2) := by decide +kernel
theorem dX7_carries_139 : decode cX7_carries 139 = .ok (.invokevirtual 113, 3) := by decide +kernel
theorem dX7_carries_142 : decode cX7_carries 142 = .ok (.aload_n 0, 1) := by decide +kernel
theorem dX7_carries_143 : decode cX7_carries 143 = .ok (.iload_n 2, 1) := by decide +kernel
theorem dX7_carries_144 : decode cX7_carries 144 = .ok (.iload 6, 2) := by decide +kernel
theorem dX7_carries_146 : decode cX7_carries 146 = .ok (.invokevirtual 113, 3) := by decide +kernel
theorem dX7_carries_149 : decode cX7_carries 149 = .ok (.aload_n 0, 1) := by decide +kernel
theorem dX7_carries_150 : decode cX7_carries 150 = .ok (.iload_n 2, 1) := by decide +kernel
theorem dX7_carries_151 : decode cX7_carries 151 = .ok (.aload_n 0, 1) := by decide +kernel
theorem dX7_carries_152 : decode cX7_carries 152 = .ok (.getfield 8, 3) := by decide +kernel
theorem dX7_carries_155 : decode cX7_carries 155 = .ok (.iload 4, 2) := by decide +kernel
theorem dX7_carries_157 : decode cX7_carries 157 = .ok (.iconst 0, 1) := by decide +kernel
theorem dX7_carries_158 : decode cX7_carries 158 = .ok (.iadd, 1) := by decide +kernel
theorem dX7_carries_159 : decode cX7_carries 159 = .ok (.laload, 1) := by decide +kernel
theorem dX7_carries_160 : decode cX7_carries 160 = .ok (.l2i, 1) := by decide +kernel
theorem dX7_carries_161 : decode cX7_carries 161 = .ok (.invokevirtual 113, 3) := by decide +kernel
theorem dX7_carries_164 : decode cX7_carries 164 = .ok (.goto 202, 3) := by decide +kernel
theorem dX7_carries_167 : decode cX7_carries 167 = .ok (.iload_n 2, 1) := by decide +kernel
theorem dX7_carries_168 : decode cX7_carries 168 = .ok (.i2l, 1) := by decide +kernel
theorem dX7_carries_169 : decode cX7_carries 169 = .ok (.aload_n 0, 1) := by decide +kernel
theorem dX7_carries_170 : decode cX7_carries 170 = .ok (.getfield 8, 3) := by decide +kernel
theorem dX7_carries_173 : decode cX7_carries 173 = .ok (.iload 4, 2) := by decide +kernel
theorem dX7_carries_175 : decode cX7_carries 175 = .ok (.iconst 0, 1) := by decide +kernel
theorem dX7_carries_176 : decode cX7_carries 176 = .ok (.iadd, 1) := by decide +kernel
theorem dX7_carries_177 : decode cX7_carries 177 = .ok (.laload, 1) := by decide +kernel
theorem dX7_carries_178 : decode cX7_carries 178 = .ok (.lcmp, 1) := by decide +kernel
theorem dX7_carries_179 : decode cX7_carries 179 = .ok (.ifCond .ne 48, 3) := by decide +kernel
theorem dX7_carries_182 : decode cX7_carries 182 = .ok (.aload_n 0, 1) := by decide +kernel
theorem dX7_carries_183 : decode cX7_carries 183 = .ok (.iload_n 1, 1) := by decide +kernel
theorem dX7_carries_184 : decode cX7_carries 184 = .ok (.iload_n 2, 1) := by decide +kernel
theorem dX7_carries_185 : decode cX7_carries 185 = .ok (.iload 5, 2) := by decide +kernel
theorem dX7_carries_187 : decode cX7_carries 187 = .ok (.iload_n 3, 1) := by decide +kernel
theorem dX7_carries_188 : decode cX7_carries 188 = .ok (.invokevirtual 117, 3) := by decide +kernel
theorem dX7_carries_191 : decode cX7_carries 191 = .ok (.aload_n 0, 1) := by decide +kernel
theorem dX7_carries_192 : decode cX7_carries 192 = .ok (.getfield 8, 3) := by decide +kernel
theorem dX7_carries_195 : decode cX7_carries 195 = .ok (.iload_n 2, 1) := by decide +kernel
theorem dX7_carries_196 : decode cX7_carries 196 = .ok (.iload 5, 2) := by decide +kernel
theorem dX7_carries_198 : decode cX7_carries 198 = .ok (.invokestatic 85, 3) := by decide +kernel
theorem dX7_carries_201 : decode cX7_carries 201 = .ok (.iconst 0, 1) := by decide +kernel
theorem dX7_carries_202 : decode cX7_carries 202 = .ok (.iadd, 1) := by decide +kernel
theorem dX7_carries_203 : decode cX7_carries 203 = .ok (.laload, 1) := by decide +kernel
theorem dX7_carries_204 : decode cX7_carries 204 = .ok (.lconst 0, 1) := by decide +kernel
theorem dX7_carries_205 : decode cX7_carries 205 = .ok (.lcmp, 1) := by decide +kernel
theorem dX7_carries_206 : decode cX7_carries 206 = .ok (.ifCond .ne 160, 3) := by decide +kernel
theorem dX7_carries_209 : decode cX7_carries 209 = .ok (.aload_n 0, 1) := by decide +kernel
theorem dX7_carries_210 : decode cX7_carries 210 = .ok (.iload_n 2, 1) := by decide +kernel
theorem dX7_carries_211 : decode cX7_carries 211 = .ok (.iload 5, 2) := by decide +kernel
theorem dX7_carries_213 : decode cX7_carries 213 = .ok (.iconst 1, 1) := by decide +kernel
theorem dX7_carries_214 : decode cX7_carries 214 = .ok (.aload_n 0, 1) := by decide +kernel
theorem dX7_carries_215 : decode cX7_carries 215 = .ok (.getfield 8, 3) := by decide +kernel
theorem dX7_carries_218 : decode cX7_carries 218 = .ok (.bipush 41, 2) := by decide +kernel
theorem dX7_carries_220 : decode cX7_carries 220 = .ok (.laload, 1) := by decide +kernel
theorem dX7_carries_221 : decode cX7_carries 221 = .ok (.invokevirtual 120, 3) := by decide +kernel
theorem dX7_carries_224 : decode cX7_carries 224 = .ok (.goto 142, 3) := by decide +kernel
theorem dX7_carries_227 : decode cX7_carries 227 = .ok (.aload_n 0, 1) := by decide +kernel
theorem dX7_carries_228 : decode cX7_carries 228 = .ok (.getfield 8, 3) := by decide +kernel
theorem dX7_carries_231 : decode cX7_carries 231 = .ok (.bipush 47, 2) := by decide +kernel
theorem dX7_carries_233 : decode cX7_carries 233 = .ok (.laload, 1) := by decide +kernel
theorem dX7_carries_234 : decode cX7_carries 234 = .ok (.lconst 0, 1) := by decide +kernel
theorem dX7_carries_235 : decode cX7_carries 235 = .ok (.lcmp, 1) := by decide +kernel
theorem dX7_carries_236 : decode cX7_carries 236 = .ok (.ifCond .le 100, 3) := by decide +kernel
theorem dX7_carries_239 : decode cX7_carries 239 = .ok (.aload_n 0, 1) := by decide +kernel
theorem dX7_carries_240 : decode cX7_carries 240 = .ok (.getfield 8, 3) := by decide +kernel
theorem dX7_carries_243 : decode cX7_carries 243 = .ok (.iload_n 2, 1) := by decide +kernel
theorem dX7_carries_244 : decode cX7_carries 244 = .ok (.iload 5, 2) := by decide +kernel
theorem dX7_carries_246 : decode cX7_carries 246 = .ok (.invokestatic 42, 3) := by decide +kernel
theorem dX7_carries_249 : decode cX7_carries 249 = .ok (.iconst 0, 1) := by decide +kernel
theorem dX7_carries_250 : decode cX7_carries 250 = .ok (.iadd, 1) := by decide +kernel
theorem dX7_carries_251 : decode cX7_carries 251 = .ok (.laload, 1) := by decide +kernel
theorem dX7_carries_252 : decode cX7_carries 252 = .ok (.lconst 1, 1) := by decide +kernel
theorem dX7_carries_253 : decode cX7_carries 253 = .ok (.lcmp, 1) := by decide +kernel
theorem dX7_carries_254 : decode cX7_carries 254 = .ok (.ifCond .ne 82, 3) := by decide +kernel
theorem dX7_carries_257 : decode cX7_carries 257 = .ok (.aload_n 0, 1) := by decide +kernel
theorem dX7_carries_258 : decode cX7_carries 258 = .ok (.getfield 8, 3) := by decide +kernel
theorem dX7_carries_261 : decode cX7_carries 261 = .ok (.iload_n 2, 1) := by decide +kernel
theorem dX7_carries_262 : decode cX7_carries 262 = .ok (.iload 5, 2) := by decide +kernel
theorem dX7_carries_264 : decode cX7_carries 264 = .ok (.invokestatic 42, 3) := by decide +kernel
theorem dX7_carries_267 : decode cX7_carries 267 = .ok (.iconst 2, 1) := by decide +kernel
theorem dX7_carries_268 : decode cX7_carries 268 = .ok (.iadd, 1) := by decide +kernel
theorem dX7_carries_269 : decode cX7_carries 269 = .ok (.laload, 1) := by decide +kernel
theorem dX7_carries_270 : decode cX7_carries 270 = .ok (.aload_n 0, 1) := by decide +kernel
theorem dX7_carries_271 : decode cX7_carries 271 = .ok (.getfield 8, 3) := by decide +kernel
theorem dX7_carries_274 : decode cX7_carries 274 = .ok (.bipush 47, 2) := by decide +kernel
theorem dX7_carries_276 : decode cX7_carries 276 = .ok (.laload, 1) := by decide +kernel
theorem dX7_carries_277 : decode cX7_carries 277 = .ok (.lcmp, 1) := by decide +kernel
theorem dX7_carries_278 : decode cX7_carries 278 = .ok (.ifCond .gt 58, 3) := by decide +kernel
theorem dX7_carries_281 : decode cX7_carries 281 = .ok (.aload_n 0, 1) := by decide +kernel
theorem dX7_carries_282 : decode cX7_carries 282 = .ok (.iload_n 1, 1) := by decide +kernel
theorem dX7_carries_283 : decode cX7_carries 283 = .ok (.iload_n 2, 1) := by decide +kernel
theorem dX7_carries_284 : decode cX7_carries 284 = .ok (.iload 5, 2) := by decide +kernel
theorem dX7_carries_286 : decode cX7_carries 286 = .ok (.iload_n 3, 1) := by decide +kernel
theorem dX7_carries_287 : decode cX7_carries 287 = .ok (.invokevirtual 117, 3) := by decide +kernel
theorem dX7_carries_290 : decode cX7_carries 290 = .ok (.aload_n 0, 1) := by decide +kernel
theorem dX7_carries_291 : decode cX7_carries 291 = .ok (.getfield 8, 3) := by decide +kernel
theorem dX7_carries_294 : decode cX7_carries 294 = .ok (.iload_n 2, 1) := by decide +kernel
theorem dX7_carries_295 : decode cX7_carries 295 = .ok (.iload 5, 2) := by decide +kernel
theorem dX7_carries_297 : decode cX7_carries 297 = .ok (.invokestatic 85, 3) := by decide +kernel
theorem dX7_carries_300 : decode cX7_carries 300 = .ok (.iconst 0, 1) := by decide +kernel
theorem dX7_carries_301 : decode cX7_carries 301 = .ok (.iadd, 1) := by decide +kernel
theorem dX7_carries_302 : decode cX7_carries 302 = .ok (.laload, 1) := by decide +kernel
theorem dX7_carries_303 : decode cX7_carries 303 = .ok (.lconst 0, 1) := by decide +kernel
theorem dX7_carries_304 : decode cX7_carries 304 = .ok (.lcmp, 1) := by decide +kernel
theorem dX7_carries_305 : decode cX7_carries 305 = .ok (.ifCond .ne 61, 3) := by decide +kernel
theorem dX7_carries_308 : decode cX7_carries 308 = .ok (.aload_n 0, 1) := by decide +kernel
theorem dX7_carries_309 : decode cX7_carries 309 = .ok (.iload_n 2, 1) := by decide +kernel
theorem dX7_carries_310 : decode cX7_carries 310 = .ok (.iload 5, 2) := by decide +kernel
theorem dX7_carries_312 : decode cX7_carries 312 = .ok (.iconst 2, 1) := by decide +kernel
theorem dX7_carries_313 : decode cX7_carries 313 = .ok (.aload_n 0, 1) := by decide +kernel
theorem dX7_carries_314 : decode cX7_carries 314 = .ok (.getfield 8, 3) := by decide +kernel
theorem dX7_carries_317 : decode cX7_carries 317 = .ok (.iload_n 2, 1) := by decide +kernel
theorem dX7_carries_318 : decode cX7_carries 318 = .ok (.iload 5, 2) := by decide +kernel
theorem dX7_carries_320 : decode cX7_carries 320 = .ok (.invokestatic 42, 3) := by decide +kernel
theorem dX7_carries_323 : decode cX7_carries 323 = .ok (.iconst 2, 1) := by decide +kernel
theorem dX7_carries_324 : decode cX7_carries 324 = .ok (.iadd, 1) := by decide +kernel
theorem dX7_carries_325 : decode cX7_carries 325 = .ok (.laload, 1) := by decide +kernel
theorem dX7_carries_326 : decode cX7_carries 326 = .ok (.ldc2_w 20, 3) := by decide +kernel
theorem dX7_carries_329 : decode cX7_carries 329 = .ok (.ladd, 1) := by decide +kernel
theorem dX7_carries_330 : decode cX7_carries 330 = .ok (.invokevirtual 120, 3) := by decide +kernel
theorem dX7_carries_333 : decode cX7_carries 333 = .ok (.goto 33, 3) := by decide +kernel
theorem dX7_carries_336 : decode cX7_carries 336 = .ok (.aload_n 0, 1) := by decide +kernel
theorem dX7_carries_337 : decode cX7_carries 337 = .ok (.iload_n 1, 1) := by decide +kernel
theorem dX7_carries_338 : decode cX7_carries 338 = .ok (.iconst 3, 1) := by decide +kernel
theorem dX7_carries_339 : decode cX7_carries 339 = .ok (.iload_n 2, 1) := by decide +kernel
theorem dX7_carries_340 : decode cX7_carries 340 = .ok (.bipush 12, 2) := by decide +kernel
theorem dX7_carries_342 : decode cX7_carries 342 = .ok (.invokevirtual 103, 3) := by decide +kernel
theorem dX7_carries_345 : decode cX7_carries 345 = .ok (.iload_n 3, 1) := by decide +kernel
theorem dX7_carries_346 : decode cX7_carries 346 = .ok (.ifCond .lt 20, 3) := by decide +kernel
theorem dX7_carries_349 : decode cX7_carries 349 = .ok (.aload_n 0, 1) := by decide +kernel
theorem dX7_carries_350 : decode cX7_carries 350 = .ok (.iload_n 2, 1) := by decide +kernel
theorem dX7_carries_351 : decode cX7_carries 351 = .ok (.iload_n 3, 1) := by decide +kernel
theorem dX7_carries_352 : decode cX7_carries 352 = .ok (.invokevirtual 54, 3) := by decide +kernel
theorem dX7_carries_355 : decode cX7_carries 355 = .ok (.ifCond .eq 11, 3) := by decide +kernel
theorem dX7_carries_358 : decode cX7_carries 358 = .ok (.aload_n 0, 1) := by decide +kernel
theorem dX7_carries_359 : decode cX7_carries 359 = .ok (.iload_n 2, 1) := by decide +kernel
theorem dX7_carries_360 : decode cX7_carries 360 = .ok (.iload_n 3, 1) := by decide +kernel
theorem dX7_carries_361 : decode cX7_carries 361 = .ok (.iload 5, 2) := by decide +kernel
theorem dX7_carries_363 : decode cX7_carries 363 = .ok (.invokevirtual 58, 3) := by decide +kernel
theorem dX7_carries_366 : decode cX7_carries 366 = .ok (.return_, 1) := by decide +kernel
theorem dX7_broadcasts_0 : decode cX7_broadcasts 0 = .ok (.iconst 0, 1) := by decide +kernel
theorem dX7_broadcasts_1 : decode cX7_broadcasts 1 = .ok (.istore 6, 2) := by decide +kernel
theorem dX7_broadcasts_3 : decode cX7_broadcasts 3 = .ok (.iload 6, 2) := by decide +kernel
theorem dX7_broadcasts_5 : decode cX7_broadcasts 5 = .ok (.i2l, 1) := by decide +kernel
theorem dX7_broadcasts_6 : decode cX7_broadcasts 6 = .ok (.aload_n 0, 1) := by decide +kernel
theorem dX7_broadcasts_7 : decode cX7_broadcasts 7 = .ok (.getfield 8, 3) := by decide +kernel
theorem dX7_broadcasts_10 : decode cX7_broadcasts 10 = .ok (.iconst 1, 1) := by decide +kernel
theorem dX7_broadcasts_11 : decode cX7_broadcasts 11 = .ok (.laload, 1) := by decide +kernel
theorem dX7_broadcasts_12 : decode cX7_broadcasts 12 = .ok (.lcmp, 1) := by decide +kernel
theorem dX7_broadcasts_13 : decode cX7_broadcasts 13 = .ok (.ifCond .ge 30, 3) := by decide +kernel
theorem dX7_broadcasts_16 : decode cX7_broadcasts 16 = .ok (.aload_n 0, 1) := by decide +kernel
theorem dX7_broadcasts_17 : decode cX7_broadcasts 17 = .ok (.iload_n 1, 1) := by decide +kernel
theorem dX7_broadcasts_18 : decode cX7_broadcasts 18 = .ok (.iload 6, 2) := by decide +kernel
theorem dX7_broadcasts_20 : decode cX7_broadcasts 20 = .ok (.invokevirtual 54, 3) := by decide +kernel
theorem dX7_broadcasts_23 : decode cX7_broadcasts 23 = .ok (.ifCond .eq 14, 3) := by decide +kernel
theorem dX7_broadcasts_26 : decode cX7_broadcasts 26 = .ok (.aload_n 0, 1) := by decide +kernel
theorem dX7_broadcasts_27 : decode cX7_broadcasts 27 = .ok (.iconst 0, 1) := by decide +kernel
theorem dX7_broadcasts_28 : decode cX7_broadcasts 28 = .ok (.iload_n 1, 1) := by decide +kernel
theorem dX7_broadcasts_29 : decode cX7_broadcasts 29 = .ok (.iload 6, 2) := by decide +kernel
theorem dX7_broadcasts_31 : decode cX7_broadcasts 31 = .ok (.lload_n 2, 1) := by decide +kernel
theorem dX7_broadcasts_32 : decode cX7_broadcasts 32 = .ok (.lload 4, 2) := by decide +kernel
theorem dX7_broadcasts_34 : decode cX7_broadcasts 34 = .ok (.invokevirtual 50, 3) := by decide +kernel
theorem dX7_broadcasts_37 : decode cX7_broadcasts 37 = .ok (.iinc 6 1, 3) := by decide +kernel
theorem dX7_broadcasts_40 : decode cX7_broadcasts 40 = .ok (.goto (-37), 3) := by decide +kernel
theorem dX7_broadcasts_43 : decode cX7_broadcasts 43 = .ok (.return_, 1) := by decide +kernel
theorem dX7_bodyOf_0 : decode cX7_bodyOf 0 = .ok (.lload_n 0, 1) := by decide +kernel
theorem dX7_bodyOf_1 : decode cX7_bodyOf 1 = .ok (.lload_n 2, 1) := by decide +kernel
theorem dX7_bodyOf_2 : decode cX7_bodyOf 2 = .ok (.bipush 21, 2) := by decide +kernel
theorem dX7_bodyOf_4 : decode cX7_bodyOf 4 = .ok (.lshl, 1) := by decide +kernel
theorem dX7_bodyOf_5 : decode cX7_bodyOf 5 = .ok (.lor, 1) := by decide +kernel
theorem dX7_bodyOf_6 : decode cX7_bodyOf 6 = .ok (.lload 4, 2) := by decide +kernel
theorem dX7_bodyOf_8 : decode cX7_bodyOf 8 = .ok (.lconst 1, 1) := by decide +kernel
theorem dX7_bodyOf_9 : decode cX7_bodyOf 9 = .ok (.ladd, 1) := by decide +kernel
theorem dX7_bodyOf_10 : decode cX7_bodyOf 10 = .ok (.bipush 42, 2) := by decide +kernel
theorem dX7_bodyOf_12 : decode cX7_bodyOf 12 = .ok (.lshl, 1) := by decide +kernel
theorem dX7_bodyOf_13 : decode cX7_bodyOf 13 = .ok (.lor, 1) := by decide +kernel
theorem dX7_bodyOf_14 : decode cX7_bodyOf 14 = .ok (.lreturn, 1) := by decide +kernel
theorem dX7_asks_0 : decode cX7_asks 0 = .ok (.aload_n 0, 1) := by decide +kernel
theorem dX7_asks_1 : decode cX7_asks 1 = .ok (.getfield 8, 3) := by decide +kernel
theorem dX7_asks_4 : decode cX7_asks 4 = .ok (.bipush 50, 2) := by decide +kernel
theorem dX7_asks_6 : decode cX7_asks 6 = .ok (.iload_n 1, 1) := by decide +kernel
theorem dX7_asks_7 : decode cX7_asks 7 = .ok (.iadd, 1) := by decide +kernel
theorem dX7_asks_8 : decode cX7_asks 8 = .ok (.dup2, 1) := by decide +kernel
theorem dX7_asks_9 : decode cX7_asks 9 = .ok (.laload, 1) := by decide +kernel
theorem dX7_asks_10 : decode cX7_asks 10 = .ok (.lconst 1, 1) := by decide +kernel
theorem dX7_asks_11 : decode cX7_asks 11 = .ok (.ladd, 1) := by decide +kernel
theorem dX7_asks_12 : decode cX7_asks 12 = .ok (.lastore, 1) := by decide +kernel
theorem dX7_asks_13 : decode cX7_asks 13 = .ok (.aload_n 0, 1) := by decide +kernel
theorem dX7_asks_14 : decode cX7_asks 14 = .ok (.getfield 8, 3) := by decide +kernel
theorem dX7_asks_17 : decode cX7_asks 17 = .ok (.bipush 60, 2) := by decide +kernel
theorem dX7_asks_19 : decode cX7_asks 19 = .ok (.iload_n 1, 1) := by decide +kernel
theorem dX7_asks_20 : decode cX7_asks 20 = .ok (.iadd, 1) := by decide +kernel
theorem dX7_asks_21 : decode cX7_asks 21 = .ok (.dup2, 1) := by decide +kernel
theorem dX7_asks_22 : decode cX7_asks 22 = .ok (.laload, 1) := by decide +kernel
theorem dX7_asks_23 : decode cX7_asks 23 = .ok (.lconst 1, 1) := by decide +kernel
theorem dX7_asks_24 : decode cX7_asks 24 = .ok (.ladd, 1) := by decide +kernel
theorem dX7_asks_25 : decode cX7_asks 25 = .ok (.lastore, 1) := by decide +kernel
theorem dX7_asks_26 : decode cX7_asks 26 = .ok (.aload_n 0, 1) := by decide +kernel
theorem dX7_asks_27 : decode cX7_asks 27 = .ok (.iload_n 1, 1) := by decide +kernel
theorem dX7_asks_28 : decode cX7_asks 28 = .ok (.aload_n 0, 1) := by decide +kernel
theorem dX7_asks_29 : decode cX7_asks 29 = .ok (.getfield 8, 3) := by decide +kernel
theorem dX7_asks_32 : decode cX7_asks 32 = .ok (.bipush 60, 2) := by decide +kernel
theorem dX7_asks_34 : decode cX7_asks 34 = .ok (.iload_n 1, 1) := by decide +kernel
theorem dX7_asks_35 : decode cX7_asks 35 = .ok (.iadd, 1) := by decide +kernel
theorem dX7_asks_36 : decode cX7_asks 36 = .ok (.laload, 1) := by decide +kernel
theorem dX7_asks_37 : decode cX7_asks 37 = .ok (.invokevirtual 127, 3) := by decide +kernel
theorem dX7_asks_40 : decode cX7_asks 40 = .ok (.iload_n 1, 1) := by decide +kernel
theorem dX7_asks_41 : decode cX7_asks 41 = .ok (.iload_n 2, 1) := by decide +kernel
theorem dX7_asks_42 : decode cX7_asks 42 = .ok (.invokestatic 42, 3) := by decide +kernel
theorem dX7_asks_45 : decode cX7_asks 45 = .ok (.istore 5, 2) := by decide +kernel
theorem dX7_asks_47 : decode cX7_asks 47 = .ok (.aload_n 0, 1) := by decide +kernel
theorem dX7_asks_48 : decode cX7_asks 48 = .ok (.getfield 8, 3) := by decide +kernel
theorem dX7_asks_51 : decode cX7_asks 51 = .ok (.iload 5, 2) := by decide +kernel
theorem dX7_asks_53 : decode cX7_asks 53 = .ok (.iconst 0, 1) := by decide +kernel
theorem dX7_asks_54 : decode cX7_asks 54 = .ok (.iadd, 1) := by decide +kernel
theorem dX7_asks_55 : decode cX7_asks 55 = .ok (.laload, 1) := by decide +kernel
theorem dX7_asks_56 : decode cX7_asks 56 = .ok (.lconst 1, 1) := by decide +kernel
theorem dX7_asks_57 : decode cX7_asks 57 = .ok (.lcmp, 1) := by decide +kernel
theorem dX7_asks_58 : decode cX7_asks 58 = .ok (.ifCond .ne 15, 3) := by decide +kernel
theorem dX7_asks_61 : decode cX7_asks 61 = .ok (.aload_n 0, 1) := by decide +kernel
theorem dX7_asks_62 : decode cX7_asks 62 = .ok (.getfield 8, 3) := by decide +kernel
theorem dX7_asks_65 : decode cX7_asks 65 = .ok (.iload 5, 2) := by decide +kernel
theorem dX7_asks_67 : decode cX7_asks 67 = .ok (.iconst 1, 1) := by decide +kernel
theorem dX7_asks_68 : decode cX7_asks 68 = .ok (.iadd, 1) := by decide +kernel
theorem dX7_asks_69 : decode cX7_asks 69 = .ok (.laload, 1) := by decide +kernel
theorem dX7_asks_70 : decode cX7_asks 70 = .ok (.goto 6, 3) := by decide +kernel
theorem dX7_asks_73 : decode cX7_asks 73 = .ok (.ldc2_w 24, 3) := by decide +kernel
theorem dX7_asks_76 : decode cX7_asks 76 = .ok (.lstore 6, 2) := by decide +kernel
theorem dX7_asks_78 : decode cX7_asks 78 = .ok (.aload_n 0, 1) := by decide +kernel
theorem dX7_asks_79 : decode cX7_asks 79 = .ok (.iload_n 1, 1) := by decide +kernel
theorem dX7_asks_80 : decode cX7_asks 80 = .ok (.iload_n 1, 1) := by decide +kernel
theorem dX7_asks_81 : decode cX7_asks 81 = .ok (.i2l, 1) := by decide +kernel
theorem dX7_asks_82 : decode cX7_asks 82 = .ok (.iload_n 2, 1) := by decide +kernel
theorem dX7_asks_83 : decode cX7_asks 83 = .ok (.i2l, 1) := by decide +kernel
theorem dX7_asks_84 : decode cX7_asks 84 = .ok (.lconst 0, 1) := by decide +kernel
theorem dX7_asks_85 : decode cX7_asks 85 = .ok (.lload_n 3, 1) := by decide +kernel
theorem dX7_asks_86 : decode cX7_asks 86 = .ok (.invokestatic 46, 3) := by decide +kernel
theorem dX7_asks_89 : decode cX7_asks 89 = .ok (.aload_n 0, 1) := by decide +kernel
theorem dX7_asks_90 : decode cX7_asks 90 = .ok (.getfield 8, 3) := by decide +kernel
theorem dX7_asks_93 : decode cX7_asks 93 = .ok (.bipush 50, 2) := by decide +kernel
theorem dX7_asks_95 : decode cX7_asks 95 = .ok (.iload_n 1, 1) := by decide +kernel
theorem dX7_asks_96 : decode cX7_asks 96 = .ok (.iadd, 1) := by decide +kernel
theorem dX7_asks_97 : decode cX7_asks 97 = .ok (.laload, 1) := by decide +kernel
theorem dX7_asks_98 : decode cX7_asks 98 = .ok (.aload_n 0, 1) := by decide +kernel
theorem dX7_asks_99 : decode cX7_asks 99 = .ok (.getfield 8, 3) := by decide +kernel
theorem dX7_asks_102 : decode cX7_asks 102 = .ok (.bipush 60, 2) := by decide +kernel
theorem dX7_asks_104 : decode cX7_asks 104 = .ok (.iload_n 1, 1) := by decide +kernel
theorem dX7_asks_105 : decode cX7_asks 105 = .ok (.iadd, 1) := by decide +kernel
theorem dX7_asks_106 : decode cX7_asks 106 = .ok (.laload, 1) := by decide +kernel
theorem dX7_asks_107 : decode cX7_asks 107 = .ok (.lload 6, 2) := by decide +kernel
theorem dX7_asks_109 : decode cX7_asks 109 = .ok (.invokestatic 131, 3) := by decide +kernel
theorem dX7_asks_112 : decode cX7_asks 112 = .ok (.invokevirtual 135, 3) := by decide +kernel
theorem dX7_asks_115 : decode cX7_asks 115 = .ok (.aload_n 0, 1) := by decide +kernel
theorem dX7_asks_116 : decode cX7_asks 116 = .ok (.getfield 8, 3) := by decide +kernel
theorem dX7_asks_119 : decode cX7_asks 119 = .ok (.iload_n 1, 1) := by decide +kernel
theorem dX7_asks_120 : decode cX7_asks 120 = .ok (.iload_n 2, 1) := by decide +kernel
theorem dX7_asks_121 : decode cX7_asks 121 = .ok (.invokestatic 85, 3) := by decide +kernel
theorem dX7_asks_124 : decode cX7_asks 124 = .ok (.iconst 2, 1) := by decide +kernel
theorem dX7_asks_125 : decode cX7_asks 125 = .ok (.iadd, 1) := by decide +kernel
theorem dX7_asks_126 : decode cX7_asks 126 = .ok (.lload_n 3, 1) := by decide +kernel
theorem dX7_asks_127 : decode cX7_asks 127 = .ok (.lastore, 1) := by decide +kernel
theorem dX7_asks_128 : decode cX7_asks 128 = .ok (.aload_n 0, 1) := by decide +kernel
theorem dX7_asks_129 : decode cX7_asks 129 = .ok (.getfield 8, 3) := by decide +kernel
theorem dX7_asks_132 : decode cX7_asks 132 = .ok (.iload_n 1, 1) := by decide +kernel
theorem dX7_asks_133 : decode cX7_asks 133 = .ok (.iload_n 2, 1) := by decide +kernel
theorem dX7_asks_134 : decode cX7_asks 134 = .ok (.invokestatic 85, 3) := by decide +kernel
theorem dX7_asks_137 : decode cX7_asks 137 = .ok (.iconst 1, 1) := by decide +kernel
theorem dX7_asks_138 : decode cX7_asks 138 = .ok (.iadd, 1) := by decide +kernel
theorem dX7_asks_139 : decode cX7_asks 139 = .ok (.aload_n 0, 1) := by decide +kernel
theorem dX7_asks_140 : decode cX7_asks 140 = .ok (.getfield 8, 3) := by decide +kernel
theorem dX7_asks_143 : decode cX7_asks 143 = .ok (.iconst 0, 1) := by decide +kernel
theorem dX7_asks_144 : decode cX7_asks 144 = .ok (.laload, 1) := by decide +kernel
theorem dX7_asks_145 : decode cX7_asks 145 = .ok (.aload_n 0, 1) := by decide +kernel
theorem dX7_asks_146 : decode cX7_asks 146 = .ok (.getfield 8, 3) := by decide +kernel
theorem dX7_asks_149 : decode cX7_asks 149 = .ok (.bipush 46, 2) := by decide +kernel
theorem dX7_asks_151 : decode cX7_asks 151 = .ok (.laload, 1) := by decide +kernel
theorem dX7_asks_152 : decode cX7_asks 152 = .ok (.lload_n 3, 1) := by decide +kernel
theorem dX7_asks_153 : decode cX7_asks 153 = .ok (.lconst 1, 1) := by decide +kernel
theorem dX7_asks_154 : decode cX7_asks 154 = .ok (.ladd, 1) := by decide +kernel
theorem dX7_asks_155 : decode cX7_asks 155 = .ok (.lmul, 1) := by decide +kernel
theorem dX7_asks_156 : decode cX7_asks 156 = .ok (.ladd, 1) := by decide +kernel
theorem dX7_asks_157 : decode cX7_asks 157 = .ok (.lastore, 1) := by decide +kernel
theorem dX7_asks_158 : decode cX7_asks 158 = .ok (.return_, 1) := by decide +kernel
theorem dX7_asksFirst_0 : decode cX7_asksFirst 0 = .ok (.aload_n 0, 1) := by decide +kernel
theorem dX7_asksFirst_1 : decode cX7_asksFirst 1 = .ok (.getfield 8, 3) := by decide +kernel
theorem dX7_asksFirst_4 : decode cX7_asksFirst 4 = .ok (.iload_n 1, 1) := by decide +kernel
theorem dX7_asksFirst_5 : decode cX7_asksFirst 5 = .ok (.iload_n 2, 1) := by decide +kernel
theorem dX7_asksFirst_6 : decode cX7_asksFirst 6 = .ok (.invokestatic 85, 3) := by decide +kernel
theorem dX7_asksFirst_9 : decode cX7_asksFirst 9 = .ok (.iconst 0, 1) := by decide +kernel
theorem dX7_asksFirst_10 : decode cX7_asksFirst 10 = .ok (.iadd, 1) := by decide +kernel
theorem dX7_asksFirst_11 : decode cX7_asksFirst 11 = .ok (.iload_n 3, 1) := by decide +kernel
theorem dX7_asksFirst_12 : decode cX7_asksFirst 12 = .ok (.i2l, 1) := by decide +kernel
theorem dX7_asksFirst_13 : decode cX7_asksFirst 13 = .ok (.lastore, 1) := by decide +kernel
theorem dX7_asksFirst_14 : decode cX7_asksFirst 14 = .ok (.aload_n 0, 1) := by decide +kernel
theorem dX7_asksFirst_15 : decode cX7_asksFirst 15 = .ok (.getfield 8, 3) := by decide +kernel
theorem dX7_asksFirst_18 : decode cX7_asksFirst 18 = .ok (.iload_n 1, 1) := by decide +kernel
theorem dX7_asksFirst_19 : decode cX7_asksFirst 19 = .ok (.iload_n 2, 1) := by decide +kernel
theorem dX7_asksFirst_20 : decode cX7_asksFirst 20 = .ok (.invokestatic 85, 3) := by decide +kernel
theorem dX7_asksFirst_23 : decode cX7_asksFirst 23 = .ok (.iconst 3, 1) := by decide +kernel
theorem dX7_asksFirst_24 : decode cX7_asksFirst 24 = .ok (.iadd, 1) := by decide +kernel
theorem dX7_asksFirst_25 : decode cX7_asksFirst 25 = .ok (.lconst 0, 1) := by decide +kernel
theorem dX7_asksFirst_26 : decode cX7_asksFirst 26 = .ok (.lastore, 1) := by decide +kernel
theorem dX7_asksFirst_27 : decode cX7_asksFirst 27 = .ok (.aload_n 0, 1) := by decide +kernel
theorem dX7_asksFirst_28 : decode cX7_asksFirst 28 = .ok (.iload_n 1, 1) := by decide +kernel
theorem dX7_asksFirst_29 : decode cX7_asksFirst 29 = .ok (.iload_n 2, 1) := by decide +kernel
theorem dX7_asksFirst_30 : decode cX7_asksFirst 30 = .ok (.lload 4, 2) := by decide +kernel
theorem dX7_asksFirst_32 : decode cX7_asksFirst 32 = .ok (.invokevirtual 139, 3) := by decide +kernel
theorem dX7_asksFirst_35 : decode cX7_asksFirst 35 = .ok (.return_, 1) := by decide +kernel
theorem dX7_timesOut_0 : decode cX7_timesOut 0 = .ok (.iload_n 1, 1) := by decide +kernel
theorem dX7_timesOut_1 : decode cX7_timesOut 1 = .ok (.iload_n 2, 1) := by decide +kernel
theorem dX7_timesOut_2 : decode cX7_timesOut 2 = .ok (.invokestatic 85, 3) := by decide +kernel
theorem dX7_timesOut_5 : decode cX7_timesOut 5 = .ok (.istore_n 3, 1) := by decide +kernel
theorem dX7_timesOut_6 : decode cX7_timesOut 6 = .ok (.aload_n 0, 1) := by decide +kernel
theorem dX7_timesOut_7 : decode cX7_timesOut 7 = .ok (.getfield 8, 3) := by decide +kernel
theorem dX7_timesOut_10 : decode cX7_timesOut 10 = .ok (.iload_n 3, 1) := by decide +kernel
theorem dX7_timesOut_11 : decode cX7_timesOut 11 = .ok (.iconst 2, 1) := by decide +kernel
theorem dX7_timesOut_12 : decode cX7_timesOut 12 = .ok (.iadd, 1) := by decide +kernel
theorem dX7_timesOut_13 : decode cX7_timesOut 13 = .ok (.laload, 1) := by decide +kernel
theorem dX7_timesOut_14 : decode cX7_timesOut 14 = .ok (.lstore 4, 2) := by decide +kernel
theorem dX7_timesOut_16 : decode cX7_timesOut 16 = .ok (.aload_n 0, 1) := by decide +kernel
theorem dX7_timesOut_17 : decode cX7_timesOut 17 = .ok (.getfield 8, 3) := by decide +kernel
theorem dX7_timesOut_20 : decode cX7_timesOut 20 = .ok (.bipush 43, 2) := by decide +kernel
theorem dX7_timesOut_22 : decode cX7_timesOut 22 = .ok (.laload, 1) := by decide +kernel
theorem dX7_timesOut_23 : decode cX7_timesOut 23 = .ok (.lstore 6, 2) := by decide +kernel
theorem dX7_timesOut_25 : decode cX7_timesOut 25 = .ok (.aload_n 0, 1) := by decide +kernel
theorem dX7_timesOut_26 : decode cX7_timesOut 26 = .ok (.getfield 8, 3) := by decide +kernel
theorem dX7_timesOut_29 : decode cX7_timesOut 29 = .ok (.iload_n 3, 1) := by decide +kernel
theorem dX7_timesOut_30 : decode cX7_timesOut 30 = .ok (.iconst 0, 1) := by decide +kernel
theorem dX7_timesOut_31 : decode cX7_timesOut 31 = .ok (.iadd, 1) := by decide +kernel
theorem dX7_timesOut_32 : decode cX7_timesOut 32 = .ok (.laload, 1) := by decide +kernel
theorem dX7_timesOut_33 : decode cX7_timesOut 33 = .ok (.ldc2_w 20, 3) := by decide +kernel
theorem dX7_timesOut_36 : decode cX7_timesOut 36 = .ok (.lcmp, 1) := by decide +kernel
theorem dX7_timesOut_37 : decode cX7_timesOut 37 = .ok (.ifCond .ne 29, 3) := by decide +kernel
theorem dX7_timesOut_40 : decode cX7_timesOut 40 = .ok (.aload_n 0, 1) := by decide +kernel
theorem dX7_timesOut_41 : decode cX7_timesOut 41 = .ok (.getfield 8, 3) := by decide +kernel
theorem dX7_timesOut_44 : decode cX7_timesOut 44 = .ok (.iload_n 3, 1) := by decide +kernel
theorem dX7_timesOut_45 : decode cX7_timesOut 45 = .ok (.iconst 0, 1) := by decide +kernel
theorem dX7_timesOut_46 : decode cX7_timesOut 46 = .ok (.iadd, 1) := by decide +kernel
theorem dX7_timesOut_47 : decode cX7_timesOut 47 = .ok (.lconst 0, 1) := by decide +kernel
theorem dX7_timesOut_48 : decode cX7_timesOut 48 = .ok (.lastore, 1) := by decide +kernel
theorem dX7_timesOut_49 : decode cX7_timesOut 49 = .ok (.aload_n 0, 1) := by decide +kernel
theorem dX7_timesOut_50 : decode cX7_timesOut 50 = .ok (.iload_n 1, 1) := by decide +kernel
theorem dX7_timesOut_51 : decode cX7_timesOut 51 = .ok (.iload_n 2, 1) := by decide +kernel
theorem dX7_timesOut_52 : decode cX7_timesOut 52 = .ok (.bipush 13, 2) := by decide +kernel
theorem dX7_timesOut_54 : decode cX7_timesOut 54 = .ok (.invokevirtual 142, 3) := by decide +kernel
theorem dX7_timesOut_57 : decode cX7_timesOut 57 = .ok (.aload_n 0, 1) := by decide +kernel
theorem dX7_timesOut_58 : decode cX7_timesOut 58 = .ok (.iload_n 1, 1) := by decide +kernel
theorem dX7_timesOut_59 : decode cX7_timesOut 59 = .ok (.iload_n 2, 1) := by decide +kernel
theorem dX7_timesOut_60 : decode cX7_timesOut 60 = .ok (.invokevirtual 145, 3) := by decide +kernel
theorem dX7_timesOut_63 : decode cX7_timesOut 63 = .ok (.goto 124, 3) := by decide +kernel
theorem dX7_timesOut_66 : decode cX7_timesOut 66 = .ok (.aload_n 0, 1) := by decide +kernel
theorem dX7_timesOut_67 : decode cX7_timesOut 67 = .ok (.getfield 8, 3) := by decide +kernel
theorem dX7_timesOut_70 : decode cX7_timesOut 70 = .ok (.iload_n 3, 1) := by decide +kernel
theorem dX7_timesOut_71 : decode cX7_timesOut 71 = .ok (.iconst 3, 1) := by decide +kernel
theorem dX7_timesOut_72 : decode cX7_timesOut 72 = .ok (.iadd, 1) := by decide +kernel
theorem dX7_timesOut_73 : decode cX7_timesOut 73 = .ok (.laload, 1) := by decide +kernel
theorem dX7_timesOut_74 : decode cX7_timesOut 74 = .ok (.lconst 0, 1) := by decide +kernel
theorem dX7_timesOut_75 : decode cX7_timesOut 75 = .ok (.lcmp, 1) := by decide +kernel
theorem dX7_timesOut_76 : decode cX7_timesOut 76 = .ok (.ifCond .ne 47, 3) := by decide +kernel
theorem dX7_timesOut_79 : decode cX7_timesOut 79 = .ok (.lload 4, 2) := by decide +kernel
theorem dX7_timesOut_81 : decode cX7_timesOut 81 = .ok (.lload 6, 2) := by decide +kernel
theorem dX7_timesOut_83 : decode cX7_timesOut 83 = .ok (.lcmp, 1) := by decide +kernel
theorem dX7_timesOut_84 : decode cX7_timesOut 84 = .ok (.ifCond .ge 39, 3) := by decide +kernel
theorem dX7_timesOut_87 : decode cX7_timesOut 87 = .ok (.lload 4, 2) := by decide +kernel
theorem dX7_timesOut_89 : decode cX7_timesOut 89 = .ok (.aload_n 0, 1) := by decide +kernel
theorem dX7_timesOut_90 : decode cX7_timesOut 90 = .ok (.getfield 8, 3) := by decide +kernel
theorem dX7_timesOut_93 : decode cX7_timesOut 93 = .ok (.bipush 42, 2) := by decide +kernel
theorem dX7_timesOut_95 : decode cX7_timesOut 95 = .ok (.laload, 1) := by decide +kernel
theorem dX7_timesOut_96 : decode cX7_timesOut 96 = .ok (.ladd, 1) := by decide +kernel
theorem dX7_timesOut_97 : decode cX7_timesOut 97 = .ok (.lstore 8, 2) := by decide +kernel
theorem dX7_timesOut_99 : decode cX7_timesOut 99 = .ok (.aload_n 0, 1) := by decide +kernel
theorem dX7_timesOut_100 : decode cX7_timesOut 100 = .ok (.iload_n 1, 1) := by decide +kernel
theorem dX7_timesOut_101 : decode cX7_timesOut 101 = .ok (.iload_n 2, 1) := by decide +kernel
theorem dX7_timesOut_102 : decode cX7_timesOut 102 = .ok (.lload 8, 2) := by decide +kernel
theorem dX7_timesOut_104 : decode cX7_timesOut 104 = .ok (.lload 6, 2) := by decide +kernel
theorem dX7_timesOut_106 : decode cX7_timesOut 106 = .ok (.lcmp, 1) := by decide +kernel
theorem dX7_timesOut_107 : decode cX7_timesOut 107 = .ok (.ifCond .ge 8, 3) := by decide +kernel
theorem dX7_timesOut_110 : decode cX7_timesOut 110 = .ok (.lload 8, 2) := by decide +kernel
theorem dX7_timesOut_112 : decode cX7_timesOut 112 = .ok (.goto 5, 3) := by decide +kernel
theorem dX7_timesOut_115 : decode cX7_timesOut 115 = .ok (.lload 6, 2) := by decide +kernel
theorem dX7_timesOut_117 : decode cX7_timesOut 117 = .ok (.invokevirtual 139, 3) := by decide +kernel
theorem dX7_timesOut_120 : decode cX7_timesOut 120 = .ok (.goto 67, 3) := by decide +kernel
theorem dX7_timesOut_123 : decode cX7_timesOut 123 = .ok (.aload_n 0, 1) := by decide +kernel
theorem dX7_timesOut_124 : decode cX7_timesOut 124 = .ok (.getfield 8, 3) := by decide +kernel
theorem dX7_timesOut_127 : decode cX7_timesOut 127 = .ok (.iload_n 3, 1) := by decide +kernel
theorem dX7_timesOut_128 : decode cX7_timesOut 128 = .ok (.iconst 3, 1) := by decide +kernel
theorem dX7_timesOut_129 : decode cX7_timesOut 129 = .ok (.iadd, 1) := by decide +kernel
theorem dX7_timesOut_130 : decode cX7_timesOut 130 = .ok (.laload, 1) := by decide +kernel
theorem dX7_timesOut_131 : decode cX7_timesOut 131 = .ok (.aload_n 0, 1) := by decide +kernel
theorem dX7_timesOut_132 : decode cX7_timesOut 132 = .ok (.getfield 8, 3) := by decide +kernel
theorem dX7_timesOut_135 : decode cX7_timesOut 135 = .ok (.bipush 45, 2) := by decide +kernel
theorem dX7_timesOut_137 : decode cX7_timesOut 137 = .ok (.laload, 1) := by decide +kernel
theorem dX7_timesOut_138 : decode cX7_timesOut 138 = .ok (.lcmp, 1) := by decide +kernel
theorem dX7_timesOut_139 : decode cX7_timesOut 139 = .ok (.ifCond .ge 31, 3) := by decide +kernel
theorem dX7_timesOut_142 : decode cX7_timesOut 142 = .ok (.aload_n 0, 1) := by decide +kernel
theorem dX7_timesOut_143 : decode cX7_timesOut 143 = .ok (.getfield 8, 3) := by decide +kernel
theorem dX7_timesOut_146 : decode cX7_timesOut 146 = .ok (.iload_n 3, 1) := by decide +kernel
theorem dX7_timesOut_147 : decode cX7_timesOut 147 = .ok (.iconst 3, 1) := by decide +kernel
theorem dX7_timesOut_148 : decode cX7_timesOut 148 = .ok (.iadd, 1) := by decide +kernel
theorem dX7_timesOut_149 : decode cX7_timesOut 149 = .ok (.dup2, 1) := by decide +kernel
theorem dX7_timesOut_150 : decode cX7_timesOut 150 = .ok (.laload, 1) := by decide +kernel
theorem dX7_timesOut_151 : decode cX7_timesOut 151 = .ok (.lconst 1, 1) := by decide +kernel
theorem dX7_timesOut_152 : decode cX7_timesOut 152 = .ok (.ladd, 1) := by decide +kernel
theorem dX7_timesOut_153 : decode cX7_timesOut 153 = .ok (.lastore, 1) := by decide +kernel
theorem dX7_timesOut_154 : decode cX7_timesOut 154 = .ok (.aload_n 0, 1) := by decide +kernel
theorem dX7_timesOut_155 : decode cX7_timesOut 155 = .ok (.iload_n 1, 1) := by decide +kernel
theorem dX7_timesOut_156 : decode cX7_timesOut 156 = .ok (.iload_n 2, 1) := by decide +kernel
theorem dX7_timesOut_157 : decode cX7_timesOut 157 = .ok (.aload_n 0, 1) := by decide +kernel
theorem dX7_timesOut_158 : decode cX7_timesOut 158 = .ok (.getfield 8, 3) := by decide +kernel
theorem dX7_timesOut_161 : decode cX7_timesOut 161 = .ok (.bipush 44, 2) := by decide +kernel
theorem dX7_timesOut_163 : decode cX7_timesOut 163 = .ok (.laload, 1) := by decide +kernel
theorem dX7_timesOut_164 : decode cX7_timesOut 164 = .ok (.invokevirtual 139, 3) := by decide +kernel
theorem dX7_timesOut_167 : decode cX7_timesOut 167 = .ok (.goto 20, 3) := by decide +kernel
theorem dX7_timesOut_170 : decode cX7_timesOut 170 = .ok (.aload_n 0, 1) := by decide +kernel
theorem dX7_timesOut_171 : decode cX7_timesOut 171 = .ok (.getfield 8, 3) := by decide +kernel
theorem dX7_timesOut_174 : decode cX7_timesOut 174 = .ok (.iload_n 3, 1) := by decide +kernel
theorem dX7_timesOut_175 : decode cX7_timesOut 175 = .ok (.iconst 0, 1) := by decide +kernel
theorem dX7_timesOut_176 : decode cX7_timesOut 176 = .ok (.iadd, 1) := by decide +kernel
theorem dX7_timesOut_177 : decode cX7_timesOut 177 = .ok (.lconst 0, 1) := by decide +kernel
theorem dX7_timesOut_178 : decode cX7_timesOut 178 = .ok (.lastore, 1) := by decide +kernel
theorem dX7_timesOut_179 : decode cX7_timesOut 179 = .ok (.aload_n 0, 1) := by decide +kernel
theorem dX7_timesOut_180 : decode cX7_timesOut 180 = .ok (.iload_n 1, 1) := by decide +kernel
theorem dX7_timesOut_181 : decode cX7_timesOut 181 = .ok (.iload_n 2, 1) := by decide +kernel
theorem dX7_timesOut_182 : decode cX7_timesOut 182 = .ok (.bipush 11, 2) := by decide +kernel
theorem dX7_timesOut_184 : decode cX7_timesOut 184 = .ok (.invokevirtual 142, 3) := by decide +kernel
theorem dX7_timesOut_187 : decode cX7_timesOut 187 = .ok (.return_, 1) := by decide +kernel
theorem dX7_nextTimeout_0 : decode cX7_nextTimeout 0 = .ok (.iconst (-1), 1) := by decide +kernel
theorem dX7_nextTimeout_1 : decode cX7_nextTimeout 1 = .ok (.istore_n 1, 1) := by decide +kernel
theorem dX7_nextTimeout_2 : decode cX7_nextTimeout 2 = .ok (.iconst 0, 1) := by decide +kernel
theorem dX7_nextTimeout_3 : decode cX7_nextTimeout 3 = .ok (.istore_n 2, 1) := by decide +kernel
theorem dX7_nextTimeout_4 : decode cX7_nextTimeout 4 = .ok (.iload_n 2, 1) := by decide +kernel
theorem dX7_nextTimeout_5 : decode cX7_nextTimeout 5 = .ok (.bipush 100, 2) := by decide +kernel
theorem dX7_nextTimeout_7 : decode cX7_nextTimeout 7 = .ok (.if_icmp .ge 62, 3) := by decide +kernel
theorem dX7_nextTimeout_10 : decode cX7_nextTimeout 10 = .ok (.sipush 1000, 3) := by decide +kernel
theorem dX7_nextTimeout_13 : decode cX7_nextTimeout 13 = .ok (.iconst 4, 1) := by decide +kernel
theorem dX7_nextTimeout_14 : decode cX7_nextTimeout 14 = .ok (.iload_n 2, 1) := by decide +kernel
theorem dX7_nextTimeout_15 : decode cX7_nextTimeout 15 = .ok (.imul, 1) := by decide +kernel
theorem dX7_nextTimeout_16 : decode cX7_nextTimeout 16 = .ok (.iadd, 1) := by decide +kernel
theorem dX7_nextTimeout_17 : decode cX7_nextTimeout 17 = .ok (.istore_n 3, 1) := by decide +kernel
theorem dX7_nextTimeout_18 : decode cX7_nextTimeout 18 = .ok (.aload_n 0, 1) := by decide +kernel
theorem dX7_nextTimeout_19 : decode cX7_nextTimeout 19 = .ok (.getfield 8, 3) := by decide +kernel
theorem dX7_nextTimeout_22 : decode cX7_nextTimeout 22 = .ok (.iload_n 3, 1) := by decide +kernel
theorem dX7_nextTimeout_23 : decode cX7_nextTimeout 23 = .ok (.iconst 0, 1) := by decide +kernel
theorem dX7_nextTimeout_24 : decode cX7_nextTimeout 24 = .ok (.iadd, 1) := by decide +kernel
theorem dX7_nextTimeout_25 : decode cX7_nextTimeout 25 = .ok (.laload, 1) := by decide +kernel
theorem dX7_nextTimeout_26 : decode cX7_nextTimeout 26 = .ok (.lconst 0, 1) := by decide +kernel
theorem dX7_nextTimeout_27 : decode cX7_nextTimeout 27 = .ok (.lcmp, 1) := by decide +kernel
theorem dX7_nextTimeout_28 : decode cX7_nextTimeout 28 = .ok (.ifCond .le 35, 3) := by decide +kernel
theorem dX7_nextTimeout_31 : decode cX7_nextTimeout 31 = .ok (.iload_n 1, 1) := by decide +kernel
theorem dX7_nextTimeout_32 : decode cX7_nextTimeout 32 = .ok (.ifCond .lt 29, 3) := by decide +kernel
theorem dX7_nextTimeout_35 : decode cX7_nextTimeout 35 = .ok (.aload_n 0, 1) := by decide +kernel
theorem dX7_nextTimeout_36 : decode cX7_nextTimeout 36 = .ok (.getfield 8, 3) := by decide +kernel
theorem dX7_nextTimeout_39 : decode cX7_nextTimeout 39 = .ok (.iload_n 3, 1) := by decide +kernel
theorem dX7_nextTimeout_40 : decode cX7_nextTimeout 40 = .ok (.iconst 1, 1) := by decide +kernel
theorem dX7_nextTimeout_41 : decode cX7_nextTimeout 41 = .ok (.iadd, 1) := by decide +kernel
theorem dX7_nextTimeout_42 : decode cX7_nextTimeout 42 = .ok (.laload, 1) := by decide +kernel
theorem dX7_nextTimeout_43 : decode cX7_nextTimeout 43 = .ok (.aload_n 0, 1) := by decide +kernel
theorem dX7_nextTimeout_44 : decode cX7_nextTimeout 44 = .ok (.getfield 8, 3) := by decide +kernel
theorem dX7_nextTimeout_47 : decode cX7_nextTimeout 47 = .ok (.sipush 1000, 3) := by decide +kernel
theorem dX7_nextTimeout_50 : decode cX7_nextTimeout 50 = .ok (.iconst 4, 1) := by decide +kernel
theorem dX7_nextTimeout_51 : decode cX7_nextTimeout 51 = .ok (.iload_n 1, 1) := by decide +kernel
theorem dX7_nextTimeout_52 : decode cX7_nextTimeout 52 = .ok (.imul, 1) := by decide +kernel
theorem dX7_nextTimeout_53 : decode cX7_nextTimeout 53 = .ok (.iadd, 1) := by decide +kernel
theorem dX7_nextTimeout_54 : decode cX7_nextTimeout 54 = .ok (.iconst 1, 1) := by decide +kernel
theorem dX7_nextTimeout_55 : decode cX7_nextTimeout 55 = .ok (.iadd, 1) := by decide +kernel
theorem dX7_nextTimeout_56 : decode cX7_nextTimeout 56 = .ok (.laload, 1) := by decide +kernel
theorem dX7_nextTimeout_57 : decode cX7_nextTimeout 57 = .ok (.lcmp, 1) := by decide +kernel
theorem dX7_nextTimeout_58 : decode cX7_nextTimeout 58 = .ok (.ifCond .ge 5, 3) := by decide +kernel
theorem dX7_nextTimeout_61 : decode cX7_nextTimeout 61 = .ok (.iload_n 2, 1) := by decide +kernel
theorem dX7_nextTimeout_62 : decode cX7_nextTimeout 62 = .ok (.istore_n 1, 1) := by decide +kernel
theorem dX7_nextTimeout_63 : decode cX7_nextTimeout 63 = .ok (.iinc 2 1, 3) := by decide +kernel
theorem dX7_nextTimeout_66 : decode cX7_nextTimeout 66 = .ok (.goto (-62), 3) := by decide +kernel
theorem dX7_nextTimeout_69 : decode cX7_nextTimeout 69 = .ok (.iload_n 1, 1) := by decide +kernel
theorem dX7_nextTimeout_70 : decode cX7_nextTimeout 70 = .ok (.ireturn, 1) := by decide +kernel
theorem dX7_happens_0 : decode cX7_happens 0 = .ok (.aload_n 0, 1) := by decide +kernel
theorem dX7_happens_1 : decode cX7_happens 1 = .ok (.invokevirtual 181, 3) := by decide +kernel
theorem dX7_happens_4 : decode cX7_happens 4 = .ok (.lstore_n 3, 1) := by decide +kernel
theorem dX7_happens_5 : decode cX7_happens 5 = .ok (.aload_n 0, 1) := by decide +kernel
theorem dX7_happens_6 : decode cX7_happens 6 = .ok (.invokevirtual 184, 3) := by decide +kernel
theorem dX7_happens_9 : decode cX7_happens 9 = .ok (.istore 5, 2) := by decide +kernel
theorem dX7_happens_11 : decode cX7_happens 11 = .ok (.iload 5, 2) := by decide +kernel
theorem dX7_happens_13 : decode cX7_happens 13 = .ok (.ifCond .ge 9, 3) := by decide +kernel
theorem dX7_happens_16 : decode cX7_happens 16 = .ok (.ldc2_w 24, 3) := by decide +kernel
theorem dX7_happens_19 : decode cX7_happens 19 = .ok (.goto 18, 3) := by decide +kernel
theorem dX7_happens_22 : decode cX7_happens 22 = .ok (.aload_n 0, 1) := by decide +kernel
theorem dX7_happens_23 : decode cX7_happens 23 = .ok (.getfield 8, 3) := by decide +kernel
theorem dX7_happens_26 : decode cX7_happens 26 = .ok (.sipush 1000, 3) := by decide +kernel
theorem dX7_happens_29 : decode cX7_happens 29 = .ok (.iconst 4, 1) := by decide +kernel
theorem dX7_happens_30 : decode cX7_happens 30 = .ok (.iload 5, 2) := by decide +kernel
theorem dX7_happens_32 : decode cX7_happens 32 = .ok (.imul, 1) := by decide +kernel
theorem dX7_happens_33 : decode cX7_happens 33 = .ok (.iadd, 1) := by decide +kernel
theorem dX7_happens_34 : decode cX7_happens 34 = .ok (.iconst 1, 1) := by decide +kernel
theorem dX7_happens_35 : decode cX7_happens 35 = .ok (.iadd, 1) := by decide +kernel
theorem dX7_happens_36 : decode cX7_happens 36 = .ok (.laload, 1) := by decide +kernel
theorem dX7_happens_37 : decode cX7_happens 37 = .ok (.lstore 6, 2) := by decide +kernel
theorem dX7_happens_39 : decode cX7_happens 39 = .ok (.lload_n 3, 1) := by decide +kernel
theorem dX7_happens_40 : decode cX7_happens 40 = .ok (.lconst 0, 1) := by decide +kernel
theorem dX7_happens_41 : decode cX7_happens 41 = .ok (.lcmp, 1) := by decide +kernel
theorem dX7_happens_42 : decode cX7_happens 42 = .ok (.ifCond .lt 21, 3) := by decide +kernel
theorem dX7_happens_45 : decode cX7_happens 45 = .ok (.lload 6, 2) := by decide +kernel
theorem dX7_happens_47 : decode cX7_happens 47 = .ok (.lconst 0, 1) := by decide +kernel
theorem dX7_happens_48 : decode cX7_happens 48 = .ok (.lcmp, 1) := by decide +kernel
theorem dX7_happens_49 : decode cX7_happens 49 = .ok (.ifCond .lt 10, 3) := by decide +kernel
theorem dX7_happens_52 : decode cX7_happens 52 = .ok (.lload_n 3, 1) := by decide +kernel
theorem dX7_happens_53 : decode cX7_happens 53 = .ok (.lload 6, 2) := by decide +kernel
theorem dX7_happens_55 : decode cX7_happens 55 = .ok (.lcmp, 1) := by decide +kernel
theorem dX7_happens_56 : decode cX7_happens 56 = .ok (.ifCond .gt 7, 3) := by decide +kernel
theorem dX7_happens_59 : decode cX7_happens 59 = .ok (.iconst 1, 1) := by decide +kernel
theorem dX7_happens_60 : decode cX7_happens 60 = .ok (.goto 4, 3) := by decide +kernel
theorem dX7_happens_63 : decode cX7_happens 63 = .ok (.iconst 0, 1) := by decide +kernel
theorem dX7_happens_64 : decode cX7_happens 64 = .ok (.istore 8, 2) := by decide +kernel
theorem dX7_happens_66 : decode cX7_happens 66 = .ok (.iload 8, 2) := by decide +kernel
theorem dX7_happens_68 : decode cX7_happens 68 = .ok (.ifCond .eq 7, 3) := by decide +kernel
theorem dX7_happens_71 : decode cX7_happens 71 = .ok (.lload_n 3, 1) := by decide +kernel
theorem dX7_happens_72 : decode cX7_happens 72 = .ok (.goto 5, 3) := by decide +kernel
theorem dX7_happens_75 : decode cX7_happens 75 = .ok (.lload 6, 2) := by decide +kernel
theorem dX7_happens_77 : decode cX7_happens 77 = .ok (.lstore 9, 2) := by decide +kernel
theorem dX7_happens_79 : decode cX7_happens 79 = .ok (.lload 9, 2) := by decide +kernel
theorem dX7_happens_81 : decode cX7_happens 81 = .ok (.lconst 0, 1) := by decide +kernel
theorem dX7_happens_82 : decode cX7_happens 82 = .ok (.lcmp, 1) := by decide +kernel
theorem dX7_happens_83 : decode cX7_happens 83 = .ok (.ifCond .lt 10, 3) := by decide +kernel
theorem dX7_happens_86 : decode cX7_happens 86 = .ok (.lload 9, 2) := by decide +kernel
theorem dX7_happens_88 : decode cX7_happens 88 = .ok (.lload_n 1, 1) := by decide +kernel
theorem dX7_happens_89 : decode cX7_happens 89 = .ok (.lcmp, 1) := by decide +kernel
theorem dX7_happens_90 : decode cX7_happens 90 = .ok (.ifCond .le 5, 3) := by decide +kernel
theorem dX7_happens_93 : decode cX7_happens 93 = .ok (.iconst (-1), 1) := by decide +kernel
theorem dX7_happens_94 : decode cX7_happens 94 = .ok (.ireturn, 1) := by decide +kernel
theorem dX7_happens_95 : decode cX7_happens 95 = .ok (.aload_n 0, 1) := by decide +kernel
theorem dX7_happens_96 : decode cX7_happens 96 = .ok (.getfield 8, 3) := by decide +kernel
theorem dX7_happens_99 : decode cX7_happens 99 = .ok (.iconst 0, 1) := by decide +kernel
theorem dX7_happens_100 : decode cX7_happens 100 = .ok (.lload 9, 2) := by decide +kernel
theorem dX7_happens_102 : decode cX7_happens 102 = .ok (.lastore, 1) := by decide +kernel
theorem dX7_happens_103 : decode cX7_happens 103 = .ok (.iload 8, 2) := by decide +kernel
theorem dX7_happens_105 : decode cX7_happens 105 = .ok (.ifCond .eq 15, 3) := by decide +kernel
theorem dX7_happens_108 : decode cX7_happens 108 = .ok (.aload_n 0, 1) := by decide +kernel
theorem dX7_happens_109 : decode cX7_happens 109 = .ok (.lload 9, 2) := by decide +kernel
theorem dX7_happens_111 : decode cX7_happens 111 = .ok (.ldc2_w 22, 3) := by decide +kernel
theorem dX7_happens_114 : decode cX7_happens 114 = .ok (.lrem, 1) := by decide +kernel
theorem dX7_happens_115 : decode cX7_happens 115 = .ok (.l2i, 1) := by decide +kernel
theorem dX7_happens_116 : decode cX7_happens 116 = .ok (.invokevirtual 188, 3) := by decide +kernel
theorem dX7_happens_119 : decode cX7_happens 119 = .ok (.ireturn, 1) := by decide +kernel
theorem dX7_happens_120 : decode cX7_happens 120 = .ok (.aload_n 0, 1) := by decide +kernel
theorem dX7_happens_121 : decode cX7_happens 121 = .ok (.iload 5, 2) := by decide +kernel
theorem dX7_happens_123 : decode cX7_happens 123 = .ok (.bipush 10, 2) := by decide +kernel
theorem dX7_happens_125 : decode cX7_happens 125 = .ok (.idiv, 1) := by decide +kernel
theorem dX7_happens_126 : decode cX7_happens 126 = .ok (.iload 5, 2) := by decide +kernel
theorem dX7_happens_128 : decode cX7_happens 128 = .ok (.bipush 10, 2) := by decide +kernel
theorem dX7_happens_130 : decode cX7_happens 130 = .ok (.irem, 1) := by decide +kernel
theorem dX7_happens_131 : decode cX7_happens 131 = .ok (.invokevirtual 191, 3) := by decide +kernel
theorem dX7_happens_134 : decode cX7_happens 134 = .ok (.iconst 4, 1) := by decide +kernel
theorem dX7_happens_135 : decode cX7_happens 135 = .ok (.ireturn, 1) := by decide +kernel
theorem dX7_passes_0 : decode cX7_passes 0 = .ok (.iconst 0, 1) := by decide +kernel
theorem dX7_passes_1 : decode cX7_passes 1 = .ok (.istore_n 3, 1) := by decide +kernel
theorem dX7_passes_2 : decode cX7_passes 2 = .ok (.aload_n 0, 1) := by decide +kernel
theorem dX7_passes_3 : decode cX7_passes 3 = .ok (.lload_n 1, 1) := by decide +kernel
theorem dX7_passes_4 : decode cX7_passes 4 = .ok (.invokevirtual 194, 3) := by decide +kernel
theorem dX7_passes_7 : decode cX7_passes 7 = .ok (.ifCond .lt 9, 3) := by decide +kernel
theorem dX7_passes_10 : decode cX7_passes 10 = .ok (.iinc 3 1, 3) := by decide +kernel
theorem dX7_passes_13 : decode cX7_passes 13 = .ok (.goto (-11), 3) := by decide +kernel
theorem dX7_passes_16 : decode cX7_passes 16 = .ok (.aload_n 0, 1) := by decide +kernel
theorem dX7_passes_17 : decode cX7_passes 17 = .ok (.getfield 8, 3) := by decide +kernel
theorem dX7_passes_20 : decode cX7_passes 20 = .ok (.iconst 0, 1) := by decide +kernel
theorem dX7_passes_21 : decode cX7_passes 21 = .ok (.lload_n 1, 1) := by decide +kernel
theorem dX7_passes_22 : decode cX7_passes 22 = .ok (.lastore, 1) := by decide +kernel
theorem dX7_passes_23 : decode cX7_passes 23 = .ok (.iload_n 3, 1) := by decide +kernel
theorem dX7_passes_24 : decode cX7_passes 24 = .ok (.ireturn, 1) := by decide +kernel
theorem dX7_links_0 : decode cX7_links 0 = .ok (.aload_n 0, 1) := by decide +kernel
theorem dX7_links_1 : decode cX7_links 1 = .ok (.getfield 8, 3) := by decide +kernel
theorem dX7_links_4 : decode cX7_links 4 = .ok (.bipush 100, 2) := by decide +kernel
theorem dX7_links_6 : decode cX7_links 6 = .ok (.bipush 10, 2) := by decide +kernel
theorem dX7_links_8 : decode cX7_links 8 = .ok (.iload_n 1, 1) := by decide +kernel
theorem dX7_links_9 : decode cX7_links 9 = .ok (.imul, 1) := by decide +kernel
theorem dX7_links_10 : decode cX7_links 10 = .ok (.iadd, 1) := by decide +kernel
theorem dX7_links_11 : decode cX7_links 11 = .ok (.iload_n 2, 1) := by decide +kernel
theorem dX7_links_12 : decode cX7_links 12 = .ok (.iadd, 1) := by decide +kernel
theorem dX7_links_13 : decode cX7_links 13 = .ok (.laload, 1) := by decide +kernel
theorem dX7_links_14 : decode cX7_links 14 = .ok (.l2i, 1) := by decide +kernel
