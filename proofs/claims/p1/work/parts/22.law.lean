abbrev c_Law_law : ByteArray := code
abbrev y_Law_law : MethodName := ⟨"FactorDeskLaw", "law", "([I)Z"⟩
theorem d_Law_law_0 : decode c_Law_law 0 = .ok (.new 8, 3) := by decide +kernel
theorem d_Law_law_3 : decode c_Law_law 3 = .ok (.dup, 1) := by decide +kernel
theorem d_Law_law_4 : decode c_Law_law 4 = .ok (.invokespecial 55, 3) := by decide +kernel
theorem d_Law_law_7 : decode c_Law_law 7 = .ok (.astore_n 1, 1) := by decide +kernel
theorem d_Law_law_8 : decode c_Law_law 8 = .ok (.new 56, 3) := by decide +kernel
theorem d_Law_law_11 : decode c_Law_law 11 = .ok (.dup, 1) := by decide +kernel
theorem d_Law_law_12 : decode c_Law_law 12 = .ok (.invokespecial 58, 3) := by decide +kernel
theorem d_Law_law_15 : decode c_Law_law 15 = .ok (.astore_n 2, 1) := by decide +kernel
theorem d_Law_law_16 : decode c_Law_law 16 = .ok (.iconst 1, 1) := by decide +kernel
theorem d_Law_law_17 : decode c_Law_law 17 = .ok (.newarray .long, 2) := by decide +kernel
theorem d_Law_law_19 : decode c_Law_law 19 = .ok (.astore_n 3, 1) := by decide +kernel
theorem d_Law_law_20 : decode c_Law_law 20 = .ok (.iconst 0, 1) := by decide +kernel
theorem d_Law_law_21 : decode c_Law_law 21 = .ok (.istore 4, 2) := by decide +kernel
theorem d_Law_law_23 : decode c_Law_law 23 = .ok (.iload 4, 2) := by decide +kernel
theorem d_Law_law_25 : decode c_Law_law 25 = .ok (.aload_n 0, 1) := by decide +kernel
theorem d_Law_law_26 : decode c_Law_law 26 = .ok (.arraylength, 1) := by decide +kernel
theorem d_Law_law_27 : decode c_Law_law 27 = .ok (.iconst 4, 1) := by decide +kernel
theorem d_Law_law_28 : decode c_Law_law 28 = .ok (.isub, 1) := by decide +kernel
theorem d_Law_law_29 : decode c_Law_law 29 = .ok (.if_icmp .gt 799, 3) := by decide +kernel
theorem d_Law_law_32 : decode c_Law_law 32 = .ok (.aload_n 0, 1) := by decide +kernel
theorem d_Law_law_33 : decode c_Law_law 33 = .ok (.iload 4, 2) := by decide +kernel
theorem d_Law_law_35 : decode c_Law_law 35 = .ok (.iaload, 1) := by decide +kernel
theorem d_Law_law_36 : decode c_Law_law 36 = .ok (.bipush 15, 2) := by decide +kernel
theorem d_Law_law_38 : decode c_Law_law 38 = .ok (.iand, 1) := by decide +kernel
theorem d_Law_law_116 : decode c_Law_law 116 = .ok (.aload_n 1, 1) := by decide +kernel
theorem d_Law_law_117 : decode c_Law_law 117 = .ok (.aload_n 0, 1) := by decide +kernel
theorem d_Law_law_118 : decode c_Law_law 118 = .ok (.iload 4, 2) := by decide +kernel
theorem d_Law_law_120 : decode c_Law_law 120 = .ok (.iconst 1, 1) := by decide +kernel
theorem d_Law_law_121 : decode c_Law_law 121 = .ok (.iadd, 1) := by decide +kernel
theorem d_Law_law_122 : decode c_Law_law 122 = .ok (.iaload, 1) := by decide +kernel
theorem d_Law_law_123 : decode c_Law_law 123 = .ok (.aload_n 3, 1) := by decide +kernel
theorem d_Law_law_124 : decode c_Law_law 124 = .ok (.invokestatic 59, 3) := by decide +kernel
theorem d_Law_law_127 : decode c_Law_law 127 = .ok (.istore 5, 2) := by decide +kernel
theorem d_Law_law_129 : decode c_Law_law 129 = .ok (.aload_n 2, 1) := by decide +kernel
theorem d_Law_law_130 : decode c_Law_law 130 = .ok (.aload_n 0, 1) := by decide +kernel
theorem d_Law_law_131 : decode c_Law_law 131 = .ok (.iload 4, 2) := by decide +kernel
theorem d_Law_law_133 : decode c_Law_law 133 = .ok (.iconst 1, 1) := by decide +kernel
theorem d_Law_law_134 : decode c_Law_law 134 = .ok (.iadd, 1) := by decide +kernel
theorem d_Law_law_135 : decode c_Law_law 135 = .ok (.iaload, 1) := by decide +kernel
theorem d_Law_law_136 : decode c_Law_law 136 = .ok (.invokevirtual 64, 3) := by decide +kernel
theorem d_Law_law_139 : decode c_Law_law 139 = .ok (.istore 6, 2) := by decide +kernel
theorem d_Law_law_141 : decode c_Law_law 141 = .ok (.aload_n 2, 1) := by decide +kernel
theorem d_Law_law_142 : decode c_Law_law 142 = .ok (.invokevirtual 65, 3) := by decide +kernel
theorem d_Law_law_145 : decode c_Law_law 145 = .ok (.iload 5, 2) := by decide +kernel
theorem d_Law_law_147 : decode c_Law_law 147 = .ok (.if_icmp .eq 5, 3) := by decide +kernel
theorem d_Law_law_150 : decode c_Law_law 150 = .ok (.iconst 0, 1) := by decide +kernel
theorem d_Law_law_151 : decode c_Law_law 151 = .ok (.ireturn, 1) := by decide +kernel
theorem d_Law_law_152 : decode c_Law_law 152 = .ok (.iload 5, 2) := by decide +kernel
theorem d_Law_law_154 : decode c_Law_law 154 = .ok (.ifCond .ne 15, 3) := by decide +kernel
theorem d_Law_law_157 : decode c_Law_law 157 = .ok (.aload_n 3, 1) := by decide +kernel
theorem d_Law_law_158 : decode c_Law_law 158 = .ok (.iconst 0, 1) := by decide +kernel
theorem d_Law_law_159 : decode c_Law_law 159 = .ok (.laload, 1) := by decide +kernel
theorem d_Law_law_160 : decode c_Law_law 160 = .ok (.iload 6, 2) := by decide +kernel
theorem d_Law_law_162 : decode c_Law_law 162 = .ok (.i2l, 1) := by decide +kernel
theorem d_Law_law_163 : decode c_Law_law 163 = .ok (.lcmp, 1) := by decide +kernel
theorem d_Law_law_164 : decode c_Law_law 164 = .ok (.ifCond .eq 5, 3) := by decide +kernel
theorem d_Law_law_167 : decode c_Law_law 167 = .ok (.iconst 0, 1) := by decide +kernel
theorem d_Law_law_168 : decode c_Law_law 168 = .ok (.ireturn, 1) := by decide +kernel
theorem d_Law_law_169 : decode c_Law_law 169 = .ok (.goto 653, 3) := by decide +kernel
theorem d_Law_law_172 : decode c_Law_law 172 = .ok (.aload_n 1, 1) := by decide +kernel
theorem d_Law_law_173 : decode c_Law_law 173 = .ok (.invokevirtual 68, 3) := by decide +kernel
theorem d_Law_law_176 : decode c_Law_law 176 = .ok (.aload_n 2, 1) := by decide +kernel
theorem d_Law_law_177 : decode c_Law_law 177 = .ok (.invokevirtual 71, 3) := by decide +kernel
theorem d_Law_law_180 : decode c_Law_law 180 = .ok (.if_icmp .eq 642, 3) := by decide +kernel
theorem d_Law_law_183 : decode c_Law_law 183 = .ok (.iconst 0, 1) := by decide +kernel
theorem d_Law_law_184 : decode c_Law_law 184 = .ok (.ireturn, 1) := by decide +kernel
theorem d_Law_law_185 : decode c_Law_law 185 = .ok (.aload_n 1, 1) := by decide +kernel
theorem d_Law_law_186 : decode c_Law_law 186 = .ok (.aload_n 3, 1) := by decide +kernel
theorem d_Law_law_187 : decode c_Law_law 187 = .ok (.invokestatic 72, 3) := by decide +kernel
theorem d_Law_law_190 : decode c_Law_law 190 = .ok (.istore 5, 2) := by decide +kernel
theorem d_Law_law_192 : decode c_Law_law 192 = .ok (.aload_n 2, 1) := by decide +kernel
theorem d_Law_law_193 : decode c_Law_law 193 = .ok (.invokevirtual 75, 3) := by decide +kernel
theorem d_Law_law_196 : decode c_Law_law 196 = .ok (.istore 6, 2) := by decide +kernel
theorem d_Law_law_198 : decode c_Law_law 198 = .ok (.aload_n 2, 1) := by decide +kernel
theorem d_Law_law_199 : decode c_Law_law 199 = .ok (.invokevirtual 65, 3) := by decide +kernel
theorem d_Law_law_202 : decode c_Law_law 202 = .ok (.iload 5, 2) := by decide +kernel
theorem d_Law_law_204 : decode c_Law_law 204 = .ok (.if_icmp .eq 5, 3) := by decide +kernel
theorem d_Law_law_207 : decode c_Law_law 207 = .ok (.iconst 0, 1) := by decide +kernel
theorem d_Law_law_208 : decode c_Law_law 208 = .ok (.ireturn, 1) := by decide +kernel
theorem d_Law_law_209 : decode c_Law_law 209 = .ok (.iload 5, 2) := by decide +kernel
theorem d_Law_law_211 : decode c_Law_law 211 = .ok (.ifCond .ne 15, 3) := by decide +kernel
theorem d_Law_law_214 : decode c_Law_law 214 = .ok (.aload_n 3, 1) := by decide +kernel
theorem d_Law_law_215 : decode c_Law_law 215 = .ok (.iconst 0, 1) := by decide +kernel
theorem d_Law_law_216 : decode c_Law_law 216 = .ok (.laload, 1) := by decide +kernel
theorem d_Law_law_217 : decode c_Law_law 217 = .ok (.iload 6, 2) := by decide +kernel
theorem d_Law_law_219 : decode c_Law_law 219 = .ok (.i2l, 1) := by decide +kernel
theorem d_Law_law_220 : decode c_Law_law 220 = .ok (.lcmp, 1) := by decide +kernel
theorem d_Law_law_221 : decode c_Law_law 221 = .ok (.ifCond .eq 5, 3) := by decide +kernel
theorem d_Law_law_224 : decode c_Law_law 224 = .ok (.iconst 0, 1) := by decide +kernel
theorem d_Law_law_225 : decode c_Law_law 225 = .ok (.ireturn, 1) := by decide +kernel
theorem d_Law_law_226 : decode c_Law_law 226 = .ok (.goto 596, 3) := by decide +kernel
theorem d_Law_law_229 : decode c_Law_law 229 = .ok (.aload_n 1, 1) := by decide +kernel
theorem d_Law_law_230 : decode c_Law_law 230 = .ok (.aload_n 3, 1) := by decide +kernel
theorem d_Law_law_231 : decode c_Law_law 231 = .ok (.invokestatic 76, 3) := by decide +kernel
theorem d_Law_law_234 : decode c_Law_law 234 = .ok (.istore 5, 2) := by decide +kernel
theorem d_Law_law_236 : decode c_Law_law 236 = .ok (.aload_n 2, 1) := by decide +kernel
theorem d_Law_law_237 : decode c_Law_law 237 = .ok (.invokevirtual 78, 3) := by decide +kernel
theorem d_Law_law_240 : decode c_Law_law 240 = .ok (.istore 6, 2) := by decide +kernel
theorem d_Law_law_242 : decode c_Law_law 242 = .ok (.aload_n 2, 1) := by decide +kernel
theorem d_Law_law_243 : decode c_Law_law 243 = .ok (.invokevirtual 65, 3) := by decide +kernel
theorem d_Law_law_246 : decode c_Law_law 246 = .ok (.iload 5, 2) := by decide +kernel
theorem d_Law_law_248 : decode c_Law_law 248 = .ok (.if_icmp .eq 5, 3) := by decide +kernel
theorem d_Law_law_251 : decode c_Law_law 251 = .ok (.iconst 0, 1) := by decide +kernel
theorem d_Law_law_252 : decode c_Law_law 252 = .ok (.ireturn, 1) := by decide +kernel
theorem d_Law_law_253 : decode c_Law_law 253 = .ok (.iload 5, 2) := by decide +kernel
theorem d_Law_law_255 : decode c_Law_law 255 = .ok (.ifCond .ne 15, 3) := by decide +kernel
theorem d_Law_law_258 : decode c_Law_law 258 = .ok (.aload_n 3, 1) := by decide +kernel
theorem d_Law_law_259 : decode c_Law_law 259 = .ok (.iconst 0, 1) := by decide +kernel
theorem d_Law_law_260 : decode c_Law_law 260 = .ok (.laload, 1) := by decide +kernel
theorem d_Law_law_261 : decode c_Law_law 261 = .ok (.iload 6, 2) := by decide +kernel
theorem d_Law_law_263 : decode c_Law_law 263 = .ok (.i2l, 1) := by decide +kernel
theorem d_Law_law_264 : decode c_Law_law 264 = .ok (.lcmp, 1) := by decide +kernel
theorem d_Law_law_265 : decode c_Law_law 265 = .ok (.ifCond .eq 5, 3) := by decide +kernel
theorem d_Law_law_268 : decode c_Law_law 268 = .ok (.iconst 0, 1) := by decide +kernel
theorem d_Law_law_269 : decode c_Law_law 269 = .ok (.ireturn, 1) := by decide +kernel
theorem d_Law_law_270 : decode c_Law_law 270 = .ok (.goto 552, 3) := by decide +kernel
theorem d_Law_law_273 : decode c_Law_law 273 = .ok (.aload_n 1, 1) := by decide +kernel
theorem d_Law_law_274 : decode c_Law_law 274 = .ok (.aload_n 0, 1) := by decide +kernel
theorem d_Law_law_275 : decode c_Law_law 275 = .ok (.iload 4, 2) := by decide +kernel
theorem d_Law_law_277 : decode c_Law_law 277 = .ok (.iconst 1, 1) := by decide +kernel
theorem d_Law_law_278 : decode c_Law_law 278 = .ok (.iadd, 1) := by decide +kernel
theorem d_Law_law_279 : decode c_Law_law 279 = .ok (.iaload, 1) := by decide +kernel
theorem d_Law_law_280 : decode c_Law_law 280 = .ok (.aload_n 3, 1) := by decide +kernel
theorem d_Law_law_281 : decode c_Law_law 281 = .ok (.invokestatic 79, 3) := by decide +kernel
theorem d_Law_law_284 : decode c_Law_law 284 = .ok (.istore 5, 2) := by decide +kernel
theorem d_Law_law_286 : decode c_Law_law 286 = .ok (.aload_n 2, 1) := by decide +kernel
theorem d_Law_law_287 : decode c_Law_law 287 = .ok (.aload_n 0, 1) := by decide +kernel
theorem d_Law_law_288 : decode c_Law_law 288 = .ok (.iload 4, 2) := by decide +kernel
theorem d_Law_law_290 : decode c_Law_law 290 = .ok (.iconst 1, 1) := by decide +kernel
theorem d_Law_law_291 : decode c_Law_law 291 = .ok (.iadd, 1) := by decide +kernel
theorem d_Law_law_292 : decode c_Law_law 292 = .ok (.iaload, 1) := by decide +kernel
theorem d_Law_law_293 : decode c_Law_law 293 = .ok (.invokevirtual 81, 3) := by decide +kernel
theorem d_Law_law_296 : decode c_Law_law 296 = .ok (.istore 6, 2) := by decide +kernel
theorem d_Law_law_298 : decode c_Law_law 298 = .ok (.aload_n 2, 1) := by decide +kernel
theorem d_Law_law_299 : decode c_Law_law 299 = .ok (.invokevirtual 65, 3) := by decide +kernel
theorem d_Law_law_302 : decode c_Law_law 302 = .ok (.iload 5, 2) := by decide +kernel
theorem d_Law_law_304 : decode c_Law_law 304 = .ok (.if_icmp .eq 5, 3) := by decide +kernel
theorem d_Law_law_307 : decode c_Law_law 307 = .ok (.iconst 0, 1) := by decide +kernel
theorem d_Law_law_308 : decode c_Law_law 308 = .ok (.ireturn, 1) := by decide +kernel
theorem d_Law_law_309 : decode c_Law_law 309 = .ok (.iload 5, 2) := by decide +kernel
theorem d_Law_law_311 : decode c_Law_law 311 = .ok (.ifCond .ne 15, 3) := by decide +kernel
theorem d_Law_law_314 : decode c_Law_law 314 = .ok (.aload_n 3, 1) := by decide +kernel
theorem d_Law_law_315 : decode c_Law_law 315 = .ok (.iconst 0, 1) := by decide +kernel
theorem d_Law_law_316 : decode c_Law_law 316 = .ok (.laload, 1) := by decide +kernel
theorem d_Law_law_317 : decode c_Law_law 317 = .ok (.iload 6, 2) := by decide +kernel
theorem d_Law_law_319 : decode c_Law_law 319 = .ok (.i2l, 1) := by decide +kernel
theorem d_Law_law_320 : decode c_Law_law 320 = .ok (.lcmp, 1) := by decide +kernel
theorem d_Law_law_321 : decode c_Law_law 321 = .ok (.ifCond .eq 5, 3) := by decide +kernel
theorem d_Law_law_324 : decode c_Law_law 324 = .ok (.iconst 0, 1) := by decide +kernel
theorem d_Law_law_325 : decode c_Law_law 325 = .ok (.ireturn, 1) := by decide +kernel
theorem d_Law_law_326 : decode c_Law_law 326 = .ok (.goto 496, 3) := by decide +kernel
theorem d_Law_law_329 : decode c_Law_law 329 = .ok (.aload_n 1, 1) := by decide +kernel
theorem d_Law_law_330 : decode c_Law_law 330 = .ok (.invokevirtual 82, 3) := by decide +kernel
theorem d_Law_law_333 : decode c_Law_law 333 = .ok (.aload_n 2, 1) := by decide +kernel
theorem d_Law_law_334 : decode c_Law_law 334 = .ok (.invokevirtual 85, 3) := by decide +kernel
theorem d_Law_law_337 : decode c_Law_law 337 = .ok (.if_icmp .eq 485, 3) := by decide +kernel
theorem d_Law_law_340 : decode c_Law_law 340 = .ok (.iconst 0, 1) := by decide +kernel
theorem d_Law_law_341 : decode c_Law_law 341 = .ok (.ireturn, 1) := by decide +kernel
theorem d_Law_law_342 : decode c_Law_law 342 = .ok (.aload_n 1, 1) := by decide +kernel
theorem d_Law_law_343 : decode c_Law_law 343 = .ok (.invokevirtual 86, 3) := by decide +kernel
theorem d_Law_law_346 : decode c_Law_law 346 = .ok (.aload_n 2, 1) := by decide +kernel
theorem d_Law_law_347 : decode c_Law_law 347 = .ok (.invokevirtual 90, 3) := by decide +kernel
theorem d_Law_law_350 : decode c_Law_law 350 = .ok (.lcmp, 1) := by decide +kernel
theorem d_Law_law_351 : decode c_Law_law 351 = .ok (.ifCond .eq 471, 3) := by decide +kernel
theorem d_Law_law_354 : decode c_Law_law 354 = .ok (.iconst 0, 1) := by decide +kernel
theorem d_Law_law_355 : decode c_Law_law 355 = .ok (.ireturn, 1) := by decide +kernel
theorem d_Law_law_356 : decode c_Law_law 356 = .ok (.aload_n 1, 1) := by decide +kernel
theorem d_Law_law_357 : decode c_Law_law 357 = .ok (.invokevirtual 91, 3) := by decide +kernel
theorem d_Law_law_360 : decode c_Law_law 360 = .ok (.aload_n 2, 1) := by decide +kernel
theorem d_Law_law_361 : decode c_Law_law 361 = .ok (.invokevirtual 94, 3) := by decide +kernel
theorem d_Law_law_364 : decode c_Law_law 364 = .ok (.if_icmp .eq 458, 3) := by decide +kernel
theorem d_Law_law_367 : decode c_Law_law 367 = .ok (.iconst 0, 1) := by decide +kernel
theorem d_Law_law_368 : decode c_Law_law 368 = .ok (.ireturn, 1) := by decide +kernel
theorem d_Law_law_369 : decode c_Law_law 369 = .ok (.aload_n 1, 1) := by decide +kernel
theorem d_Law_law_370 : decode c_Law_law 370 = .ok (.aload_n 0, 1) := by decide +kernel
theorem d_Law_law_371 : decode c_Law_law 371 = .ok (.iload 4, 2) := by decide +kernel
theorem d_Law_law_373 : decode c_Law_law 373 = .ok (.iconst 1, 1) := by decide +kernel
theorem d_Law_law_374 : decode c_Law_law 374 = .ok (.iadd, 1) := by decide +kernel
theorem d_Law_law_375 : decode c_Law_law 375 = .ok (.iaload, 1) := by decide +kernel
theorem d_Law_law_376 : decode c_Law_law 376 = .ok (.aload_n 0, 1) := by decide +kernel
theorem d_Law_law_377 : decode c_Law_law 377 = .ok (.iload 4, 2) := by decide +kernel
theorem d_Law_law_379 : decode c_Law_law 379 = .ok (.iconst 2, 1) := by decide +kernel
theorem d_Law_law_380 : decode c_Law_law 380 = .ok (.iadd, 1) := by decide +kernel
theorem d_Law_law_381 : decode c_Law_law 381 = .ok (.iaload, 1) := by decide +kernel
theorem d_Law_law_382 : decode c_Law_law 382 = .ok (.aload_n 3, 1) := by decide +kernel
theorem d_Law_law_383 : decode c_Law_law 383 = .ok (.invokestatic 95, 3) := by decide +kernel
theorem d_Law_law_386 : decode c_Law_law 386 = .ok (.istore 5, 2) := by decide +kernel
theorem d_Law_law_388 : decode c_Law_law 388 = .ok (.aload_n 2, 1) := by decide +kernel
theorem d_Law_law_389 : decode c_Law_law 389 = .ok (.aload_n 0, 1) := by decide +kernel
theorem d_Law_law_390 : decode c_Law_law 390 = .ok (.iload 4, 2) := by decide +kernel
theorem d_Law_law_392 : decode c_Law_law 392 = .ok (.iconst 1, 1) := by decide +kernel
theorem d_Law_law_393 : decode c_Law_law 393 = .ok (.iadd, 1) := by decide +kernel
theorem d_Law_law_394 : decode c_Law_law 394 = .ok (.iaload, 1) := by decide +kernel
theorem d_Law_law_395 : decode c_Law_law 395 = .ok (.aload_n 0, 1) := by decide +kernel
theorem d_Law_law_396 : decode c_Law_law 396 = .ok (.iload 4, 2) := by decide +kernel
theorem d_Law_law_398 : decode c_Law_law 398 = .ok (.iconst 2, 1) := by decide +kernel
theorem d_Law_law_399 : decode c_Law_law 399 = .ok (.iadd, 1) := by decide +kernel
theorem d_Law_law_400 : decode c_Law_law 400 = .ok (.iaload, 1) := by decide +kernel
theorem d_Law_law_401 : decode c_Law_law 401 = .ok (.invokevirtual 98, 3) := by decide +kernel
theorem d_Law_law_404 : decode c_Law_law 404 = .ok (.istore 6, 2) := by decide +kernel
theorem d_Law_law_406 : decode c_Law_law 406 = .ok (.aload_n 2, 1) := by decide +kernel
theorem d_Law_law_407 : decode c_Law_law 407 = .ok (.invokevirtual 65, 3) := by decide +kernel
theorem d_Law_law_410 : decode c_Law_law 410 = .ok (.iload 5, 2) := by decide +kernel
theorem d_Law_law_412 : decode c_Law_law 412 = .ok (.if_icmp .eq 5, 3) := by decide +kernel
theorem d_Law_law_415 : decode c_Law_law 415 = .ok (.iconst 0, 1) := by decide +kernel
theorem d_Law_law_416 : decode c_Law_law 416 = .ok (.ireturn, 1) := by decide +kernel
theorem d_Law_law_417 : decode c_Law_law 417 = .ok (.iload 5, 2) := by decide +kernel
theorem d_Law_law_419 : decode c_Law_law 419 = .ok (.ifCond .ne 15, 3) := by decide +kernel
theorem d_Law_law_422 : decode c_Law_law 422 = .ok (.aload_n 3, 1) := by decide +kernel
theorem d_Law_law_423 : decode c_Law_law 423 = .ok (.iconst 0, 1) := by decide +kernel
theorem d_Law_law_424 : decode c_Law_law 424 = .ok (.laload, 1) := by decide +kernel
theorem d_Law_law_425 : decode c_Law_law 425 = .ok (.iload 6, 2) := by decide +kernel
theorem d_Law_law_427 : decode c_Law_law 427 = .ok (.i2l, 1) := by decide +kernel
theorem d_Law_law_428 : decode c_Law_law 428 = .ok (.lcmp, 1) := by decide +kernel
theorem d_Law_law_429 : decode c_Law_law 429 = .ok (.ifCond .eq 5, 3) := by decide +kernel
theorem d_Law_law_432 : decode c_Law_law 432 = .ok (.iconst 0, 1) := by decide +kernel
theorem d_Law_law_433 : decode c_Law_law 433 = .ok (.ireturn, 1) := by decide +kernel
theorem d_Law_law_434 : decode c_Law_law 434 = .ok (.goto 388, 3) := by decide +kernel
theorem d_Law_law_437 : decode c_Law_law 437 = .ok (.aload_n 1, 1) := by decide +kernel
theorem d_Law_law_438 : decode c_Law_law 438 = .ok (.aload_n 0, 1) := by decide +kernel
theorem d_Law_law_439 : decode c_Law_law 439 = .ok (.iload 4, 2) := by decide +kernel
theorem d_Law_law_441 : decode c_Law_law 441 = .ok (.iconst 1, 1) := by decide +kernel
theorem d_Law_law_442 : decode c_Law_law 442 = .ok (.iadd, 1) := by decide +kernel
theorem d_Law_law_443 : decode c_Law_law 443 = .ok (.iaload, 1) := by decide +kernel
theorem d_Law_law_444 : decode c_Law_law 444 = .ok (.aload_n 0, 1) := by decide +kernel
theorem d_Law_law_445 : decode c_Law_law 445 = .ok (.iload 4, 2) := by decide +kernel
theorem d_Law_law_447 : decode c_Law_law 447 = .ok (.iconst 2, 1) := by decide +kernel
theorem d_Law_law_448 : decode c_Law_law 448 = .ok (.iadd, 1) := by decide +kernel
theorem d_Law_law_449 : decode c_Law_law 449 = .ok (.iaload, 1) := by decide +kernel
theorem d_Law_law_450 : decode c_Law_law 450 = .ok (.aload_n 3, 1) := by decide +kernel
theorem d_Law_law_451 : decode c_Law_law 451 = .ok (.invokestatic 99, 3) := by decide +kernel
theorem d_Law_law_454 : decode c_Law_law 454 = .ok (.istore 5, 2) := by decide +kernel
theorem d_Law_law_456 : decode c_Law_law 456 = .ok (.aload_n 2, 1) := by decide +kernel
theorem d_Law_law_457 : decode c_Law_law 457 = .ok (.aload_n 0, 1) := by decide +kernel
theorem d_Law_law_458 : decode c_Law_law 458 = .ok (.iload 4, 2) := by decide +kernel
theorem d_Law_law_460 : decode c_Law_law 460 = .ok (.iconst 1, 1) := by decide +kernel
theorem d_Law_law_461 : decode c_Law_law 461 = .ok (.iadd, 1) := by decide +kernel
theorem d_Law_law_462 : decode c_Law_law 462 = .ok (.iaload, 1) := by decide +kernel
theorem d_Law_law_463 : decode c_Law_law 463 = .ok (.aload_n 0, 1) := by decide +kernel
theorem d_Law_law_464 : decode c_Law_law 464 = .ok (.iload 4, 2) := by decide +kernel
theorem d_Law_law_466 : decode c_Law_law 466 = .ok (.iconst 2, 1) := by decide +kernel
theorem d_Law_law_467 : decode c_Law_law 467 = .ok (.iadd, 1) := by decide +kernel
theorem d_Law_law_468 : decode c_Law_law 468 = .ok (.iaload, 1) := by decide +kernel
theorem d_Law_law_469 : decode c_Law_law 469 = .ok (.invokevirtual 101, 3) := by decide +kernel
theorem d_Law_law_472 : decode c_Law_law 472 = .ok (.lstore 6, 2) := by decide +kernel
theorem d_Law_law_474 : decode c_Law_law 474 = .ok (.aload_n 2, 1) := by decide +kernel
theorem d_Law_law_475 : decode c_Law_law 475 = .ok (.invokevirtual 65, 3) := by decide +kernel
theorem d_Law_law_478 : decode c_Law_law 478 = .ok (.iload 5, 2) := by decide +kernel
theorem d_Law_law_480 : decode c_Law_law 480 = .ok (.if_icmp .eq 5, 3) := by decide +kernel
theorem d_Law_law_483 : decode c_Law_law 483 = .ok (.iconst 0, 1) := by decide +kernel
theorem d_Law_law_484 : decode c_Law_law 484 = .ok (.ireturn, 1) := by decide +kernel
theorem d_Law_law_485 : decode c_Law_law 485 = .ok (.iload 5, 2) := by decide +kernel
theorem d_Law_law_487 : decode c_Law_law 487 = .ok (.ifCond .ne 14, 3) := by decide +kernel
theorem d_Law_law_490 : decode c_Law_law 490 = .ok (.aload_n 3, 1) := by decide +kernel
theorem d_Law_law_491 : decode c_Law_law 491 = .ok (.iconst 0, 1) := by decide +kernel
theorem d_Law_law_492 : decode c_Law_law 492 = .ok (.laload, 1) := by decide +kernel
theorem d_Law_law_493 : decode c_Law_law 493 = .ok (.lload 6, 2) := by decide +kernel
theorem d_Law_law_495 : decode c_Law_law 495 = .ok (.lcmp, 1) := by decide +kernel
theorem d_Law_law_496 : decode c_Law_law 496 = .ok (.ifCond .eq 5, 3) := by decide +kernel
theorem d_Law_law_499 : decode c_Law_law 499 = .ok (.iconst 0, 1) := by decide +kernel
theorem d_Law_law_500 : decode c_Law_law 500 = .ok (.ireturn, 1) := by decide +kernel
theorem d_Law_law_501 : decode c_Law_law 501 = .ok (.goto 321, 3) := by decide +kernel
theorem d_Law_law_504 : decode c_Law_law 504 = .ok (.aload_n 1, 1) := by decide +kernel
theorem d_Law_law_505 : decode c_Law_law 505 = .ok (.invokevirtual 102, 3) := by decide +kernel
theorem d_Law_law_508 : decode c_Law_law 508 = .ok (.aload_n 2, 1) := by decide +kernel
theorem d_Law_law_509 : decode c_Law_law 509 = .ok (.invokevirtual 105, 3) := by decide +kernel
theorem d_Law_law_512 : decode c_Law_law 512 = .ok (.if_icmp .eq 310, 3) := by decide +kernel
theorem d_Law_law_515 : decode c_Law_law 515 = .ok (.iconst 0, 1) := by decide +kernel
theorem d_Law_law_516 : decode c_Law_law 516 = .ok (.ireturn, 1) := by decide +kernel
theorem d_Law_law_517 : decode c_Law_law 517 = .ok (.aload_n 1, 1) := by decide +kernel
theorem d_Law_law_518 : decode c_Law_law 518 = .ok (.aload_n 0, 1) := by decide +kernel
theorem d_Law_law_519 : decode c_Law_law 519 = .ok (.iload 4, 2) := by decide +kernel
theorem d_Law_law_521 : decode c_Law_law 521 = .ok (.iconst 1, 1) := by decide +kernel
theorem d_Law_law_522 : decode c_Law_law 522 = .ok (.iadd, 1) := by decide +kernel
theorem d_Law_law_523 : decode c_Law_law 523 = .ok (.iaload, 1) := by decide +kernel
theorem d_Law_law_524 : decode c_Law_law 524 = .ok (.aload_n 3, 1) := by decide +kernel
theorem d_Law_law_525 : decode c_Law_law 525 = .ok (.invokestatic 106, 3) := by decide +kernel
theorem d_Law_law_528 : decode c_Law_law 528 = .ok (.istore 5, 2) := by decide +kernel
theorem d_Law_law_530 : decode c_Law_law 530 = .ok (.aload_n 2, 1) := by decide +kernel
theorem d_Law_law_531 : decode c_Law_law 531 = .ok (.aload_n 0, 1) := by decide +kernel
theorem d_Law_law_532 : decode c_Law_law 532 = .ok (.iload 4, 2) := by decide +kernel
theorem d_Law_law_534 : decode c_Law_law 534 = .ok (.iconst 1, 1) := by decide +kernel
theorem d_Law_law_535 : decode c_Law_law 535 = .ok (.iadd, 1) := by decide +kernel
theorem d_Law_law_536 : decode c_Law_law 536 = .ok (.iaload, 1) := by decide +kernel
theorem d_Law_law_537 : decode c_Law_law 537 = .ok (.invokevirtual 108, 3) := by decide +kernel
theorem d_Law_law_540 : decode c_Law_law 540 = .ok (.istore 6, 2) := by decide +kernel
theorem d_Law_law_542 : decode c_Law_law 542 = .ok (.aload_n 2, 1) := by decide +kernel
theorem d_Law_law_543 : decode c_Law_law 543 = .ok (.invokevirtual 65, 3) := by decide +kernel
theorem d_Law_law_546 : decode c_Law_law 546 = .ok (.iload 5, 2) := by decide +kernel
theorem d_Law_law_548 : decode c_Law_law 548 = .ok (.if_icmp .eq 5, 3) := by decide +kernel
theorem d_Law_law_551 : decode c_Law_law 551 = .ok (.iconst 0, 1) := by decide +kernel
theorem d_Law_law_552 : decode c_Law_law 552 = .ok (.ireturn, 1) := by decide +kernel
theorem d_Law_law_553 : decode c_Law_law 553 = .ok (.iload 5, 2) := by decide +kernel
theorem d_Law_law_555 : decode c_Law_law 555 = .ok (.ifCond .ne 15, 3) := by decide +kernel
theorem d_Law_law_558 : decode c_Law_law 558 = .ok (.aload_n 3, 1) := by decide +kernel
theorem d_Law_law_559 : decode c_Law_law 559 = .ok (.iconst 0, 1) := by decide +kernel
theorem d_Law_law_560 : decode c_Law_law 560 = .ok (.laload, 1) := by decide +kernel
theorem d_Law_law_561 : decode c_Law_law 561 = .ok (.iload 6, 2) := by decide +kernel
theorem d_Law_law_563 : decode c_Law_law 563 = .ok (.i2l, 1) := by decide +kernel
theorem d_Law_law_564 : decode c_Law_law 564 = .ok (.lcmp, 1) := by decide +kernel
theorem d_Law_law_565 : decode c_Law_law 565 = .ok (.ifCond .eq 5, 3) := by decide +kernel
theorem d_Law_law_568 : decode c_Law_law 568 = .ok (.iconst 0, 1) := by decide +kernel
theorem d_Law_law_569 : decode c_Law_law 569 = .ok (.ireturn, 1) := by decide +kernel
theorem d_Law_law_570 : decode c_Law_law 570 = .ok (.goto 252, 3) := by decide +kernel
theorem d_Law_law_573 : decode c_Law_law 573 = .ok (.aload_n 1, 1) := by decide +kernel
theorem d_Law_law_574 : decode c_Law_law 574 = .ok (.aload_n 3, 1) := by decide +kernel
theorem d_Law_law_575 : decode c_Law_law 575 = .ok (.invokestatic 109, 3) := by decide +kernel
theorem d_Law_law_578 : decode c_Law_law 578 = .ok (.istore 5, 2) := by decide +kernel
theorem d_Law_law_580 : decode c_Law_law 580 = .ok (.aload_n 2, 1) := by decide +kernel
theorem d_Law_law_581 : decode c_Law_law 581 = .ok (.invokevirtual 111, 3) := by decide +kernel
theorem d_Law_law_584 : decode c_Law_law 584 = .ok (.istore 6, 2) := by decide +kernel
theorem d_Law_law_586 : decode c_Law_law 586 = .ok (.aload_n 2, 1) := by decide +kernel
theorem d_Law_law_587 : decode c_Law_law 587 = .ok (.invokevirtual 65, 3) := by decide +kernel
theorem d_Law_law_590 : decode c_Law_law 590 = .ok (.iload 5, 2) := by decide +kernel
theorem d_Law_law_592 : decode c_Law_law 592 = .ok (.if_icmp .eq 5, 3) := by decide +kernel
theorem d_Law_law_595 : decode c_Law_law 595 = .ok (.iconst 0, 1) := by decide +kernel
theorem d_Law_law_596 : decode c_Law_law 596 = .ok (.ireturn, 1) := by decide +kernel
theorem d_Law_law_597 : decode c_Law_law 597 = .ok (.iload 5, 2) := by decide +kernel
theorem d_Law_law_599 : decode c_Law_law 599 = .ok (.ifCond .ne 15, 3) := by decide +kernel
theorem d_Law_law_602 : decode c_Law_law 602 = .ok (.aload_n 3, 1) := by decide +kernel
theorem d_Law_law_603 : decode c_Law_law 603 = .ok (.iconst 0, 1) := by decide +kernel
theorem d_Law_law_604 : decode c_Law_law 604 = .ok (.laload, 1) := by decide +kernel
theorem d_Law_law_605 : decode c_Law_law 605 = .ok (.iload 6, 2) := by decide +kernel
theorem d_Law_law_607 : decode c_Law_law 607 = .ok (.i2l, 1) := by decide +kernel
theorem d_Law_law_608 : decode c_Law_law 608 = .ok (.lcmp, 1) := by decide +kernel
theorem d_Law_law_609 : decode c_Law_law 609 = .ok (.ifCond .eq 5, 3) := by decide +kernel
theorem d_Law_law_612 : decode c_Law_law 612 = .ok (.iconst 0, 1) := by decide +kernel
theorem d_Law_law_613 : decode c_Law_law 613 = .ok (.ireturn, 1) := by decide +kernel
theorem d_Law_law_614 : decode c_Law_law 614 = .ok (.goto 208, 3) := by decide +kernel
theorem d_Law_law_617 : decode c_Law_law 617 = .ok (.aload_n 1, 1) := by decide +kernel
theorem d_Law_law_618 : decode c_Law_law 618 = .ok (.aload_n 0, 1) := by decide +kernel
theorem d_Law_law_619 : decode c_Law_law 619 = .ok (.iload 4, 2) := by decide +kernel
theorem d_Law_law_621 : decode c_Law_law 621 = .ok (.iconst 1, 1) := by decide +kernel
theorem d_Law_law_622 : decode c_Law_law 622 = .ok (.iadd, 1) := by decide +kernel
theorem d_Law_law_623 : decode c_Law_law 623 = .ok (.iaload, 1) := by decide +kernel
theorem d_Law_law_624 : decode c_Law_law 624 = .ok (.aload_n 3, 1) := by decide +kernel
theorem d_Law_law_625 : decode c_Law_law 625 = .ok (.invokestatic 112, 3) := by decide +kernel
theorem d_Law_law_628 : decode c_Law_law 628 = .ok (.istore 5, 2) := by decide +kernel
theorem d_Law_law_630 : decode c_Law_law 630 = .ok (.aload_n 2, 1) := by decide +kernel
theorem d_Law_law_631 : decode c_Law_law 631 = .ok (.aload_n 0, 1) := by decide +kernel
theorem d_Law_law_632 : decode c_Law_law 632 = .ok (.iload 4, 2) := by decide +kernel
theorem d_Law_law_634 : decode c_Law_law 634 = .ok (.iconst 1, 1) := by decide +kernel
theorem d_Law_law_635 : decode c_Law_law 635 = .ok (.iadd, 1) := by decide +kernel
theorem d_Law_law_636 : decode c_Law_law 636 = .ok (.iaload, 1) := by decide +kernel
theorem d_Law_law_637 : decode c_Law_law 637 = .ok (.invokevirtual 114, 3) := by decide +kernel
theorem d_Law_law_640 : decode c_Law_law 640 = .ok (.lstore 6, 2) := by decide +kernel
theorem d_Law_law_642 : decode c_Law_law 642 = .ok (.aload_n 2, 1) := by decide +kernel
theorem d_Law_law_643 : decode c_Law_law 643 = .ok (.invokevirtual 65, 3) := by decide +kernel
theorem d_Law_law_646 : decode c_Law_law 646 = .ok (.iload 5, 2) := by decide +kernel
theorem d_Law_law_648 : decode c_Law_law 648 = .ok (.if_icmp .eq 5, 3) := by decide +kernel
theorem d_Law_law_651 : decode c_Law_law 651 = .ok (.iconst 0, 1) := by decide +kernel
theorem d_Law_law_652 : decode c_Law_law 652 = .ok (.ireturn, 1) := by decide +kernel
theorem d_Law_law_653 : decode c_Law_law 653 = .ok (.iload 5, 2) := by decide +kernel
theorem d_Law_law_655 : decode c_Law_law 655 = .ok (.ifCond .ne 14, 3) := by decide +kernel
theorem d_Law_law_658 : decode c_Law_law 658 = .ok (.aload_n 3, 1) := by decide +kernel
theorem d_Law_law_659 : decode c_Law_law 659 = .ok (.iconst 0, 1) := by decide +kernel
theorem d_Law_law_660 : decode c_Law_law 660 = .ok (.laload, 1) := by decide +kernel
theorem d_Law_law_661 : decode c_Law_law 661 = .ok (.lload 6, 2) := by decide +kernel
theorem d_Law_law_663 : decode c_Law_law 663 = .ok (.lcmp, 1) := by decide +kernel
theorem d_Law_law_664 : decode c_Law_law 664 = .ok (.ifCond .eq 5, 3) := by decide +kernel
theorem d_Law_law_667 : decode c_Law_law 667 = .ok (.iconst 0, 1) := by decide +kernel
theorem d_Law_law_668 : decode c_Law_law 668 = .ok (.ireturn, 1) := by decide +kernel
theorem d_Law_law_669 : decode c_Law_law 669 = .ok (.goto 153, 3) := by decide +kernel
theorem d_Law_law_672 : decode c_Law_law 672 = .ok (.aload_n 1, 1) := by decide +kernel
theorem d_Law_law_673 : decode c_Law_law 673 = .ok (.aload_n 3, 1) := by decide +kernel
theorem d_Law_law_674 : decode c_Law_law 674 = .ok (.invokestatic 115, 3) := by decide +kernel
theorem d_Law_law_677 : decode c_Law_law 677 = .ok (.istore 5, 2) := by decide +kernel
theorem d_Law_law_679 : decode c_Law_law 679 = .ok (.aload_n 2, 1) := by decide +kernel
theorem d_Law_law_680 : decode c_Law_law 680 = .ok (.invokevirtual 117, 3) := by decide +kernel
theorem d_Law_law_683 : decode c_Law_law 683 = .ok (.istore 6, 2) := by decide +kernel
theorem d_Law_law_685 : decode c_Law_law 685 = .ok (.aload_n 2, 1) := by decide +kernel
theorem d_Law_law_686 : decode c_Law_law 686 = .ok (.invokevirtual 65, 3) := by decide +kernel
theorem d_Law_law_689 : decode c_Law_law 689 = .ok (.iload 5, 2) := by decide +kernel
theorem d_Law_law_691 : decode c_Law_law 691 = .ok (.if_icmp .eq 5, 3) := by decide +kernel
theorem d_Law_law_694 : decode c_Law_law 694 = .ok (.iconst 0, 1) := by decide +kernel
theorem d_Law_law_695 : decode c_Law_law 695 = .ok (.ireturn, 1) := by decide +kernel
theorem d_Law_law_696 : decode c_Law_law 696 = .ok (.iload 5, 2) := by decide +kernel
theorem d_Law_law_698 : decode c_Law_law 698 = .ok (.ifCond .ne 22, 3) := by decide +kernel
theorem d_Law_law_701 : decode c_Law_law 701 = .ok (.aload_n 3, 1) := by decide +kernel
theorem d_Law_law_702 : decode c_Law_law 702 = .ok (.iconst 0, 1) := by decide +kernel
theorem d_Law_law_703 : decode c_Law_law 703 = .ok (.laload, 1) := by decide +kernel
theorem d_Law_law_704 : decode c_Law_law 704 = .ok (.iload 6, 2) := by decide +kernel
theorem d_Law_law_706 : decode c_Law_law 706 = .ok (.ifCond .eq 7, 3) := by decide +kernel
theorem d_Law_law_709 : decode c_Law_law 709 = .ok (.lconst 1, 1) := by decide +kernel
theorem d_Law_law_710 : decode c_Law_law 710 = .ok (.goto 4, 3) := by decide +kernel
theorem d_Law_law_713 : decode c_Law_law 713 = .ok (.lconst 0, 1) := by decide +kernel
theorem d_Law_law_714 : decode c_Law_law 714 = .ok (.lcmp, 1) := by decide +kernel
theorem d_Law_law_715 : decode c_Law_law 715 = .ok (.ifCond .eq 5, 3) := by decide +kernel
theorem d_Law_law_718 : decode c_Law_law 718 = .ok (.iconst 0, 1) := by decide +kernel
theorem d_Law_law_719 : decode c_Law_law 719 = .ok (.ireturn, 1) := by decide +kernel
theorem d_Law_law_720 : decode c_Law_law 720 = .ok (.goto 102, 3) := by decide +kernel
theorem d_Law_law_723 : decode c_Law_law 723 = .ok (.aload_n 1, 1) := by decide +kernel
theorem d_Law_law_724 : decode c_Law_law 724 = .ok (.aload_n 0, 1) := by decide +kernel
theorem d_Law_law_725 : decode c_Law_law 725 = .ok (.iload 4, 2) := by decide +kernel
theorem d_Law_law_727 : decode c_Law_law 727 = .ok (.iconst 1, 1) := by decide +kernel
theorem d_Law_law_728 : decode c_Law_law 728 = .ok (.iadd, 1) := by decide +kernel
theorem d_Law_law_729 : decode c_Law_law 729 = .ok (.iaload, 1) := by decide +kernel
theorem d_Law_law_730 : decode c_Law_law 730 = .ok (.i2l, 1) := by decide +kernel
theorem d_Law_law_731 : decode c_Law_law 731 = .ok (.bipush 32, 2) := by decide +kernel
theorem d_Law_law_733 : decode c_Law_law 733 = .ok (.lshl, 1) := by decide +kernel
theorem d_Law_law_734 : decode c_Law_law 734 = .ok (.aload_n 0, 1) := by decide +kernel
theorem d_Law_law_735 : decode c_Law_law 735 = .ok (.iload 4, 2) := by decide +kernel
theorem d_Law_law_737 : decode c_Law_law 737 = .ok (.iconst 2, 1) := by decide +kernel
theorem d_Law_law_738 : decode c_Law_law 738 = .ok (.iadd, 1) := by decide +kernel
theorem d_Law_law_739 : decode c_Law_law 739 = .ok (.iaload, 1) := by decide +kernel
theorem d_Law_law_740 : decode c_Law_law 740 = .ok (.i2l, 1) := by decide +kernel
theorem d_Law_law_741 : decode c_Law_law 741 = .ok (.ldc2_w 118, 3) := by decide +kernel
theorem d_Law_law_744 : decode c_Law_law 744 = .ok (.land, 1) := by decide +kernel
theorem d_Law_law_745 : decode c_Law_law 745 = .ok (.lor, 1) := by decide +kernel
theorem d_Law_law_746 : decode c_Law_law 746 = .ok (.aload_n 0, 1) := by decide +kernel
theorem d_Law_law_747 : decode c_Law_law 747 = .ok (.iload 4, 2) := by decide +kernel
theorem d_Law_law_749 : decode c_Law_law 749 = .ok (.iconst 3, 1) := by decide +kernel
theorem d_Law_law_750 : decode c_Law_law 750 = .ok (.iadd, 1) := by decide +kernel
theorem d_Law_law_751 : decode c_Law_law 751 = .ok (.iaload, 1) := by decide +kernel
theorem d_Law_law_752 : decode c_Law_law 752 = .ok (.aload_n 3, 1) := by decide +kernel
theorem d_Law_law_753 : decode c_Law_law 753 = .ok (.invokestatic 120, 3) := by decide +kernel
theorem d_Law_law_756 : decode c_Law_law 756 = .ok (.istore 5, 2) := by decide +kernel
theorem d_Law_law_758 : decode c_Law_law 758 = .ok (.aload_n 2, 1) := by decide +kernel
theorem d_Law_law_759 : decode c_Law_law 759 = .ok (.aload_n 0, 1) := by decide +kernel
theorem d_Law_law_760 : decode c_Law_law 760 = .ok (.iload 4, 2) := by decide +kernel
theorem d_Law_law_762 : decode c_Law_law 762 = .ok (.iconst 1, 1) := by decide +kernel
theorem d_Law_law_763 : decode c_Law_law 763 = .ok (.iadd, 1) := by decide +kernel
theorem d_Law_law_764 : decode c_Law_law 764 = .ok (.iaload, 1) := by decide +kernel
theorem d_Law_law_765 : decode c_Law_law 765 = .ok (.i2l, 1) := by decide +kernel
theorem d_Law_law_766 : decode c_Law_law 766 = .ok (.bipush 32, 2) := by decide +kernel
theorem d_Law_law_768 : decode c_Law_law 768 = .ok (.lshl, 1) := by decide +kernel
theorem d_Law_law_769 : decode c_Law_law 769 = .ok (.aload_n 0, 1) := by decide +kernel
theorem d_Law_law_770 : decode c_Law_law 770 = .ok (.iload 4, 2) := by decide +kernel
theorem d_Law_law_772 : decode c_Law_law 772 = .ok (.iconst 2, 1) := by decide +kernel
theorem d_Law_law_773 : decode c_Law_law 773 = .ok (.iadd, 1) := by decide +kernel
theorem d_Law_law_774 : decode c_Law_law 774 = .ok (.iaload, 1) := by decide +kernel
theorem d_Law_law_775 : decode c_Law_law 775 = .ok (.i2l, 1) := by decide +kernel
theorem d_Law_law_776 : decode c_Law_law 776 = .ok (.ldc2_w 118, 3) := by decide +kernel
theorem d_Law_law_779 : decode c_Law_law 779 = .ok (.land, 1) := by decide +kernel
theorem d_Law_law_780 : decode c_Law_law 780 = .ok (.lor, 1) := by decide +kernel
theorem d_Law_law_781 : decode c_Law_law 781 = .ok (.aload_n 0, 1) := by decide +kernel
theorem d_Law_law_782 : decode c_Law_law 782 = .ok (.iload 4, 2) := by decide +kernel
theorem d_Law_law_784 : decode c_Law_law 784 = .ok (.iconst 3, 1) := by decide +kernel
theorem d_Law_law_785 : decode c_Law_law 785 = .ok (.iadd, 1) := by decide +kernel
theorem d_Law_law_786 : decode c_Law_law 786 = .ok (.iaload, 1) := by decide +kernel
theorem d_Law_law_787 : decode c_Law_law 787 = .ok (.invokevirtual 123, 3) := by decide +kernel
theorem d_Law_law_790 : decode c_Law_law 790 = .ok (.lstore 6, 2) := by decide +kernel
theorem d_Law_law_792 : decode c_Law_law 792 = .ok (.aload_n 2, 1) := by decide +kernel
theorem d_Law_law_793 : decode c_Law_law 793 = .ok (.invokevirtual 65, 3) := by decide +kernel
theorem d_Law_law_796 : decode c_Law_law 796 = .ok (.iload 5, 2) := by decide +kernel
theorem d_Law_law_798 : decode c_Law_law 798 = .ok (.if_icmp .eq 5, 3) := by decide +kernel
theorem d_Law_law_801 : decode c_Law_law 801 = .ok (.iconst 0, 1) := by decide +kernel
theorem d_Law_law_802 : decode c_Law_law 802 = .ok (.ireturn, 1) := by decide +kernel
theorem d_Law_law_803 : decode c_Law_law 803 = .ok (.iload 5, 2) := by decide +kernel
theorem d_Law_law_805 : decode c_Law_law 805 = .ok (.ifCond .ne 14, 3) := by decide +kernel
theorem d_Law_law_808 : decode c_Law_law 808 = .ok (.aload_n 3, 1) := by decide +kernel
theorem d_Law_law_809 : decode c_Law_law 809 = .ok (.iconst 0, 1) := by decide +kernel
theorem d_Law_law_810 : decode c_Law_law 810 = .ok (.laload, 1) := by decide +kernel
theorem d_Law_law_811 : decode c_Law_law 811 = .ok (.lload 6, 2) := by decide +kernel
theorem d_Law_law_813 : decode c_Law_law 813 = .ok (.lcmp, 1) := by decide +kernel
theorem d_Law_law_814 : decode c_Law_law 814 = .ok (.ifCond .eq 5, 3) := by decide +kernel
theorem d_Law_law_817 : decode c_Law_law 817 = .ok (.iconst 0, 1) := by decide +kernel
theorem d_Law_law_818 : decode c_Law_law 818 = .ok (.ireturn, 1) := by decide +kernel
theorem d_Law_law_819 : decode c_Law_law 819 = .ok (.goto 3, 3) := by decide +kernel
theorem d_Law_law_822 : decode c_Law_law 822 = .ok (.iinc 4 4, 3) := by decide +kernel
theorem d_Law_law_825 : decode c_Law_law 825 = .ok (.goto (-802), 3) := by decide +kernel
theorem d_Law_law_828 : decode c_Law_law 828 = .ok (.iconst 1, 1) := by decide +kernel
theorem d_Law_law_829 : decode c_Law_law 829 = .ok (.ireturn, 1) := by decide +kernel
theorem g_633 : jG (Jvm.Cond.methodLink "FactorDeskLaw" (59 : Nat) ({ cls := "FactorDeskLaw", name := "put", desc := "(LFactorDesk;I[J)I" } : Jvm.MethodName)) := jG_of 698 (by decide +kernel) (by decide +kernel)
theorem g_635 : jG (Jvm.Cond.codeWith ({ cls := "FactorDeskLaw", name := "put", desc := "(LFactorDesk;I[J)I" } : Jvm.MethodName) method_3_code (4 : Nat) (Option.some Jvm.ClassFile.FieldType.int) [((0 : Nat), (9 : Nat), (12 : Nat), (13 : Nat))]) := jG_of 700 (by decide +kernel) (by decide +kernel)
theorem g_0 : jG (Jvm.Cond.initialized "FactorDeskLaw") := jG_of 65 (by decide +kernel) (by decide +kernel)
theorem g_634 : jG (Jvm.Cond.static ({ cls := "FactorDeskLaw", name := "put", desc := "(LFactorDesk;I[J)I" } : Jvm.MethodName)) := jG_of 699 (by decide +kernel) (by decide +kernel)
theorem g_966 : jG (Jvm.Cond.methodLink "FactorDeskLaw" (64 : Nat) ({ cls := "FactorDeskModel", name := "put", desc := "(I)I" } : Jvm.MethodName)) := jG_of 1031 (by decide +kernel) (by decide +kernel)
theorem g_969 : jG (Jvm.Cond.code ({ cls := "FactorDeskModel", name := "put", desc := "(I)I" } : Jvm.MethodName) prog_11_method_49_code (2 : Nat) (Option.some Jvm.ClassFile.FieldType.int)) := jG_of 1034 (by decide +kernel) (by decide +kernel)
theorem g_967 : jG (Jvm.Cond.instanceMethod ({ cls := "FactorDeskModel", name := "put", desc := "(I)I" } : Jvm.MethodName)) := jG_of 1032 (by decide +kernel) (by decide +kernel)
theorem g_968 : jG (Jvm.Cond.selects "FactorDeskModel" ({ cls := "FactorDeskModel", name := "put", desc := "(I)I" } : Jvm.MethodName) ({ cls := "FactorDeskModel", name := "put", desc := "(I)I" } : Jvm.MethodName)) := jG_of 1033 (by decide +kernel) (by decide +kernel)
theorem g_962 : jG (Jvm.Cond.methodLink "FactorDeskLaw" (65 : Nat) ({ cls := "FactorDeskModel", name := "thrown", desc := "()I" } : Jvm.MethodName)) := jG_of 1027 (by decide +kernel) (by decide +kernel)
theorem g_965 : jG (Jvm.Cond.code ({ cls := "FactorDeskModel", name := "thrown", desc := "()I" } : Jvm.MethodName) prog_11_method_2_code (1 : Nat) (Option.some Jvm.ClassFile.FieldType.int)) := jG_of 1030 (by decide +kernel) (by decide +kernel)
theorem g_963 : jG (Jvm.Cond.instanceMethod ({ cls := "FactorDeskModel", name := "thrown", desc := "()I" } : Jvm.MethodName)) := jG_of 1028 (by decide +kernel) (by decide +kernel)
theorem g_964 : jG (Jvm.Cond.selects "FactorDeskModel" ({ cls := "FactorDeskModel", name := "thrown", desc := "()I" } : Jvm.MethodName) ({ cls := "FactorDeskModel", name := "thrown", desc := "()I" } : Jvm.MethodName)) := jG_of 1029 (by decide +kernel) (by decide +kernel)
theorem g_335 : jG (Jvm.Cond.methodLink "FactorDeskLaw" (68 : Nat) ({ cls := "FactorDesk", name := "clear", desc := "()I" } : Jvm.MethodName)) := jG_of 400 (by decide +kernel) (by decide +kernel)
theorem g_338 : jG (Jvm.Cond.code ({ cls := "FactorDesk", name := "clear", desc := "()I" } : Jvm.MethodName) prog_1_method_3_code (2 : Nat) (Option.some Jvm.ClassFile.FieldType.int)) := jG_of 403 (by decide +kernel) (by decide +kernel)
theorem g_336 : jG (Jvm.Cond.instanceMethod ({ cls := "FactorDesk", name := "clear", desc := "()I" } : Jvm.MethodName)) := jG_of 401 (by decide +kernel) (by decide +kernel)
theorem g_337 : jG (Jvm.Cond.selects "FactorDesk" ({ cls := "FactorDesk", name := "clear", desc := "()I" } : Jvm.MethodName) ({ cls := "FactorDesk", name := "clear", desc := "()I" } : Jvm.MethodName)) := jG_of 402 (by decide +kernel) (by decide +kernel)
theorem g_974 : jG (Jvm.Cond.methodLink "FactorDeskLaw" (71 : Nat) ({ cls := "FactorDeskModel", name := "clear", desc := "()I" } : Jvm.MethodName)) := jG_of 1039 (by decide +kernel) (by decide +kernel)
theorem g_977 : jG (Jvm.Cond.code ({ cls := "FactorDeskModel", name := "clear", desc := "()I" } : Jvm.MethodName) prog_11_method_50_code (2 : Nat) (Option.some Jvm.ClassFile.FieldType.int)) := jG_of 1042 (by decide +kernel) (by decide +kernel)
theorem g_975 : jG (Jvm.Cond.instanceMethod ({ cls := "FactorDeskModel", name := "clear", desc := "()I" } : Jvm.MethodName)) := jG_of 1040 (by decide +kernel) (by decide +kernel)
theorem g_976 : jG (Jvm.Cond.selects "FactorDeskModel" ({ cls := "FactorDeskModel", name := "clear", desc := "()I" } : Jvm.MethodName) ({ cls := "FactorDeskModel", name := "clear", desc := "()I" } : Jvm.MethodName)) := jG_of 1041 (by decide +kernel) (by decide +kernel)
theorem g_709 : jG (Jvm.Cond.methodLink "FactorDeskLaw" (72 : Nat) ({ cls := "FactorDeskLaw", name := "take", desc := "(LFactorDesk;[J)I" } : Jvm.MethodName)) := jG_of 774 (by decide +kernel) (by decide +kernel)
theorem g_711 : jG (Jvm.Cond.codeWith ({ cls := "FactorDeskLaw", name := "take", desc := "(LFactorDesk;[J)I" } : Jvm.MethodName) method_4_code (3 : Nat) (Option.some Jvm.ClassFile.FieldType.int) [((0 : Nat), (8 : Nat), (11 : Nat), (19 : Nat))]) := jG_of 776 (by decide +kernel) (by decide +kernel)
theorem g_710 : jG (Jvm.Cond.static ({ cls := "FactorDeskLaw", name := "take", desc := "(LFactorDesk;[J)I" } : Jvm.MethodName)) := jG_of 775 (by decide +kernel) (by decide +kernel)
theorem g_978 : jG (Jvm.Cond.methodLink "FactorDeskLaw" (75 : Nat) ({ cls := "FactorDeskModel", name := "take", desc := "()I" } : Jvm.MethodName)) := jG_of 1043 (by decide +kernel) (by decide +kernel)
theorem g_981 : jG (Jvm.Cond.code ({ cls := "FactorDeskModel", name := "take", desc := "()I" } : Jvm.MethodName) prog_11_method_52_code (3 : Nat) (Option.some Jvm.ClassFile.FieldType.int)) := jG_of 1046 (by decide +kernel) (by decide +kernel)
theorem g_979 : jG (Jvm.Cond.instanceMethod ({ cls := "FactorDeskModel", name := "take", desc := "()I" } : Jvm.MethodName)) := jG_of 1044 (by decide +kernel) (by decide +kernel)
theorem g_980 : jG (Jvm.Cond.selects "FactorDeskModel" ({ cls := "FactorDeskModel", name := "take", desc := "()I" } : Jvm.MethodName) ({ cls := "FactorDeskModel", name := "take", desc := "()I" } : Jvm.MethodName)) := jG_of 1045 (by decide +kernel) (by decide +kernel)
theorem g_745 : jG (Jvm.Cond.methodLink "FactorDeskLaw" (76 : Nat) ({ cls := "FactorDeskLaw", name := "times", desc := "(LFactorDesk;[J)I" } : Jvm.MethodName)) := jG_of 810 (by decide +kernel) (by decide +kernel)
theorem g_747 : jG (Jvm.Cond.codeWith ({ cls := "FactorDeskLaw", name := "times", desc := "(LFactorDesk;[J)I" } : Jvm.MethodName) method_5_code (3 : Nat) (Option.some Jvm.ClassFile.FieldType.int) [((0 : Nat), (8 : Nat), (11 : Nat), (19 : Nat)), ((0 : Nat), (8 : Nat), (14 : Nat), (13 : Nat))]) := jG_of 812 (by decide +kernel) (by decide +kernel)
theorem g_746 : jG (Jvm.Cond.static ({ cls := "FactorDeskLaw", name := "times", desc := "(LFactorDesk;[J)I" } : Jvm.MethodName)) := jG_of 811 (by decide +kernel) (by decide +kernel)
theorem g_986 : jG (Jvm.Cond.methodLink "FactorDeskLaw" (78 : Nat) ({ cls := "FactorDeskModel", name := "times", desc := "()I" } : Jvm.MethodName)) := jG_of 1051 (by decide +kernel) (by decide +kernel)
theorem g_989 : jG (Jvm.Cond.code ({ cls := "FactorDeskModel", name := "times", desc := "()I" } : Jvm.MethodName) prog_11_method_53_code (11 : Nat) (Option.some Jvm.ClassFile.FieldType.int)) := jG_of 1054 (by decide +kernel) (by decide +kernel)
theorem g_987 : jG (Jvm.Cond.instanceMethod ({ cls := "FactorDeskModel", name := "times", desc := "()I" } : Jvm.MethodName)) := jG_of 1052 (by decide +kernel) (by decide +kernel)
theorem g_988 : jG (Jvm.Cond.selects "FactorDeskModel" ({ cls := "FactorDeskModel", name := "times", desc := "()I" } : Jvm.MethodName) ({ cls := "FactorDeskModel", name := "times", desc := "()I" } : Jvm.MethodName)) := jG_of 1053 (by decide +kernel) (by decide +kernel)
theorem g_815 : jG (Jvm.Cond.methodLink "FactorDeskLaw" (109 : Nat) ({ cls := "FactorDeskLaw", name := "common", desc := "(LFactorDesk;[J)I" } : Jvm.MethodName)) := jG_of 880 (by decide +kernel) (by decide +kernel)
theorem g_817 : jG (Jvm.Cond.codeWith ({ cls := "FactorDeskLaw", name := "common", desc := "(LFactorDesk;[J)I" } : Jvm.MethodName) method_10_code (3 : Nat) (Option.some Jvm.ClassFile.FieldType.int) [((0 : Nat), (8 : Nat), (11 : Nat), (19 : Nat))]) := jG_of 882 (by decide +kernel) (by decide +kernel)
theorem g_816 : jG (Jvm.Cond.static ({ cls := "FactorDeskLaw", name := "common", desc := "(LFactorDesk;[J)I" } : Jvm.MethodName)) := jG_of 881 (by decide +kernel) (by decide +kernel)
theorem g_1206 : jG (Jvm.Cond.methodLink "FactorDeskLaw" (111 : Nat) ({ cls := "FactorDeskModel", name := "common", desc := "()I" } : Jvm.MethodName)) := jG_of 1271 (by decide +kernel) (by decide +kernel)
theorem g_1209 : jG (Jvm.Cond.code ({ cls := "FactorDeskModel", name := "common", desc := "()I" } : Jvm.MethodName) prog_11_method_62_code (6 : Nat) (Option.some Jvm.ClassFile.FieldType.int)) := jG_of 1274 (by decide +kernel) (by decide +kernel)
theorem g_1207 : jG (Jvm.Cond.instanceMethod ({ cls := "FactorDeskModel", name := "common", desc := "()I" } : Jvm.MethodName)) := jG_of 1272 (by decide +kernel) (by decide +kernel)
theorem g_1208 : jG (Jvm.Cond.selects "FactorDeskModel" ({ cls := "FactorDeskModel", name := "common", desc := "()I" } : Jvm.MethodName) ({ cls := "FactorDeskModel", name := "common", desc := "()I" } : Jvm.MethodName)) := jG_of 1273 (by decide +kernel) (by decide +kernel)
theorem g_831 : jG (Jvm.Cond.methodLink "FactorDeskLaw" (115 : Nat) ({ cls := "FactorDeskLaw", name := "divides", desc := "(LFactorDesk;[J)I" } : Jvm.MethodName)) := jG_of 896 (by decide +kernel) (by decide +kernel)
theorem g_833 : jG (Jvm.Cond.codeWith ({ cls := "FactorDeskLaw", name := "divides", desc := "(LFactorDesk;[J)I" } : Jvm.MethodName) method_12_code (3 : Nat) (Option.some Jvm.ClassFile.FieldType.int) [((0 : Nat), (15 : Nat), (18 : Nat), (19 : Nat))]) := jG_of 898 (by decide +kernel) (by decide +kernel)
theorem g_832 : jG (Jvm.Cond.static ({ cls := "FactorDeskLaw", name := "divides", desc := "(LFactorDesk;[J)I" } : Jvm.MethodName)) := jG_of 897 (by decide +kernel) (by decide +kernel)
theorem g_1214 : jG (Jvm.Cond.methodLink "FactorDeskLaw" (117 : Nat) ({ cls := "FactorDeskModel", name := "divides", desc := "()Z" } : Jvm.MethodName)) := jG_of 1279 (by decide +kernel) (by decide +kernel)
theorem g_1217 : jG (Jvm.Cond.code ({ cls := "FactorDeskModel", name := "divides", desc := "()Z" } : Jvm.MethodName) prog_11_method_64_code (3 : Nat) (Option.some Jvm.ClassFile.FieldType.boolean)) := jG_of 1282 (by decide +kernel) (by decide +kernel)
theorem g_1215 : jG (Jvm.Cond.instanceMethod ({ cls := "FactorDeskModel", name := "divides", desc := "()Z" } : Jvm.MethodName)) := jG_of 1280 (by decide +kernel) (by decide +kernel)
theorem g_1216 : jG (Jvm.Cond.selects "FactorDeskModel" ({ cls := "FactorDeskModel", name := "divides", desc := "()Z" } : Jvm.MethodName) ({ cls := "FactorDeskModel", name := "divides", desc := "()Z" } : Jvm.MethodName)) := jG_of 1281 (by decide +kernel) (by decide +kernel)
theorem g_339 : jG (Jvm.Cond.methodLink "FactorDeskLaw" (82 : Nat) ({ cls := "FactorDesk", name := "degree", desc := "()I" } : Jvm.MethodName)) := jG_of 404 (by decide +kernel) (by decide +kernel)
theorem g_342 : jG (Jvm.Cond.code ({ cls := "FactorDesk", name := "degree", desc := "()I" } : Jvm.MethodName) prog_1_method_7_code (1 : Nat) (Option.some Jvm.ClassFile.FieldType.int)) := jG_of 407 (by decide +kernel) (by decide +kernel)
theorem g_340 : jG (Jvm.Cond.instanceMethod ({ cls := "FactorDesk", name := "degree", desc := "()I" } : Jvm.MethodName)) := jG_of 405 (by decide +kernel) (by decide +kernel)
theorem g_341 : jG (Jvm.Cond.selects "FactorDesk" ({ cls := "FactorDesk", name := "degree", desc := "()I" } : Jvm.MethodName) ({ cls := "FactorDesk", name := "degree", desc := "()I" } : Jvm.MethodName)) := jG_of 406 (by decide +kernel) (by decide +kernel)
theorem g_998 : jG (Jvm.Cond.methodLink "FactorDeskLaw" (85 : Nat) ({ cls := "FactorDeskModel", name := "degree", desc := "()I" } : Jvm.MethodName)) := jG_of 1063 (by decide +kernel) (by decide +kernel)
theorem g_1001 : jG (Jvm.Cond.code ({ cls := "FactorDeskModel", name := "degree", desc := "()I" } : Jvm.MethodName) prog_11_method_55_code (1 : Nat) (Option.some Jvm.ClassFile.FieldType.int)) := jG_of 1066 (by decide +kernel) (by decide +kernel)
theorem g_999 : jG (Jvm.Cond.instanceMethod ({ cls := "FactorDeskModel", name := "degree", desc := "()I" } : Jvm.MethodName)) := jG_of 1064 (by decide +kernel) (by decide +kernel)
theorem g_1000 : jG (Jvm.Cond.selects "FactorDeskModel" ({ cls := "FactorDeskModel", name := "degree", desc := "()I" } : Jvm.MethodName) ({ cls := "FactorDeskModel", name := "degree", desc := "()I" } : Jvm.MethodName)) := jG_of 1065 (by decide +kernel) (by decide +kernel)
theorem g_343 : jG (Jvm.Cond.methodLink "FactorDeskLaw" (86 : Nat) ({ cls := "FactorDesk", name := "content", desc := "()J" } : Jvm.MethodName)) := jG_of 408 (by decide +kernel) (by decide +kernel)
theorem g_1002 : jG (Jvm.Cond.methodLink "FactorDeskLaw" (90 : Nat) ({ cls := "FactorDeskModel", name := "content", desc := "()J" } : Jvm.MethodName)) := jG_of 1067 (by decide +kernel) (by decide +kernel)
theorem g_1005 : jG (Jvm.Cond.code ({ cls := "FactorDeskModel", name := "content", desc := "()J" } : Jvm.MethodName) prog_11_method_56_code (1 : Nat) (Option.some Jvm.ClassFile.FieldType.long)) := jG_of 1070 (by decide +kernel) (by decide +kernel)
theorem g_1003 : jG (Jvm.Cond.instanceMethod ({ cls := "FactorDeskModel", name := "content", desc := "()J" } : Jvm.MethodName)) := jG_of 1068 (by decide +kernel) (by decide +kernel)
theorem g_1004 : jG (Jvm.Cond.selects "FactorDeskModel" ({ cls := "FactorDeskModel", name := "content", desc := "()J" } : Jvm.MethodName) ({ cls := "FactorDeskModel", name := "content", desc := "()J" } : Jvm.MethodName)) := jG_of 1069 (by decide +kernel) (by decide +kernel)
theorem g_358 : jG (Jvm.Cond.methodLink "FactorDeskLaw" (91 : Nat) ({ cls := "FactorDesk", name := "factors", desc := "()I" } : Jvm.MethodName)) := jG_of 423 (by decide +kernel) (by decide +kernel)
theorem g_361 : jG (Jvm.Cond.code ({ cls := "FactorDesk", name := "factors", desc := "()I" } : Jvm.MethodName) prog_1_method_9_code (1 : Nat) (Option.some Jvm.ClassFile.FieldType.int)) := jG_of 426 (by decide +kernel) (by decide +kernel)
theorem g_359 : jG (Jvm.Cond.instanceMethod ({ cls := "FactorDesk", name := "factors", desc := "()I" } : Jvm.MethodName)) := jG_of 424 (by decide +kernel) (by decide +kernel)
theorem g_360 : jG (Jvm.Cond.selects "FactorDesk" ({ cls := "FactorDesk", name := "factors", desc := "()I" } : Jvm.MethodName) ({ cls := "FactorDesk", name := "factors", desc := "()I" } : Jvm.MethodName)) := jG_of 425 (by decide +kernel) (by decide +kernel)
theorem g_1012 : jG (Jvm.Cond.methodLink "FactorDeskLaw" (94 : Nat) ({ cls := "FactorDeskModel", name := "factors", desc := "()I" } : Jvm.MethodName)) := jG_of 1077 (by decide +kernel) (by decide +kernel)
theorem g_1015 : jG (Jvm.Cond.code ({ cls := "FactorDeskModel", name := "factors", desc := "()I" } : Jvm.MethodName) prog_11_method_57_code (2 : Nat) (Option.some Jvm.ClassFile.FieldType.int)) := jG_of 1080 (by decide +kernel) (by decide +kernel)
theorem g_1013 : jG (Jvm.Cond.instanceMethod ({ cls := "FactorDeskModel", name := "factors", desc := "()I" } : Jvm.MethodName)) := jG_of 1078 (by decide +kernel) (by decide +kernel)
theorem g_1014 : jG (Jvm.Cond.selects "FactorDeskModel" ({ cls := "FactorDeskModel", name := "factors", desc := "()I" } : Jvm.MethodName) ({ cls := "FactorDeskModel", name := "factors", desc := "()I" } : Jvm.MethodName)) := jG_of 1079 (by decide +kernel) (by decide +kernel)
theorem g_628 : jG (Jvm.Cond.methodLink "FactorDeskLaw" (102 : Nat) ({ cls := "FactorDesk", name := "isIrreducible", desc := "()Z" } : Jvm.MethodName)) := jG_of 693 (by decide +kernel) (by decide +kernel)
theorem g_631 : jG (Jvm.Cond.code ({ cls := "FactorDesk", name := "isIrreducible", desc := "()Z" } : Jvm.MethodName) prog_1_method_12_code (1 : Nat) (Option.some Jvm.ClassFile.FieldType.boolean)) := jG_of 696 (by decide +kernel) (by decide +kernel)
theorem g_629 : jG (Jvm.Cond.instanceMethod ({ cls := "FactorDesk", name := "isIrreducible", desc := "()Z" } : Jvm.MethodName)) := jG_of 694 (by decide +kernel) (by decide +kernel)
theorem g_630 : jG (Jvm.Cond.selects "FactorDesk" ({ cls := "FactorDesk", name := "isIrreducible", desc := "()Z" } : Jvm.MethodName) ({ cls := "FactorDesk", name := "isIrreducible", desc := "()Z" } : Jvm.MethodName)) := jG_of 695 (by decide +kernel) (by decide +kernel)
theorem g_1198 : jG (Jvm.Cond.methodLink "FactorDeskLaw" (105 : Nat) ({ cls := "FactorDeskModel", name := "isIrreducible", desc := "()Z" } : Jvm.MethodName)) := jG_of 1263 (by decide +kernel) (by decide +kernel)
theorem g_1201 : jG (Jvm.Cond.code ({ cls := "FactorDeskModel", name := "isIrreducible", desc := "()Z" } : Jvm.MethodName) prog_11_method_60_code (1 : Nat) (Option.some Jvm.ClassFile.FieldType.boolean)) := jG_of 1266 (by decide +kernel) (by decide +kernel)
theorem g_1199 : jG (Jvm.Cond.instanceMethod ({ cls := "FactorDeskModel", name := "isIrreducible", desc := "()Z" } : Jvm.MethodName)) := jG_of 1264 (by decide +kernel) (by decide +kernel)
theorem g_1200 : jG (Jvm.Cond.selects "FactorDeskModel" ({ cls := "FactorDeskModel", name := "isIrreducible", desc := "()Z" } : Jvm.MethodName) ({ cls := "FactorDeskModel", name := "isIrreducible", desc := "()Z" } : Jvm.MethodName)) := jG_of 1265 (by decide +kernel) (by decide +kernel)
theorem g_763 : jG (Jvm.Cond.methodLink "FactorDeskLaw" (79 : Nat) ({ cls := "FactorDeskLaw", name := "at", desc := "(LFactorDesk;I[J)I" } : Jvm.MethodName)) := jG_of 828 (by decide +kernel) (by decide +kernel)
theorem g_765 : jG (Jvm.Cond.codeWith ({ cls := "FactorDeskLaw", name := "at", desc := "(LFactorDesk;I[J)I" } : Jvm.MethodName) method_6_code (4 : Nat) (Option.some Jvm.ClassFile.FieldType.int) [((0 : Nat), (9 : Nat), (12 : Nat), (19 : Nat))]) := jG_of 830 (by decide +kernel) (by decide +kernel)
theorem g_764 : jG (Jvm.Cond.static ({ cls := "FactorDeskLaw", name := "at", desc := "(LFactorDesk;I[J)I" } : Jvm.MethodName)) := jG_of 829 (by decide +kernel) (by decide +kernel)
theorem g_994 : jG (Jvm.Cond.methodLink "FactorDeskLaw" (81 : Nat) ({ cls := "FactorDeskModel", name := "at", desc := "(I)I" } : Jvm.MethodName)) := jG_of 1059 (by decide +kernel) (by decide +kernel)
theorem g_997 : jG (Jvm.Cond.code ({ cls := "FactorDeskModel", name := "at", desc := "(I)I" } : Jvm.MethodName) prog_11_method_54_code (2 : Nat) (Option.some Jvm.ClassFile.FieldType.int)) := jG_of 1062 (by decide +kernel) (by decide +kernel)
theorem g_995 : jG (Jvm.Cond.instanceMethod ({ cls := "FactorDeskModel", name := "at", desc := "(I)I" } : Jvm.MethodName)) := jG_of 1060 (by decide +kernel) (by decide +kernel)
theorem g_996 : jG (Jvm.Cond.selects "FactorDeskModel" ({ cls := "FactorDeskModel", name := "at", desc := "(I)I" } : Jvm.MethodName) ({ cls := "FactorDeskModel", name := "at", desc := "(I)I" } : Jvm.MethodName)) := jG_of 1061 (by decide +kernel) (by decide +kernel)
theorem g_803 : jG (Jvm.Cond.methodLink "FactorDeskLaw" (106 : Nat) ({ cls := "FactorDeskLaw", name := "ofDegree", desc := "(LFactorDesk;I[J)I" } : Jvm.MethodName)) := jG_of 868 (by decide +kernel) (by decide +kernel)
theorem g_805 : jG (Jvm.Cond.codeWith ({ cls := "FactorDeskLaw", name := "ofDegree", desc := "(LFactorDesk;I[J)I" } : Jvm.MethodName) method_9_code (4 : Nat) (Option.some Jvm.ClassFile.FieldType.int) [((0 : Nat), (9 : Nat), (12 : Nat), (19 : Nat))]) := jG_of 870 (by decide +kernel) (by decide +kernel)
theorem g_804 : jG (Jvm.Cond.static ({ cls := "FactorDeskLaw", name := "ofDegree", desc := "(LFactorDesk;I[J)I" } : Jvm.MethodName)) := jG_of 869 (by decide +kernel) (by decide +kernel)
theorem g_1202 : jG (Jvm.Cond.methodLink "FactorDeskLaw" (108 : Nat) ({ cls := "FactorDeskModel", name := "ofDegree", desc := "(I)I" } : Jvm.MethodName)) := jG_of 1267 (by decide +kernel) (by decide +kernel)
theorem g_1205 : jG (Jvm.Cond.code ({ cls := "FactorDeskModel", name := "ofDegree", desc := "(I)I" } : Jvm.MethodName) prog_11_method_61_code (4 : Nat) (Option.some Jvm.ClassFile.FieldType.int)) := jG_of 1270 (by decide +kernel) (by decide +kernel)
theorem g_1203 : jG (Jvm.Cond.instanceMethod ({ cls := "FactorDeskModel", name := "ofDegree", desc := "(I)I" } : Jvm.MethodName)) := jG_of 1268 (by decide +kernel) (by decide +kernel)
theorem g_1204 : jG (Jvm.Cond.selects "FactorDeskModel" ({ cls := "FactorDeskModel", name := "ofDegree", desc := "(I)I" } : Jvm.MethodName) ({ cls := "FactorDeskModel", name := "ofDegree", desc := "(I)I" } : Jvm.MethodName)) := jG_of 1269 (by decide +kernel) (by decide +kernel)
theorem g_771 : jG (Jvm.Cond.methodLink "FactorDeskLaw" (95 : Nat) ({ cls := "FactorDeskLaw", name := "factor", desc := "(LFactorDesk;II[J)I" } : Jvm.MethodName)) := jG_of 836 (by decide +kernel) (by decide +kernel)
theorem g_773 : jG (Jvm.Cond.codeWith ({ cls := "FactorDeskLaw", name := "factor", desc := "(LFactorDesk;II[J)I" } : Jvm.MethodName) method_7_code (5 : Nat) (Option.some Jvm.ClassFile.FieldType.int) [((0 : Nat), (10 : Nat), (13 : Nat), (31 : Nat))]) := jG_of 838 (by decide +kernel) (by decide +kernel)
theorem g_772 : jG (Jvm.Cond.static ({ cls := "FactorDeskLaw", name := "factor", desc := "(LFactorDesk;II[J)I" } : Jvm.MethodName)) := jG_of 837 (by decide +kernel) (by decide +kernel)
theorem g_1190 : jG (Jvm.Cond.methodLink "FactorDeskLaw" (98 : Nat) ({ cls := "FactorDeskModel", name := "factor", desc := "(II)I" } : Jvm.MethodName)) := jG_of 1255 (by decide +kernel) (by decide +kernel)
theorem g_1193 : jG (Jvm.Cond.code ({ cls := "FactorDeskModel", name := "factor", desc := "(II)I" } : Jvm.MethodName) prog_11_method_58_code (3 : Nat) (Option.some Jvm.ClassFile.FieldType.int)) := jG_of 1258 (by decide +kernel) (by decide +kernel)
theorem g_1191 : jG (Jvm.Cond.instanceMethod ({ cls := "FactorDeskModel", name := "factor", desc := "(II)I" } : Jvm.MethodName)) := jG_of 1256 (by decide +kernel) (by decide +kernel)
theorem g_1192 : jG (Jvm.Cond.selects "FactorDeskModel" ({ cls := "FactorDeskModel", name := "factor", desc := "(II)I" } : Jvm.MethodName) ({ cls := "FactorDeskModel", name := "factor", desc := "(II)I" } : Jvm.MethodName)) := jG_of 1257 (by decide +kernel) (by decide +kernel)
theorem g_795 : jG (Jvm.Cond.methodLink "FactorDeskLaw" (99 : Nat) ({ cls := "FactorDeskLaw", name := "part", desc := "(LFactorDesk;II[J)I" } : Jvm.MethodName)) := jG_of 860 (by decide +kernel) (by decide +kernel)
theorem g_797 : jG (Jvm.Cond.codeWith ({ cls := "FactorDeskLaw", name := "part", desc := "(LFactorDesk;II[J)I" } : Jvm.MethodName) method_8_code (5 : Nat) (Option.some Jvm.ClassFile.FieldType.int) [((0 : Nat), (9 : Nat), (12 : Nat), (31 : Nat))]) := jG_of 862 (by decide +kernel) (by decide +kernel)
theorem g_796 : jG (Jvm.Cond.static ({ cls := "FactorDeskLaw", name := "part", desc := "(LFactorDesk;II[J)I" } : Jvm.MethodName)) := jG_of 861 (by decide +kernel) (by decide +kernel)
theorem g_1194 : jG (Jvm.Cond.methodLink "FactorDeskLaw" (101 : Nat) ({ cls := "FactorDeskModel", name := "part", desc := "(II)J" } : Jvm.MethodName)) := jG_of 1259 (by decide +kernel) (by decide +kernel)
theorem g_1197 : jG (Jvm.Cond.code ({ cls := "FactorDeskModel", name := "part", desc := "(II)J" } : Jvm.MethodName) prog_11_method_59_code (3 : Nat) (Option.some Jvm.ClassFile.FieldType.long)) := jG_of 1262 (by decide +kernel) (by decide +kernel)
theorem g_1195 : jG (Jvm.Cond.instanceMethod ({ cls := "FactorDeskModel", name := "part", desc := "(II)J" } : Jvm.MethodName)) := jG_of 1260 (by decide +kernel) (by decide +kernel)
theorem g_1196 : jG (Jvm.Cond.selects "FactorDeskModel" ({ cls := "FactorDeskModel", name := "part", desc := "(II)J" } : Jvm.MethodName) ({ cls := "FactorDeskModel", name := "part", desc := "(II)J" } : Jvm.MethodName)) := jG_of 1261 (by decide +kernel) (by decide +kernel)
theorem g_823 : jG (Jvm.Cond.methodLink "FactorDeskLaw" (112 : Nat) ({ cls := "FactorDeskLaw", name := "divisor", desc := "(LFactorDesk;I[J)I" } : Jvm.MethodName)) := jG_of 888 (by decide +kernel) (by decide +kernel)
theorem g_825 : jG (Jvm.Cond.codeWith ({ cls := "FactorDeskLaw", name := "divisor", desc := "(LFactorDesk;I[J)I" } : Jvm.MethodName) method_11_code (4 : Nat) (Option.some Jvm.ClassFile.FieldType.int) [((0 : Nat), (8 : Nat), (11 : Nat), (31 : Nat))]) := jG_of 890 (by decide +kernel) (by decide +kernel)
theorem g_824 : jG (Jvm.Cond.static ({ cls := "FactorDeskLaw", name := "divisor", desc := "(LFactorDesk;I[J)I" } : Jvm.MethodName)) := jG_of 889 (by decide +kernel) (by decide +kernel)
theorem g_1210 : jG (Jvm.Cond.methodLink "FactorDeskLaw" (114 : Nat) ({ cls := "FactorDeskModel", name := "divisor", desc := "(I)J" } : Jvm.MethodName)) := jG_of 1275 (by decide +kernel) (by decide +kernel)
theorem g_1213 : jG (Jvm.Cond.code ({ cls := "FactorDeskModel", name := "divisor", desc := "(I)J" } : Jvm.MethodName) prog_11_method_63_code (2 : Nat) (Option.some Jvm.ClassFile.FieldType.long)) := jG_of 1278 (by decide +kernel) (by decide +kernel)
theorem g_1211 : jG (Jvm.Cond.instanceMethod ({ cls := "FactorDeskModel", name := "divisor", desc := "(I)J" } : Jvm.MethodName)) := jG_of 1276 (by decide +kernel) (by decide +kernel)
theorem g_1212 : jG (Jvm.Cond.selects "FactorDeskModel" ({ cls := "FactorDeskModel", name := "divisor", desc := "(I)J" } : Jvm.MethodName) ({ cls := "FactorDeskModel", name := "divisor", desc := "(I)J" } : Jvm.MethodName)) := jG_of 1277 (by decide +kernel) (by decide +kernel)
theorem g_1222 : jG (Jvm.Cond.constantLong "FactorDeskLaw" (118 : Nat) (4294967295 : Int64)) := jG_of 1287 (by decide +kernel) (by decide +kernel)
theorem g_840 : jG (Jvm.Cond.methodLink "FactorDeskLaw" (120 : Nat) ({ cls := "FactorDeskLaw", name := "value", desc := "(LFactorDesk;JI[J)I" } : Jvm.MethodName)) := jG_of 905 (by decide +kernel) (by decide +kernel)
theorem g_842 : jG (Jvm.Cond.codeWith ({ cls := "FactorDeskLaw", name := "value", desc := "(LFactorDesk;JI[J)I" } : Jvm.MethodName) method_13_code (6 : Nat) (Option.some Jvm.ClassFile.FieldType.int) [((0 : Nat), (10 : Nat), (13 : Nat), (19 : Nat))]) := jG_of 907 (by decide +kernel) (by decide +kernel)
theorem g_841 : jG (Jvm.Cond.static ({ cls := "FactorDeskLaw", name := "value", desc := "(LFactorDesk;JI[J)I" } : Jvm.MethodName)) := jG_of 906 (by decide +kernel) (by decide +kernel)
theorem g_1218 : jG (Jvm.Cond.methodLink "FactorDeskLaw" (123 : Nat) ({ cls := "FactorDeskModel", name := "value", desc := "(JI)J" } : Jvm.MethodName)) := jG_of 1283 (by decide +kernel) (by decide +kernel)
theorem g_1221 : jG (Jvm.Cond.code ({ cls := "FactorDeskModel", name := "value", desc := "(JI)J" } : Jvm.MethodName) prog_11_method_65_code (9 : Nat) (Option.some Jvm.ClassFile.FieldType.long)) := jG_of 1286 (by decide +kernel) (by decide +kernel)
theorem g_1219 : jG (Jvm.Cond.instanceMethod ({ cls := "FactorDeskModel", name := "value", desc := "(JI)J" } : Jvm.MethodName)) := jG_of 1284 (by decide +kernel) (by decide +kernel)
theorem g_1220 : jG (Jvm.Cond.selects "FactorDeskModel" ({ cls := "FactorDeskModel", name := "value", desc := "(JI)J" } : Jvm.MethodName) ({ cls := "FactorDeskModel", name := "value", desc := "(JI)J" } : Jvm.MethodName)) := jG_of 1285 (by decide +kernel) (by decide +kernel)
set_option maxHeartbeats 4000000 in
set_option maxRecDepth 100000 in
theorem lc_put {b : Nat} {D : va_G} {Y : Nat → ClassId} {p : Program} {l : Launch} {e : Env} {s : State} {m : MethodId} {below : List Frame} {meth : Method} {c : Code} (Z : jS0 b D Y s) (xs : Nat → Int32) (hX : va_X b 4 xs s s.heap) (hbl : b < s.heap.size) (hlt : l.stackTraces = false) (d : Nat) (h : jH) (HD : jDesk Y h d) (HM : jModl Y h (d + 208)) (HR : h (d + 231) = some (.inl (Y 1, 1, .inr (.inl (fun _ => 0))))) : jW b D Y s p l e room_1 s m #[Value.ref b] below meth c "FactorDeskLaw" code 8 ret meth.name (lw_Z below #[Value.ref b] s) 116 [(4, .int 0), (3, .ref (d + 231)), (2, .ref (d + 208)), (1, .ref d), (0, .ref b)] [] h (d + 232) 232 14861 := by
  refine j_aload_n d_Law_law_116 3 rfl ?_
  refine j_aload_n d_Law_law_117 4 rfl ?_
  refine j_iload d_Law_law_118 0 rfl ?_
  refine j_iconst d_Law_law_120 (v := 1) (by decide) ?_
  refine j_iadd d_Law_law_121 ?_
  refine j_sld (v := xs 1) hX hbl (by unfold vp_in; decide) rfl d_Law_law_122 ?_
  refine j_aload_n d_Law_law_123 1 rfl ?_
  refine j_callSW (w_put l Z d (d + 231) _ _ HD (xs 1) _ (by omega) HR) ⟨⟨Nat.le_of_ble_eq_true rfl, Nat.le_of_ble_eq_true rfl⟩, g_633, g_635, g_0, (by decide +kernel), (by decide +kernel), (show _ = some 3 from by decide +kernel)⟩ g_634 ⟨Nat.le_of_ble_eq_true rfl, Nat.le_of_ble_eq_true rfl⟩ (Nat.le_of_ble_eq_true rfl) d_Law_law_124 (fun r1 h1 n1 P1 => ?_)
  obtain ⟨rfl, rfl, O1, F1⟩ := P1
  have HM1 := HM.keep (fun x h1 h2 => F1 x (by omega) (by omega))
  refine j_istore d_Law_law_127 (Nat.le_of_ble_eq_true rfl) rfl ?_
  refine j_aload_n d_Law_law_129 3 rfl ?_
  refine j_aload_n d_Law_law_130 5 rfl ?_
  refine j_iload d_Law_law_131 1 rfl ?_
  refine j_iconst d_Law_law_133 (v := 1) (by decide) ?_
  refine j_iadd d_Law_law_134 ?_
  refine j_sld (v := xs 1) hX hbl (by unfold vp_in; decide) rfl d_Law_law_135 ?_
  refine j_callV (m_put l Z (d + 208) _ _ HM1 (xs 1)) ⟨⟨Nat.le_of_ble_eq_true rfl, Nat.le_of_ble_eq_true rfl⟩, g_966, g_969, g_10, (by decide +kernel), (by decide +kernel), (show _ = some 1 from by decide +kernel)⟩ g_967 g_968 (ci := 9) rfl HM1.1 ⟨(by first | exact Nat.le_of_ble_eq_true rfl | (simp only [jrm]; omega)), (by first | exact Nat.le_of_ble_eq_true rfl | (simp only [jrm]; omega))⟩ (Nat.le_of_ble_eq_true rfl) d_Law_law_136 (fun r2 h2 n2 P2 => ?_)
  obtain ⟨rfl, rfl, ⟨fs2, O2⟩, F2⟩ := P2
  have R2 := (F2 (d + 231) (by omega)).trans O1
  refine j_istore d_Law_law_139 (Nat.le_of_ble_eq_true rfl) rfl ?_
  refine j_aload_n d_Law_law_141 4 rfl ?_
  refine j_callV (k_thrown l Z (d + 208) _ _ _ _ O2) ⟨⟨Nat.le_of_ble_eq_true rfl, Nat.le_of_ble_eq_true rfl⟩, g_962, g_965, g_10, by decide +kernel⟩ g_963 g_964 (ci := 9) rfl O2 ⟨(by first | exact Nat.le_of_ble_eq_true rfl | (simp only [jrm]; omega)), (by first | exact Nat.le_of_ble_eq_true rfl | (simp only [jrm]; omega))⟩ (Nat.le_of_ble_eq_true rfl) d_Law_law_142 (fun r3 h3 n3 P3 => ?_)
  obtain ⟨rfl, rfl, rfl⟩ := P3
  refine j_iload d_Law_law_145 1 rfl ?_
  refine j_icmp_eq_t (tgt := 152) d_Law_law_147 (by decide) (by decide) ?_
  refine j_iload d_Law_law_152 1 rfl ?_
  refine j_if_ne_f (tgt := 169) d_Law_law_154 (by decide) (by decide) ?_
  refine j_aload_n d_Law_law_157 3 rfl ?_
  refine j_iconst d_Law_law_158 (v := 0) (by decide) ?_
  refine j_lald d_Law_law_159 R2 (by unfold vp_in; decide) ?_
  refine j_iload d_Law_law_160 0 rfl ?_
  refine j_i2l d_Law_law_162 rfl ?_
  refine j_lcmp d_Law_law_163 ?_
  refine j_if_eq_t (tgt := 169) d_Law_law_164 (by decide) (lgc rfl) ?_
  refine j_goto (tgt := 822) d_Law_law_169 (by decide) ?_
  refine j_iinc d_Law_law_822 2 rfl rfl (Nat.le_of_ble_eq_true rfl) rfl ?_
  refine j_goto (tgt := 23) d_Law_law_825 (by decide) ?_
  refine j_iload d_Law_law_23 0 rfl ?_
  refine j_aload_n d_Law_law_25 6 rfl ?_
  refine j_slen hX hbl d_Law_law_26 ?_
  refine j_iconst d_Law_law_27 (v := 4) (by decide) ?_
  refine j_isub d_Law_law_28 ?_
  refine j_icmp_gt_t (tgt := 828) d_Law_law_29 (by decide) (by decide) ?_
  refine j_iconst d_Law_law_828 (v := 1) (by decide) ?_
  exact j_lawEnd (Nat.le_of_ble_eq_true rfl) (Nat.le_of_ble_eq_true rfl)
set_option maxHeartbeats 4000000 in
set_option maxRecDepth 100000 in
theorem lc_clear {b : Nat} {D : va_G} {Y : Nat → ClassId} {p : Program} {l : Launch} {e : Env} {s : State} {m : MethodId} {below : List Frame} {meth : Method} {c : Code} (Z : jS0 b D Y s) (xs : Nat → Int32) (hX : va_X b 4 xs s s.heap) (hbl : b < s.heap.size) (hlt : l.stackTraces = false) (d : Nat) (h : jH) (HD : jDesk Y h d) (HM : jModl Y h (d + 208)) (HR : h (d + 231) = some (.inl (Y 1, 1, .inr (.inl (fun _ => 0))))) : jW b D Y s p l e room_1 s m #[Value.ref b] below meth c "FactorDeskLaw" code 8 ret meth.name (lw_Z below #[Value.ref b] s) 172 [(4, .int 0), (3, .ref (d + 231)), (2, .ref (d + 208)), (1, .ref d), (0, .ref b)] [] h (d + 232) 232 14861 := by
  refine j_aload_n d_Law_law_172 3 rfl ?_
  refine j_callV (k_clear l Z d _ _ HD) ⟨⟨Nat.le_of_ble_eq_true rfl, Nat.le_of_ble_eq_true rfl⟩, g_335, g_338, g_1, by decide +kernel⟩ g_336 g_337 (ci := 8) rfl HD.1 ⟨(by first | exact Nat.le_of_ble_eq_true rfl | (simp only [jrm]; omega)), (by first | exact Nat.le_of_ble_eq_true rfl | (simp only [jrm]; omega))⟩ (Nat.le_of_ble_eq_true rfl) d_Law_law_173 (fun r4 h4 n4 P4 => ?_)
  obtain ⟨rfl, rfl, F4⟩ := P4
  have HM4 := HM.keep (fun x h1 h2 => F4 x (by omega))
  have R4 := (F4 (d + 231) (by omega)).trans HR
  refine j_aload_n d_Law_law_176 2 rfl ?_
  refine j_callV (m_clear l Z (d + 208) _ _ HM4) ⟨⟨Nat.le_of_ble_eq_true rfl, Nat.le_of_ble_eq_true rfl⟩, g_974, g_977, g_10, by decide +kernel⟩ g_975 g_976 (ci := 9) rfl HM4.1 ⟨(by first | exact Nat.le_of_ble_eq_true rfl | (simp only [jrm]; omega)), (by first | exact Nat.le_of_ble_eq_true rfl | (simp only [jrm]; omega))⟩ (Nat.le_of_ble_eq_true rfl) d_Law_law_177 (fun r5 h5 n5 P5 => ?_)
  obtain ⟨rfl, rfl, ⟨fs5, O5⟩, F5⟩ := P5
  have R5 := (F5 (d + 231) (by omega)).trans R4
  refine j_icmp_eq_t (tgt := 822) d_Law_law_180 (by decide) (by decide) ?_
  refine j_iinc d_Law_law_822 0 rfl rfl (Nat.le_of_ble_eq_true rfl) rfl ?_
  refine j_goto (tgt := 23) d_Law_law_825 (by decide) ?_
  refine j_iload d_Law_law_23 0 rfl ?_
  refine j_aload_n d_Law_law_25 4 rfl ?_
  refine j_slen hX hbl d_Law_law_26 ?_
  refine j_iconst d_Law_law_27 (v := 4) (by decide) ?_
  refine j_isub d_Law_law_28 ?_
  refine j_icmp_gt_t (tgt := 828) d_Law_law_29 (by decide) (by decide) ?_
  refine j_iconst d_Law_law_828 (v := 1) (by decide) ?_
  exact j_lawEnd (Nat.le_of_ble_eq_true rfl) (Nat.le_of_ble_eq_true rfl)
set_option maxHeartbeats 4000000 in
set_option maxRecDepth 100000 in
theorem lc_take {b : Nat} {D : va_G} {Y : Nat → ClassId} {p : Program} {l : Launch} {e : Env} {s : State} {m : MethodId} {below : List Frame} {meth : Method} {c : Code} (Z : jS0 b D Y s) (xs : Nat → Int32) (hX : va_X b 4 xs s s.heap) (hbl : b < s.heap.size) (hlt : l.stackTraces = false) (d : Nat) (h : jH) (HD : jDesk Y h d) (HM : jModl Y h (d + 208)) (HR : h (d + 231) = some (.inl (Y 1, 1, .inr (.inl (fun _ => 0))))) : jW b D Y s p l e room_1 s m #[Value.ref b] below meth c "FactorDeskLaw" code 8 ret meth.name (lw_Z below #[Value.ref b] s) 185 [(4, .int 0), (3, .ref (d + 231)), (2, .ref (d + 208)), (1, .ref d), (0, .ref b)] [] h (d + 232) 232 14861 := by
  refine j_aload_n d_Law_law_185 3 rfl ?_
  refine j_aload_n d_Law_law_186 1 rfl ?_
  refine j_callSW (wx_take l Z hlt d (d + 231) _ _ HD) ⟨⟨Nat.le_of_ble_eq_true rfl, Nat.le_of_ble_eq_true rfl⟩, g_709, g_711, g_0, (by decide +kernel), (by decide +kernel), (show _ = some 2 from by decide +kernel)⟩ g_710 ⟨Nat.le_of_ble_eq_true rfl, Nat.le_of_ble_eq_true rfl⟩ (Nat.le_of_ble_eq_true rfl) d_Law_law_187 (fun r6 h6 n6 P6 => ?_)
  obtain ⟨rfl, e1, e2⟩ := P6
  subst e1
  subst e2
  refine j_istore d_Law_law_190 (Nat.le_of_ble_eq_true rfl) rfl ?_
  refine j_aload_n d_Law_law_192 3 rfl ?_
  refine j_callV (m_take l Z (d + 208) _ _ HM) ⟨⟨Nat.le_of_ble_eq_true rfl, Nat.le_of_ble_eq_true rfl⟩, g_978, g_981, g_10, by decide +kernel⟩ g_979 g_980 (ci := 9) rfl HM.1 ⟨(by first | exact Nat.le_of_ble_eq_true rfl | (simp only [jrm]; omega)), (by first | exact Nat.le_of_ble_eq_true rfl | (simp only [jrm]; omega))⟩ (Nat.le_of_ble_eq_true rfl) d_Law_law_193 (fun r7 h7 n7 P7 => ?_)
  obtain ⟨rfl, rfl, ⟨fs7, O7⟩, F7⟩ := P7
  have R7 := (F7 (d + 231) (by omega)).trans HR
  refine j_istore d_Law_law_196 (Nat.le_of_ble_eq_true rfl) rfl ?_
  refine j_aload_n d_Law_law_198 4 rfl ?_
  refine j_callV (k_thrown l Z (d + 208) _ _ _ _ O7) ⟨⟨Nat.le_of_ble_eq_true rfl, Nat.le_of_ble_eq_true rfl⟩, g_962, g_965, g_10, by decide +kernel⟩ g_963 g_964 (ci := 9) rfl O7 ⟨(by first | exact Nat.le_of_ble_eq_true rfl | (simp only [jrm]; omega)), (by first | exact Nat.le_of_ble_eq_true rfl | (simp only [jrm]; omega))⟩ (Nat.le_of_ble_eq_true rfl) d_Law_law_199 (fun r8 h8 n8 P8 => ?_)
  obtain ⟨rfl, rfl, rfl⟩ := P8
  refine j_iload d_Law_law_202 1 rfl ?_
  refine j_icmp_eq_t (tgt := 209) d_Law_law_204 (by decide) (by decide) ?_
  refine j_iload d_Law_law_209 1 rfl ?_
  refine j_if_ne_t (tgt := 226) d_Law_law_211 (by decide) (by decide) ?_
  refine j_goto (tgt := 822) d_Law_law_226 (by decide) ?_
  refine j_iinc d_Law_law_822 2 rfl rfl (Nat.le_of_ble_eq_true rfl) rfl ?_
  refine j_goto (tgt := 23) d_Law_law_825 (by decide) ?_
  refine j_iload d_Law_law_23 0 rfl ?_
  refine j_aload_n d_Law_law_25 6 rfl ?_
  refine j_slen hX hbl d_Law_law_26 ?_
  refine j_iconst d_Law_law_27 (v := 4) (by decide) ?_
  refine j_isub d_Law_law_28 ?_
  refine j_icmp_gt_t (tgt := 828) d_Law_law_29 (by decide) (by decide) ?_
  refine j_iconst d_Law_law_828 (v := 1) (by decide) ?_
  exact j_lawEnd (Nat.le_of_ble_eq_true rfl) (Nat.le_of_ble_eq_true rfl)
set_option maxHeartbeats 4000000 in
set_option maxRecDepth 100000 in
theorem lc_times {b : Nat} {D : va_G} {Y : Nat → ClassId} {p : Program} {l : Launch} {e : Env} {s : State} {m : MethodId} {below : List Frame} {meth : Method} {c : Code} (Z : jS0 b D Y s) (xs : Nat → Int32) (hX : va_X b 4 xs s s.heap) (hbl : b < s.heap.size) (hlt : l.stackTraces = false) (d : Nat) (h : jH) (HD : jDesk Y h d) (HM : jModl Y h (d + 208)) (HR : h (d + 231) = some (.inl (Y 1, 1, .inr (.inl (fun _ => 0))))) : jW b D Y s p l e room_1 s m #[Value.ref b] below meth c "FactorDeskLaw" code 8 ret meth.name (lw_Z below #[Value.ref b] s) 229 [(4, .int 0), (3, .ref (d + 231)), (2, .ref (d + 208)), (1, .ref d), (0, .ref b)] [] h (d + 232) 232 14861 := by
  refine j_aload_n d_Law_law_229 3 rfl ?_
  refine j_aload_n d_Law_law_230 1 rfl ?_
  refine j_callSW (wx_times l Z hlt d (d + 231) _ _ HD) ⟨⟨Nat.le_of_ble_eq_true rfl, Nat.le_of_ble_eq_true rfl⟩, g_745, g_747, g_0, (by decide +kernel), (by decide +kernel), (show _ = some 2 from by decide +kernel)⟩ g_746 ⟨Nat.le_of_ble_eq_true rfl, Nat.le_of_ble_eq_true rfl⟩ (Nat.le_of_ble_eq_true rfl) d_Law_law_231 (fun r9 h9 n9 P9 => ?_)
  obtain ⟨rfl, e1, e2⟩ := P9
  subst e1
  subst e2
  refine j_istore d_Law_law_234 (Nat.le_of_ble_eq_true rfl) rfl ?_
  refine j_aload_n d_Law_law_236 3 rfl ?_
  refine j_callV (m_times l Z (d + 208) _ _ HM) ⟨⟨Nat.le_of_ble_eq_true rfl, Nat.le_of_ble_eq_true rfl⟩, g_986, g_989, g_10, by decide +kernel⟩ g_987 g_988 (ci := 9) rfl HM.1 ⟨(by first | exact Nat.le_of_ble_eq_true rfl | (simp only [jrm]; omega)), (by first | exact Nat.le_of_ble_eq_true rfl | (simp only [jrm]; omega))⟩ (Nat.le_of_ble_eq_true rfl) d_Law_law_237 (fun r10 h10 n10 P10 => ?_)
  obtain ⟨rfl, rfl, ⟨fs10, O10⟩, F10⟩ := P10
  have R10 := (F10 (d + 231) (by omega)).trans HR
  refine j_istore d_Law_law_240 (Nat.le_of_ble_eq_true rfl) rfl ?_
  refine j_aload_n d_Law_law_242 4 rfl ?_
  refine j_callV (k_thrown l Z (d + 208) _ _ _ _ O10) ⟨⟨Nat.le_of_ble_eq_true rfl, Nat.le_of_ble_eq_true rfl⟩, g_962, g_965, g_10, by decide +kernel⟩ g_963 g_964 (ci := 9) rfl O10 ⟨(by first | exact Nat.le_of_ble_eq_true rfl | (simp only [jrm]; omega)), (by first | exact Nat.le_of_ble_eq_true rfl | (simp only [jrm]; omega))⟩ (Nat.le_of_ble_eq_true rfl) d_Law_law_243 (fun r11 h11 n11 P11 => ?_)
  obtain ⟨rfl, rfl, rfl⟩ := P11
  refine j_iload d_Law_law_246 1 rfl ?_
  refine j_icmp_eq_t (tgt := 253) d_Law_law_248 (by decide) (by decide) ?_
  refine j_iload d_Law_law_253 1 rfl ?_
  refine j_if_ne_t (tgt := 270) d_Law_law_255 (by decide) (by decide) ?_
  refine j_goto (tgt := 822) d_Law_law_270 (by decide) ?_
  refine j_iinc d_Law_law_822 2 rfl rfl (Nat.le_of_ble_eq_true rfl) rfl ?_
  refine j_goto (tgt := 23) d_Law_law_825 (by decide) ?_
  refine j_iload d_Law_law_23 0 rfl ?_
  refine j_aload_n d_Law_law_25 6 rfl ?_
  refine j_slen hX hbl d_Law_law_26 ?_
  refine j_iconst d_Law_law_27 (v := 4) (by decide) ?_
  refine j_isub d_Law_law_28 ?_
  refine j_icmp_gt_t (tgt := 828) d_Law_law_29 (by decide) (by decide) ?_
  refine j_iconst d_Law_law_828 (v := 1) (by decide) ?_
  exact j_lawEnd (Nat.le_of_ble_eq_true rfl) (Nat.le_of_ble_eq_true rfl)
set_option maxHeartbeats 4000000 in
set_option maxRecDepth 100000 in
theorem lc_common {b : Nat} {D : va_G} {Y : Nat → ClassId} {p : Program} {l : Launch} {e : Env} {s : State} {m : MethodId} {below : List Frame} {meth : Method} {c : Code} (Z : jS0 b D Y s) (xs : Nat → Int32) (hX : va_X b 4 xs s s.heap) (hbl : b < s.heap.size) (hlt : l.stackTraces = false) (d : Nat) (h : jH) (HD : jDesk Y h d) (HM : jModl Y h (d + 208)) (HR : h (d + 231) = some (.inl (Y 1, 1, .inr (.inl (fun _ => 0))))) : jW b D Y s p l e room_1 s m #[Value.ref b] below meth c "FactorDeskLaw" code 8 ret meth.name (lw_Z below #[Value.ref b] s) 573 [(4, .int 0), (3, .ref (d + 231)), (2, .ref (d + 208)), (1, .ref d), (0, .ref b)] [] h (d + 232) 232 14861 := by
  refine j_aload_n d_Law_law_573 3 rfl ?_
  refine j_aload_n d_Law_law_574 1 rfl ?_
  refine j_callSW (wx_common l Z hlt d (d + 231) _ _ HD) ⟨⟨Nat.le_of_ble_eq_true rfl, Nat.le_of_ble_eq_true rfl⟩, g_815, g_817, g_0, (by decide +kernel), (by decide +kernel), (show _ = some 2 from by decide +kernel)⟩ g_816 ⟨Nat.le_of_ble_eq_true rfl, Nat.le_of_ble_eq_true rfl⟩ (Nat.le_of_ble_eq_true rfl) d_Law_law_575 (fun r12 h12 n12 P12 => ?_)
  obtain ⟨rfl, e1, e2⟩ := P12
  subst e1
  subst e2
  refine j_istore d_Law_law_578 (Nat.le_of_ble_eq_true rfl) rfl ?_
  refine j_aload_n d_Law_law_580 3 rfl ?_
  refine j_callV (m_common l Z (d + 208) _ _ HM) ⟨⟨Nat.le_of_ble_eq_true rfl, Nat.le_of_ble_eq_true rfl⟩, g_1206, g_1209, g_10, by decide +kernel⟩ g_1207 g_1208 (ci := 9) rfl HM.1 ⟨(by first | exact Nat.le_of_ble_eq_true rfl | (simp only [jrm]; omega)), (by first | exact Nat.le_of_ble_eq_true rfl | (simp only [jrm]; omega))⟩ (Nat.le_of_ble_eq_true rfl) d_Law_law_581 (fun r13 h13 n13 P13 => ?_)
  obtain ⟨rfl, rfl, ⟨fs13, O13⟩, F13⟩ := P13
  have R13 := (F13 (d + 231) (by omega)).trans HR
  refine j_istore d_Law_law_584 (Nat.le_of_ble_eq_true rfl) rfl ?_
  refine j_aload_n d_Law_law_586 4 rfl ?_
  refine j_callV (k_thrown l Z (d + 208) _ _ _ _ O13) ⟨⟨Nat.le_of_ble_eq_true rfl, Nat.le_of_ble_eq_true rfl⟩, g_962, g_965, g_10, by decide +kernel⟩ g_963 g_964 (ci := 9) rfl O13 ⟨(by first | exact Nat.le_of_ble_eq_true rfl | (simp only [jrm]; omega)), (by first | exact Nat.le_of_ble_eq_true rfl | (simp only [jrm]; omega))⟩ (Nat.le_of_ble_eq_true rfl) d_Law_law_587 (fun r14 h14 n14 P14 => ?_)
  obtain ⟨rfl, rfl, rfl⟩ := P14
  refine j_iload d_Law_law_590 1 rfl ?_
  refine j_icmp_eq_t (tgt := 597) d_Law_law_592 (by decide) (by decide) ?_
  refine j_iload d_Law_law_597 1 rfl ?_
  refine j_if_ne_t (tgt := 614) d_Law_law_599 (by decide) (by decide) ?_
  refine j_goto (tgt := 822) d_Law_law_614 (by decide) ?_
  refine j_iinc d_Law_law_822 2 rfl rfl (Nat.le_of_ble_eq_true rfl) rfl ?_
  refine j_goto (tgt := 23) d_Law_law_825 (by decide) ?_
  refine j_iload d_Law_law_23 0 rfl ?_
  refine j_aload_n d_Law_law_25 6 rfl ?_
  refine j_slen hX hbl d_Law_law_26 ?_
  refine j_iconst d_Law_law_27 (v := 4) (by decide) ?_
  refine j_isub d_Law_law_28 ?_
  refine j_icmp_gt_t (tgt := 828) d_Law_law_29 (by decide) (by decide) ?_
  refine j_iconst d_Law_law_828 (v := 1) (by decide) ?_
  exact j_lawEnd (Nat.le_of_ble_eq_true rfl) (Nat.le_of_ble_eq_true rfl)
set_option maxHeartbeats 4000000 in
set_option maxRecDepth 100000 in
theorem lc_divides {b : Nat} {D : va_G} {Y : Nat → ClassId} {p : Program} {l : Launch} {e : Env} {s : State} {m : MethodId} {below : List Frame} {meth : Method} {c : Code} (Z : jS0 b D Y s) (xs : Nat → Int32) (hX : va_X b 4 xs s s.heap) (hbl : b < s.heap.size) (hlt : l.stackTraces = false) (d : Nat) (h : jH) (HD : jDesk Y h d) (HM : jModl Y h (d + 208)) (HR : h (d + 231) = some (.inl (Y 1, 1, .inr (.inl (fun _ => 0))))) : jW b D Y s p l e room_1 s m #[Value.ref b] below meth c "FactorDeskLaw" code 8 ret meth.name (lw_Z below #[Value.ref b] s) 672 [(4, .int 0), (3, .ref (d + 231)), (2, .ref (d + 208)), (1, .ref d), (0, .ref b)] [] h (d + 232) 232 14861 := by
  refine j_aload_n d_Law_law_672 3 rfl ?_
  refine j_aload_n d_Law_law_673 1 rfl ?_
  refine j_callSW (wx_divides l Z hlt d (d + 231) _ _ HD) ⟨⟨Nat.le_of_ble_eq_true rfl, Nat.le_of_ble_eq_true rfl⟩, g_831, g_833, g_0, (by decide +kernel), (by decide +kernel), (show _ = some 2 from by decide +kernel)⟩ g_832 ⟨Nat.le_of_ble_eq_true rfl, Nat.le_of_ble_eq_true rfl⟩ (Nat.le_of_ble_eq_true rfl) d_Law_law_674 (fun r15 h15 n15 P15 => ?_)
  obtain ⟨rfl, e1, e2⟩ := P15
  subst e1
  subst e2
  refine j_istore d_Law_law_677 (Nat.le_of_ble_eq_true rfl) rfl ?_
  refine j_aload_n d_Law_law_679 3 rfl ?_
  refine j_callV (m_divides l Z (d + 208) _ _ HM) ⟨⟨Nat.le_of_ble_eq_true rfl, Nat.le_of_ble_eq_true rfl⟩, g_1214, g_1217, g_10, by decide +kernel⟩ g_1215 g_1216 (ci := 9) rfl HM.1 ⟨(by first | exact Nat.le_of_ble_eq_true rfl | (simp only [jrm]; omega)), (by first | exact Nat.le_of_ble_eq_true rfl | (simp only [jrm]; omega))⟩ (Nat.le_of_ble_eq_true rfl) d_Law_law_680 (fun r16 h16 n16 P16 => ?_)
  obtain ⟨rfl, rfl, ⟨fs16, O16⟩, F16⟩ := P16
  have R16 := (F16 (d + 231) (by omega)).trans HR
  refine j_istore d_Law_law_683 (Nat.le_of_ble_eq_true rfl) rfl ?_
  refine j_aload_n d_Law_law_685 4 rfl ?_
  refine j_callV (k_thrown l Z (d + 208) _ _ _ _ O16) ⟨⟨Nat.le_of_ble_eq_true rfl, Nat.le_of_ble_eq_true rfl⟩, g_962, g_965, g_10, by decide +kernel⟩ g_963 g_964 (ci := 9) rfl O16 ⟨(by first | exact Nat.le_of_ble_eq_true rfl | (simp only [jrm]; omega)), (by first | exact Nat.le_of_ble_eq_true rfl | (simp only [jrm]; omega))⟩ (Nat.le_of_ble_eq_true rfl) d_Law_law_686 (fun r17 h17 n17 P17 => ?_)
  obtain ⟨rfl, rfl, rfl⟩ := P17
  refine j_iload d_Law_law_689 1 rfl ?_
  refine j_icmp_eq_t (tgt := 696) d_Law_law_691 (by decide) (by decide) ?_
  refine j_iload d_Law_law_696 1 rfl ?_
  refine j_if_ne_t (tgt := 720) d_Law_law_698 (by decide) (by decide) ?_
  refine j_goto (tgt := 822) d_Law_law_720 (by decide) ?_
  refine j_iinc d_Law_law_822 2 rfl rfl (Nat.le_of_ble_eq_true rfl) rfl ?_
  refine j_goto (tgt := 23) d_Law_law_825 (by decide) ?_
  refine j_iload d_Law_law_23 0 rfl ?_
  refine j_aload_n d_Law_law_25 6 rfl ?_
  refine j_slen hX hbl d_Law_law_26 ?_
  refine j_iconst d_Law_law_27 (v := 4) (by decide) ?_
  refine j_isub d_Law_law_28 ?_
  refine j_icmp_gt_t (tgt := 828) d_Law_law_29 (by decide) (by decide) ?_
  refine j_iconst d_Law_law_828 (v := 1) (by decide) ?_
  exact j_lawEnd (Nat.le_of_ble_eq_true rfl) (Nat.le_of_ble_eq_true rfl)
set_option maxHeartbeats 4000000 in
set_option maxRecDepth 100000 in
theorem lc_degree {b : Nat} {D : va_G} {Y : Nat → ClassId} {p : Program} {l : Launch} {e : Env} {s : State} {m : MethodId} {below : List Frame} {meth : Method} {c : Code} (Z : jS0 b D Y s) (xs : Nat → Int32) (hX : va_X b 4 xs s s.heap) (hbl : b < s.heap.size) (hlt : l.stackTraces = false) (d : Nat) (h : jH) (HD : jDesk Y h d) (HM : jModl Y h (d + 208)) (HR : h (d + 231) = some (.inl (Y 1, 1, .inr (.inl (fun _ => 0))))) : jW b D Y s p l e room_1 s m #[Value.ref b] below meth c "FactorDeskLaw" code 8 ret meth.name (lw_Z below #[Value.ref b] s) 329 [(4, .int 0), (3, .ref (d + 231)), (2, .ref (d + 208)), (1, .ref d), (0, .ref b)] [] h (d + 232) 232 14861 := by
  refine j_aload_n d_Law_law_329 3 rfl ?_
  refine j_callV (k_degree l Z d _ _ HD) ⟨⟨Nat.le_of_ble_eq_true rfl, Nat.le_of_ble_eq_true rfl⟩, g_339, g_342, g_1, by decide +kernel⟩ g_340 g_341 (ci := 8) rfl HD.1 ⟨(by first | exact Nat.le_of_ble_eq_true rfl | (simp only [jrm]; omega)), (by first | exact Nat.le_of_ble_eq_true rfl | (simp only [jrm]; omega))⟩ (Nat.le_of_ble_eq_true rfl) d_Law_law_330 (fun r18 h18 n18 P18 => ?_)
  obtain ⟨rfl, rfl, F18⟩ := P18
  have HM18 := HM.keep (fun x h1 h2 => F18 x (by omega))
  have R18 := (F18 (d + 231) (by omega)).trans HR
  refine j_aload_n d_Law_law_333 2 rfl ?_
  refine j_callV (m_degree l Z (d + 208) _ _ HM18) ⟨⟨Nat.le_of_ble_eq_true rfl, Nat.le_of_ble_eq_true rfl⟩, g_998, g_1001, g_10, by decide +kernel⟩ g_999 g_1000 (ci := 9) rfl HM18.1 ⟨(by first | exact Nat.le_of_ble_eq_true rfl | (simp only [jrm]; omega)), (by first | exact Nat.le_of_ble_eq_true rfl | (simp only [jrm]; omega))⟩ (Nat.le_of_ble_eq_true rfl) d_Law_law_334 (fun r19 h19 n19 P19 => ?_)
  obtain ⟨rfl, rfl, ⟨fs19, O19⟩, F19⟩ := P19
  have R19 := (F19 (d + 231) (by omega)).trans R18
  refine j_icmp_eq_t (tgt := 822) d_Law_law_337 (by decide) (by decide) ?_
  refine j_iinc d_Law_law_822 0 rfl rfl (Nat.le_of_ble_eq_true rfl) rfl ?_
  refine j_goto (tgt := 23) d_Law_law_825 (by decide) ?_
  refine j_iload d_Law_law_23 0 rfl ?_
  refine j_aload_n d_Law_law_25 4 rfl ?_
  refine j_slen hX hbl d_Law_law_26 ?_
  refine j_iconst d_Law_law_27 (v := 4) (by decide) ?_
  refine j_isub d_Law_law_28 ?_
  refine j_icmp_gt_t (tgt := 828) d_Law_law_29 (by decide) (by decide) ?_
  refine j_iconst d_Law_law_828 (v := 1) (by decide) ?_
  exact j_lawEnd (Nat.le_of_ble_eq_true rfl) (Nat.le_of_ble_eq_true rfl)
set_option maxHeartbeats 4000000 in
set_option maxRecDepth 100000 in
theorem lc_content {b : Nat} {D : va_G} {Y : Nat → ClassId} {p : Program} {l : Launch} {e : Env} {s : State} {m : MethodId} {below : List Frame} {meth : Method} {c : Code} (Z : jS0 b D Y s) (xs : Nat → Int32) (hX : va_X b 4 xs s s.heap) (hbl : b < s.heap.size) (hlt : l.stackTraces = false) (d : Nat) (h : jH) (HD : jDesk Y h d) (HM : jModl Y h (d + 208)) (HR : h (d + 231) = some (.inl (Y 1, 1, .inr (.inl (fun _ => 0))))) : jW b D Y s p l e room_1 s m #[Value.ref b] below meth c "FactorDeskLaw" code 8 ret meth.name (lw_Z below #[Value.ref b] s) 342 [(4, .int 0), (3, .ref (d + 231)), (2, .ref (d + 208)), (1, .ref d), (0, .ref b)] [] h (d + 232) 232 14861 := by
  refine j_aload_n d_Law_law_342 3 rfl ?_
  refine j_callV (k_content l Z d _ _ HD) ⟨⟨Nat.le_of_ble_eq_true rfl, Nat.le_of_ble_eq_true rfl⟩, g_343, g_346, g_1, by decide +kernel⟩ g_344 g_345 (ci := 8) rfl HD.1 ⟨(by first | exact Nat.le_of_ble_eq_true rfl | (simp only [jrm]; omega)), (by first | exact Nat.le_of_ble_eq_true rfl | (simp only [jrm]; omega))⟩ (Nat.le_of_ble_eq_true rfl) d_Law_law_343 (fun r20 h20 n20 P20 => ?_)
  obtain ⟨rfl, rfl, rfl⟩ := P20
  refine j_aload_n d_Law_law_346 2 rfl ?_
  refine j_callV (m_content l Z (d + 208) _ _ HM) ⟨⟨Nat.le_of_ble_eq_true rfl, Nat.le_of_ble_eq_true rfl⟩, g_1002, g_1005, g_10, by decide +kernel⟩ g_1003 g_1004 (ci := 9) rfl HM.1 ⟨(by first | exact Nat.le_of_ble_eq_true rfl | (simp only [jrm]; omega)), (by first | exact Nat.le_of_ble_eq_true rfl | (simp only [jrm]; omega))⟩ (Nat.le_of_ble_eq_true rfl) d_Law_law_347 (fun r21 h21 n21 P21 => ?_)
  obtain ⟨rfl, rfl, ⟨fs21, O21⟩, F21⟩ := P21
  have R21 := (F21 (d + 231) (by omega)).trans HR
  refine j_lcmp d_Law_law_350 ?_
  refine j_if_eq_t (tgt := 822) d_Law_law_351 (by decide) (by decide) ?_
  refine j_iinc d_Law_law_822 0 rfl rfl (Nat.le_of_ble_eq_true rfl) rfl ?_
  refine j_goto (tgt := 23) d_Law_law_825 (by decide) ?_
  refine j_iload d_Law_law_23 0 rfl ?_
  refine j_aload_n d_Law_law_25 4 rfl ?_
  refine j_slen hX hbl d_Law_law_26 ?_
  refine j_iconst d_Law_law_27 (v := 4) (by decide) ?_
  refine j_isub d_Law_law_28 ?_
  refine j_icmp_gt_t (tgt := 828) d_Law_law_29 (by decide) (by decide) ?_
  refine j_iconst d_Law_law_828 (v := 1) (by decide) ?_
  exact j_lawEnd (Nat.le_of_ble_eq_true rfl) (Nat.le_of_ble_eq_true rfl)
set_option maxHeartbeats 4000000 in
set_option maxRecDepth 100000 in
theorem lc_factors {b : Nat} {D : va_G} {Y : Nat → ClassId} {p : Program} {l : Launch} {e : Env} {s : State} {m : MethodId} {below : List Frame} {meth : Method} {c : Code} (Z : jS0 b D Y s) (xs : Nat → Int32) (hX : va_X b 4 xs s s.heap) (hbl : b < s.heap.size) (hlt : l.stackTraces = false) (d : Nat) (h : jH) (HD : jDesk Y h d) (HM : jModl Y h (d + 208)) (HR : h (d + 231) = some (.inl (Y 1, 1, .inr (.inl (fun _ => 0))))) : jW b D Y s p l e room_1 s m #[Value.ref b] below meth c "FactorDeskLaw" code 8 ret meth.name (lw_Z below #[Value.ref b] s) 356 [(4, .int 0), (3, .ref (d + 231)), (2, .ref (d + 208)), (1, .ref d), (0, .ref b)] [] h (d + 232) 232 14861 := by
  refine j_aload_n d_Law_law_356 3 rfl ?_
  refine j_callV (k_factors l Z d _ _ HD) ⟨⟨Nat.le_of_ble_eq_true rfl, Nat.le_of_ble_eq_true rfl⟩, g_358, g_361, g_1, by decide +kernel⟩ g_359 g_360 (ci := 8) rfl HD.1 ⟨(by first | exact Nat.le_of_ble_eq_true rfl | (simp only [jrm]; omega)), (by first | exact Nat.le_of_ble_eq_true rfl | (simp only [jrm]; omega))⟩ (Nat.le_of_ble_eq_true rfl) d_Law_law_357 (fun r22 h22 n22 P22 => ?_)
  obtain ⟨rfl, rfl, F22⟩ := P22
  have HM22 := HM.keep (fun x h1 h2 => F22 x (by omega))
  have R22 := (F22 (d + 231) (by omega)).trans HR
  refine j_aload_n d_Law_law_360 2 rfl ?_
  refine j_callV (m_factors l Z (d + 208) _ _ HM22) ⟨⟨Nat.le_of_ble_eq_true rfl, Nat.le_of_ble_eq_true rfl⟩, g_1012, g_1015, g_10, by decide +kernel⟩ g_1013 g_1014 (ci := 9) rfl HM22.1 ⟨(by first | exact Nat.le_of_ble_eq_true rfl | (simp only [jrm]; omega)), (by first | exact Nat.le_of_ble_eq_true rfl | (simp only [jrm]; omega))⟩ (Nat.le_of_ble_eq_true rfl) d_Law_law_361 (fun r23 h23 n23 P23 => ?_)
  obtain ⟨rfl, rfl, ⟨fs23, O23⟩, F23⟩ := P23
  have R23 := (F23 (d + 231) (by omega)).trans R22
  refine j_icmp_eq_t (tgt := 822) d_Law_law_364 (by decide) (by decide) ?_
  refine j_iinc d_Law_law_822 0 rfl rfl (Nat.le_of_ble_eq_true rfl) rfl ?_
  refine j_goto (tgt := 23) d_Law_law_825 (by decide) ?_
  refine j_iload d_Law_law_23 0 rfl ?_
  refine j_aload_n d_Law_law_25 4 rfl ?_
  refine j_slen hX hbl d_Law_law_26 ?_
  refine j_iconst d_Law_law_27 (v := 4) (by decide) ?_
  refine j_isub d_Law_law_28 ?_
  refine j_icmp_gt_t (tgt := 828) d_Law_law_29 (by decide) (by decide) ?_
  refine j_iconst d_Law_law_828 (v := 1) (by decide) ?_
  exact j_lawEnd (Nat.le_of_ble_eq_true rfl) (Nat.le_of_ble_eq_true rfl)
set_option maxHeartbeats 4000000 in
set_option maxRecDepth 100000 in
theorem lc_isIrr {b : Nat} {D : va_G} {Y : Nat → ClassId} {p : Program} {l : Launch} {e : Env} {s : State} {m : MethodId} {below : List Frame} {meth : Method} {c : Code} (Z : jS0 b D Y s) (xs : Nat → Int32) (hX : va_X b 4 xs s s.heap) (hbl : b < s.heap.size) (hlt : l.stackTraces = false) (d : Nat) (h : jH) (HD : jDesk Y h d) (HM : jModl Y h (d + 208)) (HR : h (d + 231) = some (.inl (Y 1, 1, .inr (.inl (fun _ => 0))))) : jW b D Y s p l e room_1 s m #[Value.ref b] below meth c "FactorDeskLaw" code 8 ret meth.name (lw_Z below #[Value.ref b] s) 504 [(4, .int 0), (3, .ref (d + 231)), (2, .ref (d + 208)), (1, .ref d), (0, .ref b)] [] h (d + 232) 232 14861 := by
  refine j_aload_n d_Law_law_504 3 rfl ?_
  refine j_callV (k_isIrr l Z d _ _ HD) ⟨⟨Nat.le_of_ble_eq_true rfl, Nat.le_of_ble_eq_true rfl⟩, g_628, g_631, g_1, by decide +kernel⟩ g_629 g_630 (ci := 8) rfl HD.1 ⟨(by first | exact Nat.le_of_ble_eq_true rfl | (simp only [jrm]; omega)), (by first | exact Nat.le_of_ble_eq_true rfl | (simp only [jrm]; omega))⟩ (Nat.le_of_ble_eq_true rfl) d_Law_law_505 (fun r24 h24 n24 P24 => ?_)
  obtain ⟨rfl, rfl, F24⟩ := P24
  have HM24 := HM.keep (fun x h1 h2 => F24 x (by omega))
  have R24 := (F24 (d + 231) (by omega)).trans HR
  refine j_aload_n d_Law_law_508 2 rfl ?_
  refine j_callV (m_isIrr l Z (d + 208) _ _ HM24) ⟨⟨Nat.le_of_ble_eq_true rfl, Nat.le_of_ble_eq_true rfl⟩, g_1198, g_1201, g_10, by decide +kernel⟩ g_1199 g_1200 (ci := 9) rfl HM24.1 ⟨(by first | exact Nat.le_of_ble_eq_true rfl | (simp only [jrm]; omega)), (by first | exact Nat.le_of_ble_eq_true rfl | (simp only [jrm]; omega))⟩ (Nat.le_of_ble_eq_true rfl) d_Law_law_509 (fun r25 h25 n25 P25 => ?_)
  obtain ⟨rfl, rfl, ⟨fs25, O25⟩, F25⟩ := P25
  have R25 := (F25 (d + 231) (by omega)).trans R24
  refine j_icmp_eq_t (tgt := 822) d_Law_law_512 (by decide) (by decide) ?_
  refine j_iinc d_Law_law_822 0 rfl rfl (Nat.le_of_ble_eq_true rfl) rfl ?_
  refine j_goto (tgt := 23) d_Law_law_825 (by decide) ?_
  refine j_iload d_Law_law_23 0 rfl ?_
  refine j_aload_n d_Law_law_25 4 rfl ?_
  refine j_slen hX hbl d_Law_law_26 ?_
  refine j_iconst d_Law_law_27 (v := 4) (by decide) ?_
  refine j_isub d_Law_law_28 ?_
  refine j_icmp_gt_t (tgt := 828) d_Law_law_29 (by decide) (by decide) ?_
  refine j_iconst d_Law_law_828 (v := 1) (by decide) ?_
  exact j_lawEnd (Nat.le_of_ble_eq_true rfl) (Nat.le_of_ble_eq_true rfl)
set_option maxHeartbeats 4000000 in
set_option maxRecDepth 100000 in
theorem lc_at {b : Nat} {D : va_G} {Y : Nat → ClassId} {p : Program} {l : Launch} {e : Env} {s : State} {m : MethodId} {below : List Frame} {meth : Method} {c : Code} (Z : jS0 b D Y s) (xs : Nat → Int32) (hX : va_X b 4 xs s s.heap) (hbl : b < s.heap.size) (hlt : l.stackTraces = false) (d : Nat) (h : jH) (HD : jDesk Y h d) (HM : jModl Y h (d + 208)) (HR : h (d + 231) = some (.inl (Y 1, 1, .inr (.inl (fun _ => 0))))) : jW b D Y s p l e room_1 s m #[Value.ref b] below meth c "FactorDeskLaw" code 8 ret meth.name (lw_Z below #[Value.ref b] s) 273 [(4, .int 0), (3, .ref (d + 231)), (2, .ref (d + 208)), (1, .ref d), (0, .ref b)] [] h (d + 232) 232 14861 := by
  by_cases hc : ¬ xs 1 < 0 ∧ xs 1 ≤ 12
  · refine j_aload_n d_Law_law_273 3 rfl ?_
    refine j_aload_n d_Law_law_274 4 rfl ?_
    refine j_iload d_Law_law_275 0 rfl ?_
    refine j_iconst d_Law_law_277 (v := 1) (by decide) ?_
    refine j_iadd d_Law_law_278 ?_
    refine j_sld (v := xs 1) hX hbl (by unfold vp_in; decide) rfl d_Law_law_279 ?_
    refine j_aload_n d_Law_law_280 1 rfl ?_
    refine j_callSW (w_at l Z d (d + 231) _ _ HD (xs 1) hc.1 hc.2 _ (by omega) HR) ⟨⟨Nat.le_of_ble_eq_true rfl, Nat.le_of_ble_eq_true rfl⟩, g_763, g_765, g_0, (by decide +kernel), (by decide +kernel), (show _ = some 3 from by decide +kernel)⟩ g_764 ⟨Nat.le_of_ble_eq_true rfl, Nat.le_of_ble_eq_true rfl⟩ (Nat.le_of_ble_eq_true rfl) d_Law_law_281 (fun r26 h26 n26 P26 => ?_)
    obtain ⟨rfl, rfl, O26, F26⟩ := P26
    have HM26 := HM.keep (fun x h1 h2 => F26 x (by omega) (by omega))
    refine j_istore d_Law_law_284 (Nat.le_of_ble_eq_true rfl) rfl ?_
    refine j_aload_n d_Law_law_286 3 rfl ?_
    refine j_aload_n d_Law_law_287 5 rfl ?_
    refine j_iload d_Law_law_288 1 rfl ?_
    refine j_iconst d_Law_law_290 (v := 1) (by decide) ?_
    refine j_iadd d_Law_law_291 ?_
    refine j_sld (v := xs 1) hX hbl (by unfold vp_in; decide) rfl d_Law_law_292 ?_
    refine j_callV (m_at l Z (d + 208) _ _ HM26 (xs 1) hc.1 hc.2) ⟨⟨Nat.le_of_ble_eq_true rfl, Nat.le_of_ble_eq_true rfl⟩, g_994, g_997, g_10, (by decide +kernel), (by decide +kernel), (show _ = some 1 from by decide +kernel)⟩ g_995 g_996 (ci := 9) rfl HM26.1 ⟨(by first | exact Nat.le_of_ble_eq_true rfl | (simp only [jrm]; omega)), (by first | exact Nat.le_of_ble_eq_true rfl | (simp only [jrm]; omega))⟩ (Nat.le_of_ble_eq_true rfl) d_Law_law_293 (fun r27 h27 n27 P27 => ?_)
    obtain ⟨rfl, rfl, ⟨fs27, O27⟩, F27⟩ := P27
    have R27 := (F27 (d + 231) (by omega)).trans O26
    refine j_istore d_Law_law_296 (Nat.le_of_ble_eq_true rfl) rfl ?_
    refine j_aload_n d_Law_law_298 4 rfl ?_
    refine j_callV (k_thrown l Z (d + 208) _ _ _ _ O27) ⟨⟨Nat.le_of_ble_eq_true rfl, Nat.le_of_ble_eq_true rfl⟩, g_962, g_965, g_10, by decide +kernel⟩ g_963 g_964 (ci := 9) rfl O27 ⟨(by first | exact Nat.le_of_ble_eq_true rfl | (simp only [jrm]; omega)), (by first | exact Nat.le_of_ble_eq_true rfl | (simp only [jrm]; omega))⟩ (Nat.le_of_ble_eq_true rfl) d_Law_law_299 (fun r28 h28 n28 P28 => ?_)
    obtain ⟨rfl, rfl, rfl⟩ := P28
    refine j_iload d_Law_law_302 1 rfl ?_
    refine j_icmp_eq_t (tgt := 309) d_Law_law_304 (by decide) (by decide) ?_
    refine j_iload d_Law_law_309 1 rfl ?_
    refine j_if_ne_f (tgt := 326) d_Law_law_311 (by decide) (by decide) ?_
    refine j_aload_n d_Law_law_314 3 rfl ?_
    refine j_iconst d_Law_law_315 (v := 0) (by decide) ?_
    refine j_lald d_Law_law_316 R27 (by unfold vp_in; decide) ?_
    refine j_iload d_Law_law_317 0 rfl ?_
    refine j_i2l d_Law_law_319 rfl ?_
    refine j_lcmp d_Law_law_320 ?_
    refine j_if_eq_t (tgt := 326) d_Law_law_321 (by decide) (lgc rfl) ?_
    refine j_goto (tgt := 822) d_Law_law_326 (by decide) ?_
    refine j_iinc d_Law_law_822 2 rfl rfl (Nat.le_of_ble_eq_true rfl) rfl ?_
    refine j_goto (tgt := 23) d_Law_law_825 (by decide) ?_
    refine j_iload d_Law_law_23 0 rfl ?_
    refine j_aload_n d_Law_law_25 6 rfl ?_
    refine j_slen hX hbl d_Law_law_26 ?_
    refine j_iconst d_Law_law_27 (v := 4) (by decide) ?_
    refine j_isub d_Law_law_28 ?_
    refine j_icmp_gt_t (tgt := 828) d_Law_law_29 (by decide) (by decide) ?_
    refine j_iconst d_Law_law_828 (v := 1) (by decide) ?_
    exact j_lawEnd (Nat.le_of_ble_eq_true rfl) (Nat.le_of_ble_eq_true rfl)
  · refine j_aload_n d_Law_law_273 3 rfl ?_
    refine j_aload_n d_Law_law_274 4 rfl ?_
    refine j_iload d_Law_law_275 0 rfl ?_
    refine j_iconst d_Law_law_277 (v := 1) (by decide) ?_
    refine j_iadd d_Law_law_278 ?_
    refine j_sld (v := xs 1) hX hbl (by unfold vp_in; decide) rfl d_Law_law_279 ?_
    refine j_aload_n d_Law_law_280 1 rfl ?_
    refine j_callSW (wx_at l Z hlt d (d + 231) _ _ HD (xs 1) (by by_cases h9 : xs 1 < 0; exact .inl h9; exact .inr (fun h8 => hc ⟨h9, h8⟩))) ⟨⟨Nat.le_of_ble_eq_true rfl, Nat.le_of_ble_eq_true rfl⟩, g_763, g_765, g_0, (by decide +kernel), (by decide +kernel), (show _ = some 3 from by decide +kernel)⟩ g_764 ⟨Nat.le_of_ble_eq_true rfl, Nat.le_of_ble_eq_true rfl⟩ (Nat.le_of_ble_eq_true rfl) d_Law_law_281 (fun r29 h29 n29 P29 => ?_)
    obtain ⟨rfl, e1, e2⟩ := P29
    subst e1
    subst e2
    refine j_istore d_Law_law_284 (Nat.le_of_ble_eq_true rfl) rfl ?_
    refine j_aload_n d_Law_law_286 3 rfl ?_
    refine j_aload_n d_Law_law_287 5 rfl ?_
    refine j_iload d_Law_law_288 1 rfl ?_
    refine j_iconst d_Law_law_290 (v := 1) (by decide) ?_
    refine j_iadd d_Law_law_291 ?_
    refine j_sld (v := xs 1) hX hbl (by unfold vp_in; decide) rfl d_Law_law_292 ?_
    refine j_callV (n_at l Z (d + 208) _ _ HM (xs 1) (by by_cases h9 : xs 1 < 0; exact .inl h9; exact .inr (fun h8 => hc ⟨h9, h8⟩))) ⟨⟨Nat.le_of_ble_eq_true rfl, Nat.le_of_ble_eq_true rfl⟩, g_994, g_997, g_10, (by decide +kernel), (by decide +kernel), (show _ = some 1 from by decide +kernel)⟩ g_995 g_996 (ci := 9) rfl HM.1 ⟨(by first | exact Nat.le_of_ble_eq_true rfl | (simp only [jrm]; omega)), (by first | exact Nat.le_of_ble_eq_true rfl | (simp only [jrm]; omega))⟩ (Nat.le_of_ble_eq_true rfl) d_Law_law_293 (fun r30 h30 n30 P30 => ?_)
    obtain ⟨rfl, rfl, ⟨fs30, O30⟩, F30⟩ := P30
    have R30 := (F30 (d + 231) (by omega)).trans HR
    refine j_istore d_Law_law_296 (Nat.le_of_ble_eq_true rfl) rfl ?_
    refine j_aload_n d_Law_law_298 4 rfl ?_
    refine j_callV (k_thrown l Z (d + 208) _ _ _ _ O30) ⟨⟨Nat.le_of_ble_eq_true rfl, Nat.le_of_ble_eq_true rfl⟩, g_962, g_965, g_10, by decide +kernel⟩ g_963 g_964 (ci := 9) rfl O30 ⟨(by first | exact Nat.le_of_ble_eq_true rfl | (simp only [jrm]; omega)), (by first | exact Nat.le_of_ble_eq_true rfl | (simp only [jrm]; omega))⟩ (Nat.le_of_ble_eq_true rfl) d_Law_law_299 (fun r31 h31 n31 P31 => ?_)
    obtain ⟨rfl, rfl, rfl⟩ := P31
    refine j_iload d_Law_law_302 1 rfl ?_
    refine j_icmp_eq_t (tgt := 309) d_Law_law_304 (by decide) (by decide) ?_
    refine j_iload d_Law_law_309 1 rfl ?_
    refine j_if_ne_t (tgt := 326) d_Law_law_311 (by decide) (by decide) ?_
    refine j_goto (tgt := 822) d_Law_law_326 (by decide) ?_
    refine j_iinc d_Law_law_822 2 rfl rfl (Nat.le_of_ble_eq_true rfl) rfl ?_
    refine j_goto (tgt := 23) d_Law_law_825 (by decide) ?_
    refine j_iload d_Law_law_23 0 rfl ?_
    refine j_aload_n d_Law_law_25 6 rfl ?_
    refine j_slen hX hbl d_Law_law_26 ?_
    refine j_iconst d_Law_law_27 (v := 4) (by decide) ?_
    refine j_isub d_Law_law_28 ?_
    refine j_icmp_gt_t (tgt := 828) d_Law_law_29 (by decide) (by decide) ?_
    refine j_iconst d_Law_law_828 (v := 1) (by decide) ?_
    exact j_lawEnd (Nat.le_of_ble_eq_true rfl) (Nat.le_of_ble_eq_true rfl)
set_option maxHeartbeats 4000000 in
set_option maxRecDepth 100000 in
theorem lc_ofDegree {b : Nat} {D : va_G} {Y : Nat → ClassId} {p : Program} {l : Launch} {e : Env} {s : State} {m : MethodId} {below : List Frame} {meth : Method} {c : Code} (Z : jS0 b D Y s) (xs : Nat → Int32) (hX : va_X b 4 xs s s.heap) (hbl : b < s.heap.size) (hlt : l.stackTraces = false) (d : Nat) (h : jH) (HD : jDesk Y h d) (HM : jModl Y h (d + 208)) (HR : h (d + 231) = some (.inl (Y 1, 1, .inr (.inl (fun _ => 0))))) : jW b D Y s p l e room_1 s m #[Value.ref b] below meth c "FactorDeskLaw" code 8 ret meth.name (lw_Z below #[Value.ref b] s) 517 [(4, .int 0), (3, .ref (d + 231)), (2, .ref (d + 208)), (1, .ref d), (0, .ref b)] [] h (d + 232) 232 14861 := by
  by_cases hc : ¬ xs 1 < 1 ∧ xs 1 ≤ 12
  · refine j_aload_n d_Law_law_517 3 rfl ?_
    refine j_aload_n d_Law_law_518 4 rfl ?_
    refine j_iload d_Law_law_519 0 rfl ?_
    refine j_iconst d_Law_law_521 (v := 1) (by decide) ?_
    refine j_iadd d_Law_law_522 ?_
    refine j_sld (v := xs 1) hX hbl (by unfold vp_in; decide) rfl d_Law_law_523 ?_
    refine j_aload_n d_Law_law_524 1 rfl ?_
    refine j_callSW (w_ofDegree l Z d (d + 231) _ _ HD (xs 1) hc.1 hc.2 _ (by omega) HR) ⟨⟨Nat.le_of_ble_eq_true rfl, Nat.le_of_ble_eq_true rfl⟩, g_803, g_805, g_0, (by decide +kernel), (by decide +kernel), (show _ = some 3 from by decide +kernel)⟩ g_804 ⟨Nat.le_of_ble_eq_true rfl, Nat.le_of_ble_eq_true rfl⟩ (Nat.le_of_ble_eq_true rfl) d_Law_law_525 (fun r32 h32 n32 P32 => ?_)
    obtain ⟨rfl, rfl, O32, F32⟩ := P32
    have HM32 := HM.keep (fun x h1 h2 => F32 x (by omega) (by omega))
    refine j_istore d_Law_law_528 (Nat.le_of_ble_eq_true rfl) rfl ?_
    refine j_aload_n d_Law_law_530 3 rfl ?_
    refine j_aload_n d_Law_law_531 5 rfl ?_
    refine j_iload d_Law_law_532 1 rfl ?_
    refine j_iconst d_Law_law_534 (v := 1) (by decide) ?_
    refine j_iadd d_Law_law_535 ?_
    refine j_sld (v := xs 1) hX hbl (by unfold vp_in; decide) rfl d_Law_law_536 ?_
    refine j_callV (m_ofDegree l Z (d + 208) _ _ HM32 (xs 1) hc.1 hc.2) ⟨⟨Nat.le_of_ble_eq_true rfl, Nat.le_of_ble_eq_true rfl⟩, g_1202, g_1205, g_10, (by decide +kernel), (by decide +kernel), (show _ = some 1 from by decide +kernel)⟩ g_1203 g_1204 (ci := 9) rfl HM32.1 ⟨(by first | exact Nat.le_of_ble_eq_true rfl | (simp only [jrm]; omega)), (by first | exact Nat.le_of_ble_eq_true rfl | (simp only [jrm]; omega))⟩ (Nat.le_of_ble_eq_true rfl) d_Law_law_537 (fun r33 h33 n33 P33 => ?_)
    obtain ⟨rfl, rfl, ⟨fs33, O33⟩, F33⟩ := P33
    have R33 := (F33 (d + 231) (by omega)).trans O32
    refine j_istore d_Law_law_540 (Nat.le_of_ble_eq_true rfl) rfl ?_
    refine j_aload_n d_Law_law_542 4 rfl ?_
    refine j_callV (k_thrown l Z (d + 208) _ _ _ _ O33) ⟨⟨Nat.le_of_ble_eq_true rfl, Nat.le_of_ble_eq_true rfl⟩, g_962, g_965, g_10, by decide +kernel⟩ g_963 g_964 (ci := 9) rfl O33 ⟨(by first | exact Nat.le_of_ble_eq_true rfl | (simp only [jrm]; omega)), (by first | exact Nat.le_of_ble_eq_true rfl | (simp only [jrm]; omega))⟩ (Nat.le_of_ble_eq_true rfl) d_Law_law_543 (fun r34 h34 n34 P34 => ?_)
    obtain ⟨rfl, rfl, rfl⟩ := P34
    refine j_iload d_Law_law_546 1 rfl ?_
    refine j_icmp_eq_t (tgt := 553) d_Law_law_548 (by decide) (by decide) ?_
    refine j_iload d_Law_law_553 1 rfl ?_
    refine j_if_ne_f (tgt := 570) d_Law_law_555 (by decide) (by decide) ?_
    refine j_aload_n d_Law_law_558 3 rfl ?_
    refine j_iconst d_Law_law_559 (v := 0) (by decide) ?_
    refine j_lald d_Law_law_560 R33 (by unfold vp_in; decide) ?_
    refine j_iload d_Law_law_561 0 rfl ?_
    refine j_i2l d_Law_law_563 rfl ?_
    refine j_lcmp d_Law_law_564 ?_
    refine j_if_eq_t (tgt := 570) d_Law_law_565 (by decide) (lgc rfl) ?_
    refine j_goto (tgt := 822) d_Law_law_570 (by decide) ?_
    refine j_iinc d_Law_law_822 2 rfl rfl (Nat.le_of_ble_eq_true rfl) rfl ?_
    refine j_goto (tgt := 23) d_Law_law_825 (by decide) ?_
    refine j_iload d_Law_law_23 0 rfl ?_
    refine j_aload_n d_Law_law_25 6 rfl ?_
    refine j_slen hX hbl d_Law_law_26 ?_
    refine j_iconst d_Law_law_27 (v := 4) (by decide) ?_
    refine j_isub d_Law_law_28 ?_
    refine j_icmp_gt_t (tgt := 828) d_Law_law_29 (by decide) (by decide) ?_
    refine j_iconst d_Law_law_828 (v := 1) (by decide) ?_
    exact j_lawEnd (Nat.le_of_ble_eq_true rfl) (Nat.le_of_ble_eq_true rfl)
  · refine j_aload_n d_Law_law_517 3 rfl ?_
    refine j_aload_n d_Law_law_518 4 rfl ?_
    refine j_iload d_Law_law_519 0 rfl ?_
    refine j_iconst d_Law_law_521 (v := 1) (by decide) ?_
    refine j_iadd d_Law_law_522 ?_
    refine j_sld (v := xs 1) hX hbl (by unfold vp_in; decide) rfl d_Law_law_523 ?_
    refine j_aload_n d_Law_law_524 1 rfl ?_
    refine j_callSW (wx_ofDegree l Z hlt d (d + 231) _ _ HD (xs 1) (by by_cases h9 : xs 1 < 1; exact .inl h9; exact .inr (fun h8 => hc ⟨h9, h8⟩))) ⟨⟨Nat.le_of_ble_eq_true rfl, Nat.le_of_ble_eq_true rfl⟩, g_803, g_805, g_0, (by decide +kernel), (by decide +kernel), (show _ = some 3 from by decide +kernel)⟩ g_804 ⟨Nat.le_of_ble_eq_true rfl, Nat.le_of_ble_eq_true rfl⟩ (Nat.le_of_ble_eq_true rfl) d_Law_law_525 (fun r35 h35 n35 P35 => ?_)
    obtain ⟨rfl, e1, e2⟩ := P35
    subst e1
    subst e2
    refine j_istore d_Law_law_528 (Nat.le_of_ble_eq_true rfl) rfl ?_
    refine j_aload_n d_Law_law_530 3 rfl ?_
    refine j_aload_n d_Law_law_531 5 rfl ?_
    refine j_iload d_Law_law_532 1 rfl ?_
    refine j_iconst d_Law_law_534 (v := 1) (by decide) ?_
    refine j_iadd d_Law_law_535 ?_
    refine j_sld (v := xs 1) hX hbl (by unfold vp_in; decide) rfl d_Law_law_536 ?_
    refine j_callV (n_ofDegree l Z (d + 208) _ _ HM (xs 1) (by by_cases h9 : xs 1 < 1; exact .inl h9; exact .inr (fun h8 => hc ⟨h9, h8⟩))) ⟨⟨Nat.le_of_ble_eq_true rfl, Nat.le_of_ble_eq_true rfl⟩, g_1202, g_1205, g_10, (by decide +kernel), (by decide +kernel), (show _ = some 1 from by decide +kernel)⟩ g_1203 g_1204 (ci := 9) rfl HM.1 ⟨(by first | exact Nat.le_of_ble_eq_true rfl | (simp only [jrm]; omega)), (by first | exact Nat.le_of_ble_eq_true rfl | (simp only [jrm]; omega))⟩ (Nat.le_of_ble_eq_true rfl) d_Law_law_537 (fun r36 h36 n36 P36 => ?_)
    obtain ⟨rfl, rfl, ⟨fs36, O36⟩, F36⟩ := P36
    have R36 := (F36 (d + 231) (by omega)).trans HR
    refine j_istore d_Law_law_540 (Nat.le_of_ble_eq_true rfl) rfl ?_
    refine j_aload_n d_Law_law_542 4 rfl ?_
    refine j_callV (k_thrown l Z (d + 208) _ _ _ _ O36) ⟨⟨Nat.le_of_ble_eq_true rfl, Nat.le_of_ble_eq_true rfl⟩, g_962, g_965, g_10, by decide +kernel⟩ g_963 g_964 (ci := 9) rfl O36 ⟨(by first | exact Nat.le_of_ble_eq_true rfl | (simp only [jrm]; omega)), (by first | exact Nat.le_of_ble_eq_true rfl | (simp only [jrm]; omega))⟩ (Nat.le_of_ble_eq_true rfl) d_Law_law_543 (fun r37 h37 n37 P37 => ?_)
    obtain ⟨rfl, rfl, rfl⟩ := P37
    refine j_iload d_Law_law_546 1 rfl ?_
    refine j_icmp_eq_t (tgt := 553) d_Law_law_548 (by decide) (by decide) ?_
    refine j_iload d_Law_law_553 1 rfl ?_
    refine j_if_ne_t (tgt := 570) d_Law_law_555 (by decide) (by decide) ?_
    refine j_goto (tgt := 822) d_Law_law_570 (by decide) ?_
    refine j_iinc d_Law_law_822 2 rfl rfl (Nat.le_of_ble_eq_true rfl) rfl ?_
    refine j_goto (tgt := 23) d_Law_law_825 (by decide) ?_
    refine j_iload d_Law_law_23 0 rfl ?_
    refine j_aload_n d_Law_law_25 6 rfl ?_
    refine j_slen hX hbl d_Law_law_26 ?_
    refine j_iconst d_Law_law_27 (v := 4) (by decide) ?_
    refine j_isub d_Law_law_28 ?_
    refine j_icmp_gt_t (tgt := 828) d_Law_law_29 (by decide) (by decide) ?_
    refine j_iconst d_Law_law_828 (v := 1) (by decide) ?_
    exact j_lawEnd (Nat.le_of_ble_eq_true rfl) (Nat.le_of_ble_eq_true rfl)
set_option maxHeartbeats 4000000 in
set_option maxRecDepth 100000 in
theorem lc_factor {b : Nat} {D : va_G} {Y : Nat → ClassId} {p : Program} {l : Launch} {e : Env} {s : State} {m : MethodId} {below : List Frame} {meth : Method} {c : Code} (Z : jS0 b D Y s) (xs : Nat → Int32) (hX : va_X b 4 xs s s.heap) (hbl : b < s.heap.size) (hlt : l.stackTraces = false) (d : Nat) (h : jH) (HD : jDesk Y h d) (HM : jModl Y h (d + 208)) (HR : h (d + 231) = some (.inl (Y 1, 1, .inr (.inl (fun _ => 0))))) : jW b D Y s p l e room_1 s m #[Value.ref b] below meth c "FactorDeskLaw" code 8 ret meth.name (lw_Z below #[Value.ref b] s) 369 [(4, .int 0), (3, .ref (d + 231)), (2, .ref (d + 208)), (1, .ref d), (0, .ref b)] [] h (d + 232) 232 14861 := by
  refine j_aload_n d_Law_law_369 3 rfl ?_
  refine j_aload_n d_Law_law_370 4 rfl ?_
  refine j_iload d_Law_law_371 0 rfl ?_
  refine j_iconst d_Law_law_373 (v := 1) (by decide) ?_
  refine j_iadd d_Law_law_374 ?_
  refine j_sld (v := xs 1) hX hbl (by unfold vp_in; decide) rfl d_Law_law_375 ?_
  refine j_aload_n d_Law_law_376 4 rfl ?_
  refine j_iload d_Law_law_377 0 rfl ?_
  refine j_iconst d_Law_law_379 (v := 2) (by decide) ?_
  refine j_iadd d_Law_law_380 ?_
  refine j_sld (v := xs 2) hX hbl (by unfold vp_in; decide) rfl d_Law_law_381 ?_
  refine j_aload_n d_Law_law_382 1 rfl ?_
  refine j_callSW (wx_factor l Z hlt d (d + 231) _ _ HD (xs 1) (xs 2)) ⟨⟨Nat.le_of_ble_eq_true rfl, Nat.le_of_ble_eq_true rfl⟩, g_771, g_773, g_0, (by decide +kernel), (by decide +kernel), (show _ = some 4 from by decide +kernel)⟩ g_772 ⟨Nat.le_of_ble_eq_true rfl, Nat.le_of_ble_eq_true rfl⟩ (Nat.le_of_ble_eq_true rfl) d_Law_law_383 (fun r38 h38 n38 P38 => ?_)
  obtain ⟨rfl, e1, e2⟩ := P38
  subst e1
  subst e2
  refine j_istore d_Law_law_386 (Nat.le_of_ble_eq_true rfl) rfl ?_
  refine j_aload_n d_Law_law_388 3 rfl ?_
  refine j_aload_n d_Law_law_389 5 rfl ?_
  refine j_iload d_Law_law_390 1 rfl ?_
  refine j_iconst d_Law_law_392 (v := 1) (by decide) ?_
  refine j_iadd d_Law_law_393 ?_
  refine j_sld (v := xs 1) hX hbl (by unfold vp_in; decide) rfl d_Law_law_394 ?_
  refine j_aload_n d_Law_law_395 5 rfl ?_
  refine j_iload d_Law_law_396 1 rfl ?_
  refine j_iconst d_Law_law_398 (v := 2) (by decide) ?_
  refine j_iadd d_Law_law_399 ?_
  refine j_sld (v := xs 2) hX hbl (by unfold vp_in; decide) rfl d_Law_law_400 ?_
  refine j_callV (n_factor l Z (d + 208) _ _ HM (xs 1) (xs 2)) ⟨⟨Nat.le_of_ble_eq_true rfl, Nat.le_of_ble_eq_true rfl⟩, g_1190, g_1193, g_10, (by decide +kernel), (by decide +kernel), (show _ = some 2 from by decide +kernel)⟩ g_1191 g_1192 (ci := 9) rfl HM.1 ⟨(by first | exact Nat.le_of_ble_eq_true rfl | (simp only [jrm]; omega)), (by first | exact Nat.le_of_ble_eq_true rfl | (simp only [jrm]; omega))⟩ (Nat.le_of_ble_eq_true rfl) d_Law_law_401 (fun r39 h39 n39 P39 => ?_)
  obtain ⟨rfl, rfl, ⟨fs39, O39⟩, F39⟩ := P39
  have R39 := (F39 (d + 231) (by omega)).trans HR
  refine j_istore d_Law_law_404 (Nat.le_of_ble_eq_true rfl) rfl ?_
  refine j_aload_n d_Law_law_406 4 rfl ?_
  refine j_callV (k_thrown l Z (d + 208) _ _ _ _ O39) ⟨⟨Nat.le_of_ble_eq_true rfl, Nat.le_of_ble_eq_true rfl⟩, g_962, g_965, g_10, by decide +kernel⟩ g_963 g_964 (ci := 9) rfl O39 ⟨(by first | exact Nat.le_of_ble_eq_true rfl | (simp only [jrm]; omega)), (by first | exact Nat.le_of_ble_eq_true rfl | (simp only [jrm]; omega))⟩ (Nat.le_of_ble_eq_true rfl) d_Law_law_407 (fun r40 h40 n40 P40 => ?_)
  obtain ⟨rfl, rfl, rfl⟩ := P40
  refine j_iload d_Law_law_410 1 rfl ?_
  refine j_icmp_eq_t (tgt := 417) d_Law_law_412 (by decide) (by decide) ?_
  refine j_iload d_Law_law_417 1 rfl ?_
  refine j_if_ne_t (tgt := 434) d_Law_law_419 (by decide) (by decide) ?_
  refine j_goto (tgt := 822) d_Law_law_434 (by decide) ?_
  refine j_iinc d_Law_law_822 2 rfl rfl (Nat.le_of_ble_eq_true rfl) rfl ?_
  refine j_goto (tgt := 23) d_Law_law_825 (by decide) ?_
  refine j_iload d_Law_law_23 0 rfl ?_
  refine j_aload_n d_Law_law_25 6 rfl ?_
  refine j_slen hX hbl d_Law_law_26 ?_
  refine j_iconst d_Law_law_27 (v := 4) (by decide) ?_
  refine j_isub d_Law_law_28 ?_
  refine j_icmp_gt_t (tgt := 828) d_Law_law_29 (by decide) (by decide) ?_
  refine j_iconst d_Law_law_828 (v := 1) (by decide) ?_
  exact j_lawEnd (Nat.le_of_ble_eq_true rfl) (Nat.le_of_ble_eq_true rfl)
set_option maxHeartbeats 4000000 in
set_option maxRecDepth 100000 in
theorem lc_part {b : Nat} {D : va_G} {Y : Nat → ClassId} {p : Program} {l : Launch} {e : Env} {s : State} {m : MethodId} {below : List Frame} {meth : Method} {c : Code} (Z : jS0 b D Y s) (xs : Nat → Int32) (hX : va_X b 4 xs s s.heap) (hbl : b < s.heap.size) (hlt : l.stackTraces = false) (d : Nat) (h : jH) (HD : jDesk Y h d) (HM : jModl Y h (d + 208)) (HR : h (d + 231) = some (.inl (Y 1, 1, .inr (.inl (fun _ => 0))))) : jW b D Y s p l e room_1 s m #[Value.ref b] below meth c "FactorDeskLaw" code 8 ret meth.name (lw_Z below #[Value.ref b] s) 437 [(4, .int 0), (3, .ref (d + 231)), (2, .ref (d + 208)), (1, .ref d), (0, .ref b)] [] h (d + 232) 232 14861 := by
  refine j_aload_n d_Law_law_437 3 rfl ?_
  refine j_aload_n d_Law_law_438 4 rfl ?_
  refine j_iload d_Law_law_439 0 rfl ?_
  refine j_iconst d_Law_law_441 (v := 1) (by decide) ?_
  refine j_iadd d_Law_law_442 ?_
  refine j_sld (v := xs 1) hX hbl (by unfold vp_in; decide) rfl d_Law_law_443 ?_
  refine j_aload_n d_Law_law_444 4 rfl ?_
  refine j_iload d_Law_law_445 0 rfl ?_
  refine j_iconst d_Law_law_447 (v := 2) (by decide) ?_
  refine j_iadd d_Law_law_448 ?_
  refine j_sld (v := xs 2) hX hbl (by unfold vp_in; decide) rfl d_Law_law_449 ?_
  refine j_aload_n d_Law_law_450 1 rfl ?_
  refine j_callSW (wx_part l Z hlt d (d + 231) _ _ HD (xs 1) (xs 2)) ⟨⟨Nat.le_of_ble_eq_true rfl, Nat.le_of_ble_eq_true rfl⟩, g_795, g_797, g_0, (by decide +kernel), (by decide +kernel), (show _ = some 4 from by decide +kernel)⟩ g_796 ⟨Nat.le_of_ble_eq_true rfl, Nat.le_of_ble_eq_true rfl⟩ (Nat.le_of_ble_eq_true rfl) d_Law_law_451 (fun r41 h41 n41 P41 => ?_)
  obtain ⟨rfl, e1, e2⟩ := P41
  subst e1
  subst e2
  refine j_istore d_Law_law_454 (Nat.le_of_ble_eq_true rfl) rfl ?_
  refine j_aload_n d_Law_law_456 3 rfl ?_
  refine j_aload_n d_Law_law_457 5 rfl ?_
  refine j_iload d_Law_law_458 1 rfl ?_
  refine j_iconst d_Law_law_460 (v := 1) (by decide) ?_
  refine j_iadd d_Law_law_461 ?_
  refine j_sld (v := xs 1) hX hbl (by unfold vp_in; decide) rfl d_Law_law_462 ?_
  refine j_aload_n d_Law_law_463 5 rfl ?_
  refine j_iload d_Law_law_464 1 rfl ?_
  refine j_iconst d_Law_law_466 (v := 2) (by decide) ?_
  refine j_iadd d_Law_law_467 ?_
  refine j_sld (v := xs 2) hX hbl (by unfold vp_in; decide) rfl d_Law_law_468 ?_
  refine j_callV (n_part l Z (d + 208) _ _ HM (xs 1) (xs 2)) ⟨⟨Nat.le_of_ble_eq_true rfl, Nat.le_of_ble_eq_true rfl⟩, g_1194, g_1197, g_10, (by decide +kernel), (by decide +kernel), (show _ = some 2 from by decide +kernel)⟩ g_1195 g_1196 (ci := 9) rfl HM.1 ⟨(by first | exact Nat.le_of_ble_eq_true rfl | (simp only [jrm]; omega)), (by first | exact Nat.le_of_ble_eq_true rfl | (simp only [jrm]; omega))⟩ (Nat.le_of_ble_eq_true rfl) d_Law_law_469 (fun r42 h42 n42 P42 => ?_)
  obtain ⟨rfl, rfl, ⟨fs42, O42⟩, F42⟩ := P42
  have R42 := (F42 (d + 231) (by omega)).trans HR
  refine j_lstore d_Law_law_472 (Nat.le_of_ble_eq_true rfl) rfl ?_
  refine j_aload_n d_Law_law_474 4 rfl ?_
  refine j_callV (k_thrown l Z (d + 208) _ _ _ _ O42) ⟨⟨Nat.le_of_ble_eq_true rfl, Nat.le_of_ble_eq_true rfl⟩, g_962, g_965, g_10, by decide +kernel⟩ g_963 g_964 (ci := 9) rfl O42 ⟨(by first | exact Nat.le_of_ble_eq_true rfl | (simp only [jrm]; omega)), (by first | exact Nat.le_of_ble_eq_true rfl | (simp only [jrm]; omega))⟩ (Nat.le_of_ble_eq_true rfl) d_Law_law_475 (fun r43 h43 n43 P43 => ?_)
  obtain ⟨rfl, rfl, rfl⟩ := P43
  refine j_iload d_Law_law_478 1 rfl ?_
  refine j_icmp_eq_t (tgt := 485) d_Law_law_480 (by decide) (by decide) ?_
  refine j_iload d_Law_law_485 1 rfl ?_
  refine j_if_ne_t (tgt := 501) d_Law_law_487 (by decide) (by decide) ?_
  refine j_goto (tgt := 822) d_Law_law_501 (by decide) ?_
  refine j_iinc d_Law_law_822 2 rfl rfl (Nat.le_of_ble_eq_true rfl) rfl ?_
  refine j_goto (tgt := 23) d_Law_law_825 (by decide) ?_
  refine j_iload d_Law_law_23 0 rfl ?_
  refine j_aload_n d_Law_law_25 6 rfl ?_
  refine j_slen hX hbl d_Law_law_26 ?_
  refine j_iconst d_Law_law_27 (v := 4) (by decide) ?_
  refine j_isub d_Law_law_28 ?_
  refine j_icmp_gt_t (tgt := 828) d_Law_law_29 (by decide) (by decide) ?_
  refine j_iconst d_Law_law_828 (v := 1) (by decide) ?_
  exact j_lawEnd (Nat.le_of_ble_eq_true rfl) (Nat.le_of_ble_eq_true rfl)
set_option maxHeartbeats 4000000 in
set_option maxRecDepth 100000 in
theorem lc_divisor {b : Nat} {D : va_G} {Y : Nat → ClassId} {p : Program} {l : Launch} {e : Env} {s : State} {m : MethodId} {below : List Frame} {meth : Method} {c : Code} (Z : jS0 b D Y s) (xs : Nat → Int32) (hX : va_X b 4 xs s s.heap) (hbl : b < s.heap.size) (hlt : l.stackTraces = false) (d : Nat) (h : jH) (HD : jDesk Y h d) (HM : jModl Y h (d + 208)) (HR : h (d + 231) = some (.inl (Y 1, 1, .inr (.inl (fun _ => 0))))) : jW b D Y s p l e room_1 s m #[Value.ref b] below meth c "FactorDeskLaw" code 8 ret meth.name (lw_Z below #[Value.ref b] s) 617 [(4, .int 0), (3, .ref (d + 231)), (2, .ref (d + 208)), (1, .ref d), (0, .ref b)] [] h (d + 232) 232 14861 := by
  by_cases hc : xs 1 = 0
  · refine j_aload_n d_Law_law_617 3 rfl ?_
    refine j_aload_n d_Law_law_618 4 rfl ?_
    refine j_iload d_Law_law_619 0 rfl ?_
    refine j_iconst d_Law_law_621 (v := 1) (by decide) ?_
    refine j_iadd d_Law_law_622 ?_
    refine j_sld (v := 0) hX hbl (by unfold vp_in; decide) hc d_Law_law_623 ?_
    refine j_aload_n d_Law_law_624 1 rfl ?_
    refine j_callSW (w_divisor l Z d (d + 231) _ _ HD _ (by omega) HR) ⟨⟨Nat.le_of_ble_eq_true rfl, Nat.le_of_ble_eq_true rfl⟩, g_823, g_825, g_0, (by decide +kernel), (by decide +kernel), (show _ = some 3 from by decide +kernel)⟩ g_824 ⟨Nat.le_of_ble_eq_true rfl, Nat.le_of_ble_eq_true rfl⟩ (Nat.le_of_ble_eq_true rfl) d_Law_law_625 (fun r44 h44 n44 P44 => ?_)
    obtain ⟨rfl, rfl, O44, F44⟩ := P44
    have HM44 := HM.keep (fun x h1 h2 => F44 x (by omega) (by omega))
    refine j_istore d_Law_law_628 (Nat.le_of_ble_eq_true rfl) rfl ?_
    refine j_aload_n d_Law_law_630 3 rfl ?_
    refine j_aload_n d_Law_law_631 5 rfl ?_
    refine j_iload d_Law_law_632 1 rfl ?_
    refine j_iconst d_Law_law_634 (v := 1) (by decide) ?_
    refine j_iadd d_Law_law_635 ?_
    refine j_sld (v := 0) hX hbl (by unfold vp_in; decide) hc d_Law_law_636 ?_
    refine j_callV (m_divisor l Z (d + 208) _ _ HM44) ⟨⟨Nat.le_of_ble_eq_true rfl, Nat.le_of_ble_eq_true rfl⟩, g_1210, g_1213, g_10, (by decide +kernel), (by decide +kernel), (show _ = some 1 from by decide +kernel)⟩ g_1211 g_1212 (ci := 9) rfl HM44.1 ⟨(by first | exact Nat.le_of_ble_eq_true rfl | (simp only [jrm]; omega)), (by first | exact Nat.le_of_ble_eq_true rfl | (simp only [jrm]; omega))⟩ (Nat.le_of_ble_eq_true rfl) d_Law_law_637 (fun r45 h45 n45 P45 => ?_)
    obtain ⟨rfl, rfl, ⟨fs45, O45⟩, F45⟩ := P45
    have R45 := (F45 (d + 231) (by omega)).trans O44
    refine j_lstore d_Law_law_640 (Nat.le_of_ble_eq_true rfl) rfl ?_
    refine j_aload_n d_Law_law_642 4 rfl ?_
    refine j_callV (k_thrown l Z (d + 208) _ _ _ _ O45) ⟨⟨Nat.le_of_ble_eq_true rfl, Nat.le_of_ble_eq_true rfl⟩, g_962, g_965, g_10, by decide +kernel⟩ g_963 g_964 (ci := 9) rfl O45 ⟨(by first | exact Nat.le_of_ble_eq_true rfl | (simp only [jrm]; omega)), (by first | exact Nat.le_of_ble_eq_true rfl | (simp only [jrm]; omega))⟩ (Nat.le_of_ble_eq_true rfl) d_Law_law_643 (fun r46 h46 n46 P46 => ?_)
    obtain ⟨rfl, rfl, rfl⟩ := P46
    refine j_iload d_Law_law_646 1 rfl ?_
    refine j_icmp_eq_t (tgt := 653) d_Law_law_648 (by decide) (by decide) ?_
    refine j_iload d_Law_law_653 1 rfl ?_
    refine j_if_ne_f (tgt := 669) d_Law_law_655 (by decide) (by decide) ?_
    refine j_aload_n d_Law_law_658 3 rfl ?_
    refine j_iconst d_Law_law_659 (v := 0) (by decide) ?_
    refine j_lald d_Law_law_660 R45 (by unfold vp_in; decide) ?_
    refine j_lload d_Law_law_661 0 rfl ?_
    refine j_lcmp d_Law_law_663 ?_
    refine j_if_eq_t (tgt := 669) d_Law_law_664 (by decide) (lgc rfl) ?_
    refine j_goto (tgt := 822) d_Law_law_669 (by decide) ?_
    refine j_iinc d_Law_law_822 2 rfl rfl (Nat.le_of_ble_eq_true rfl) rfl ?_
    refine j_goto (tgt := 23) d_Law_law_825 (by decide) ?_
    refine j_iload d_Law_law_23 0 rfl ?_
    refine j_aload_n d_Law_law_25 6 rfl ?_
    refine j_slen hX hbl d_Law_law_26 ?_
    refine j_iconst d_Law_law_27 (v := 4) (by decide) ?_
    refine j_isub d_Law_law_28 ?_
    refine j_icmp_gt_t (tgt := 828) d_Law_law_29 (by decide) (by decide) ?_
    refine j_iconst d_Law_law_828 (v := 1) (by decide) ?_
    exact j_lawEnd (Nat.le_of_ble_eq_true rfl) (Nat.le_of_ble_eq_true rfl)
  · refine j_aload_n d_Law_law_617 3 rfl ?_
    refine j_aload_n d_Law_law_618 4 rfl ?_
    refine j_iload d_Law_law_619 0 rfl ?_
    refine j_iconst d_Law_law_621 (v := 1) (by decide) ?_
    refine j_iadd d_Law_law_622 ?_
    refine j_sld (v := xs 1) hX hbl (by unfold vp_in; decide) rfl d_Law_law_623 ?_
    refine j_aload_n d_Law_law_624 1 rfl ?_
    refine j_callSW (wx_divisor l Z hlt d (d + 231) _ _ HD (xs 1) hc) ⟨⟨Nat.le_of_ble_eq_true rfl, Nat.le_of_ble_eq_true rfl⟩, g_823, g_825, g_0, (by decide +kernel), (by decide +kernel), (show _ = some 3 from by decide +kernel)⟩ g_824 ⟨Nat.le_of_ble_eq_true rfl, Nat.le_of_ble_eq_true rfl⟩ (Nat.le_of_ble_eq_true rfl) d_Law_law_625 (fun r47 h47 n47 P47 => ?_)
    obtain ⟨rfl, e1, e2⟩ := P47
    subst e1
    subst e2
    refine j_istore d_Law_law_628 (Nat.le_of_ble_eq_true rfl) rfl ?_
    refine j_aload_n d_Law_law_630 3 rfl ?_
    refine j_aload_n d_Law_law_631 5 rfl ?_
    refine j_iload d_Law_law_632 1 rfl ?_
    refine j_iconst d_Law_law_634 (v := 1) (by decide) ?_
    refine j_iadd d_Law_law_635 ?_
    refine j_sld (v := xs 1) hX hbl (by unfold vp_in; decide) rfl d_Law_law_636 ?_
    refine j_callV (n_divisor l Z (d + 208) _ _ HM (xs 1) hc) ⟨⟨Nat.le_of_ble_eq_true rfl, Nat.le_of_ble_eq_true rfl⟩, g_1210, g_1213, g_10, (by decide +kernel), (by decide +kernel), (show _ = some 1 from by decide +kernel)⟩ g_1211 g_1212 (ci := 9) rfl HM.1 ⟨(by first | exact Nat.le_of_ble_eq_true rfl | (simp only [jrm]; omega)), (by first | exact Nat.le_of_ble_eq_true rfl | (simp only [jrm]; omega))⟩ (Nat.le_of_ble_eq_true rfl) d_Law_law_637 (fun r48 h48 n48 P48 => ?_)
    obtain ⟨rfl, rfl, ⟨fs48, O48⟩, F48⟩ := P48
    have R48 := (F48 (d + 231) (by omega)).trans HR
    refine j_lstore d_Law_law_640 (Nat.le_of_ble_eq_true rfl) rfl ?_
    refine j_aload_n d_Law_law_642 4 rfl ?_
    refine j_callV (k_thrown l Z (d + 208) _ _ _ _ O48) ⟨⟨Nat.le_of_ble_eq_true rfl, Nat.le_of_ble_eq_true rfl⟩, g_962, g_965, g_10, by decide +kernel⟩ g_963 g_964 (ci := 9) rfl O48 ⟨(by first | exact Nat.le_of_ble_eq_true rfl | (simp only [jrm]; omega)), (by first | exact Nat.le_of_ble_eq_true rfl | (simp only [jrm]; omega))⟩ (Nat.le_of_ble_eq_true rfl) d_Law_law_643 (fun r49 h49 n49 P49 => ?_)
    obtain ⟨rfl, rfl, rfl⟩ := P49
    refine j_iload d_Law_law_646 1 rfl ?_
    refine j_icmp_eq_t (tgt := 653) d_Law_law_648 (by decide) (by decide) ?_
    refine j_iload d_Law_law_653 1 rfl ?_
    refine j_if_ne_t (tgt := 669) d_Law_law_655 (by decide) (by decide) ?_
    refine j_goto (tgt := 822) d_Law_law_669 (by decide) ?_
    refine j_iinc d_Law_law_822 2 rfl rfl (Nat.le_of_ble_eq_true rfl) rfl ?_
    refine j_goto (tgt := 23) d_Law_law_825 (by decide) ?_
    refine j_iload d_Law_law_23 0 rfl ?_
    refine j_aload_n d_Law_law_25 6 rfl ?_
    refine j_slen hX hbl d_Law_law_26 ?_
    refine j_iconst d_Law_law_27 (v := 4) (by decide) ?_
    refine j_isub d_Law_law_28 ?_
    refine j_icmp_gt_t (tgt := 828) d_Law_law_29 (by decide) (by decide) ?_
    refine j_iconst d_Law_law_828 (v := 1) (by decide) ?_
    exact j_lawEnd (Nat.le_of_ble_eq_true rfl) (Nat.le_of_ble_eq_true rfl)
set_option maxHeartbeats 4000000 in
set_option maxRecDepth 100000 in
theorem lc_value {b : Nat} {D : va_G} {Y : Nat → ClassId} {p : Program} {l : Launch} {e : Env} {s : State} {m : MethodId} {below : List Frame} {meth : Method} {c : Code} (Z : jS0 b D Y s) (xs : Nat → Int32) (hX : va_X b 4 xs s s.heap) (hbl : b < s.heap.size) (hlt : l.stackTraces = false) (d : Nat) (h : jH) (HD : jDesk Y h d) (HM : jModl Y h (d + 208)) (HR : h (d + 231) = some (.inl (Y 1, 1, .inr (.inl (fun _ => 0))))) : jW b D Y s p l e room_1 s m #[Value.ref b] below meth c "FactorDeskLaw" code 8 ret meth.name (lw_Z below #[Value.ref b] s) 723 [(4, .int 0), (3, .ref (d + 231)), (2, .ref (d + 208)), (1, .ref d), (0, .ref b)] [] h (d + 232) 232 14861 := by
  by_cases hc : 1 ≤ xs 3
  · refine j_aload_n d_Law_law_723 3 rfl ?_
    refine j_aload_n d_Law_law_724 4 rfl ?_
    refine j_iload d_Law_law_725 0 rfl ?_
    refine j_iconst d_Law_law_727 (v := 1) (by decide) ?_
    refine j_iadd d_Law_law_728 ?_
    refine j_sld (v := xs 1) hX hbl (by unfold vp_in; decide) rfl d_Law_law_729 ?_
    refine j_i2l d_Law_law_730 rfl ?_
    refine j_bipush d_Law_law_731 (v := 32) (by decide) ?_
    refine j_lshl d_Law_law_733 rfl ?_
    refine j_aload_n d_Law_law_734 4 rfl ?_
    refine j_iload d_Law_law_735 0 rfl ?_
    refine j_iconst d_Law_law_737 (v := 2) (by decide) ?_
    refine j_iadd d_Law_law_738 ?_
    refine j_sld (v := xs 2) hX hbl (by unfold vp_in; decide) rfl d_Law_law_739 ?_
    refine j_i2l d_Law_law_740 rfl ?_
    refine j_ldc2 g_1222 d_Law_law_741 ?_
    refine j_land d_Law_law_744 ?_
    refine j_lor d_Law_law_745 ?_
    refine j_aload_n d_Law_law_746 4 rfl ?_
    refine j_iload d_Law_law_747 0 rfl ?_
    refine j_iconst d_Law_law_749 (v := 3) (by decide) ?_
    refine j_iadd d_Law_law_750 ?_
    refine j_sld (v := xs 3) hX hbl (by unfold vp_in; decide) rfl d_Law_law_751 ?_
    refine j_aload_n d_Law_law_752 1 rfl ?_
    refine j_callSW (w_value l Z d (d + 231) _ _ HD _ (xs 3) hc (m64_ne hc) _ (by omega) HR) ⟨⟨Nat.le_of_ble_eq_true rfl, Nat.le_of_ble_eq_true rfl⟩, g_840, g_842, g_0, (by decide +kernel), (by decide +kernel), (show _ = some 4 from by decide +kernel)⟩ g_841 ⟨Nat.le_of_ble_eq_true rfl, Nat.le_of_ble_eq_true rfl⟩ (Nat.le_of_ble_eq_true rfl) d_Law_law_753 (fun r50 h50 n50 P50 => ?_)
    obtain ⟨rfl, rfl, O50, F50⟩ := P50
    have HM50 := HM.keep (fun x h1 h2 => F50 x (by omega) (by omega))
    refine j_istore d_Law_law_756 (Nat.le_of_ble_eq_true rfl) rfl ?_
    refine j_aload_n d_Law_law_758 3 rfl ?_
    refine j_aload_n d_Law_law_759 5 rfl ?_
    refine j_iload d_Law_law_760 1 rfl ?_
    refine j_iconst d_Law_law_762 (v := 1) (by decide) ?_
    refine j_iadd d_Law_law_763 ?_
    refine j_sld (v := xs 1) hX hbl (by unfold vp_in; decide) rfl d_Law_law_764 ?_
    refine j_i2l d_Law_law_765 rfl ?_
    refine j_bipush d_Law_law_766 (v := 32) (by decide) ?_
    refine j_lshl d_Law_law_768 rfl ?_
    refine j_aload_n d_Law_law_769 5 rfl ?_
    refine j_iload d_Law_law_770 1 rfl ?_
    refine j_iconst d_Law_law_772 (v := 2) (by decide) ?_
    refine j_iadd d_Law_law_773 ?_
    refine j_sld (v := xs 2) hX hbl (by unfold vp_in; decide) rfl d_Law_law_774 ?_
    refine j_i2l d_Law_law_775 rfl ?_
    refine j_ldc2 g_1222 d_Law_law_776 ?_
    refine j_land d_Law_law_779 ?_
    refine j_lor d_Law_law_780 ?_
    refine j_aload_n d_Law_law_781 5 rfl ?_
    refine j_iload d_Law_law_782 1 rfl ?_
    refine j_iconst d_Law_law_784 (v := 3) (by decide) ?_
    refine j_iadd d_Law_law_785 ?_
    refine j_sld (v := xs 3) hX hbl (by unfold vp_in; decide) rfl d_Law_law_786 ?_
    refine j_callV (m_value l Z (d + 208) _ _ HM50 _ (xs 3) hc (m64_ne hc)) ⟨⟨Nat.le_of_ble_eq_true rfl, Nat.le_of_ble_eq_true rfl⟩, g_1218, g_1221, g_10, (by decide +kernel), (by decide +kernel), (show _ = some 2 from by decide +kernel)⟩ g_1219 g_1220 (ci := 9) rfl HM50.1 ⟨(by first | exact Nat.le_of_ble_eq_true rfl | (simp only [jrm]; omega)), (by first | exact Nat.le_of_ble_eq_true rfl | (simp only [jrm]; omega))⟩ (Nat.le_of_ble_eq_true rfl) d_Law_law_787 (fun r51 h51 n51 P51 => ?_)
    obtain ⟨rfl, rfl, ⟨fs51, O51⟩, F51⟩ := P51
    have R51 := (F51 (d + 231) (by omega)).trans O50
    refine j_lstore d_Law_law_790 (Nat.le_of_ble_eq_true rfl) rfl ?_
    refine j_aload_n d_Law_law_792 4 rfl ?_
    refine j_callV (k_thrown l Z (d + 208) _ _ _ _ O51) ⟨⟨Nat.le_of_ble_eq_true rfl, Nat.le_of_ble_eq_true rfl⟩, g_962, g_965, g_10, by decide +kernel⟩ g_963 g_964 (ci := 9) rfl O51 ⟨(by first | exact Nat.le_of_ble_eq_true rfl | (simp only [jrm]; omega)), (by first | exact Nat.le_of_ble_eq_true rfl | (simp only [jrm]; omega))⟩ (Nat.le_of_ble_eq_true rfl) d_Law_law_793 (fun r52 h52 n52 P52 => ?_)
    obtain ⟨rfl, rfl, rfl⟩ := P52
    refine j_iload d_Law_law_796 1 rfl ?_
    refine j_icmp_eq_t (tgt := 803) d_Law_law_798 (by decide) (by decide) ?_
    refine j_iload d_Law_law_803 1 rfl ?_
    refine j_if_ne_f (tgt := 819) d_Law_law_805 (by decide) (by decide) ?_
    refine j_aload_n d_Law_law_808 3 rfl ?_
    refine j_iconst d_Law_law_809 (v := 0) (by decide) ?_
    refine j_lald d_Law_law_810 R51 (by unfold vp_in; decide) ?_
    refine j_lload d_Law_law_811 0 rfl ?_
    refine j_lcmp d_Law_law_813 ?_
    refine j_if_eq_t (tgt := 819) d_Law_law_814 (by decide) (lgc (jv_eq hc _ _)) ?_
    refine j_goto (tgt := 822) d_Law_law_819 (by decide) ?_
    refine j_iinc d_Law_law_822 2 rfl rfl (Nat.le_of_ble_eq_true rfl) rfl ?_
    refine j_goto (tgt := 23) d_Law_law_825 (by decide) ?_
    refine j_iload d_Law_law_23 0 rfl ?_
    refine j_aload_n d_Law_law_25 6 rfl ?_
    refine j_slen hX hbl d_Law_law_26 ?_
    refine j_iconst d_Law_law_27 (v := 4) (by decide) ?_
    refine j_isub d_Law_law_28 ?_
    refine j_icmp_gt_t (tgt := 828) d_Law_law_29 (by decide) (by decide) ?_
    refine j_iconst d_Law_law_828 (v := 1) (by decide) ?_
    exact j_lawEnd (Nat.le_of_ble_eq_true rfl) (Nat.le_of_ble_eq_true rfl)
  · refine j_aload_n d_Law_law_723 3 rfl ?_
    refine j_aload_n d_Law_law_724 4 rfl ?_
    refine j_iload d_Law_law_725 0 rfl ?_
    refine j_iconst d_Law_law_727 (v := 1) (by decide) ?_
    refine j_iadd d_Law_law_728 ?_
    refine j_sld (v := xs 1) hX hbl (by unfold vp_in; decide) rfl d_Law_law_729 ?_
    refine j_i2l d_Law_law_730 rfl ?_
    refine j_bipush d_Law_law_731 (v := 32) (by decide) ?_
    refine j_lshl d_Law_law_733 rfl ?_
    refine j_aload_n d_Law_law_734 4 rfl ?_
    refine j_iload d_Law_law_735 0 rfl ?_
    refine j_iconst d_Law_law_737 (v := 2) (by decide) ?_
    refine j_iadd d_Law_law_738 ?_
    refine j_sld (v := xs 2) hX hbl (by unfold vp_in; decide) rfl d_Law_law_739 ?_
    refine j_i2l d_Law_law_740 rfl ?_
    refine j_ldc2 g_1222 d_Law_law_741 ?_
    refine j_land d_Law_law_744 ?_
    refine j_lor d_Law_law_745 ?_
    refine j_aload_n d_Law_law_746 4 rfl ?_
    refine j_iload d_Law_law_747 0 rfl ?_
    refine j_iconst d_Law_law_749 (v := 3) (by decide) ?_
    refine j_iadd d_Law_law_750 ?_
    refine j_sld (v := xs 3) hX hbl (by unfold vp_in; decide) rfl d_Law_law_751 ?_
    refine j_aload_n d_Law_law_752 1 rfl ?_
    refine j_callSW (wx_value l Z hlt d (d + 231) _ _ HD _ (xs 3) hc) ⟨⟨Nat.le_of_ble_eq_true rfl, Nat.le_of_ble_eq_true rfl⟩, g_840, g_842, g_0, (by decide +kernel), (by decide +kernel), (show _ = some 4 from by decide +kernel)⟩ g_841 ⟨Nat.le_of_ble_eq_true rfl, Nat.le_of_ble_eq_true rfl⟩ (Nat.le_of_ble_eq_true rfl) d_Law_law_753 (fun r53 h53 n53 P53 => ?_)
    obtain ⟨rfl, e1, e2⟩ := P53
    subst e1
    subst e2
    refine j_istore d_Law_law_756 (Nat.le_of_ble_eq_true rfl) rfl ?_
    refine j_aload_n d_Law_law_758 3 rfl ?_
    refine j_aload_n d_Law_law_759 5 rfl ?_
    refine j_iload d_Law_law_760 1 rfl ?_
    refine j_iconst d_Law_law_762 (v := 1) (by decide) ?_
    refine j_iadd d_Law_law_763 ?_
    refine j_sld (v := xs 1) hX hbl (by unfold vp_in; decide) rfl d_Law_law_764 ?_
    refine j_i2l d_Law_law_765 rfl ?_
    refine j_bipush d_Law_law_766 (v := 32) (by decide) ?_
    refine j_lshl d_Law_law_768 rfl ?_
    refine j_aload_n d_Law_law_769 5 rfl ?_
    refine j_iload d_Law_law_770 1 rfl ?_
    refine j_iconst d_Law_law_772 (v := 2) (by decide) ?_
    refine j_iadd d_Law_law_773 ?_
    refine j_sld (v := xs 2) hX hbl (by unfold vp_in; decide) rfl d_Law_law_774 ?_
    refine j_i2l d_Law_law_775 rfl ?_
    refine j_ldc2 g_1222 d_Law_law_776 ?_
    refine j_land d_Law_law_779 ?_
    refine j_lor d_Law_law_780 ?_
    refine j_aload_n d_Law_law_781 5 rfl ?_
    refine j_iload d_Law_law_782 1 rfl ?_
    refine j_iconst d_Law_law_784 (v := 3) (by decide) ?_
    refine j_iadd d_Law_law_785 ?_
    refine j_sld (v := xs 3) hX hbl (by unfold vp_in; decide) rfl d_Law_law_786 ?_
    refine j_callV (n_value l Z (d + 208) _ _ HM _ (xs 3) hc) ⟨⟨Nat.le_of_ble_eq_true rfl, Nat.le_of_ble_eq_true rfl⟩, g_1218, g_1221, g_10, (by decide +kernel), (by decide +kernel), (show _ = some 2 from by decide +kernel)⟩ g_1219 g_1220 (ci := 9) rfl HM.1 ⟨(by first | exact Nat.le_of_ble_eq_true rfl | (simp only [jrm]; omega)), (by first | exact Nat.le_of_ble_eq_true rfl | (simp only [jrm]; omega))⟩ (Nat.le_of_ble_eq_true rfl) d_Law_law_787 (fun r54 h54 n54 P54 => ?_)
    obtain ⟨rfl, rfl, ⟨fs54, O54⟩, F54⟩ := P54
    have R54 := (F54 (d + 231) (by omega)).trans HR
    refine j_lstore d_Law_law_790 (Nat.le_of_ble_eq_true rfl) rfl ?_
    refine j_aload_n d_Law_law_792 4 rfl ?_
    refine j_callV (k_thrown l Z (d + 208) _ _ _ _ O54) ⟨⟨Nat.le_of_ble_eq_true rfl, Nat.le_of_ble_eq_true rfl⟩, g_962, g_965, g_10, by decide +kernel⟩ g_963 g_964 (ci := 9) rfl O54 ⟨(by first | exact Nat.le_of_ble_eq_true rfl | (simp only [jrm]; omega)), (by first | exact Nat.le_of_ble_eq_true rfl | (simp only [jrm]; omega))⟩ (Nat.le_of_ble_eq_true rfl) d_Law_law_793 (fun r55 h55 n55 P55 => ?_)
    obtain ⟨rfl, rfl, rfl⟩ := P55
    refine j_iload d_Law_law_796 1 rfl ?_
    refine j_icmp_eq_t (tgt := 803) d_Law_law_798 (by decide) (by decide) ?_
    refine j_iload d_Law_law_803 1 rfl ?_
    refine j_if_ne_t (tgt := 819) d_Law_law_805 (by decide) (by decide) ?_
    refine j_goto (tgt := 822) d_Law_law_819 (by decide) ?_
    refine j_iinc d_Law_law_822 2 rfl rfl (Nat.le_of_ble_eq_true rfl) rfl ?_
    refine j_goto (tgt := 23) d_Law_law_825 (by decide) ?_
    refine j_iload d_Law_law_23 0 rfl ?_
    refine j_aload_n d_Law_law_25 6 rfl ?_
    refine j_slen hX hbl d_Law_law_26 ?_
    refine j_iconst d_Law_law_27 (v := 4) (by decide) ?_
    refine j_isub d_Law_law_28 ?_
    refine j_icmp_gt_t (tgt := 828) d_Law_law_29 (by decide) (by decide) ?_
    refine j_iconst d_Law_law_828 (v := 1) (by decide) ?_
    exact j_lawEnd (Nat.le_of_ble_eq_true rfl) (Nat.le_of_ble_eq_true rfl)
