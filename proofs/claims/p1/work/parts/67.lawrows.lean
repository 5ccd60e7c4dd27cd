/-! ===== the law's own rows ===== -/
abbrev b_L_law : ByteArray := code
theorem d_L_law_0 : decode b_L_law 0 = .ok (.new 8, 3) := by decide +kernel
theorem d_L_law_3 : decode b_L_law 3 = .ok (.dup, 1) := by decide +kernel
theorem d_L_law_4 : decode b_L_law 4 = .ok (.invokespecial 86, 3) := by decide +kernel
theorem d_L_law_7 : decode b_L_law 7 = .ok (.astore_n 1, 1) := by decide +kernel
theorem d_L_law_8 : decode b_L_law 8 = .ok (.new 87, 3) := by decide +kernel
theorem d_L_law_11 : decode b_L_law 11 = .ok (.dup, 1) := by decide +kernel
theorem d_L_law_12 : decode b_L_law 12 = .ok (.invokespecial 89, 3) := by decide +kernel
theorem d_L_law_15 : decode b_L_law 15 = .ok (.astore_n 2, 1) := by decide +kernel
theorem d_L_law_16 : decode b_L_law 16 = .ok (.iconst 1, 1) := by decide +kernel
theorem d_L_law_17 : decode b_L_law 17 = .ok (.newarray .long, 2) := by decide +kernel
theorem d_L_law_19 : decode b_L_law 19 = .ok (.astore_n 3, 1) := by decide +kernel
theorem d_L_law_20 : decode b_L_law 20 = .ok (.iconst 0, 1) := by decide +kernel
theorem d_L_law_21 : decode b_L_law 21 = .ok (.istore 4, 2) := by decide +kernel
theorem d_L_law_23 : decode b_L_law 23 = .ok (.iload 4, 2) := by decide +kernel
theorem d_L_law_25 : decode b_L_law 25 = .ok (.aload_n 0, 1) := by decide +kernel
theorem d_L_law_26 : decode b_L_law 26 = .ok (.arraylength, 1) := by decide +kernel
theorem d_L_law_27 : decode b_L_law 27 = .ok (.iconst 4, 1) := by decide +kernel
theorem d_L_law_28 : decode b_L_law 28 = .ok (.isub, 1) := by decide +kernel
theorem d_L_law_29 : decode b_L_law 29 = .ok (.if_icmp .gt 1445, 3) := by decide +kernel
theorem d_L_law_32 : decode b_L_law 32 = .ok (.aload_n 0, 1) := by decide +kernel
theorem d_L_law_33 : decode b_L_law 33 = .ok (.iload 4, 2) := by decide +kernel
theorem d_L_law_35 : decode b_L_law 35 = .ok (.iaload, 1) := by decide +kernel
theorem d_L_law_36 : decode b_L_law 36 = .ok (.bipush 31, 2) := by decide +kernel
theorem d_L_law_38 : decode b_L_law 38 = .ok (.iand, 1) := by decide +kernel
theorem d_L_law_39 : decode b_L_law 39 = .ok (.tableswitch 1429 0 20 #[97, 165, 241, 301, 388, 436, 536, 580, 593, 649, 717, 785, 841, 889, 965, 1033, 1089, 1157, 1237, 1305, 1373], 97) := by decide +kernel
theorem d_L_law_136 : decode b_L_law 136 = .ok (.aload_n 1, 1) := by decide +kernel
theorem d_L_law_137 : decode b_L_law 137 = .ok (.aload_n 0, 1) := by decide +kernel
theorem d_L_law_138 : decode b_L_law 138 = .ok (.iload 4, 2) := by decide +kernel
theorem d_L_law_140 : decode b_L_law 140 = .ok (.iconst 1, 1) := by decide +kernel
theorem d_L_law_141 : decode b_L_law 141 = .ok (.iadd, 1) := by decide +kernel
theorem d_L_law_142 : decode b_L_law 142 = .ok (.iaload, 1) := by decide +kernel
theorem d_L_law_143 : decode b_L_law 143 = .ok (.aload_n 0, 1) := by decide +kernel
theorem d_L_law_144 : decode b_L_law 144 = .ok (.iload 4, 2) := by decide +kernel
theorem d_L_law_146 : decode b_L_law 146 = .ok (.iconst 2, 1) := by decide +kernel
theorem d_L_law_147 : decode b_L_law 147 = .ok (.iadd, 1) := by decide +kernel
theorem d_L_law_148 : decode b_L_law 148 = .ok (.iaload, 1) := by decide +kernel
theorem d_L_law_149 : decode b_L_law 149 = .ok (.aload_n 3, 1) := by decide +kernel
theorem d_L_law_150 : decode b_L_law 150 = .ok (.invokestatic 90, 3) := by decide +kernel
theorem d_L_law_153 : decode b_L_law 153 = .ok (.istore 5, 2) := by decide +kernel
theorem d_L_law_155 : decode b_L_law 155 = .ok (.aload_n 2, 1) := by decide +kernel
theorem d_L_law_156 : decode b_L_law 156 = .ok (.aload_n 0, 1) := by decide +kernel
theorem d_L_law_157 : decode b_L_law 157 = .ok (.iload 4, 2) := by decide +kernel
theorem d_L_law_159 : decode b_L_law 159 = .ok (.iconst 1, 1) := by decide +kernel
theorem d_L_law_160 : decode b_L_law 160 = .ok (.iadd, 1) := by decide +kernel
theorem d_L_law_161 : decode b_L_law 161 = .ok (.iaload, 1) := by decide +kernel
theorem d_L_law_162 : decode b_L_law 162 = .ok (.aload_n 0, 1) := by decide +kernel
theorem d_L_law_163 : decode b_L_law 163 = .ok (.iload 4, 2) := by decide +kernel
theorem d_L_law_165 : decode b_L_law 165 = .ok (.iconst 2, 1) := by decide +kernel
theorem d_L_law_166 : decode b_L_law 166 = .ok (.iadd, 1) := by decide +kernel
theorem d_L_law_167 : decode b_L_law 167 = .ok (.iaload, 1) := by decide +kernel
theorem d_L_law_168 : decode b_L_law 168 = .ok (.invokevirtual 95, 3) := by decide +kernel
theorem d_L_law_171 : decode b_L_law 171 = .ok (.istore 6, 2) := by decide +kernel
theorem d_L_law_173 : decode b_L_law 173 = .ok (.aload_n 2, 1) := by decide +kernel
theorem d_L_law_174 : decode b_L_law 174 = .ok (.invokevirtual 96, 3) := by decide +kernel
theorem d_L_law_177 : decode b_L_law 177 = .ok (.iload 5, 2) := by decide +kernel
theorem d_L_law_179 : decode b_L_law 179 = .ok (.if_icmp .eq 5, 3) := by decide +kernel
theorem d_L_law_182 : decode b_L_law 182 = .ok (.iconst 0, 1) := by decide +kernel
theorem d_L_law_183 : decode b_L_law 183 = .ok (.ireturn, 1) := by decide +kernel
theorem d_L_law_184 : decode b_L_law 184 = .ok (.iload 5, 2) := by decide +kernel
theorem d_L_law_186 : decode b_L_law 186 = .ok (.ifCond .ne 15, 3) := by decide +kernel
theorem d_L_law_189 : decode b_L_law 189 = .ok (.aload_n 3, 1) := by decide +kernel
theorem d_L_law_190 : decode b_L_law 190 = .ok (.iconst 0, 1) := by decide +kernel
theorem d_L_law_191 : decode b_L_law 191 = .ok (.laload, 1) := by decide +kernel
theorem d_L_law_192 : decode b_L_law 192 = .ok (.iload 6, 2) := by decide +kernel
theorem d_L_law_194 : decode b_L_law 194 = .ok (.i2l, 1) := by decide +kernel
theorem d_L_law_195 : decode b_L_law 195 = .ok (.lcmp, 1) := by decide +kernel
theorem d_L_law_196 : decode b_L_law 196 = .ok (.ifCond .eq 5, 3) := by decide +kernel
theorem d_L_law_199 : decode b_L_law 199 = .ok (.iconst 0, 1) := by decide +kernel
theorem d_L_law_200 : decode b_L_law 200 = .ok (.ireturn, 1) := by decide +kernel
theorem d_L_law_201 : decode b_L_law 201 = .ok (.goto 1267, 3) := by decide +kernel
theorem d_L_law_204 : decode b_L_law 204 = .ok (.aload_n 1, 1) := by decide +kernel
theorem d_L_law_205 : decode b_L_law 205 = .ok (.aload_n 0, 1) := by decide +kernel
theorem d_L_law_206 : decode b_L_law 206 = .ok (.iload 4, 2) := by decide +kernel
theorem d_L_law_208 : decode b_L_law 208 = .ok (.iconst 1, 1) := by decide +kernel
theorem d_L_law_209 : decode b_L_law 209 = .ok (.iadd, 1) := by decide +kernel
theorem d_L_law_210 : decode b_L_law 210 = .ok (.iaload, 1) := by decide +kernel
theorem d_L_law_211 : decode b_L_law 211 = .ok (.aload_n 0, 1) := by decide +kernel
theorem d_L_law_212 : decode b_L_law 212 = .ok (.iload 4, 2) := by decide +kernel
theorem d_L_law_214 : decode b_L_law 214 = .ok (.iconst 2, 1) := by decide +kernel
theorem d_L_law_215 : decode b_L_law 215 = .ok (.iadd, 1) := by decide +kernel
theorem d_L_law_216 : decode b_L_law 216 = .ok (.iaload, 1) := by decide +kernel
theorem d_L_law_217 : decode b_L_law 217 = .ok (.aload_n 0, 1) := by decide +kernel
theorem d_L_law_218 : decode b_L_law 218 = .ok (.iload 4, 2) := by decide +kernel
theorem d_L_law_220 : decode b_L_law 220 = .ok (.iconst 3, 1) := by decide +kernel
theorem d_L_law_221 : decode b_L_law 221 = .ok (.iadd, 1) := by decide +kernel
theorem d_L_law_222 : decode b_L_law 222 = .ok (.iaload, 1) := by decide +kernel
theorem d_L_law_223 : decode b_L_law 223 = .ok (.ifCond .eq 7, 3) := by decide +kernel
theorem d_L_law_226 : decode b_L_law 226 = .ok (.iconst 1, 1) := by decide +kernel
theorem d_L_law_227 : decode b_L_law 227 = .ok (.goto 4, 3) := by decide +kernel
theorem d_L_law_230 : decode b_L_law 230 = .ok (.iconst 0, 1) := by decide +kernel
theorem d_L_law_231 : decode b_L_law 231 = .ok (.invokestatic 99, 3) := by decide +kernel
theorem d_L_law_234 : decode b_L_law 234 = .ok (.istore 5, 2) := by decide +kernel
theorem d_L_law_236 : decode b_L_law 236 = .ok (.aload_n 2, 1) := by decide +kernel
theorem d_L_law_237 : decode b_L_law 237 = .ok (.aload_n 0, 1) := by decide +kernel
theorem d_L_law_238 : decode b_L_law 238 = .ok (.iload 4, 2) := by decide +kernel
theorem d_L_law_240 : decode b_L_law 240 = .ok (.iconst 1, 1) := by decide +kernel
theorem d_L_law_241 : decode b_L_law 241 = .ok (.iadd, 1) := by decide +kernel
theorem d_L_law_242 : decode b_L_law 242 = .ok (.iaload, 1) := by decide +kernel
theorem d_L_law_243 : decode b_L_law 243 = .ok (.aload_n 0, 1) := by decide +kernel
theorem d_L_law_244 : decode b_L_law 244 = .ok (.iload 4, 2) := by decide +kernel
theorem d_L_law_246 : decode b_L_law 246 = .ok (.iconst 2, 1) := by decide +kernel
theorem d_L_law_247 : decode b_L_law 247 = .ok (.iadd, 1) := by decide +kernel
theorem d_L_law_248 : decode b_L_law 248 = .ok (.iaload, 1) := by decide +kernel
theorem d_L_law_249 : decode b_L_law 249 = .ok (.aload_n 0, 1) := by decide +kernel
theorem d_L_law_250 : decode b_L_law 250 = .ok (.iload 4, 2) := by decide +kernel
theorem d_L_law_252 : decode b_L_law 252 = .ok (.iconst 3, 1) := by decide +kernel
theorem d_L_law_253 : decode b_L_law 253 = .ok (.iadd, 1) := by decide +kernel
theorem d_L_law_254 : decode b_L_law 254 = .ok (.iaload, 1) := by decide +kernel
theorem d_L_law_255 : decode b_L_law 255 = .ok (.ifCond .eq 7, 3) := by decide +kernel
theorem d_L_law_258 : decode b_L_law 258 = .ok (.iconst 1, 1) := by decide +kernel
theorem d_L_law_259 : decode b_L_law 259 = .ok (.goto 4, 3) := by decide +kernel
theorem d_L_law_262 : decode b_L_law 262 = .ok (.iconst 0, 1) := by decide +kernel
theorem d_L_law_263 : decode b_L_law 263 = .ok (.invokevirtual 102, 3) := by decide +kernel
theorem d_L_law_266 : decode b_L_law 266 = .ok (.aload_n 2, 1) := by decide +kernel
theorem d_L_law_267 : decode b_L_law 267 = .ok (.invokevirtual 96, 3) := by decide +kernel
theorem d_L_law_270 : decode b_L_law 270 = .ok (.iload 5, 2) := by decide +kernel
theorem d_L_law_272 : decode b_L_law 272 = .ok (.if_icmp .eq 5, 3) := by decide +kernel
theorem d_L_law_275 : decode b_L_law 275 = .ok (.iconst 0, 1) := by decide +kernel
theorem d_L_law_276 : decode b_L_law 276 = .ok (.ireturn, 1) := by decide +kernel
theorem d_L_law_277 : decode b_L_law 277 = .ok (.goto 1191, 3) := by decide +kernel
theorem d_L_law_280 : decode b_L_law 280 = .ok (.aload_n 1, 1) := by decide +kernel
theorem d_L_law_281 : decode b_L_law 281 = .ok (.aload_n 0, 1) := by decide +kernel
theorem d_L_law_282 : decode b_L_law 282 = .ok (.iload 4, 2) := by decide +kernel
theorem d_L_law_284 : decode b_L_law 284 = .ok (.iconst 1, 1) := by decide +kernel
theorem d_L_law_285 : decode b_L_law 285 = .ok (.iadd, 1) := by decide +kernel
theorem d_L_law_286 : decode b_L_law 286 = .ok (.iaload, 1) := by decide +kernel
theorem d_L_law_287 : decode b_L_law 287 = .ok (.aload_n 0, 1) := by decide +kernel
theorem d_L_law_288 : decode b_L_law 288 = .ok (.iload 4, 2) := by decide +kernel
theorem d_L_law_290 : decode b_L_law 290 = .ok (.iconst 2, 1) := by decide +kernel
theorem d_L_law_291 : decode b_L_law 291 = .ok (.iadd, 1) := by decide +kernel
theorem d_L_law_292 : decode b_L_law 292 = .ok (.iaload, 1) := by decide +kernel
theorem d_L_law_293 : decode b_L_law 293 = .ok (.aload_n 0, 1) := by decide +kernel
theorem d_L_law_294 : decode b_L_law 294 = .ok (.iload 4, 2) := by decide +kernel
theorem d_L_law_296 : decode b_L_law 296 = .ok (.iconst 3, 1) := by decide +kernel
theorem d_L_law_297 : decode b_L_law 297 = .ok (.iadd, 1) := by decide +kernel
theorem d_L_law_298 : decode b_L_law 298 = .ok (.iaload, 1) := by decide +kernel
theorem d_L_law_299 : decode b_L_law 299 = .ok (.invokestatic 103, 3) := by decide +kernel
theorem d_L_law_302 : decode b_L_law 302 = .ok (.istore 5, 2) := by decide +kernel
theorem d_L_law_304 : decode b_L_law 304 = .ok (.aload_n 2, 1) := by decide +kernel
theorem d_L_law_305 : decode b_L_law 305 = .ok (.aload_n 0, 1) := by decide +kernel
theorem d_L_law_306 : decode b_L_law 306 = .ok (.iload 4, 2) := by decide +kernel
theorem d_L_law_308 : decode b_L_law 308 = .ok (.iconst 1, 1) := by decide +kernel
theorem d_L_law_309 : decode b_L_law 309 = .ok (.iadd, 1) := by decide +kernel
theorem d_L_law_310 : decode b_L_law 310 = .ok (.iaload, 1) := by decide +kernel
theorem d_L_law_311 : decode b_L_law 311 = .ok (.aload_n 0, 1) := by decide +kernel
theorem d_L_law_312 : decode b_L_law 312 = .ok (.iload 4, 2) := by decide +kernel
theorem d_L_law_314 : decode b_L_law 314 = .ok (.iconst 2, 1) := by decide +kernel
theorem d_L_law_315 : decode b_L_law 315 = .ok (.iadd, 1) := by decide +kernel
theorem d_L_law_316 : decode b_L_law 316 = .ok (.iaload, 1) := by decide +kernel
theorem d_L_law_317 : decode b_L_law 317 = .ok (.aload_n 0, 1) := by decide +kernel
theorem d_L_law_318 : decode b_L_law 318 = .ok (.iload 4, 2) := by decide +kernel
theorem d_L_law_320 : decode b_L_law 320 = .ok (.iconst 3, 1) := by decide +kernel
theorem d_L_law_321 : decode b_L_law 321 = .ok (.iadd, 1) := by decide +kernel
theorem d_L_law_322 : decode b_L_law 322 = .ok (.iaload, 1) := by decide +kernel
theorem d_L_law_323 : decode b_L_law 323 = .ok (.invokevirtual 106, 3) := by decide +kernel
theorem d_L_law_326 : decode b_L_law 326 = .ok (.aload_n 2, 1) := by decide +kernel
theorem d_L_law_327 : decode b_L_law 327 = .ok (.invokevirtual 96, 3) := by decide +kernel
theorem d_L_law_330 : decode b_L_law 330 = .ok (.iload 5, 2) := by decide +kernel
theorem d_L_law_332 : decode b_L_law 332 = .ok (.if_icmp .eq 5, 3) := by decide +kernel
theorem d_L_law_335 : decode b_L_law 335 = .ok (.iconst 0, 1) := by decide +kernel
theorem d_L_law_336 : decode b_L_law 336 = .ok (.ireturn, 1) := by decide +kernel
theorem d_L_law_337 : decode b_L_law 337 = .ok (.goto 1131, 3) := by decide +kernel
theorem d_L_law_340 : decode b_L_law 340 = .ok (.aload_n 1, 1) := by decide +kernel
theorem d_L_law_341 : decode b_L_law 341 = .ok (.aload_n 0, 1) := by decide +kernel
theorem d_L_law_342 : decode b_L_law 342 = .ok (.iload 4, 2) := by decide +kernel
theorem d_L_law_344 : decode b_L_law 344 = .ok (.iconst 1, 1) := by decide +kernel
theorem d_L_law_345 : decode b_L_law 345 = .ok (.iadd, 1) := by decide +kernel
theorem d_L_law_346 : decode b_L_law 346 = .ok (.iaload, 1) := by decide +kernel
theorem d_L_law_347 : decode b_L_law 347 = .ok (.aload_n 0, 1) := by decide +kernel
theorem d_L_law_348 : decode b_L_law 348 = .ok (.iload 4, 2) := by decide +kernel
theorem d_L_law_350 : decode b_L_law 350 = .ok (.iconst 2, 1) := by decide +kernel
theorem d_L_law_351 : decode b_L_law 351 = .ok (.iadd, 1) := by decide +kernel
theorem d_L_law_352 : decode b_L_law 352 = .ok (.iaload, 1) := by decide +kernel
theorem d_L_law_353 : decode b_L_law 353 = .ok (.aload_n 0, 1) := by decide +kernel
theorem d_L_law_354 : decode b_L_law 354 = .ok (.iload 4, 2) := by decide +kernel
theorem d_L_law_356 : decode b_L_law 356 = .ok (.iconst 3, 1) := by decide +kernel
theorem d_L_law_357 : decode b_L_law 357 = .ok (.iadd, 1) := by decide +kernel
theorem d_L_law_358 : decode b_L_law 358 = .ok (.iaload, 1) := by decide +kernel
theorem d_L_law_359 : decode b_L_law 359 = .ok (.aload_n 3, 1) := by decide +kernel
theorem d_L_law_360 : decode b_L_law 360 = .ok (.invokestatic 107, 3) := by decide +kernel
theorem d_L_law_363 : decode b_L_law 363 = .ok (.istore 5, 2) := by decide +kernel
theorem d_L_law_365 : decode b_L_law 365 = .ok (.aload_n 2, 1) := by decide +kernel
theorem d_L_law_366 : decode b_L_law 366 = .ok (.aload_n 0, 1) := by decide +kernel
theorem d_L_law_367 : decode b_L_law 367 = .ok (.iload 4, 2) := by decide +kernel
theorem d_L_law_369 : decode b_L_law 369 = .ok (.iconst 1, 1) := by decide +kernel
theorem d_L_law_370 : decode b_L_law 370 = .ok (.iadd, 1) := by decide +kernel
theorem d_L_law_371 : decode b_L_law 371 = .ok (.iaload, 1) := by decide +kernel
theorem d_L_law_372 : decode b_L_law 372 = .ok (.aload_n 0, 1) := by decide +kernel
theorem d_L_law_373 : decode b_L_law 373 = .ok (.iload 4, 2) := by decide +kernel
theorem d_L_law_375 : decode b_L_law 375 = .ok (.iconst 2, 1) := by decide +kernel
theorem d_L_law_376 : decode b_L_law 376 = .ok (.iadd, 1) := by decide +kernel
theorem d_L_law_377 : decode b_L_law 377 = .ok (.iaload, 1) := by decide +kernel
theorem d_L_law_378 : decode b_L_law 378 = .ok (.aload_n 0, 1) := by decide +kernel
theorem d_L_law_379 : decode b_L_law 379 = .ok (.iload 4, 2) := by decide +kernel
theorem d_L_law_381 : decode b_L_law 381 = .ok (.iconst 3, 1) := by decide +kernel
theorem d_L_law_382 : decode b_L_law 382 = .ok (.iadd, 1) := by decide +kernel
theorem d_L_law_383 : decode b_L_law 383 = .ok (.iaload, 1) := by decide +kernel
theorem d_L_law_384 : decode b_L_law 384 = .ok (.invokevirtual 110, 3) := by decide +kernel
theorem d_L_law_387 : decode b_L_law 387 = .ok (.istore 6, 2) := by decide +kernel
theorem d_L_law_389 : decode b_L_law 389 = .ok (.aload_n 2, 1) := by decide +kernel
theorem d_L_law_390 : decode b_L_law 390 = .ok (.invokevirtual 96, 3) := by decide +kernel
theorem d_L_law_393 : decode b_L_law 393 = .ok (.iload 5, 2) := by decide +kernel
theorem d_L_law_395 : decode b_L_law 395 = .ok (.if_icmp .eq 5, 3) := by decide +kernel
theorem d_L_law_398 : decode b_L_law 398 = .ok (.iconst 0, 1) := by decide +kernel
theorem d_L_law_399 : decode b_L_law 399 = .ok (.ireturn, 1) := by decide +kernel
theorem d_L_law_400 : decode b_L_law 400 = .ok (.iload 5, 2) := by decide +kernel
theorem d_L_law_402 : decode b_L_law 402 = .ok (.ifCond .ne 22, 3) := by decide +kernel
theorem d_L_law_405 : decode b_L_law 405 = .ok (.aload_n 3, 1) := by decide +kernel
theorem d_L_law_406 : decode b_L_law 406 = .ok (.iconst 0, 1) := by decide +kernel
theorem d_L_law_407 : decode b_L_law 407 = .ok (.laload, 1) := by decide +kernel
theorem d_L_law_408 : decode b_L_law 408 = .ok (.iload 6, 2) := by decide +kernel
theorem d_L_law_410 : decode b_L_law 410 = .ok (.ifCond .eq 7, 3) := by decide +kernel
theorem d_L_law_413 : decode b_L_law 413 = .ok (.lconst 1, 1) := by decide +kernel
theorem d_L_law_414 : decode b_L_law 414 = .ok (.goto 4, 3) := by decide +kernel
theorem d_L_law_417 : decode b_L_law 417 = .ok (.lconst 0, 1) := by decide +kernel
theorem d_L_law_418 : decode b_L_law 418 = .ok (.lcmp, 1) := by decide +kernel
theorem d_L_law_419 : decode b_L_law 419 = .ok (.ifCond .eq 5, 3) := by decide +kernel
theorem d_L_law_422 : decode b_L_law 422 = .ok (.iconst 0, 1) := by decide +kernel
theorem d_L_law_423 : decode b_L_law 423 = .ok (.ireturn, 1) := by decide +kernel
theorem d_L_law_424 : decode b_L_law 424 = .ok (.goto 1044, 3) := by decide +kernel
theorem d_L_law_427 : decode b_L_law 427 = .ok (.aload_n 1, 1) := by decide +kernel
theorem d_L_law_428 : decode b_L_law 428 = .ok (.aload_n 0, 1) := by decide +kernel
theorem d_L_law_429 : decode b_L_law 429 = .ok (.iload 4, 2) := by decide +kernel
theorem d_L_law_431 : decode b_L_law 431 = .ok (.iconst 1, 1) := by decide +kernel
theorem d_L_law_432 : decode b_L_law 432 = .ok (.iadd, 1) := by decide +kernel
theorem d_L_law_433 : decode b_L_law 433 = .ok (.iaload, 1) := by decide +kernel
theorem d_L_law_434 : decode b_L_law 434 = .ok (.aload_n 0, 1) := by decide +kernel
theorem d_L_law_435 : decode b_L_law 435 = .ok (.iload 4, 2) := by decide +kernel
theorem d_L_law_437 : decode b_L_law 437 = .ok (.iconst 2, 1) := by decide +kernel
theorem d_L_law_438 : decode b_L_law 438 = .ok (.iadd, 1) := by decide +kernel
theorem d_L_law_439 : decode b_L_law 439 = .ok (.iaload, 1) := by decide +kernel
theorem d_L_law_440 : decode b_L_law 440 = .ok (.invokestatic 111, 3) := by decide +kernel
theorem d_L_law_443 : decode b_L_law 443 = .ok (.istore 5, 2) := by decide +kernel
theorem d_L_law_445 : decode b_L_law 445 = .ok (.aload_n 2, 1) := by decide +kernel
theorem d_L_law_446 : decode b_L_law 446 = .ok (.aload_n 0, 1) := by decide +kernel
theorem d_L_law_447 : decode b_L_law 447 = .ok (.iload 4, 2) := by decide +kernel
theorem d_L_law_449 : decode b_L_law 449 = .ok (.iconst 1, 1) := by decide +kernel
theorem d_L_law_450 : decode b_L_law 450 = .ok (.iadd, 1) := by decide +kernel
theorem d_L_law_451 : decode b_L_law 451 = .ok (.iaload, 1) := by decide +kernel
theorem d_L_law_452 : decode b_L_law 452 = .ok (.aload_n 0, 1) := by decide +kernel
theorem d_L_law_453 : decode b_L_law 453 = .ok (.iload 4, 2) := by decide +kernel
theorem d_L_law_455 : decode b_L_law 455 = .ok (.iconst 2, 1) := by decide +kernel
theorem d_L_law_456 : decode b_L_law 456 = .ok (.iadd, 1) := by decide +kernel
theorem d_L_law_457 : decode b_L_law 457 = .ok (.iaload, 1) := by decide +kernel
theorem d_L_law_458 : decode b_L_law 458 = .ok (.invokevirtual 114, 3) := by decide +kernel
theorem d_L_law_461 : decode b_L_law 461 = .ok (.aload_n 2, 1) := by decide +kernel
theorem d_L_law_462 : decode b_L_law 462 = .ok (.invokevirtual 96, 3) := by decide +kernel
theorem d_L_law_465 : decode b_L_law 465 = .ok (.iload 5, 2) := by decide +kernel
theorem d_L_law_467 : decode b_L_law 467 = .ok (.if_icmp .eq 5, 3) := by decide +kernel
theorem d_L_law_470 : decode b_L_law 470 = .ok (.iconst 0, 1) := by decide +kernel
theorem d_L_law_471 : decode b_L_law 471 = .ok (.ireturn, 1) := by decide +kernel
theorem d_L_law_472 : decode b_L_law 472 = .ok (.goto 996, 3) := by decide +kernel
theorem d_L_law_475 : decode b_L_law 475 = .ok (.aload_n 1, 1) := by decide +kernel
theorem d_L_law_476 : decode b_L_law 476 = .ok (.aload_n 0, 1) := by decide +kernel
theorem d_L_law_477 : decode b_L_law 477 = .ok (.iload 4, 2) := by decide +kernel
theorem d_L_law_479 : decode b_L_law 479 = .ok (.iconst 1, 1) := by decide +kernel
theorem d_L_law_480 : decode b_L_law 480 = .ok (.iadd, 1) := by decide +kernel
theorem d_L_law_481 : decode b_L_law 481 = .ok (.iaload, 1) := by decide +kernel
theorem d_L_law_482 : decode b_L_law 482 = .ok (.i2l, 1) := by decide +kernel
theorem d_L_law_483 : decode b_L_law 483 = .ok (.bipush 32, 2) := by decide +kernel
theorem d_L_law_485 : decode b_L_law 485 = .ok (.lshl, 1) := by decide +kernel
theorem d_L_law_486 : decode b_L_law 486 = .ok (.aload_n 0, 1) := by decide +kernel
theorem d_L_law_487 : decode b_L_law 487 = .ok (.iload 4, 2) := by decide +kernel
theorem d_L_law_489 : decode b_L_law 489 = .ok (.iconst 2, 1) := by decide +kernel
theorem d_L_law_490 : decode b_L_law 490 = .ok (.iadd, 1) := by decide +kernel
theorem d_L_law_491 : decode b_L_law 491 = .ok (.iaload, 1) := by decide +kernel
theorem d_L_law_492 : decode b_L_law 492 = .ok (.i2l, 1) := by decide +kernel
theorem d_L_law_493 : decode b_L_law 493 = .ok (.ldc2_w 115, 3) := by decide +kernel
theorem d_L_law_496 : decode b_L_law 496 = .ok (.land, 1) := by decide +kernel
theorem d_L_law_497 : decode b_L_law 497 = .ok (.lor, 1) := by decide +kernel
theorem d_L_law_498 : decode b_L_law 498 = .ok (.aload_n 0, 1) := by decide +kernel
theorem d_L_law_499 : decode b_L_law 499 = .ok (.iload 4, 2) := by decide +kernel
theorem d_L_law_501 : decode b_L_law 501 = .ok (.iconst 3, 1) := by decide +kernel
theorem d_L_law_502 : decode b_L_law 502 = .ok (.iadd, 1) := by decide +kernel
theorem d_L_law_503 : decode b_L_law 503 = .ok (.iaload, 1) := by decide +kernel
theorem d_L_law_504 : decode b_L_law 504 = .ok (.aload_n 3, 1) := by decide +kernel
theorem d_L_law_505 : decode b_L_law 505 = .ok (.invokestatic 117, 3) := by decide +kernel
theorem d_L_law_508 : decode b_L_law 508 = .ok (.istore 5, 2) := by decide +kernel
theorem d_L_law_510 : decode b_L_law 510 = .ok (.aload_n 2, 1) := by decide +kernel
theorem d_L_law_511 : decode b_L_law 511 = .ok (.aload_n 0, 1) := by decide +kernel
theorem d_L_law_512 : decode b_L_law 512 = .ok (.iload 4, 2) := by decide +kernel
theorem d_L_law_514 : decode b_L_law 514 = .ok (.iconst 1, 1) := by decide +kernel
theorem d_L_law_515 : decode b_L_law 515 = .ok (.iadd, 1) := by decide +kernel
theorem d_L_law_516 : decode b_L_law 516 = .ok (.iaload, 1) := by decide +kernel
theorem d_L_law_517 : decode b_L_law 517 = .ok (.i2l, 1) := by decide +kernel
theorem d_L_law_518 : decode b_L_law 518 = .ok (.bipush 32, 2) := by decide +kernel
theorem d_L_law_520 : decode b_L_law 520 = .ok (.lshl, 1) := by decide +kernel
theorem d_L_law_521 : decode b_L_law 521 = .ok (.aload_n 0, 1) := by decide +kernel
theorem d_L_law_522 : decode b_L_law 522 = .ok (.iload 4, 2) := by decide +kernel
theorem d_L_law_524 : decode b_L_law 524 = .ok (.iconst 2, 1) := by decide +kernel
theorem d_L_law_525 : decode b_L_law 525 = .ok (.iadd, 1) := by decide +kernel
theorem d_L_law_526 : decode b_L_law 526 = .ok (.iaload, 1) := by decide +kernel
theorem d_L_law_527 : decode b_L_law 527 = .ok (.i2l, 1) := by decide +kernel
theorem d_L_law_528 : decode b_L_law 528 = .ok (.ldc2_w 115, 3) := by decide +kernel
theorem d_L_law_531 : decode b_L_law 531 = .ok (.land, 1) := by decide +kernel
theorem d_L_law_532 : decode b_L_law 532 = .ok (.lor, 1) := by decide +kernel
theorem d_L_law_533 : decode b_L_law 533 = .ok (.aload_n 0, 1) := by decide +kernel
theorem d_L_law_534 : decode b_L_law 534 = .ok (.iload 4, 2) := by decide +kernel
theorem d_L_law_536 : decode b_L_law 536 = .ok (.iconst 3, 1) := by decide +kernel
theorem d_L_law_537 : decode b_L_law 537 = .ok (.iadd, 1) := by decide +kernel
theorem d_L_law_538 : decode b_L_law 538 = .ok (.iaload, 1) := by decide +kernel
theorem d_L_law_539 : decode b_L_law 539 = .ok (.invokevirtual 120, 3) := by decide +kernel
theorem d_L_law_542 : decode b_L_law 542 = .ok (.istore 6, 2) := by decide +kernel
theorem d_L_law_544 : decode b_L_law 544 = .ok (.aload_n 2, 1) := by decide +kernel
theorem d_L_law_545 : decode b_L_law 545 = .ok (.invokevirtual 96, 3) := by decide +kernel
theorem d_L_law_548 : decode b_L_law 548 = .ok (.iload 5, 2) := by decide +kernel
theorem d_L_law_550 : decode b_L_law 550 = .ok (.if_icmp .eq 5, 3) := by decide +kernel
theorem d_L_law_553 : decode b_L_law 553 = .ok (.iconst 0, 1) := by decide +kernel
theorem d_L_law_554 : decode b_L_law 554 = .ok (.ireturn, 1) := by decide +kernel
theorem d_L_law_555 : decode b_L_law 555 = .ok (.iload 5, 2) := by decide +kernel
theorem d_L_law_557 : decode b_L_law 557 = .ok (.ifCond .ne 15, 3) := by decide +kernel
theorem d_L_law_560 : decode b_L_law 560 = .ok (.aload_n 3, 1) := by decide +kernel
theorem d_L_law_561 : decode b_L_law 561 = .ok (.iconst 0, 1) := by decide +kernel
theorem d_L_law_562 : decode b_L_law 562 = .ok (.laload, 1) := by decide +kernel
theorem d_L_law_563 : decode b_L_law 563 = .ok (.iload 6, 2) := by decide +kernel
theorem d_L_law_565 : decode b_L_law 565 = .ok (.i2l, 1) := by decide +kernel
theorem d_L_law_566 : decode b_L_law 566 = .ok (.lcmp, 1) := by decide +kernel
theorem d_L_law_567 : decode b_L_law 567 = .ok (.ifCond .eq 5, 3) := by decide +kernel
theorem d_L_law_570 : decode b_L_law 570 = .ok (.iconst 0, 1) := by decide +kernel
theorem d_L_law_571 : decode b_L_law 571 = .ok (.ireturn, 1) := by decide +kernel
theorem d_L_law_572 : decode b_L_law 572 = .ok (.goto 896, 3) := by decide +kernel
theorem d_L_law_575 : decode b_L_law 575 = .ok (.aload_n 1, 1) := by decide +kernel
theorem d_L_law_576 : decode b_L_law 576 = .ok (.aload_n 3, 1) := by decide +kernel
theorem d_L_law_577 : decode b_L_law 577 = .ok (.invokestatic 121, 3) := by decide +kernel
theorem d_L_law_580 : decode b_L_law 580 = .ok (.istore 5, 2) := by decide +kernel
theorem d_L_law_582 : decode b_L_law 582 = .ok (.aload_n 2, 1) := by decide +kernel
theorem d_L_law_583 : decode b_L_law 583 = .ok (.invokevirtual 124, 3) := by decide +kernel
theorem d_L_law_586 : decode b_L_law 586 = .ok (.istore 6, 2) := by decide +kernel
theorem d_L_law_588 : decode b_L_law 588 = .ok (.aload_n 2, 1) := by decide +kernel
theorem d_L_law_589 : decode b_L_law 589 = .ok (.invokevirtual 96, 3) := by decide +kernel
theorem d_L_law_592 : decode b_L_law 592 = .ok (.iload 5, 2) := by decide +kernel
theorem d_L_law_594 : decode b_L_law 594 = .ok (.if_icmp .eq 5, 3) := by decide +kernel
theorem d_L_law_597 : decode b_L_law 597 = .ok (.iconst 0, 1) := by decide +kernel
theorem d_L_law_598 : decode b_L_law 598 = .ok (.ireturn, 1) := by decide +kernel
theorem d_L_law_599 : decode b_L_law 599 = .ok (.iload 5, 2) := by decide +kernel
theorem d_L_law_601 : decode b_L_law 601 = .ok (.ifCond .ne 15, 3) := by decide +kernel
theorem d_L_law_604 : decode b_L_law 604 = .ok (.aload_n 3, 1) := by decide +kernel
theorem d_L_law_605 : decode b_L_law 605 = .ok (.iconst 0, 1) := by decide +kernel
theorem d_L_law_606 : decode b_L_law 606 = .ok (.laload, 1) := by decide +kernel
theorem d_L_law_607 : decode b_L_law 607 = .ok (.iload 6, 2) := by decide +kernel
theorem d_L_law_609 : decode b_L_law 609 = .ok (.i2l, 1) := by decide +kernel
theorem d_L_law_610 : decode b_L_law 610 = .ok (.lcmp, 1) := by decide +kernel
theorem d_L_law_611 : decode b_L_law 611 = .ok (.ifCond .eq 5, 3) := by decide +kernel
theorem d_L_law_614 : decode b_L_law 614 = .ok (.iconst 0, 1) := by decide +kernel
theorem d_L_law_615 : decode b_L_law 615 = .ok (.ireturn, 1) := by decide +kernel
theorem d_L_law_616 : decode b_L_law 616 = .ok (.goto 852, 3) := by decide +kernel
theorem d_L_law_619 : decode b_L_law 619 = .ok (.aload_n 1, 1) := by decide +kernel
theorem d_L_law_620 : decode b_L_law 620 = .ok (.invokevirtual 125, 3) := by decide +kernel
theorem d_L_law_623 : decode b_L_law 623 = .ok (.aload_n 2, 1) := by decide +kernel
theorem d_L_law_624 : decode b_L_law 624 = .ok (.invokevirtual 128, 3) := by decide +kernel
theorem d_L_law_627 : decode b_L_law 627 = .ok (.if_icmp .eq 841, 3) := by decide +kernel
theorem d_L_law_630 : decode b_L_law 630 = .ok (.iconst 0, 1) := by decide +kernel
theorem d_L_law_631 : decode b_L_law 631 = .ok (.ireturn, 1) := by decide +kernel
theorem d_L_law_632 : decode b_L_law 632 = .ok (.aload_n 1, 1) := by decide +kernel
theorem d_L_law_633 : decode b_L_law 633 = .ok (.aload_n 0, 1) := by decide +kernel
theorem d_L_law_634 : decode b_L_law 634 = .ok (.iload 4, 2) := by decide +kernel
theorem d_L_law_636 : decode b_L_law 636 = .ok (.iconst 1, 1) := by decide +kernel
theorem d_L_law_637 : decode b_L_law 637 = .ok (.iadd, 1) := by decide +kernel
theorem d_L_law_638 : decode b_L_law 638 = .ok (.iaload, 1) := by decide +kernel
theorem d_L_law_639 : decode b_L_law 639 = .ok (.aload_n 3, 1) := by decide +kernel
theorem d_L_law_640 : decode b_L_law 640 = .ok (.invokestatic 129, 3) := by decide +kernel
theorem d_L_law_643 : decode b_L_law 643 = .ok (.istore 5, 2) := by decide +kernel
theorem d_L_law_645 : decode b_L_law 645 = .ok (.aload_n 2, 1) := by decide +kernel
theorem d_L_law_646 : decode b_L_law 646 = .ok (.aload_n 0, 1) := by decide +kernel
theorem d_L_law_647 : decode b_L_law 647 = .ok (.iload 4, 2) := by decide +kernel
theorem d_L_law_649 : decode b_L_law 649 = .ok (.iconst 1, 1) := by decide +kernel
theorem d_L_law_650 : decode b_L_law 650 = .ok (.iadd, 1) := by decide +kernel
theorem d_L_law_651 : decode b_L_law 651 = .ok (.iaload, 1) := by decide +kernel
theorem d_L_law_652 : decode b_L_law 652 = .ok (.invokevirtual 132, 3) := by decide +kernel
theorem d_L_law_655 : decode b_L_law 655 = .ok (.istore 6, 2) := by decide +kernel
theorem d_L_law_657 : decode b_L_law 657 = .ok (.aload_n 2, 1) := by decide +kernel
theorem d_L_law_658 : decode b_L_law 658 = .ok (.invokevirtual 96, 3) := by decide +kernel
theorem d_L_law_661 : decode b_L_law 661 = .ok (.iload 5, 2) := by decide +kernel
theorem d_L_law_663 : decode b_L_law 663 = .ok (.if_icmp .eq 5, 3) := by decide +kernel
theorem d_L_law_666 : decode b_L_law 666 = .ok (.iconst 0, 1) := by decide +kernel
theorem d_L_law_667 : decode b_L_law 667 = .ok (.ireturn, 1) := by decide +kernel
theorem d_L_law_668 : decode b_L_law 668 = .ok (.iload 5, 2) := by decide +kernel
theorem d_L_law_670 : decode b_L_law 670 = .ok (.ifCond .ne 15, 3) := by decide +kernel
theorem d_L_law_673 : decode b_L_law 673 = .ok (.aload_n 3, 1) := by decide +kernel
theorem d_L_law_674 : decode b_L_law 674 = .ok (.iconst 0, 1) := by decide +kernel
theorem d_L_law_675 : decode b_L_law 675 = .ok (.laload, 1) := by decide +kernel
theorem d_L_law_676 : decode b_L_law 676 = .ok (.iload 6, 2) := by decide +kernel
theorem d_L_law_678 : decode b_L_law 678 = .ok (.i2l, 1) := by decide +kernel
theorem d_L_law_679 : decode b_L_law 679 = .ok (.lcmp, 1) := by decide +kernel
theorem d_L_law_680 : decode b_L_law 680 = .ok (.ifCond .eq 5, 3) := by decide +kernel
theorem d_L_law_683 : decode b_L_law 683 = .ok (.iconst 0, 1) := by decide +kernel
theorem d_L_law_684 : decode b_L_law 684 = .ok (.ireturn, 1) := by decide +kernel
theorem d_L_law_685 : decode b_L_law 685 = .ok (.goto 783, 3) := by decide +kernel
theorem d_L_law_688 : decode b_L_law 688 = .ok (.aload_n 1, 1) := by decide +kernel
theorem d_L_law_689 : decode b_L_law 689 = .ok (.aload_n 0, 1) := by decide +kernel
theorem d_L_law_690 : decode b_L_law 690 = .ok (.iload 4, 2) := by decide +kernel
theorem d_L_law_692 : decode b_L_law 692 = .ok (.iconst 1, 1) := by decide +kernel
theorem d_L_law_693 : decode b_L_law 693 = .ok (.iadd, 1) := by decide +kernel
theorem d_L_law_694 : decode b_L_law 694 = .ok (.iaload, 1) := by decide +kernel
theorem d_L_law_695 : decode b_L_law 695 = .ok (.aload_n 0, 1) := by decide +kernel
theorem d_L_law_696 : decode b_L_law 696 = .ok (.iload 4, 2) := by decide +kernel
theorem d_L_law_698 : decode b_L_law 698 = .ok (.iconst 2, 1) := by decide +kernel
theorem d_L_law_699 : decode b_L_law 699 = .ok (.iadd, 1) := by decide +kernel
theorem d_L_law_700 : decode b_L_law 700 = .ok (.iaload, 1) := by decide +kernel
theorem d_L_law_701 : decode b_L_law 701 = .ok (.aload_n 3, 1) := by decide +kernel
theorem d_L_law_702 : decode b_L_law 702 = .ok (.invokestatic 133, 3) := by decide +kernel
theorem d_L_law_705 : decode b_L_law 705 = .ok (.istore 5, 2) := by decide +kernel
theorem d_L_law_707 : decode b_L_law 707 = .ok (.aload_n 2, 1) := by decide +kernel
theorem d_L_law_708 : decode b_L_law 708 = .ok (.aload_n 0, 1) := by decide +kernel
theorem d_L_law_709 : decode b_L_law 709 = .ok (.iload 4, 2) := by decide +kernel
theorem d_L_law_711 : decode b_L_law 711 = .ok (.iconst 1, 1) := by decide +kernel
theorem d_L_law_712 : decode b_L_law 712 = .ok (.iadd, 1) := by decide +kernel
theorem d_L_law_713 : decode b_L_law 713 = .ok (.iaload, 1) := by decide +kernel
theorem d_L_law_714 : decode b_L_law 714 = .ok (.aload_n 0, 1) := by decide +kernel
theorem d_L_law_715 : decode b_L_law 715 = .ok (.iload 4, 2) := by decide +kernel
theorem d_L_law_717 : decode b_L_law 717 = .ok (.iconst 2, 1) := by decide +kernel
theorem d_L_law_718 : decode b_L_law 718 = .ok (.iadd, 1) := by decide +kernel
theorem d_L_law_719 : decode b_L_law 719 = .ok (.iaload, 1) := by decide +kernel
theorem d_L_law_720 : decode b_L_law 720 = .ok (.invokevirtual 135, 3) := by decide +kernel
theorem d_L_law_723 : decode b_L_law 723 = .ok (.istore 6, 2) := by decide +kernel
theorem d_L_law_725 : decode b_L_law 725 = .ok (.aload_n 2, 1) := by decide +kernel
theorem d_L_law_726 : decode b_L_law 726 = .ok (.invokevirtual 96, 3) := by decide +kernel
theorem d_L_law_729 : decode b_L_law 729 = .ok (.iload 5, 2) := by decide +kernel
theorem d_L_law_731 : decode b_L_law 731 = .ok (.if_icmp .eq 5, 3) := by decide +kernel
theorem d_L_law_734 : decode b_L_law 734 = .ok (.iconst 0, 1) := by decide +kernel
theorem d_L_law_735 : decode b_L_law 735 = .ok (.ireturn, 1) := by decide +kernel
theorem d_L_law_736 : decode b_L_law 736 = .ok (.iload 5, 2) := by decide +kernel
theorem d_L_law_738 : decode b_L_law 738 = .ok (.ifCond .ne 15, 3) := by decide +kernel
theorem d_L_law_741 : decode b_L_law 741 = .ok (.aload_n 3, 1) := by decide +kernel
theorem d_L_law_742 : decode b_L_law 742 = .ok (.iconst 0, 1) := by decide +kernel
theorem d_L_law_743 : decode b_L_law 743 = .ok (.laload, 1) := by decide +kernel
theorem d_L_law_744 : decode b_L_law 744 = .ok (.iload 6, 2) := by decide +kernel
theorem d_L_law_746 : decode b_L_law 746 = .ok (.i2l, 1) := by decide +kernel
theorem d_L_law_747 : decode b_L_law 747 = .ok (.lcmp, 1) := by decide +kernel
theorem d_L_law_748 : decode b_L_law 748 = .ok (.ifCond .eq 5, 3) := by decide +kernel
theorem d_L_law_751 : decode b_L_law 751 = .ok (.iconst 0, 1) := by decide +kernel
theorem d_L_law_752 : decode b_L_law 752 = .ok (.ireturn, 1) := by decide +kernel
theorem d_L_law_753 : decode b_L_law 753 = .ok (.goto 715, 3) := by decide +kernel
theorem d_L_law_756 : decode b_L_law 756 = .ok (.aload_n 1, 1) := by decide +kernel
theorem d_L_law_757 : decode b_L_law 757 = .ok (.aload_n 0, 1) := by decide +kernel
theorem d_L_law_758 : decode b_L_law 758 = .ok (.iload 4, 2) := by decide +kernel
theorem d_L_law_760 : decode b_L_law 760 = .ok (.iconst 1, 1) := by decide +kernel
theorem d_L_law_761 : decode b_L_law 761 = .ok (.iadd, 1) := by decide +kernel
theorem d_L_law_762 : decode b_L_law 762 = .ok (.iaload, 1) := by decide +kernel
theorem d_L_law_763 : decode b_L_law 763 = .ok (.aload_n 0, 1) := by decide +kernel
theorem d_L_law_764 : decode b_L_law 764 = .ok (.iload 4, 2) := by decide +kernel
theorem d_L_law_766 : decode b_L_law 766 = .ok (.iconst 2, 1) := by decide +kernel
theorem d_L_law_767 : decode b_L_law 767 = .ok (.iadd, 1) := by decide +kernel
theorem d_L_law_768 : decode b_L_law 768 = .ok (.iaload, 1) := by decide +kernel
theorem d_L_law_769 : decode b_L_law 769 = .ok (.aload_n 3, 1) := by decide +kernel
theorem d_L_law_770 : decode b_L_law 770 = .ok (.invokestatic 136, 3) := by decide +kernel
theorem d_L_law_773 : decode b_L_law 773 = .ok (.istore 5, 2) := by decide +kernel
theorem d_L_law_775 : decode b_L_law 775 = .ok (.aload_n 2, 1) := by decide +kernel
theorem d_L_law_776 : decode b_L_law 776 = .ok (.aload_n 0, 1) := by decide +kernel
theorem d_L_law_777 : decode b_L_law 777 = .ok (.iload 4, 2) := by decide +kernel
theorem d_L_law_779 : decode b_L_law 779 = .ok (.iconst 1, 1) := by decide +kernel
theorem d_L_law_780 : decode b_L_law 780 = .ok (.iadd, 1) := by decide +kernel
theorem d_L_law_781 : decode b_L_law 781 = .ok (.iaload, 1) := by decide +kernel
theorem d_L_law_782 : decode b_L_law 782 = .ok (.aload_n 0, 1) := by decide +kernel
theorem d_L_law_783 : decode b_L_law 783 = .ok (.iload 4, 2) := by decide +kernel
theorem d_L_law_785 : decode b_L_law 785 = .ok (.iconst 2, 1) := by decide +kernel
theorem d_L_law_786 : decode b_L_law 786 = .ok (.iadd, 1) := by decide +kernel
theorem d_L_law_787 : decode b_L_law 787 = .ok (.iaload, 1) := by decide +kernel
theorem d_L_law_788 : decode b_L_law 788 = .ok (.invokevirtual 138, 3) := by decide +kernel
theorem d_L_law_791 : decode b_L_law 791 = .ok (.istore 6, 2) := by decide +kernel
theorem d_L_law_793 : decode b_L_law 793 = .ok (.aload_n 2, 1) := by decide +kernel
theorem d_L_law_794 : decode b_L_law 794 = .ok (.invokevirtual 96, 3) := by decide +kernel
theorem d_L_law_797 : decode b_L_law 797 = .ok (.iload 5, 2) := by decide +kernel
theorem d_L_law_799 : decode b_L_law 799 = .ok (.if_icmp .eq 5, 3) := by decide +kernel
theorem d_L_law_802 : decode b_L_law 802 = .ok (.iconst 0, 1) := by decide +kernel
theorem d_L_law_803 : decode b_L_law 803 = .ok (.ireturn, 1) := by decide +kernel
theorem d_L_law_804 : decode b_L_law 804 = .ok (.iload 5, 2) := by decide +kernel
theorem d_L_law_806 : decode b_L_law 806 = .ok (.ifCond .ne 15, 3) := by decide +kernel
theorem d_L_law_809 : decode b_L_law 809 = .ok (.aload_n 3, 1) := by decide +kernel
theorem d_L_law_810 : decode b_L_law 810 = .ok (.iconst 0, 1) := by decide +kernel
theorem d_L_law_811 : decode b_L_law 811 = .ok (.laload, 1) := by decide +kernel
theorem d_L_law_812 : decode b_L_law 812 = .ok (.iload 6, 2) := by decide +kernel
theorem d_L_law_814 : decode b_L_law 814 = .ok (.i2l, 1) := by decide +kernel
theorem d_L_law_815 : decode b_L_law 815 = .ok (.lcmp, 1) := by decide +kernel
theorem d_L_law_816 : decode b_L_law 816 = .ok (.ifCond .eq 5, 3) := by decide +kernel
theorem d_L_law_819 : decode b_L_law 819 = .ok (.iconst 0, 1) := by decide +kernel
theorem d_L_law_820 : decode b_L_law 820 = .ok (.ireturn, 1) := by decide +kernel
theorem d_L_law_821 : decode b_L_law 821 = .ok (.goto 647, 3) := by decide +kernel
theorem d_L_law_824 : decode b_L_law 824 = .ok (.aload_n 1, 1) := by decide +kernel
theorem d_L_law_825 : decode b_L_law 825 = .ok (.aload_n 0, 1) := by decide +kernel
theorem d_L_law_826 : decode b_L_law 826 = .ok (.iload 4, 2) := by decide +kernel
theorem d_L_law_828 : decode b_L_law 828 = .ok (.iconst 1, 1) := by decide +kernel
theorem d_L_law_829 : decode b_L_law 829 = .ok (.iadd, 1) := by decide +kernel
theorem d_L_law_830 : decode b_L_law 830 = .ok (.iaload, 1) := by decide +kernel
theorem d_L_law_831 : decode b_L_law 831 = .ok (.aload_n 3, 1) := by decide +kernel
theorem d_L_law_832 : decode b_L_law 832 = .ok (.invokestatic 139, 3) := by decide +kernel
theorem d_L_law_835 : decode b_L_law 835 = .ok (.istore 5, 2) := by decide +kernel
theorem d_L_law_837 : decode b_L_law 837 = .ok (.aload_n 2, 1) := by decide +kernel
theorem d_L_law_838 : decode b_L_law 838 = .ok (.aload_n 0, 1) := by decide +kernel
theorem d_L_law_839 : decode b_L_law 839 = .ok (.iload 4, 2) := by decide +kernel
theorem d_L_law_841 : decode b_L_law 841 = .ok (.iconst 1, 1) := by decide +kernel
theorem d_L_law_842 : decode b_L_law 842 = .ok (.iadd, 1) := by decide +kernel
theorem d_L_law_843 : decode b_L_law 843 = .ok (.iaload, 1) := by decide +kernel
theorem d_L_law_844 : decode b_L_law 844 = .ok (.invokevirtual 141, 3) := by decide +kernel
theorem d_L_law_847 : decode b_L_law 847 = .ok (.istore 6, 2) := by decide +kernel
theorem d_L_law_849 : decode b_L_law 849 = .ok (.aload_n 2, 1) := by decide +kernel
theorem d_L_law_850 : decode b_L_law 850 = .ok (.invokevirtual 96, 3) := by decide +kernel
theorem d_L_law_853 : decode b_L_law 853 = .ok (.iload 5, 2) := by decide +kernel
theorem d_L_law_855 : decode b_L_law 855 = .ok (.if_icmp .eq 5, 3) := by decide +kernel
theorem d_L_law_858 : decode b_L_law 858 = .ok (.iconst 0, 1) := by decide +kernel
theorem d_L_law_859 : decode b_L_law 859 = .ok (.ireturn, 1) := by decide +kernel
theorem d_L_law_860 : decode b_L_law 860 = .ok (.iload 5, 2) := by decide +kernel
theorem d_L_law_862 : decode b_L_law 862 = .ok (.ifCond .ne 15, 3) := by decide +kernel
theorem d_L_law_865 : decode b_L_law 865 = .ok (.aload_n 3, 1) := by decide +kernel
theorem d_L_law_866 : decode b_L_law 866 = .ok (.iconst 0, 1) := by decide +kernel
theorem d_L_law_867 : decode b_L_law 867 = .ok (.laload, 1) := by decide +kernel
theorem d_L_law_868 : decode b_L_law 868 = .ok (.iload 6, 2) := by decide +kernel
theorem d_L_law_870 : decode b_L_law 870 = .ok (.i2l, 1) := by decide +kernel
theorem d_L_law_871 : decode b_L_law 871 = .ok (.lcmp, 1) := by decide +kernel
theorem d_L_law_872 : decode b_L_law 872 = .ok (.ifCond .eq 5, 3) := by decide +kernel
theorem d_L_law_875 : decode b_L_law 875 = .ok (.iconst 0, 1) := by decide +kernel
theorem d_L_law_876 : decode b_L_law 876 = .ok (.ireturn, 1) := by decide +kernel
theorem d_L_law_877 : decode b_L_law 877 = .ok (.goto 591, 3) := by decide +kernel
theorem d_L_law_880 : decode b_L_law 880 = .ok (.aload_n 1, 1) := by decide +kernel
theorem d_L_law_881 : decode b_L_law 881 = .ok (.aload_n 0, 1) := by decide +kernel
theorem d_L_law_882 : decode b_L_law 882 = .ok (.iload 4, 2) := by decide +kernel
theorem d_L_law_884 : decode b_L_law 884 = .ok (.iconst 1, 1) := by decide +kernel
theorem d_L_law_885 : decode b_L_law 885 = .ok (.iadd, 1) := by decide +kernel
theorem d_L_law_886 : decode b_L_law 886 = .ok (.iaload, 1) := by decide +kernel
theorem d_L_law_887 : decode b_L_law 887 = .ok (.aload_n 0, 1) := by decide +kernel
theorem d_L_law_888 : decode b_L_law 888 = .ok (.iload 4, 2) := by decide +kernel
theorem d_L_law_890 : decode b_L_law 890 = .ok (.iconst 2, 1) := by decide +kernel
theorem d_L_law_891 : decode b_L_law 891 = .ok (.iadd, 1) := by decide +kernel
theorem d_L_law_892 : decode b_L_law 892 = .ok (.iaload, 1) := by decide +kernel
theorem d_L_law_893 : decode b_L_law 893 = .ok (.invokestatic 142, 3) := by decide +kernel
theorem d_L_law_896 : decode b_L_law 896 = .ok (.istore 5, 2) := by decide +kernel
theorem d_L_law_898 : decode b_L_law 898 = .ok (.aload_n 2, 1) := by decide +kernel
theorem d_L_law_899 : decode b_L_law 899 = .ok (.aload_n 0, 1) := by decide +kernel
theorem d_L_law_900 : decode b_L_law 900 = .ok (.iload 4, 2) := by decide +kernel
theorem d_L_law_902 : decode b_L_law 902 = .ok (.iconst 1, 1) := by decide +kernel
theorem d_L_law_903 : decode b_L_law 903 = .ok (.iadd, 1) := by decide +kernel
theorem d_L_law_904 : decode b_L_law 904 = .ok (.iaload, 1) := by decide +kernel
theorem d_L_law_905 : decode b_L_law 905 = .ok (.aload_n 0, 1) := by decide +kernel
theorem d_L_law_906 : decode b_L_law 906 = .ok (.iload 4, 2) := by decide +kernel
theorem d_L_law_908 : decode b_L_law 908 = .ok (.iconst 2, 1) := by decide +kernel
theorem d_L_law_909 : decode b_L_law 909 = .ok (.iadd, 1) := by decide +kernel
theorem d_L_law_910 : decode b_L_law 910 = .ok (.iaload, 1) := by decide +kernel
theorem d_L_law_911 : decode b_L_law 911 = .ok (.invokevirtual 144, 3) := by decide +kernel
theorem d_L_law_914 : decode b_L_law 914 = .ok (.aload_n 2, 1) := by decide +kernel
theorem d_L_law_915 : decode b_L_law 915 = .ok (.invokevirtual 96, 3) := by decide +kernel
theorem d_L_law_918 : decode b_L_law 918 = .ok (.iload 5, 2) := by decide +kernel
theorem d_L_law_920 : decode b_L_law 920 = .ok (.if_icmp .eq 5, 3) := by decide +kernel
theorem d_L_law_923 : decode b_L_law 923 = .ok (.iconst 0, 1) := by decide +kernel
theorem d_L_law_924 : decode b_L_law 924 = .ok (.ireturn, 1) := by decide +kernel
theorem d_L_law_925 : decode b_L_law 925 = .ok (.goto 543, 3) := by decide +kernel
theorem d_L_law_928 : decode b_L_law 928 = .ok (.aload_n 1, 1) := by decide +kernel
theorem d_L_law_929 : decode b_L_law 929 = .ok (.aload_n 0, 1) := by decide +kernel
theorem d_L_law_930 : decode b_L_law 930 = .ok (.iload 4, 2) := by decide +kernel
theorem d_L_law_932 : decode b_L_law 932 = .ok (.iconst 1, 1) := by decide +kernel
theorem d_L_law_933 : decode b_L_law 933 = .ok (.iadd, 1) := by decide +kernel
theorem d_L_law_934 : decode b_L_law 934 = .ok (.iaload, 1) := by decide +kernel
theorem d_L_law_935 : decode b_L_law 935 = .ok (.aload_n 0, 1) := by decide +kernel
theorem d_L_law_936 : decode b_L_law 936 = .ok (.iload 4, 2) := by decide +kernel
theorem d_L_law_938 : decode b_L_law 938 = .ok (.iconst 2, 1) := by decide +kernel
theorem d_L_law_939 : decode b_L_law 939 = .ok (.iadd, 1) := by decide +kernel
theorem d_L_law_940 : decode b_L_law 940 = .ok (.iaload, 1) := by decide +kernel
theorem d_L_law_941 : decode b_L_law 941 = .ok (.aload_n 0, 1) := by decide +kernel
theorem d_L_law_942 : decode b_L_law 942 = .ok (.iload 4, 2) := by decide +kernel
theorem d_L_law_944 : decode b_L_law 944 = .ok (.iconst 3, 1) := by decide +kernel
theorem d_L_law_945 : decode b_L_law 945 = .ok (.iadd, 1) := by decide +kernel
theorem d_L_law_946 : decode b_L_law 946 = .ok (.iaload, 1) := by decide +kernel
theorem d_L_law_947 : decode b_L_law 947 = .ok (.ifCond .eq 7, 3) := by decide +kernel
theorem d_L_law_950 : decode b_L_law 950 = .ok (.iconst 1, 1) := by decide +kernel
theorem d_L_law_951 : decode b_L_law 951 = .ok (.goto 4, 3) := by decide +kernel
theorem d_L_law_954 : decode b_L_law 954 = .ok (.iconst 0, 1) := by decide +kernel
theorem d_L_law_955 : decode b_L_law 955 = .ok (.invokestatic 145, 3) := by decide +kernel
theorem d_L_law_958 : decode b_L_law 958 = .ok (.istore 5, 2) := by decide +kernel
theorem d_L_law_960 : decode b_L_law 960 = .ok (.aload_n 2, 1) := by decide +kernel
theorem d_L_law_961 : decode b_L_law 961 = .ok (.aload_n 0, 1) := by decide +kernel
theorem d_L_law_962 : decode b_L_law 962 = .ok (.iload 4, 2) := by decide +kernel
theorem d_L_law_964 : decode b_L_law 964 = .ok (.iconst 1, 1) := by decide +kernel
theorem d_L_law_965 : decode b_L_law 965 = .ok (.iadd, 1) := by decide +kernel
theorem d_L_law_966 : decode b_L_law 966 = .ok (.iaload, 1) := by decide +kernel
theorem d_L_law_967 : decode b_L_law 967 = .ok (.aload_n 0, 1) := by decide +kernel
theorem d_L_law_968 : decode b_L_law 968 = .ok (.iload 4, 2) := by decide +kernel
theorem d_L_law_970 : decode b_L_law 970 = .ok (.iconst 2, 1) := by decide +kernel
theorem d_L_law_971 : decode b_L_law 971 = .ok (.iadd, 1) := by decide +kernel
theorem d_L_law_972 : decode b_L_law 972 = .ok (.iaload, 1) := by decide +kernel
theorem d_L_law_973 : decode b_L_law 973 = .ok (.aload_n 0, 1) := by decide +kernel
theorem d_L_law_974 : decode b_L_law 974 = .ok (.iload 4, 2) := by decide +kernel
theorem d_L_law_976 : decode b_L_law 976 = .ok (.iconst 3, 1) := by decide +kernel
theorem d_L_law_977 : decode b_L_law 977 = .ok (.iadd, 1) := by decide +kernel
theorem d_L_law_978 : decode b_L_law 978 = .ok (.iaload, 1) := by decide +kernel
theorem d_L_law_979 : decode b_L_law 979 = .ok (.ifCond .eq 7, 3) := by decide +kernel
theorem d_L_law_982 : decode b_L_law 982 = .ok (.iconst 1, 1) := by decide +kernel
theorem d_L_law_983 : decode b_L_law 983 = .ok (.goto 4, 3) := by decide +kernel
theorem d_L_law_986 : decode b_L_law 986 = .ok (.iconst 0, 1) := by decide +kernel
theorem d_L_law_987 : decode b_L_law 987 = .ok (.invokevirtual 147, 3) := by decide +kernel
theorem d_L_law_990 : decode b_L_law 990 = .ok (.aload_n 2, 1) := by decide +kernel
theorem d_L_law_991 : decode b_L_law 991 = .ok (.invokevirtual 96, 3) := by decide +kernel
theorem d_L_law_994 : decode b_L_law 994 = .ok (.iload 5, 2) := by decide +kernel
theorem d_L_law_996 : decode b_L_law 996 = .ok (.if_icmp .eq 5, 3) := by decide +kernel
theorem d_L_law_999 : decode b_L_law 999 = .ok (.iconst 0, 1) := by decide +kernel
theorem d_L_law_1000 : decode b_L_law 1000 = .ok (.ireturn, 1) := by decide +kernel
theorem d_L_law_1001 : decode b_L_law 1001 = .ok (.goto 467, 3) := by decide +kernel
theorem d_L_law_1004 : decode b_L_law 1004 = .ok (.aload_n 1, 1) := by decide +kernel
theorem d_L_law_1005 : decode b_L_law 1005 = .ok (.aload_n 0, 1) := by decide +kernel
theorem d_L_law_1006 : decode b_L_law 1006 = .ok (.iload 4, 2) := by decide +kernel
theorem d_L_law_1008 : decode b_L_law 1008 = .ok (.iconst 1, 1) := by decide +kernel
theorem d_L_law_1009 : decode b_L_law 1009 = .ok (.iadd, 1) := by decide +kernel
theorem d_L_law_1010 : decode b_L_law 1010 = .ok (.iaload, 1) := by decide +kernel
theorem d_L_law_1011 : decode b_L_law 1011 = .ok (.aload_n 0, 1) := by decide +kernel
theorem d_L_law_1012 : decode b_L_law 1012 = .ok (.iload 4, 2) := by decide +kernel
theorem d_L_law_1014 : decode b_L_law 1014 = .ok (.iconst 2, 1) := by decide +kernel
theorem d_L_law_1015 : decode b_L_law 1015 = .ok (.iadd, 1) := by decide +kernel
theorem d_L_law_1016 : decode b_L_law 1016 = .ok (.iaload, 1) := by decide +kernel
theorem d_L_law_1017 : decode b_L_law 1017 = .ok (.aload_n 3, 1) := by decide +kernel
theorem d_L_law_1018 : decode b_L_law 1018 = .ok (.invokestatic 148, 3) := by decide +kernel
theorem d_L_law_1021 : decode b_L_law 1021 = .ok (.istore 5, 2) := by decide +kernel
theorem d_L_law_1023 : decode b_L_law 1023 = .ok (.aload_n 2, 1) := by decide +kernel
theorem d_L_law_1024 : decode b_L_law 1024 = .ok (.aload_n 0, 1) := by decide +kernel
theorem d_L_law_1025 : decode b_L_law 1025 = .ok (.iload 4, 2) := by decide +kernel
theorem d_L_law_1027 : decode b_L_law 1027 = .ok (.iconst 1, 1) := by decide +kernel
theorem d_L_law_1028 : decode b_L_law 1028 = .ok (.iadd, 1) := by decide +kernel
theorem d_L_law_1029 : decode b_L_law 1029 = .ok (.iaload, 1) := by decide +kernel
theorem d_L_law_1030 : decode b_L_law 1030 = .ok (.aload_n 0, 1) := by decide +kernel
theorem d_L_law_1031 : decode b_L_law 1031 = .ok (.iload 4, 2) := by decide +kernel
theorem d_L_law_1033 : decode b_L_law 1033 = .ok (.iconst 2, 1) := by decide +kernel
theorem d_L_law_1034 : decode b_L_law 1034 = .ok (.iadd, 1) := by decide +kernel
theorem d_L_law_1035 : decode b_L_law 1035 = .ok (.iaload, 1) := by decide +kernel
theorem d_L_law_1036 : decode b_L_law 1036 = .ok (.invokevirtual 150, 3) := by decide +kernel
theorem d_L_law_1039 : decode b_L_law 1039 = .ok (.istore 6, 2) := by decide +kernel
theorem d_L_law_1041 : decode b_L_law 1041 = .ok (.aload_n 2, 1) := by decide +kernel
theorem d_L_law_1042 : decode b_L_law 1042 = .ok (.invokevirtual 96, 3) := by decide +kernel
theorem d_L_law_1045 : decode b_L_law 1045 = .ok (.iload 5, 2) := by decide +kernel
theorem d_L_law_1047 : decode b_L_law 1047 = .ok (.if_icmp .eq 5, 3) := by decide +kernel
theorem d_L_law_1050 : decode b_L_law 1050 = .ok (.iconst 0, 1) := by decide +kernel
theorem d_L_law_1051 : decode b_L_law 1051 = .ok (.ireturn, 1) := by decide +kernel
theorem d_L_law_1052 : decode b_L_law 1052 = .ok (.iload 5, 2) := by decide +kernel
theorem d_L_law_1054 : decode b_L_law 1054 = .ok (.ifCond .ne 15, 3) := by decide +kernel
theorem d_L_law_1057 : decode b_L_law 1057 = .ok (.aload_n 3, 1) := by decide +kernel
theorem d_L_law_1058 : decode b_L_law 1058 = .ok (.iconst 0, 1) := by decide +kernel
theorem d_L_law_1059 : decode b_L_law 1059 = .ok (.laload, 1) := by decide +kernel
theorem d_L_law_1060 : decode b_L_law 1060 = .ok (.iload 6, 2) := by decide +kernel
theorem d_L_law_1062 : decode b_L_law 1062 = .ok (.i2l, 1) := by decide +kernel
theorem d_L_law_1063 : decode b_L_law 1063 = .ok (.lcmp, 1) := by decide +kernel
theorem d_L_law_1064 : decode b_L_law 1064 = .ok (.ifCond .eq 5, 3) := by decide +kernel
theorem d_L_law_1067 : decode b_L_law 1067 = .ok (.iconst 0, 1) := by decide +kernel
theorem d_L_law_1068 : decode b_L_law 1068 = .ok (.ireturn, 1) := by decide +kernel
theorem d_L_law_1069 : decode b_L_law 1069 = .ok (.goto 399, 3) := by decide +kernel
theorem d_L_law_1072 : decode b_L_law 1072 = .ok (.aload_n 1, 1) := by decide +kernel
theorem d_L_law_1073 : decode b_L_law 1073 = .ok (.aload_n 0, 1) := by decide +kernel
theorem d_L_law_1074 : decode b_L_law 1074 = .ok (.iload 4, 2) := by decide +kernel
theorem d_L_law_1076 : decode b_L_law 1076 = .ok (.iconst 1, 1) := by decide +kernel
theorem d_L_law_1077 : decode b_L_law 1077 = .ok (.iadd, 1) := by decide +kernel
theorem d_L_law_1078 : decode b_L_law 1078 = .ok (.iaload, 1) := by decide +kernel
theorem d_L_law_1079 : decode b_L_law 1079 = .ok (.aload_n 3, 1) := by decide +kernel
theorem d_L_law_1080 : decode b_L_law 1080 = .ok (.invokestatic 151, 3) := by decide +kernel
theorem d_L_law_1083 : decode b_L_law 1083 = .ok (.istore 5, 2) := by decide +kernel
theorem d_L_law_1085 : decode b_L_law 1085 = .ok (.aload_n 2, 1) := by decide +kernel
theorem d_L_law_1086 : decode b_L_law 1086 = .ok (.aload_n 0, 1) := by decide +kernel
theorem d_L_law_1087 : decode b_L_law 1087 = .ok (.iload 4, 2) := by decide +kernel
theorem d_L_law_1089 : decode b_L_law 1089 = .ok (.iconst 1, 1) := by decide +kernel
theorem d_L_law_1090 : decode b_L_law 1090 = .ok (.iadd, 1) := by decide +kernel
theorem d_L_law_1091 : decode b_L_law 1091 = .ok (.iaload, 1) := by decide +kernel
theorem d_L_law_1092 : decode b_L_law 1092 = .ok (.invokevirtual 153, 3) := by decide +kernel
theorem d_L_law_1095 : decode b_L_law 1095 = .ok (.istore 6, 2) := by decide +kernel
theorem d_L_law_1097 : decode b_L_law 1097 = .ok (.aload_n 2, 1) := by decide +kernel
theorem d_L_law_1098 : decode b_L_law 1098 = .ok (.invokevirtual 96, 3) := by decide +kernel
theorem d_L_law_1101 : decode b_L_law 1101 = .ok (.iload 5, 2) := by decide +kernel
theorem d_L_law_1103 : decode b_L_law 1103 = .ok (.if_icmp .eq 5, 3) := by decide +kernel
theorem d_L_law_1106 : decode b_L_law 1106 = .ok (.iconst 0, 1) := by decide +kernel
theorem d_L_law_1107 : decode b_L_law 1107 = .ok (.ireturn, 1) := by decide +kernel
theorem d_L_law_1108 : decode b_L_law 1108 = .ok (.iload 5, 2) := by decide +kernel
theorem d_L_law_1110 : decode b_L_law 1110 = .ok (.ifCond .ne 15, 3) := by decide +kernel
theorem d_L_law_1113 : decode b_L_law 1113 = .ok (.aload_n 3, 1) := by decide +kernel
theorem d_L_law_1114 : decode b_L_law 1114 = .ok (.iconst 0, 1) := by decide +kernel
theorem d_L_law_1115 : decode b_L_law 1115 = .ok (.laload, 1) := by decide +kernel
theorem d_L_law_1116 : decode b_L_law 1116 = .ok (.iload 6, 2) := by decide +kernel
theorem d_L_law_1118 : decode b_L_law 1118 = .ok (.i2l, 1) := by decide +kernel
theorem d_L_law_1119 : decode b_L_law 1119 = .ok (.lcmp, 1) := by decide +kernel
theorem d_L_law_1120 : decode b_L_law 1120 = .ok (.ifCond .eq 5, 3) := by decide +kernel
theorem d_L_law_1123 : decode b_L_law 1123 = .ok (.iconst 0, 1) := by decide +kernel
theorem d_L_law_1124 : decode b_L_law 1124 = .ok (.ireturn, 1) := by decide +kernel
theorem d_L_law_1125 : decode b_L_law 1125 = .ok (.goto 343, 3) := by decide +kernel
theorem d_L_law_1128 : decode b_L_law 1128 = .ok (.aload_n 1, 1) := by decide +kernel
theorem d_L_law_1129 : decode b_L_law 1129 = .ok (.aload_n 0, 1) := by decide +kernel
theorem d_L_law_1130 : decode b_L_law 1130 = .ok (.iload 4, 2) := by decide +kernel
theorem d_L_law_1132 : decode b_L_law 1132 = .ok (.iconst 1, 1) := by decide +kernel
theorem d_L_law_1133 : decode b_L_law 1133 = .ok (.iadd, 1) := by decide +kernel
theorem d_L_law_1134 : decode b_L_law 1134 = .ok (.iaload, 1) := by decide +kernel
theorem d_L_law_1135 : decode b_L_law 1135 = .ok (.aload_n 0, 1) := by decide +kernel
theorem d_L_law_1136 : decode b_L_law 1136 = .ok (.iload 4, 2) := by decide +kernel
theorem d_L_law_1138 : decode b_L_law 1138 = .ok (.iconst 2, 1) := by decide +kernel
theorem d_L_law_1139 : decode b_L_law 1139 = .ok (.iadd, 1) := by decide +kernel
theorem d_L_law_1140 : decode b_L_law 1140 = .ok (.iaload, 1) := by decide +kernel
theorem d_L_law_1141 : decode b_L_law 1141 = .ok (.aload_n 3, 1) := by decide +kernel
theorem d_L_law_1142 : decode b_L_law 1142 = .ok (.invokestatic 154, 3) := by decide +kernel
theorem d_L_law_1145 : decode b_L_law 1145 = .ok (.istore 5, 2) := by decide +kernel
theorem d_L_law_1147 : decode b_L_law 1147 = .ok (.aload_n 2, 1) := by decide +kernel
theorem d_L_law_1148 : decode b_L_law 1148 = .ok (.aload_n 0, 1) := by decide +kernel
theorem d_L_law_1149 : decode b_L_law 1149 = .ok (.iload 4, 2) := by decide +kernel
theorem d_L_law_1151 : decode b_L_law 1151 = .ok (.iconst 1, 1) := by decide +kernel
theorem d_L_law_1152 : decode b_L_law 1152 = .ok (.iadd, 1) := by decide +kernel
theorem d_L_law_1153 : decode b_L_law 1153 = .ok (.iaload, 1) := by decide +kernel
theorem d_L_law_1154 : decode b_L_law 1154 = .ok (.aload_n 0, 1) := by decide +kernel
theorem d_L_law_1155 : decode b_L_law 1155 = .ok (.iload 4, 2) := by decide +kernel
theorem d_L_law_1157 : decode b_L_law 1157 = .ok (.iconst 2, 1) := by decide +kernel
theorem d_L_law_1158 : decode b_L_law 1158 = .ok (.iadd, 1) := by decide +kernel
theorem d_L_law_1159 : decode b_L_law 1159 = .ok (.iaload, 1) := by decide +kernel
theorem d_L_law_1160 : decode b_L_law 1160 = .ok (.invokevirtual 156, 3) := by decide +kernel
theorem d_L_law_1163 : decode b_L_law 1163 = .ok (.istore 6, 2) := by decide +kernel
theorem d_L_law_1165 : decode b_L_law 1165 = .ok (.aload_n 2, 1) := by decide +kernel
theorem d_L_law_1166 : decode b_L_law 1166 = .ok (.invokevirtual 96, 3) := by decide +kernel
theorem d_L_law_1169 : decode b_L_law 1169 = .ok (.iload 5, 2) := by decide +kernel
theorem d_L_law_1171 : decode b_L_law 1171 = .ok (.if_icmp .eq 5, 3) := by decide +kernel
theorem d_L_law_1174 : decode b_L_law 1174 = .ok (.iconst 0, 1) := by decide +kernel
theorem d_L_law_1175 : decode b_L_law 1175 = .ok (.ireturn, 1) := by decide +kernel
theorem d_L_law_1176 : decode b_L_law 1176 = .ok (.iload 5, 2) := by decide +kernel
theorem d_L_law_1178 : decode b_L_law 1178 = .ok (.ifCond .ne 15, 3) := by decide +kernel
theorem d_L_law_1181 : decode b_L_law 1181 = .ok (.aload_n 3, 1) := by decide +kernel
theorem d_L_law_1182 : decode b_L_law 1182 = .ok (.iconst 0, 1) := by decide +kernel
theorem d_L_law_1183 : decode b_L_law 1183 = .ok (.laload, 1) := by decide +kernel
theorem d_L_law_1184 : decode b_L_law 1184 = .ok (.iload 6, 2) := by decide +kernel
theorem d_L_law_1186 : decode b_L_law 1186 = .ok (.i2l, 1) := by decide +kernel
theorem d_L_law_1187 : decode b_L_law 1187 = .ok (.lcmp, 1) := by decide +kernel
theorem d_L_law_1188 : decode b_L_law 1188 = .ok (.ifCond .eq 5, 3) := by decide +kernel
theorem d_L_law_1191 : decode b_L_law 1191 = .ok (.iconst 0, 1) := by decide +kernel
theorem d_L_law_1192 : decode b_L_law 1192 = .ok (.ireturn, 1) := by decide +kernel
theorem d_L_law_1193 : decode b_L_law 1193 = .ok (.goto 275, 3) := by decide +kernel
theorem d_L_law_1196 : decode b_L_law 1196 = .ok (.aload_n 1, 1) := by decide +kernel
theorem d_L_law_1197 : decode b_L_law 1197 = .ok (.aload_n 0, 1) := by decide +kernel
theorem d_L_law_1198 : decode b_L_law 1198 = .ok (.iload 4, 2) := by decide +kernel
theorem d_L_law_1200 : decode b_L_law 1200 = .ok (.iconst 1, 1) := by decide +kernel
theorem d_L_law_1201 : decode b_L_law 1201 = .ok (.iadd, 1) := by decide +kernel
theorem d_L_law_1202 : decode b_L_law 1202 = .ok (.iaload, 1) := by decide +kernel
theorem d_L_law_1203 : decode b_L_law 1203 = .ok (.aload_n 0, 1) := by decide +kernel
theorem d_L_law_1204 : decode b_L_law 1204 = .ok (.iload 4, 2) := by decide +kernel
theorem d_L_law_1206 : decode b_L_law 1206 = .ok (.iconst 2, 1) := by decide +kernel
theorem d_L_law_1207 : decode b_L_law 1207 = .ok (.iadd, 1) := by decide +kernel
theorem d_L_law_1208 : decode b_L_law 1208 = .ok (.iaload, 1) := by decide +kernel
theorem d_L_law_1209 : decode b_L_law 1209 = .ok (.aload_n 0, 1) := by decide +kernel
theorem d_L_law_1210 : decode b_L_law 1210 = .ok (.iload 4, 2) := by decide +kernel
theorem d_L_law_1212 : decode b_L_law 1212 = .ok (.iconst 3, 1) := by decide +kernel
theorem d_L_law_1213 : decode b_L_law 1213 = .ok (.iadd, 1) := by decide +kernel
theorem d_L_law_1214 : decode b_L_law 1214 = .ok (.iaload, 1) := by decide +kernel
theorem d_L_law_1215 : decode b_L_law 1215 = .ok (.aload_n 3, 1) := by decide +kernel
theorem d_L_law_1216 : decode b_L_law 1216 = .ok (.invokestatic 157, 3) := by decide +kernel
theorem d_L_law_1219 : decode b_L_law 1219 = .ok (.istore 5, 2) := by decide +kernel
theorem d_L_law_1221 : decode b_L_law 1221 = .ok (.aload_n 2, 1) := by decide +kernel
theorem d_L_law_1222 : decode b_L_law 1222 = .ok (.aload_n 0, 1) := by decide +kernel
theorem d_L_law_1223 : decode b_L_law 1223 = .ok (.iload 4, 2) := by decide +kernel
theorem d_L_law_1225 : decode b_L_law 1225 = .ok (.iconst 1, 1) := by decide +kernel
theorem d_L_law_1226 : decode b_L_law 1226 = .ok (.iadd, 1) := by decide +kernel
theorem d_L_law_1227 : decode b_L_law 1227 = .ok (.iaload, 1) := by decide +kernel
theorem d_L_law_1228 : decode b_L_law 1228 = .ok (.aload_n 0, 1) := by decide +kernel
theorem d_L_law_1229 : decode b_L_law 1229 = .ok (.iload 4, 2) := by decide +kernel
theorem d_L_law_1231 : decode b_L_law 1231 = .ok (.iconst 2, 1) := by decide +kernel
theorem d_L_law_1232 : decode b_L_law 1232 = .ok (.iadd, 1) := by decide +kernel
theorem d_L_law_1233 : decode b_L_law 1233 = .ok (.iaload, 1) := by decide +kernel
theorem d_L_law_1234 : decode b_L_law 1234 = .ok (.aload_n 0, 1) := by decide +kernel
theorem d_L_law_1235 : decode b_L_law 1235 = .ok (.iload 4, 2) := by decide +kernel
theorem d_L_law_1237 : decode b_L_law 1237 = .ok (.iconst 3, 1) := by decide +kernel
theorem d_L_law_1238 : decode b_L_law 1238 = .ok (.iadd, 1) := by decide +kernel
theorem d_L_law_1239 : decode b_L_law 1239 = .ok (.iaload, 1) := by decide +kernel
theorem d_L_law_1240 : decode b_L_law 1240 = .ok (.invokevirtual 159, 3) := by decide +kernel
theorem d_L_law_1243 : decode b_L_law 1243 = .ok (.istore 6, 2) := by decide +kernel
theorem d_L_law_1245 : decode b_L_law 1245 = .ok (.aload_n 2, 1) := by decide +kernel
theorem d_L_law_1246 : decode b_L_law 1246 = .ok (.invokevirtual 96, 3) := by decide +kernel
theorem d_L_law_1249 : decode b_L_law 1249 = .ok (.iload 5, 2) := by decide +kernel
theorem d_L_law_1251 : decode b_L_law 1251 = .ok (.if_icmp .eq 5, 3) := by decide +kernel
theorem d_L_law_1254 : decode b_L_law 1254 = .ok (.iconst 0, 1) := by decide +kernel
theorem d_L_law_1255 : decode b_L_law 1255 = .ok (.ireturn, 1) := by decide +kernel
theorem d_L_law_1256 : decode b_L_law 1256 = .ok (.iload 5, 2) := by decide +kernel
theorem d_L_law_1258 : decode b_L_law 1258 = .ok (.ifCond .ne 15, 3) := by decide +kernel
theorem d_L_law_1261 : decode b_L_law 1261 = .ok (.aload_n 3, 1) := by decide +kernel
theorem d_L_law_1262 : decode b_L_law 1262 = .ok (.iconst 0, 1) := by decide +kernel
theorem d_L_law_1263 : decode b_L_law 1263 = .ok (.laload, 1) := by decide +kernel
theorem d_L_law_1264 : decode b_L_law 1264 = .ok (.iload 6, 2) := by decide +kernel
theorem d_L_law_1266 : decode b_L_law 1266 = .ok (.i2l, 1) := by decide +kernel
theorem d_L_law_1267 : decode b_L_law 1267 = .ok (.lcmp, 1) := by decide +kernel
theorem d_L_law_1268 : decode b_L_law 1268 = .ok (.ifCond .eq 5, 3) := by decide +kernel
theorem d_L_law_1271 : decode b_L_law 1271 = .ok (.iconst 0, 1) := by decide +kernel
theorem d_L_law_1272 : decode b_L_law 1272 = .ok (.ireturn, 1) := by decide +kernel
theorem d_L_law_1273 : decode b_L_law 1273 = .ok (.goto 195, 3) := by decide +kernel
theorem d_L_law_1276 : decode b_L_law 1276 = .ok (.aload_n 1, 1) := by decide +kernel
theorem d_L_law_1277 : decode b_L_law 1277 = .ok (.aload_n 0, 1) := by decide +kernel
theorem d_L_law_1278 : decode b_L_law 1278 = .ok (.iload 4, 2) := by decide +kernel
theorem d_L_law_1280 : decode b_L_law 1280 = .ok (.iconst 1, 1) := by decide +kernel
theorem d_L_law_1281 : decode b_L_law 1281 = .ok (.iadd, 1) := by decide +kernel
theorem d_L_law_1282 : decode b_L_law 1282 = .ok (.iaload, 1) := by decide +kernel
theorem d_L_law_1283 : decode b_L_law 1283 = .ok (.aload_n 0, 1) := by decide +kernel
theorem d_L_law_1284 : decode b_L_law 1284 = .ok (.iload 4, 2) := by decide +kernel
theorem d_L_law_1286 : decode b_L_law 1286 = .ok (.iconst 2, 1) := by decide +kernel
theorem d_L_law_1287 : decode b_L_law 1287 = .ok (.iadd, 1) := by decide +kernel
theorem d_L_law_1288 : decode b_L_law 1288 = .ok (.iaload, 1) := by decide +kernel
theorem d_L_law_1289 : decode b_L_law 1289 = .ok (.aload_n 3, 1) := by decide +kernel
theorem d_L_law_1290 : decode b_L_law 1290 = .ok (.invokestatic 160, 3) := by decide +kernel
theorem d_L_law_1293 : decode b_L_law 1293 = .ok (.istore 5, 2) := by decide +kernel
theorem d_L_law_1295 : decode b_L_law 1295 = .ok (.aload_n 2, 1) := by decide +kernel
theorem d_L_law_1296 : decode b_L_law 1296 = .ok (.aload_n 0, 1) := by decide +kernel
theorem d_L_law_1297 : decode b_L_law 1297 = .ok (.iload 4, 2) := by decide +kernel
theorem d_L_law_1299 : decode b_L_law 1299 = .ok (.iconst 1, 1) := by decide +kernel
theorem d_L_law_1300 : decode b_L_law 1300 = .ok (.iadd, 1) := by decide +kernel
theorem d_L_law_1301 : decode b_L_law 1301 = .ok (.iaload, 1) := by decide +kernel
theorem d_L_law_1302 : decode b_L_law 1302 = .ok (.aload_n 0, 1) := by decide +kernel
theorem d_L_law_1303 : decode b_L_law 1303 = .ok (.iload 4, 2) := by decide +kernel
theorem d_L_law_1305 : decode b_L_law 1305 = .ok (.iconst 2, 1) := by decide +kernel
theorem d_L_law_1306 : decode b_L_law 1306 = .ok (.iadd, 1) := by decide +kernel
theorem d_L_law_1307 : decode b_L_law 1307 = .ok (.iaload, 1) := by decide +kernel
theorem d_L_law_1308 : decode b_L_law 1308 = .ok (.invokevirtual 162, 3) := by decide +kernel
theorem d_L_law_1311 : decode b_L_law 1311 = .ok (.istore 6, 2) := by decide +kernel
theorem d_L_law_1313 : decode b_L_law 1313 = .ok (.aload_n 2, 1) := by decide +kernel
theorem d_L_law_1314 : decode b_L_law 1314 = .ok (.invokevirtual 96, 3) := by decide +kernel
theorem d_L_law_1317 : decode b_L_law 1317 = .ok (.iload 5, 2) := by decide +kernel
theorem d_L_law_1319 : decode b_L_law 1319 = .ok (.if_icmp .eq 5, 3) := by decide +kernel
theorem d_L_law_1322 : decode b_L_law 1322 = .ok (.iconst 0, 1) := by decide +kernel
theorem d_L_law_1323 : decode b_L_law 1323 = .ok (.ireturn, 1) := by decide +kernel
theorem d_L_law_1324 : decode b_L_law 1324 = .ok (.iload 5, 2) := by decide +kernel
theorem d_L_law_1326 : decode b_L_law 1326 = .ok (.ifCond .ne 15, 3) := by decide +kernel
theorem d_L_law_1329 : decode b_L_law 1329 = .ok (.aload_n 3, 1) := by decide +kernel
theorem d_L_law_1330 : decode b_L_law 1330 = .ok (.iconst 0, 1) := by decide +kernel
theorem d_L_law_1331 : decode b_L_law 1331 = .ok (.laload, 1) := by decide +kernel
theorem d_L_law_1332 : decode b_L_law 1332 = .ok (.iload 6, 2) := by decide +kernel
theorem d_L_law_1334 : decode b_L_law 1334 = .ok (.i2l, 1) := by decide +kernel
theorem d_L_law_1335 : decode b_L_law 1335 = .ok (.lcmp, 1) := by decide +kernel
theorem d_L_law_1336 : decode b_L_law 1336 = .ok (.ifCond .eq 5, 3) := by decide +kernel
theorem d_L_law_1339 : decode b_L_law 1339 = .ok (.iconst 0, 1) := by decide +kernel
theorem d_L_law_1340 : decode b_L_law 1340 = .ok (.ireturn, 1) := by decide +kernel
theorem d_L_law_1341 : decode b_L_law 1341 = .ok (.goto 127, 3) := by decide +kernel
theorem d_L_law_1344 : decode b_L_law 1344 = .ok (.aload_n 1, 1) := by decide +kernel
theorem d_L_law_1345 : decode b_L_law 1345 = .ok (.aload_n 0, 1) := by decide +kernel
theorem d_L_law_1346 : decode b_L_law 1346 = .ok (.iload 4, 2) := by decide +kernel
theorem d_L_law_1348 : decode b_L_law 1348 = .ok (.iconst 1, 1) := by decide +kernel
theorem d_L_law_1349 : decode b_L_law 1349 = .ok (.iadd, 1) := by decide +kernel
theorem d_L_law_1350 : decode b_L_law 1350 = .ok (.iaload, 1) := by decide +kernel
theorem d_L_law_1351 : decode b_L_law 1351 = .ok (.aload_n 0, 1) := by decide +kernel
theorem d_L_law_1352 : decode b_L_law 1352 = .ok (.iload 4, 2) := by decide +kernel
theorem d_L_law_1354 : decode b_L_law 1354 = .ok (.iconst 2, 1) := by decide +kernel
theorem d_L_law_1355 : decode b_L_law 1355 = .ok (.iadd, 1) := by decide +kernel
theorem d_L_law_1356 : decode b_L_law 1356 = .ok (.iaload, 1) := by decide +kernel
theorem d_L_law_1357 : decode b_L_law 1357 = .ok (.aload_n 3, 1) := by decide +kernel
theorem d_L_law_1358 : decode b_L_law 1358 = .ok (.invokestatic 163, 3) := by decide +kernel
theorem d_L_law_1361 : decode b_L_law 1361 = .ok (.istore 5, 2) := by decide +kernel
theorem d_L_law_1363 : decode b_L_law 1363 = .ok (.aload_n 2, 1) := by decide +kernel
theorem d_L_law_1364 : decode b_L_law 1364 = .ok (.aload_n 0, 1) := by decide +kernel
theorem d_L_law_1365 : decode b_L_law 1365 = .ok (.iload 4, 2) := by decide +kernel
theorem d_L_law_1367 : decode b_L_law 1367 = .ok (.iconst 1, 1) := by decide +kernel
theorem d_L_law_1368 : decode b_L_law 1368 = .ok (.iadd, 1) := by decide +kernel
theorem d_L_law_1369 : decode b_L_law 1369 = .ok (.iaload, 1) := by decide +kernel
theorem d_L_law_1370 : decode b_L_law 1370 = .ok (.aload_n 0, 1) := by decide +kernel
theorem d_L_law_1371 : decode b_L_law 1371 = .ok (.iload 4, 2) := by decide +kernel
theorem d_L_law_1373 : decode b_L_law 1373 = .ok (.iconst 2, 1) := by decide +kernel
theorem d_L_law_1374 : decode b_L_law 1374 = .ok (.iadd, 1) := by decide +kernel
theorem d_L_law_1375 : decode b_L_law 1375 = .ok (.iaload, 1) := by decide +kernel
theorem d_L_law_1376 : decode b_L_law 1376 = .ok (.invokevirtual 165, 3) := by decide +kernel
theorem d_L_law_1379 : decode b_L_law 1379 = .ok (.istore 6, 2) := by decide +kernel
theorem d_L_law_1381 : decode b_L_law 1381 = .ok (.aload_n 2, 1) := by decide +kernel
theorem d_L_law_1382 : decode b_L_law 1382 = .ok (.invokevirtual 96, 3) := by decide +kernel
theorem d_L_law_1385 : decode b_L_law 1385 = .ok (.iload 5, 2) := by decide +kernel
theorem d_L_law_1387 : decode b_L_law 1387 = .ok (.if_icmp .eq 5, 3) := by decide +kernel
theorem d_L_law_1390 : decode b_L_law 1390 = .ok (.iconst 0, 1) := by decide +kernel
theorem d_L_law_1391 : decode b_L_law 1391 = .ok (.ireturn, 1) := by decide +kernel
theorem d_L_law_1392 : decode b_L_law 1392 = .ok (.iload 5, 2) := by decide +kernel
theorem d_L_law_1394 : decode b_L_law 1394 = .ok (.ifCond .ne 15, 3) := by decide +kernel
theorem d_L_law_1397 : decode b_L_law 1397 = .ok (.aload_n 3, 1) := by decide +kernel
theorem d_L_law_1398 : decode b_L_law 1398 = .ok (.iconst 0, 1) := by decide +kernel
theorem d_L_law_1399 : decode b_L_law 1399 = .ok (.laload, 1) := by decide +kernel
theorem d_L_law_1400 : decode b_L_law 1400 = .ok (.iload 6, 2) := by decide +kernel
theorem d_L_law_1402 : decode b_L_law 1402 = .ok (.i2l, 1) := by decide +kernel
theorem d_L_law_1403 : decode b_L_law 1403 = .ok (.lcmp, 1) := by decide +kernel
theorem d_L_law_1404 : decode b_L_law 1404 = .ok (.ifCond .eq 5, 3) := by decide +kernel
theorem d_L_law_1407 : decode b_L_law 1407 = .ok (.iconst 0, 1) := by decide +kernel
theorem d_L_law_1408 : decode b_L_law 1408 = .ok (.ireturn, 1) := by decide +kernel
theorem d_L_law_1409 : decode b_L_law 1409 = .ok (.goto 59, 3) := by decide +kernel
theorem d_L_law_1412 : decode b_L_law 1412 = .ok (.aload_n 1, 1) := by decide +kernel
theorem d_L_law_1413 : decode b_L_law 1413 = .ok (.aload_n 0, 1) := by decide +kernel
theorem d_L_law_1414 : decode b_L_law 1414 = .ok (.iload 4, 2) := by decide +kernel
theorem d_L_law_1416 : decode b_L_law 1416 = .ok (.iconst 1, 1) := by decide +kernel
theorem d_L_law_1417 : decode b_L_law 1417 = .ok (.iadd, 1) := by decide +kernel
theorem d_L_law_1418 : decode b_L_law 1418 = .ok (.iaload, 1) := by decide +kernel
theorem d_L_law_1419 : decode b_L_law 1419 = .ok (.aload_n 3, 1) := by decide +kernel
theorem d_L_law_1420 : decode b_L_law 1420 = .ok (.invokestatic 166, 3) := by decide +kernel
theorem d_L_law_1423 : decode b_L_law 1423 = .ok (.istore 5, 2) := by decide +kernel
theorem d_L_law_1425 : decode b_L_law 1425 = .ok (.aload_n 2, 1) := by decide +kernel
theorem d_L_law_1426 : decode b_L_law 1426 = .ok (.aload_n 0, 1) := by decide +kernel
theorem d_L_law_1427 : decode b_L_law 1427 = .ok (.iload 4, 2) := by decide +kernel
theorem d_L_law_1429 : decode b_L_law 1429 = .ok (.iconst 1, 1) := by decide +kernel
theorem d_L_law_1430 : decode b_L_law 1430 = .ok (.iadd, 1) := by decide +kernel
theorem d_L_law_1431 : decode b_L_law 1431 = .ok (.iaload, 1) := by decide +kernel
theorem d_L_law_1432 : decode b_L_law 1432 = .ok (.invokevirtual 168, 3) := by decide +kernel
theorem d_L_law_1435 : decode b_L_law 1435 = .ok (.istore 6, 2) := by decide +kernel
theorem d_L_law_1437 : decode b_L_law 1437 = .ok (.aload_n 2, 1) := by decide +kernel
theorem d_L_law_1438 : decode b_L_law 1438 = .ok (.invokevirtual 96, 3) := by decide +kernel
theorem d_L_law_1441 : decode b_L_law 1441 = .ok (.iload 5, 2) := by decide +kernel
theorem d_L_law_1443 : decode b_L_law 1443 = .ok (.if_icmp .eq 5, 3) := by decide +kernel
theorem d_L_law_1446 : decode b_L_law 1446 = .ok (.iconst 0, 1) := by decide +kernel
theorem d_L_law_1447 : decode b_L_law 1447 = .ok (.ireturn, 1) := by decide +kernel
theorem d_L_law_1448 : decode b_L_law 1448 = .ok (.iload 5, 2) := by decide +kernel
theorem d_L_law_1450 : decode b_L_law 1450 = .ok (.ifCond .ne 15, 3) := by decide +kernel
theorem d_L_law_1453 : decode b_L_law 1453 = .ok (.aload_n 3, 1) := by decide +kernel
theorem d_L_law_1454 : decode b_L_law 1454 = .ok (.iconst 0, 1) := by decide +kernel
theorem d_L_law_1455 : decode b_L_law 1455 = .ok (.laload, 1) := by decide +kernel
theorem d_L_law_1456 : decode b_L_law 1456 = .ok (.iload 6, 2) := by decide +kernel
theorem d_L_law_1458 : decode b_L_law 1458 = .ok (.i2l, 1) := by decide +kernel
theorem d_L_law_1459 : decode b_L_law 1459 = .ok (.lcmp, 1) := by decide +kernel
theorem d_L_law_1460 : decode b_L_law 1460 = .ok (.ifCond .eq 5, 3) := by decide +kernel
theorem d_L_law_1463 : decode b_L_law 1463 = .ok (.iconst 0, 1) := by decide +kernel
theorem d_L_law_1464 : decode b_L_law 1464 = .ok (.ireturn, 1) := by decide +kernel
theorem d_L_law_1465 : decode b_L_law 1465 = .ok (.goto 3, 3) := by decide +kernel
theorem d_L_law_1468 : decode b_L_law 1468 = .ok (.iinc 4 4, 3) := by decide +kernel
theorem d_L_law_1471 : decode b_L_law 1471 = .ok (.goto (-1448), 3) := by decide +kernel
theorem d_L_law_1474 : decode b_L_law 1474 = .ok (.iconst 1, 1) := by decide +kernel
theorem d_L_law_1475 : decode b_L_law 1475 = .ok (.ireturn, 1) := by decide +kernel
section JLW
variable {p : Program} {l : Launch} {e : Env} {R : Room} {s : State} {m : MethodId} {args : Array Value} {below : List Frame} {meth : Method} {c : Code} {D : va_G} {cA : Nat → ClassId} {b nL : Nat} {Q : State → Prop} {n : Nat} {h : AH} {kc ks pc : Nat} {L : List (Nat × Value)} {st : List Value} {own mn : String} {cc : ByteArray} {ret : Option FieldType} {hh : List (Nat × Nat × Nat × Nat)}
theorem j_aloadr_n (C : Cx p l s m meth c D cA b nL own mn cc ret hh) {i : Fin 4} {j : Nat} {x : Nat} (hd : decode cc pc = .ok (.aload_n i, 1)) (hi : (i : Nat) = j) (hx : List.lookup j L = some (.retAddr x)) (k : J p l e R s m args below meth c D cA b nL Q n h kc ks (pc + 1) L (.retAddr x :: st)) : J p l e R s m args below meth c D cA b nL Q n h kc ks pc L st :=
  fun H locs ls hp hS hl => lv_aload_n C.1 C.2.1 hd hi (show ls[j]? = some (.val (.ref x)) from sL_at hl hx) (k H locs ls hp hS hl)
theorem j_sld (C : Cx p l s m meth c D cA b nL own mn cc ret hh) {sc len : Nat} {xs : Nat → Int32} {i w : Int32} (hX : va_X sc len xs s s.heap) (hsc : sc < s.heap.size) (hscb : sc < b) (hd : decode cc pc = .ok (.iaload, 1)) (hi : vp_in i len) (hv : xs i.toNatClampNeg = w) (k : J p l e R s m args below meth c D cA b nL Q n h kc ks (pc + 1) L (.int w :: st)) : J p l e R s m args below meth c D cA b nL Q n h kc ks pc L (.int i :: .retAddr sc :: st) := by
  intro H locs ls hp hS hl
  subst hv
  exact va_sld C.1 C.2.1 hX hsc (Nat.not_le.mpr hscb) hS hi hd (k H locs ls hp hS hl)
theorem j_slen (C : Cx p l s m meth c D cA b nL own mn cc ret hh) {sc len : Nat} {xs : Nat → Int32} (hX : va_X sc len xs s s.heap) (hsc : sc < s.heap.size) (hscb : sc < b) (hd : decode cc pc = .ok (.arraylength, 1)) (k : J p l e R s m args below meth c D cA b nL Q n h kc ks (pc + 1) L (.int (nI len) :: st)) : J p l e R s m args below meth c D cA b nL Q n h kc ks pc L (.retAddr sc :: st) := by
  intro H locs ls hp hS hl
  exact va_slen C.1 C.2.1 hX hsc (Nat.not_le.mpr hscb) hS hd (k H locs ls hp hS hl)
end JLW
