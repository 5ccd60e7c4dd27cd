/-! ===== the law's own rows ===== -/
abbrev b_L_law : ByteArray := code
theorem d_L_law_0 : decode b_L_law 0 = .ok (.new 8, 3) := by decide +kernel
theorem d_L_law_3 : decode b_L_law 3 = .ok (.dup, 1) := by decide +kernel
theorem d_L_law_4 : decode b_L_law 4 = .ok (.invokespecial 86, 3) := by decide +kernel
theorem d_L_law_7 : decode b_L_law 7 = .ok (.astore_n 1, 1) := by decide +kernel
theorem d_L_law_8 : decode b_L_law 8 = .ok (.new 87, 3) := by decide +kernel
theorem d_L_law_11 : decode b_L_law 11 = .ok (.dup, 1) := by decide +kernel
theorem d_L_law_12 : decode b_L_law 12 = .ok (.invokespecial 89, 3) := by decide +kernel
theorem d_L_law_15 : decode b_L_law 15 = .ok (.astore_n 2, 1) := by decide +kernel
theorem d_L_law_16 : decode b_L_law 16 = .ok (.iconst 1, 1) := by decide +kernel
theorem d_L_law_17 : decode b_L_law 17 = .ok (.newarray .long, 2) := by decide +kernel
theorem d_L_law_19 : decode b_L_law 19 = .ok (.astore_n 3, 1) := by decide +kernel
theorem d_L_law_20 : decode b_L_law 20 = .ok (.iconst 0, 1) := by decide +kernel
theorem d_L_law_21 : decode b_L_law 21 = .ok (.istore 4, 2) := by decide +kernel
theorem d_L_law_23 : decode b_L_law 23 = .ok (.iload 4, 2) := by decide +kernel
theorem d_L_law_25 : decode b_L_law 25 = .ok (.aload_n 0, 1) := by decide +kernel
theorem d_L_law_26 : decode b_L_law 26 = .ok (.arraylength, 1) := by decide +kernel
theorem d_L_law_27 : decode b_L_law 27 = .ok (.iconst 4, 1) := by decide +kernel
theorem d_L_law_28 : decode b_L_law 28 = .ok (.isub, 1) := by decide +kernel
theorem d_L_law_29 : decode b_L_law 29 = .ok (.if_icmp .gt 991, 3) := by decide +kernel
theorem d_L_law_32 : decode b_L_law 32 = .ok (.aload_n 0, 1) := by decide +kernel
theorem d_L_law_33 : decode b_L_law 33 = .ok (.iload 4, 2) := by decide +kernel
theorem d_L_law_35 : decode b_L_law 35 = .ok (.iaload, 1) := by decide +kernel
theorem d_L_law_36 : decode b_L_law 36 = .ok (.bipush 31, 2) := by decide +kernel
theorem d_L_law_38 : decode b_L_law 38 = .ok (.iand, 1) := by decide +kernel
theorem d_L_law_39 : decode b_L_law 39 = .ok (.tableswitch 975 0 20 #[97, 137, 202, 251, 303, 340, 412, 428, 441, 469, 509, 549, 577, 614, 679, 719, 747, 787, 839, 907, 947], 97) := by decide +kernel
theorem d_L_law_136 : decode b_L_law 136 = .ok (.aload_n 1, 1) := by decide +kernel
theorem d_L_law_137 : decode b_L_law 137 = .ok (.aload_n 0, 1) := by decide +kernel
theorem d_L_law_138 : decode b_L_law 138 = .ok (.iload 4, 2) := by decide +kernel
theorem d_L_law_140 : decode b_L_law 140 = .ok (.iconst 1, 1) := by decide +kernel
theorem d_L_law_141 : decode b_L_law 141 = .ok (.iadd, 1) := by decide +kernel
theorem d_L_law_142 : decode b_L_law 142 = .ok (.iaload, 1) := by decide +kernel
theorem d_L_law_143 : decode b_L_law 143 = .ok (.aload_n 0, 1) := by decide +kernel
theorem d_L_law_144 : decode b_L_law 144 = .ok (.iload 4, 2) := by decide +kernel
theorem d_L_law_146 : decode b_L_law 146 = .ok (.iconst 2, 1) := by decide +kernel
theorem d_L_law_147 : decode b_L_law 147 = .ok (.iadd, 1) := by decide +kernel
theorem d_L_law_148 : decode b_L_law 148 = .ok (.iaload, 1) := by decide +kernel
theorem d_L_law_149 : decode b_L_law 149 = .ok (.aload_n 3, 1) := by decide +kernel
theorem d_L_law_150 : decode b_L_law 150 = .ok (.invokestatic 90, 3) := by decide +kernel
theorem d_L_law_153 : decode b_L_law 153 = .ok (.istore 5, 2) := by decide +kernel
theorem d_L_law_155 : decode b_L_law 155 = .ok (.aload_n 2, 1) := by decide +kernel
theorem d_L_law_156 : decode b_L_law 156 = .ok (.aload_n 0, 1) := by decide +kernel
theorem d_L_law_157 : decode b_L_law 157 = .ok (.iload 4, 2) := by decide +kernel
theorem d_L_law_159 : decode b_L_law 159 = .ok (.iconst 1, 1) := by decide +kernel
theorem d_L_law_160 : decode b_L_law 160 = .ok (.iadd, 1) := by decide +kernel
theorem d_L_law_161 : decode b_L_law 161 = .ok (.iaload, 1) := by decide +kernel
theorem d_L_law_162 : decode b_L_law 162 = .ok (.aload_n 0, 1) := by decide +kernel
theorem d_L_law_163 : decode b_L_law 163 = .ok (.iload 4, 2) := by decide +kernel
theorem d_L_law_165 : decode b_L_law 165 = .ok (.iconst 2, 1) := by decide +kernel
theorem d_L_law_166 : decode b_L_law 166 = .ok (.iadd, 1) := by decide +kernel
theorem d_L_law_167 : decode b_L_law 167 = .ok (.iaload, 1) := by decide +kernel
theorem d_L_law_168 : decode b_L_law 168 = .ok (.invokevirtual 95, 3) := by decide +kernel
theorem d_L_law_171 : decode b_L_law 171 = .ok (.istore 6, 2) := by decide +kernel
theorem d_L_law_173 : decode b_L_law 173 = .ok (.goto 841, 3) := by decide +kernel
theorem d_L_law_176 : decode b_L_law 176 = .ok (.aload_n 1, 1) := by decide +kernel
theorem d_L_law_177 : decode b_L_law 177 = .ok (.aload_n 0, 1) := by decide +kernel
theorem d_L_law_178 : decode b_L_law 178 = .ok (.iload 4, 2) := by decide +kernel
theorem d_L_law_180 : decode b_L_law 180 = .ok (.iconst 1, 1) := by decide +kernel
theorem d_L_law_181 : decode b_L_law 181 = .ok (.iadd, 1) := by decide +kernel
theorem d_L_law_182 : decode b_L_law 182 = .ok (.iaload, 1) := by decide +kernel
theorem d_L_law_183 : decode b_L_law 183 = .ok (.aload_n 0, 1) := by decide +kernel
theorem d_L_law_184 : decode b_L_law 184 = .ok (.iload 4, 2) := by decide +kernel
theorem d_L_law_186 : decode b_L_law 186 = .ok (.iconst 2, 1) := by decide +kernel
theorem d_L_law_187 : decode b_L_law 187 = .ok (.iadd, 1) := by decide +kernel
theorem d_L_law_188 : decode b_L_law 188 = .ok (.iaload, 1) := by decide +kernel
theorem d_L_law_189 : decode b_L_law 189 = .ok (.aload_n 0, 1) := by decide +kernel
theorem d_L_law_190 : decode b_L_law 190 = .ok (.iload 4, 2) := by decide +kernel
theorem d_L_law_192 : decode b_L_law 192 = .ok (.iconst 3, 1) := by decide +kernel
theorem d_L_law_193 : decode b_L_law 193 = .ok (.iadd, 1) := by decide +kernel
theorem d_L_law_194 : decode b_L_law 194 = .ok (.iaload, 1) := by decide +kernel
theorem d_L_law_195 : decode b_L_law 195 = .ok (.ifCond .eq 7, 3) := by decide +kernel
theorem d_L_law_198 : decode b_L_law 198 = .ok (.iconst 1, 1) := by decide +kernel
theorem d_L_law_199 : decode b_L_law 199 = .ok (.goto 4, 3) := by decide +kernel
theorem d_L_law_202 : decode b_L_law 202 = .ok (.iconst 0, 1) := by decide +kernel
theorem d_L_law_203 : decode b_L_law 203 = .ok (.invokestatic 96, 3) := by decide +kernel
theorem d_L_law_206 : decode b_L_law 206 = .ok (.istore 5, 2) := by decide +kernel
theorem d_L_law_208 : decode b_L_law 208 = .ok (.aload_n 2, 1) := by decide +kernel
theorem d_L_law_209 : decode b_L_law 209 = .ok (.aload_n 0, 1) := by decide +kernel
theorem d_L_law_210 : decode b_L_law 210 = .ok (.iload 4, 2) := by decide +kernel
theorem d_L_law_212 : decode b_L_law 212 = .ok (.iconst 1, 1) := by decide +kernel
theorem d_L_law_213 : decode b_L_law 213 = .ok (.iadd, 1) := by decide +kernel
theorem d_L_law_214 : decode b_L_law 214 = .ok (.iaload, 1) := by decide +kernel
theorem d_L_law_215 : decode b_L_law 215 = .ok (.aload_n 0, 1) := by decide +kernel
theorem d_L_law_216 : decode b_L_law 216 = .ok (.iload 4, 2) := by decide +kernel
theorem d_L_law_218 : decode b_L_law 218 = .ok (.iconst 2, 1) := by decide +kernel
theorem d_L_law_219 : decode b_L_law 219 = .ok (.iadd, 1) := by decide +kernel
theorem d_L_law_220 : decode b_L_law 220 = .ok (.iaload, 1) := by decide +kernel
theorem d_L_law_221 : decode b_L_law 221 = .ok (.aload_n 0, 1) := by decide +kernel
theorem d_L_law_222 : decode b_L_law 222 = .ok (.iload 4, 2) := by decide +kernel
theorem d_L_law_224 : decode b_L_law 224 = .ok (.iconst 3, 1) := by decide +kernel
theorem d_L_law_225 : decode b_L_law 225 = .ok (.iadd, 1) := by decide +kernel
theorem d_L_law_226 : decode b_L_law 226 = .ok (.iaload, 1) := by decide +kernel
theorem d_L_law_227 : decode b_L_law 227 = .ok (.ifCond .eq 7, 3) := by decide +kernel
theorem d_L_law_230 : decode b_L_law 230 = .ok (.iconst 1, 1) := by decide +kernel
theorem d_L_law_231 : decode b_L_law 231 = .ok (.goto 4, 3) := by decide +kernel
theorem d_L_law_234 : decode b_L_law 234 = .ok (.iconst 0, 1) := by decide +kernel
theorem d_L_law_235 : decode b_L_law 235 = .ok (.invokevirtual 99, 3) := by decide +kernel
theorem d_L_law_238 : decode b_L_law 238 = .ok (.goto 776, 3) := by decide +kernel
theorem d_L_law_241 : decode b_L_law 241 = .ok (.aload_n 1, 1) := by decide +kernel
theorem d_L_law_242 : decode b_L_law 242 = .ok (.aload_n 0, 1) := by decide +kernel
theorem d_L_law_243 : decode b_L_law 243 = .ok (.iload 4, 2) := by decide +kernel
theorem d_L_law_245 : decode b_L_law 245 = .ok (.iconst 1, 1) := by decide +kernel
theorem d_L_law_246 : decode b_L_law 246 = .ok (.iadd, 1) := by decide +kernel
theorem d_L_law_247 : decode b_L_law 247 = .ok (.iaload, 1) := by decide +kernel
theorem d_L_law_248 : decode b_L_law 248 = .ok (.aload_n 0, 1) := by decide +kernel
theorem d_L_law_249 : decode b_L_law 249 = .ok (.iload 4, 2) := by decide +kernel
theorem d_L_law_251 : decode b_L_law 251 = .ok (.iconst 2, 1) := by decide +kernel
theorem d_L_law_252 : decode b_L_law 252 = .ok (.iadd, 1) := by decide +kernel
theorem d_L_law_253 : decode b_L_law 253 = .ok (.iaload, 1) := by decide +kernel
theorem d_L_law_254 : decode b_L_law 254 = .ok (.aload_n 0, 1) := by decide +kernel
theorem d_L_law_255 : decode b_L_law 255 = .ok (.iload 4, 2) := by decide +kernel
theorem d_L_law_257 : decode b_L_law 257 = .ok (.iconst 3, 1) := by decide +kernel
theorem d_L_law_258 : decode b_L_law 258 = .ok (.iadd, 1) := by decide +kernel
theorem d_L_law_259 : decode b_L_law 259 = .ok (.iaload, 1) := by decide +kernel
theorem d_L_law_260 : decode b_L_law 260 = .ok (.invokestatic 100, 3) := by decide +kernel
theorem d_L_law_263 : decode b_L_law 263 = .ok (.istore 5, 2) := by decide +kernel
theorem d_L_law_265 : decode b_L_law 265 = .ok (.aload_n 2, 1) := by decide +kernel
theorem d_L_law_266 : decode b_L_law 266 = .ok (.aload_n 0, 1) := by decide +kernel
theorem d_L_law_267 : decode b_L_law 267 = .ok (.iload 4, 2) := by decide +kernel
theorem d_L_law_269 : decode b_L_law 269 = .ok (.iconst 1, 1) := by decide +kernel
theorem d_L_law_270 : decode b_L_law 270 = .ok (.iadd, 1) := by decide +kernel
theorem d_L_law_271 : decode b_L_law 271 = .ok (.iaload, 1) := by decide +kernel
theorem d_L_law_272 : decode b_L_law 272 = .ok (.aload_n 0, 1) := by decide +kernel
theorem d_L_law_273 : decode b_L_law 273 = .ok (.iload 4, 2) := by decide +kernel
theorem d_L_law_275 : decode b_L_law 275 = .ok (.iconst 2, 1) := by decide +kernel
theorem d_L_law_276 : decode b_L_law 276 = .ok (.iadd, 1) := by decide +kernel
theorem d_L_law_277 : decode b_L_law 277 = .ok (.iaload, 1) := by decide +kernel
theorem d_L_law_278 : decode b_L_law 278 = .ok (.aload_n 0, 1) := by decide +kernel
theorem d_L_law_279 : decode b_L_law 279 = .ok (.iload 4, 2) := by decide +kernel
theorem d_L_law_281 : decode b_L_law 281 = .ok (.iconst 3, 1) := by decide +kernel
theorem d_L_law_282 : decode b_L_law 282 = .ok (.iadd, 1) := by decide +kernel
theorem d_L_law_283 : decode b_L_law 283 = .ok (.iaload, 1) := by decide +kernel
theorem d_L_law_284 : decode b_L_law 284 = .ok (.invokevirtual 103, 3) := by decide +kernel
theorem d_L_law_287 : decode b_L_law 287 = .ok (.goto 727, 3) := by decide +kernel
theorem d_L_law_290 : decode b_L_law 290 = .ok (.aload_n 1, 1) := by decide +kernel
theorem d_L_law_291 : decode b_L_law 291 = .ok (.aload_n 0, 1) := by decide +kernel
theorem d_L_law_292 : decode b_L_law 292 = .ok (.iload 4, 2) := by decide +kernel
theorem d_L_law_294 : decode b_L_law 294 = .ok (.iconst 1, 1) := by decide +kernel
theorem d_L_law_295 : decode b_L_law 295 = .ok (.iadd, 1) := by decide +kernel
theorem d_L_law_296 : decode b_L_law 296 = .ok (.iaload, 1) := by decide +kernel
theorem d_L_law_297 : decode b_L_law 297 = .ok (.aload_n 0, 1) := by decide +kernel
theorem d_L_law_298 : decode b_L_law 298 = .ok (.iload 4, 2) := by decide +kernel
theorem d_L_law_300 : decode b_L_law 300 = .ok (.iconst 2, 1) := by decide +kernel
theorem d_L_law_301 : decode b_L_law 301 = .ok (.iadd, 1) := by decide +kernel
theorem d_L_law_302 : decode b_L_law 302 = .ok (.iaload, 1) := by decide +kernel
theorem d_L_law_303 : decode b_L_law 303 = .ok (.aload_n 0, 1) := by decide +kernel
theorem d_L_law_304 : decode b_L_law 304 = .ok (.iload 4, 2) := by decide +kernel
theorem d_L_law_306 : decode b_L_law 306 = .ok (.iconst 3, 1) := by decide +kernel
theorem d_L_law_307 : decode b_L_law 307 = .ok (.iadd, 1) := by decide +kernel
theorem d_L_law_308 : decode b_L_law 308 = .ok (.iaload, 1) := by decide +kernel
theorem d_L_law_309 : decode b_L_law 309 = .ok (.aload_n 3, 1) := by decide +kernel
theorem d_L_law_310 : decode b_L_law 310 = .ok (.invokestatic 104, 3) := by decide +kernel
theorem d_L_law_313 : decode b_L_law 313 = .ok (.istore 5, 2) := by decide +kernel
theorem d_L_law_315 : decode b_L_law 315 = .ok (.aload_n 2, 1) := by decide +kernel
theorem d_L_law_316 : decode b_L_law 316 = .ok (.aload_n 0, 1) := by decide +kernel
theorem d_L_law_317 : decode b_L_law 317 = .ok (.iload 4, 2) := by decide +kernel
theorem d_L_law_319 : decode b_L_law 319 = .ok (.iconst 1, 1) := by decide +kernel
theorem d_L_law_320 : decode b_L_law 320 = .ok (.iadd, 1) := by decide +kernel
theorem d_L_law_321 : decode b_L_law 321 = .ok (.iaload, 1) := by decide +kernel
theorem d_L_law_322 : decode b_L_law 322 = .ok (.aload_n 0, 1) := by decide +kernel
theorem d_L_law_323 : decode b_L_law 323 = .ok (.iload 4, 2) := by decide +kernel
theorem d_L_law_325 : decode b_L_law 325 = .ok (.iconst 2, 1) := by decide +kernel
theorem d_L_law_326 : decode b_L_law 326 = .ok (.iadd, 1) := by decide +kernel
theorem d_L_law_327 : decode b_L_law 327 = .ok (.iaload, 1) := by decide +kernel
theorem d_L_law_328 : decode b_L_law 328 = .ok (.aload_n 0, 1) := by decide +kernel
theorem d_L_law_329 : decode b_L_law 329 = .ok (.iload 4, 2) := by decide +kernel
theorem d_L_law_331 : decode b_L_law 331 = .ok (.iconst 3, 1) := by decide +kernel
theorem d_L_law_332 : decode b_L_law 332 = .ok (.iadd, 1) := by decide +kernel
theorem d_L_law_333 : decode b_L_law 333 = .ok (.iaload, 1) := by decide +kernel
theorem d_L_law_334 : decode b_L_law 334 = .ok (.invokevirtual 107, 3) := by decide +kernel
theorem d_L_law_337 : decode b_L_law 337 = .ok (.istore 6, 2) := by decide +kernel
theorem d_L_law_339 : decode b_L_law 339 = .ok (.goto 675, 3) := by decide +kernel
theorem d_L_law_342 : decode b_L_law 342 = .ok (.aload_n 1, 1) := by decide +kernel
theorem d_L_law_343 : decode b_L_law 343 = .ok (.aload_n 0, 1) := by decide +kernel
theorem d_L_law_344 : decode b_L_law 344 = .ok (.iload 4, 2) := by decide +kernel
theorem d_L_law_346 : decode b_L_law 346 = .ok (.iconst 1, 1) := by decide +kernel
theorem d_L_law_347 : decode b_L_law 347 = .ok (.iadd, 1) := by decide +kernel
theorem d_L_law_348 : decode b_L_law 348 = .ok (.iaload, 1) := by decide +kernel
theorem d_L_law_349 : decode b_L_law 349 = .ok (.aload_n 0, 1) := by decide +kernel
theorem d_L_law_350 : decode b_L_law 350 = .ok (.iload 4, 2) := by decide +kernel
theorem d_L_law_352 : decode b_L_law 352 = .ok (.iconst 2, 1) := by decide +kernel
theorem d_L_law_353 : decode b_L_law 353 = .ok (.iadd, 1) := by decide +kernel
theorem d_L_law_354 : decode b_L_law 354 = .ok (.iaload, 1) := by decide +kernel
theorem d_L_law_355 : decode b_L_law 355 = .ok (.invokestatic 108, 3) := by decide +kernel
theorem d_L_law_358 : decode b_L_law 358 = .ok (.istore 5, 2) := by decide +kernel
theorem d_L_law_360 : decode b_L_law 360 = .ok (.aload_n 2, 1) := by decide +kernel
theorem d_L_law_361 : decode b_L_law 361 = .ok (.aload_n 0, 1) := by decide +kernel
theorem d_L_law_362 : decode b_L_law 362 = .ok (.iload 4, 2) := by decide +kernel
theorem d_L_law_364 : decode b_L_law 364 = .ok (.iconst 1, 1) := by decide +kernel
theorem d_L_law_365 : decode b_L_law 365 = .ok (.iadd, 1) := by decide +kernel
theorem d_L_law_366 : decode b_L_law 366 = .ok (.iaload, 1) := by decide +kernel
theorem d_L_law_367 : decode b_L_law 367 = .ok (.aload_n 0, 1) := by decide +kernel
theorem d_L_law_368 : decode b_L_law 368 = .ok (.iload 4, 2) := by decide +kernel
theorem d_L_law_370 : decode b_L_law 370 = .ok (.iconst 2, 1) := by decide +kernel
theorem d_L_law_371 : decode b_L_law 371 = .ok (.iadd, 1) := by decide +kernel
theorem d_L_law_372 : decode b_L_law 372 = .ok (.iaload, 1) := by decide +kernel
theorem d_L_law_373 : decode b_L_law 373 = .ok (.invokevirtual 111, 3) := by decide +kernel
theorem d_L_law_376 : decode b_L_law 376 = .ok (.goto 638, 3) := by decide +kernel
theorem d_L_law_379 : decode b_L_law 379 = .ok (.aload_n 1, 1) := by decide +kernel
theorem d_L_law_380 : decode b_L_law 380 = .ok (.aload_n 0, 1) := by decide +kernel
theorem d_L_law_381 : decode b_L_law 381 = .ok (.iload 4, 2) := by decide +kernel
theorem d_L_law_383 : decode b_L_law 383 = .ok (.iconst 1, 1) := by decide +kernel
theorem d_L_law_384 : decode b_L_law 384 = .ok (.iadd, 1) := by decide +kernel
theorem d_L_law_385 : decode b_L_law 385 = .ok (.iaload, 1) := by decide +kernel
theorem d_L_law_386 : decode b_L_law 386 = .ok (.i2l, 1) := by decide +kernel
theorem d_L_law_387 : decode b_L_law 387 = .ok (.bipush 32, 2) := by decide +kernel
theorem d_L_law_389 : decode b_L_law 389 = .ok (.lshl, 1) := by decide +kernel
theorem d_L_law_390 : decode b_L_law 390 = .ok (.aload_n 0, 1) := by decide +kernel
theorem d_L_law_391 : decode b_L_law 391 = .ok (.iload 4, 2) := by decide +kernel
theorem d_L_law_393 : decode b_L_law 393 = .ok (.iconst 2, 1) := by decide +kernel
theorem d_L_law_394 : decode b_L_law 394 = .ok (.iadd, 1) := by decide +kernel
theorem d_L_law_395 : decode b_L_law 395 = .ok (.iaload, 1) := by decide +kernel
theorem d_L_law_396 : decode b_L_law 396 = .ok (.i2l, 1) := by decide +kernel
theorem d_L_law_397 : decode b_L_law 397 = .ok (.ldc2_w 112, 3) := by decide +kernel
theorem d_L_law_400 : decode b_L_law 400 = .ok (.land, 1) := by decide +kernel
theorem d_L_law_401 : decode b_L_law 401 = .ok (.lor, 1) := by decide +kernel
theorem d_L_law_402 : decode b_L_law 402 = .ok (.aload_n 0, 1) := by decide +kernel
theorem d_L_law_403 : decode b_L_law 403 = .ok (.iload 4, 2) := by decide +kernel
theorem d_L_law_405 : decode b_L_law 405 = .ok (.iconst 3, 1) := by decide +kernel
theorem d_L_law_406 : decode b_L_law 406 = .ok (.iadd, 1) := by decide +kernel
theorem d_L_law_407 : decode b_L_law 407 = .ok (.iaload, 1) := by decide +kernel
theorem d_L_law_408 : decode b_L_law 408 = .ok (.aload_n 3, 1) := by decide +kernel
theorem d_L_law_409 : decode b_L_law 409 = .ok (.invokestatic 114, 3) := by decide +kernel
theorem d_L_law_412 : decode b_L_law 412 = .ok (.istore 5, 2) := by decide +kernel
theorem d_L_law_414 : decode b_L_law 414 = .ok (.aload_n 2, 1) := by decide +kernel
theorem d_L_law_415 : decode b_L_law 415 = .ok (.aload_n 0, 1) := by decide +kernel
theorem d_L_law_416 : decode b_L_law 416 = .ok (.iload 4, 2) := by decide +kernel
theorem d_L_law_418 : decode b_L_law 418 = .ok (.iconst 1, 1) := by decide +kernel
theorem d_L_law_419 : decode b_L_law 419 = .ok (.iadd, 1) := by decide +kernel
theorem d_L_law_420 : decode b_L_law 420 = .ok (.iaload, 1) := by decide +kernel
theorem d_L_law_421 : decode b_L_law 421 = .ok (.i2l, 1) := by decide +kernel
theorem d_L_law_422 : decode b_L_law 422 = .ok (.bipush 32, 2) := by decide +kernel
theorem d_L_law_424 : decode b_L_law 424 = .ok (.lshl, 1) := by decide +kernel
theorem d_L_law_425 : decode b_L_law 425 = .ok (.aload_n 0, 1) := by decide +kernel
theorem d_L_law_426 : decode b_L_law 426 = .ok (.iload 4, 2) := by decide +kernel
theorem d_L_law_428 : decode b_L_law 428 = .ok (.iconst 2, 1) := by decide +kernel
theorem d_L_law_429 : decode b_L_law 429 = .ok (.iadd, 1) := by decide +kernel
theorem d_L_law_430 : decode b_L_law 430 = .ok (.iaload, 1) := by decide +kernel
theorem d_L_law_431 : decode b_L_law 431 = .ok (.i2l, 1) := by decide +kernel
theorem d_L_law_432 : decode b_L_law 432 = .ok (.ldc2_w 112, 3) := by decide +kernel
theorem d_L_law_435 : decode b_L_law 435 = .ok (.land, 1) := by decide +kernel
theorem d_L_law_436 : decode b_L_law 436 = .ok (.lor, 1) := by decide +kernel
theorem d_L_law_437 : decode b_L_law 437 = .ok (.aload_n 0, 1) := by decide +kernel
theorem d_L_law_438 : decode b_L_law 438 = .ok (.iload 4, 2) := by decide +kernel
theorem d_L_law_440 : decode b_L_law 440 = .ok (.iconst 3, 1) := by decide +kernel
theorem d_L_law_441 : decode b_L_law 441 = .ok (.iadd, 1) := by decide +kernel
theorem d_L_law_442 : decode b_L_law 442 = .ok (.iaload, 1) := by decide +kernel
theorem d_L_law_443 : decode b_L_law 443 = .ok (.invokevirtual 117, 3) := by decide +kernel
theorem d_L_law_446 : decode b_L_law 446 = .ok (.istore 6, 2) := by decide +kernel
theorem d_L_law_448 : decode b_L_law 448 = .ok (.goto 566, 3) := by decide +kernel
theorem d_L_law_451 : decode b_L_law 451 = .ok (.aload_n 1, 1) := by decide +kernel
theorem d_L_law_452 : decode b_L_law 452 = .ok (.aload_n 3, 1) := by decide +kernel
theorem d_L_law_453 : decode b_L_law 453 = .ok (.invokestatic 118, 3) := by decide +kernel
theorem d_L_law_456 : decode b_L_law 456 = .ok (.istore 5, 2) := by decide +kernel
theorem d_L_law_458 : decode b_L_law 458 = .ok (.aload_n 2, 1) := by decide +kernel
theorem d_L_law_459 : decode b_L_law 459 = .ok (.invokevirtual 121, 3) := by decide +kernel
theorem d_L_law_462 : decode b_L_law 462 = .ok (.istore 6, 2) := by decide +kernel
theorem d_L_law_464 : decode b_L_law 464 = .ok (.goto 550, 3) := by decide +kernel
theorem d_L_law_467 : decode b_L_law 467 = .ok (.aload_n 1, 1) := by decide +kernel
theorem d_L_law_468 : decode b_L_law 468 = .ok (.invokevirtual 122, 3) := by decide +kernel
theorem d_L_law_471 : decode b_L_law 471 = .ok (.pop, 1) := by decide +kernel
theorem d_L_law_472 : decode b_L_law 472 = .ok (.aload_n 2, 1) := by decide +kernel
theorem d_L_law_473 : decode b_L_law 473 = .ok (.invokevirtual 125, 3) := by decide +kernel
theorem d_L_law_476 : decode b_L_law 476 = .ok (.pop, 1) := by decide +kernel
theorem d_L_law_477 : decode b_L_law 477 = .ok (.goto 537, 3) := by decide +kernel
theorem d_L_law_480 : decode b_L_law 480 = .ok (.aload_n 1, 1) := by decide +kernel
theorem d_L_law_481 : decode b_L_law 481 = .ok (.aload_n 0, 1) := by decide +kernel
theorem d_L_law_482 : decode b_L_law 482 = .ok (.iload 4, 2) := by decide +kernel
theorem d_L_law_484 : decode b_L_law 484 = .ok (.iconst 1, 1) := by decide +kernel
theorem d_L_law_485 : decode b_L_law 485 = .ok (.iadd, 1) := by decide +kernel
theorem d_L_law_486 : decode b_L_law 486 = .ok (.iaload, 1) := by decide +kernel
theorem d_L_law_487 : decode b_L_law 487 = .ok (.aload_n 3, 1) := by decide +kernel
theorem d_L_law_488 : decode b_L_law 488 = .ok (.invokestatic 126, 3) := by decide +kernel
theorem d_L_law_491 : decode b_L_law 491 = .ok (.istore 5, 2) := by decide +kernel
theorem d_L_law_493 : decode b_L_law 493 = .ok (.aload_n 2, 1) := by decide +kernel
theorem d_L_law_494 : decode b_L_law 494 = .ok (.aload_n 0, 1) := by decide +kernel
theorem d_L_law_495 : decode b_L_law 495 = .ok (.iload 4, 2) := by decide +kernel
theorem d_L_law_497 : decode b_L_law 497 = .ok (.iconst 1, 1) := by decide +kernel
theorem d_L_law_498 : decode b_L_law 498 = .ok (.iadd, 1) := by decide +kernel
theorem d_L_law_499 : decode b_L_law 499 = .ok (.iaload, 1) := by decide +kernel
theorem d_L_law_500 : decode b_L_law 500 = .ok (.invokevirtual 129, 3) := by decide +kernel
theorem d_L_law_503 : decode b_L_law 503 = .ok (.istore 6, 2) := by decide +kernel
theorem d_L_law_505 : decode b_L_law 505 = .ok (.goto 509, 3) := by decide +kernel
theorem d_L_law_508 : decode b_L_law 508 = .ok (.aload_n 1, 1) := by decide +kernel
theorem d_L_law_509 : decode b_L_law 509 = .ok (.aload_n 0, 1) := by decide +kernel
theorem d_L_law_510 : decode b_L_law 510 = .ok (.iload 4, 2) := by decide +kernel
theorem d_L_law_512 : decode b_L_law 512 = .ok (.iconst 1, 1) := by decide +kernel
theorem d_L_law_513 : decode b_L_law 513 = .ok (.iadd, 1) := by decide +kernel
theorem d_L_law_514 : decode b_L_law 514 = .ok (.iaload, 1) := by decide +kernel
theorem d_L_law_515 : decode b_L_law 515 = .ok (.aload_n 0, 1) := by decide +kernel
theorem d_L_law_516 : decode b_L_law 516 = .ok (.iload 4, 2) := by decide +kernel
theorem d_L_law_518 : decode b_L_law 518 = .ok (.iconst 2, 1) := by decide +kernel
theorem d_L_law_519 : decode b_L_law 519 = .ok (.iadd, 1) := by decide +kernel
theorem d_L_law_520 : decode b_L_law 520 = .ok (.iaload, 1) := by decide +kernel
theorem d_L_law_521 : decode b_L_law 521 = .ok (.aload_n 3, 1) := by decide +kernel
theorem d_L_law_522 : decode b_L_law 522 = .ok (.invokestatic 130, 3) := by decide +kernel
theorem d_L_law_525 : decode b_L_law 525 = .ok (.istore 5, 2) := by decide +kernel
theorem d_L_law_527 : decode b_L_law 527 = .ok (.aload_n 2, 1) := by decide +kernel
theorem d_L_law_528 : decode b_L_law 528 = .ok (.aload_n 0, 1) := by decide +kernel
theorem d_L_law_529 : decode b_L_law 529 = .ok (.iload 4, 2) := by decide +kernel
theorem d_L_law_531 : decode b_L_law 531 = .ok (.iconst 1, 1) := by decide +kernel
theorem d_L_law_532 : decode b_L_law 532 = .ok (.iadd, 1) := by decide +kernel
theorem d_L_law_533 : decode b_L_law 533 = .ok (.iaload, 1) := by decide +kernel
theorem d_L_law_534 : decode b_L_law 534 = .ok (.aload_n 0, 1) := by decide +kernel
theorem d_L_law_535 : decode b_L_law 535 = .ok (.iload 4, 2) := by decide +kernel
theorem d_L_law_537 : decode b_L_law 537 = .ok (.iconst 2, 1) := by decide +kernel
theorem d_L_law_538 : decode b_L_law 538 = .ok (.iadd, 1) := by decide +kernel
theorem d_L_law_539 : decode b_L_law 539 = .ok (.iaload, 1) := by decide +kernel
theorem d_L_law_540 : decode b_L_law 540 = .ok (.invokevirtual 132, 3) := by decide +kernel
theorem d_L_law_543 : decode b_L_law 543 = .ok (.istore 6, 2) := by decide +kernel
theorem d_L_law_545 : decode b_L_law 545 = .ok (.goto 469, 3) := by decide +kernel
theorem d_L_law_548 : decode b_L_law 548 = .ok (.aload_n 1, 1) := by decide +kernel
theorem d_L_law_549 : decode b_L_law 549 = .ok (.aload_n 0, 1) := by decide +kernel
theorem d_L_law_550 : decode b_L_law 550 = .ok (.iload 4, 2) := by decide +kernel
theorem d_L_law_552 : decode b_L_law 552 = .ok (.iconst 1, 1) := by decide +kernel
theorem d_L_law_553 : decode b_L_law 553 = .ok (.iadd, 1) := by decide +kernel
theorem d_L_law_554 : decode b_L_law 554 = .ok (.iaload, 1) := by decide +kernel
theorem d_L_law_555 : decode b_L_law 555 = .ok (.aload_n 0, 1) := by decide +kernel
theorem d_L_law_556 : decode b_L_law 556 = .ok (.iload 4, 2) := by decide +kernel
theorem d_L_law_558 : decode b_L_law 558 = .ok (.iconst 2, 1) := by decide +kernel
theorem d_L_law_559 : decode b_L_law 559 = .ok (.iadd, 1) := by decide +kernel
theorem d_L_law_560 : decode b_L_law 560 = .ok (.iaload, 1) := by decide +kernel
theorem d_L_law_561 : decode b_L_law 561 = .ok (.aload_n 3, 1) := by decide +kernel
theorem d_L_law_562 : decode b_L_law 562 = .ok (.invokestatic 133, 3) := by decide +kernel
theorem d_L_law_565 : decode b_L_law 565 = .ok (.istore 5, 2) := by decide +kernel
theorem d_L_law_567 : decode b_L_law 567 = .ok (.aload_n 2, 1) := by decide +kernel
theorem d_L_law_568 : decode b_L_law 568 = .ok (.aload_n 0, 1) := by decide +kernel
theorem d_L_law_569 : decode b_L_law 569 = .ok (.iload 4, 2) := by decide +kernel
theorem d_L_law_571 : decode b_L_law 571 = .ok (.iconst 1, 1) := by decide +kernel
theorem d_L_law_572 : decode b_L_law 572 = .ok (.iadd, 1) := by decide +kernel
theorem d_L_law_573 : decode b_L_law 573 = .ok (.iaload, 1) := by decide +kernel
theorem d_L_law_574 : decode b_L_law 574 = .ok (.aload_n 0, 1) := by decide +kernel
theorem d_L_law_575 : decode b_L_law 575 = .ok (.iload 4, 2) := by decide +kernel
theorem d_L_law_577 : decode b_L_law 577 = .ok (.iconst 2, 1) := by decide +kernel
theorem d_L_law_578 : decode b_L_law 578 = .ok (.iadd, 1) := by decide +kernel
theorem d_L_law_579 : decode b_L_law 579 = .ok (.iaload, 1) := by decide +kernel
theorem d_L_law_580 : decode b_L_law 580 = .ok (.invokevirtual 135, 3) := by decide +kernel
theorem d_L_law_583 : decode b_L_law 583 = .ok (.istore 6, 2) := by decide +kernel
theorem d_L_law_585 : decode b_L_law 585 = .ok (.goto 429, 3) := by decide +kernel
theorem d_L_law_588 : decode b_L_law 588 = .ok (.aload_n 1, 1) := by decide +kernel
theorem d_L_law_589 : decode b_L_law 589 = .ok (.aload_n 0, 1) := by decide +kernel
theorem d_L_law_590 : decode b_L_law 590 = .ok (.iload 4, 2) := by decide +kernel
theorem d_L_law_592 : decode b_L_law 592 = .ok (.iconst 1, 1) := by decide +kernel
theorem d_L_law_593 : decode b_L_law 593 = .ok (.iadd, 1) := by decide +kernel
theorem d_L_law_594 : decode b_L_law 594 = .ok (.iaload, 1) := by decide +kernel
theorem d_L_law_595 : decode b_L_law 595 = .ok (.aload_n 3, 1) := by decide +kernel
theorem d_L_law_596 : decode b_L_law 596 = .ok (.invokestatic 136, 3) := by decide +kernel
theorem d_L_law_599 : decode b_L_law 599 = .ok (.istore 5, 2) := by decide +kernel
theorem d_L_law_601 : decode b_L_law 601 = .ok (.aload_n 2, 1) := by decide +kernel
theorem d_L_law_602 : decode b_L_law 602 = .ok (.aload_n 0, 1) := by decide +kernel
theorem d_L_law_603 : decode b_L_law 603 = .ok (.iload 4, 2) := by decide +kernel
theorem d_L_law_605 : decode b_L_law 605 = .ok (.iconst 1, 1) := by decide +kernel
theorem d_L_law_606 : decode b_L_law 606 = .ok (.iadd, 1) := by decide +kernel
theorem d_L_law_607 : decode b_L_law 607 = .ok (.iaload, 1) := by decide +kernel
theorem d_L_law_608 : decode b_L_law 608 = .ok (.invokevirtual 138, 3) := by decide +kernel
theorem d_L_law_611 : decode b_L_law 611 = .ok (.istore 6, 2) := by decide +kernel
theorem d_L_law_613 : decode b_L_law 613 = .ok (.goto 401, 3) := by decide +kernel
theorem d_L_law_616 : decode b_L_law 616 = .ok (.aload_n 1, 1) := by decide +kernel
theorem d_L_law_617 : decode b_L_law 617 = .ok (.aload_n 0, 1) := by decide +kernel
theorem d_L_law_618 : decode b_L_law 618 = .ok (.iload 4, 2) := by decide +kernel
theorem d_L_law_620 : decode b_L_law 620 = .ok (.iconst 1, 1) := by decide +kernel
theorem d_L_law_621 : decode b_L_law 621 = .ok (.iadd, 1) := by decide +kernel
theorem d_L_law_622 : decode b_L_law 622 = .ok (.iaload, 1) := by decide +kernel
theorem d_L_law_623 : decode b_L_law 623 = .ok (.aload_n 0, 1) := by decide +kernel
theorem d_L_law_624 : decode b_L_law 624 = .ok (.iload 4, 2) := by decide +kernel
theorem d_L_law_626 : decode b_L_law 626 = .ok (.iconst 2, 1) := by decide +kernel
theorem d_L_law_627 : decode b_L_law 627 = .ok (.iadd, 1) := by decide +kernel
theorem d_L_law_628 : decode b_L_law 628 = .ok (.iaload, 1) := by decide +kernel
theorem d_L_law_629 : decode b_L_law 629 = .ok (.invokestatic 139, 3) := by decide +kernel
theorem d_L_law_632 : decode b_L_law 632 = .ok (.istore 5, 2) := by decide +kernel
theorem d_L_law_634 : decode b_L_law 634 = .ok (.aload_n 2, 1) := by decide +kernel
theorem d_L_law_635 : decode b_L_law 635 = .ok (.aload_n 0, 1) := by decide +kernel
theorem d_L_law_636 : decode b_L_law 636 = .ok (.iload 4, 2) := by decide +kernel
theorem d_L_law_638 : decode b_L_law 638 = .ok (.iconst 1, 1) := by decide +kernel
theorem d_L_law_639 : decode b_L_law 639 = .ok (.iadd, 1) := by decide +kernel
theorem d_L_law_640 : decode b_L_law 640 = .ok (.iaload, 1) := by decide +kernel
theorem d_L_law_641 : decode b_L_law 641 = .ok (.aload_n 0, 1) := by decide +kernel
theorem d_L_law_642 : decode b_L_law 642 = .ok (.iload 4, 2) := by decide +kernel
theorem d_L_law_644 : decode b_L_law 644 = .ok (.iconst 2, 1) := by decide +kernel
theorem d_L_law_645 : decode b_L_law 645 = .ok (.iadd, 1) := by decide +kernel
theorem d_L_law_646 : decode b_L_law 646 = .ok (.iaload, 1) := by decide +kernel
theorem d_L_law_647 : decode b_L_law 647 = .ok (.invokevirtual 141, 3) := by decide +kernel
theorem d_L_law_650 : decode b_L_law 650 = .ok (.goto 364, 3) := by decide +kernel
theorem d_L_law_653 : decode b_L_law 653 = .ok (.aload_n 1, 1) := by decide +kernel
theorem d_L_law_654 : decode b_L_law 654 = .ok (.aload_n 0, 1) := by decide +kernel
theorem d_L_law_655 : decode b_L_law 655 = .ok (.iload 4, 2) := by decide +kernel
theorem d_L_law_657 : decode b_L_law 657 = .ok (.iconst 1, 1) := by decide +kernel
theorem d_L_law_658 : decode b_L_law 658 = .ok (.iadd, 1) := by decide +kernel
theorem d_L_law_659 : decode b_L_law 659 = .ok (.iaload, 1) := by decide +kernel
theorem d_L_law_660 : decode b_L_law 660 = .ok (.aload_n 0, 1) := by decide +kernel
theorem d_L_law_661 : decode b_L_law 661 = .ok (.iload 4, 2) := by decide +kernel
theorem d_L_law_663 : decode b_L_law 663 = .ok (.iconst 2, 1) := by decide +kernel
theorem d_L_law_664 : decode b_L_law 664 = .ok (.iadd, 1) := by decide +kernel
theorem d_L_law_665 : decode b_L_law 665 = .ok (.iaload, 1) := by decide +kernel
theorem d_L_law_666 : decode b_L_law 666 = .ok (.aload_n 0, 1) := by decide +kernel
theorem d_L_law_667 : decode b_L_law 667 = .ok (.iload 4, 2) := by decide +kernel
theorem d_L_law_669 : decode b_L_law 669 = .ok (.iconst 3, 1) := by decide +kernel
theorem d_L_law_670 : decode b_L_law 670 = .ok (.iadd, 1) := by decide +kernel
theorem d_L_law_671 : decode b_L_law 671 = .ok (.iaload, 1) := by decide +kernel
theorem d_L_law_672 : decode b_L_law 672 = .ok (.ifCond .eq 7, 3) := by decide +kernel
theorem d_L_law_675 : decode b_L_law 675 = .ok (.iconst 1, 1) := by decide +kernel
theorem d_L_law_676 : decode b_L_law 676 = .ok (.goto 4, 3) := by decide +kernel
theorem d_L_law_679 : decode b_L_law 679 = .ok (.iconst 0, 1) := by decide +kernel
theorem d_L_law_680 : decode b_L_law 680 = .ok (.invokestatic 142, 3) := by decide +kernel
theorem d_L_law_683 : decode b_L_law 683 = .ok (.istore 5, 2) := by decide +kernel
theorem d_L_law_685 : decode b_L_law 685 = .ok (.aload_n 2, 1) := by decide +kernel
theorem d_L_law_686 : decode b_L_law 686 = .ok (.aload_n 0, 1) := by decide +kernel
theorem d_L_law_687 : decode b_L_law 687 = .ok (.iload 4, 2) := by decide +kernel
theorem d_L_law_689 : decode b_L_law 689 = .ok (.iconst 1, 1) := by decide +kernel
theorem d_L_law_690 : decode b_L_law 690 = .ok (.iadd, 1) := by decide +kernel
theorem d_L_law_691 : decode b_L_law 691 = .ok (.iaload, 1) := by decide +kernel
theorem d_L_law_692 : decode b_L_law 692 = .ok (.aload_n 0, 1) := by decide +kernel
theorem d_L_law_693 : decode b_L_law 693 = .ok (.iload 4, 2) := by decide +kernel
theorem d_L_law_695 : decode b_L_law 695 = .ok (.iconst 2, 1) := by decide +kernel
theorem d_L_law_696 : decode b_L_law 696 = .ok (.iadd, 1) := by decide +kernel
theorem d_L_law_697 : decode b_L_law 697 = .ok (.iaload, 1) := by decide +kernel
theorem d_L_law_698 : decode b_L_law 698 = .ok (.aload_n 0, 1) := by decide +kernel
theorem d_L_law_699 : decode b_L_law 699 = .ok (.iload 4, 2) := by decide +kernel
theorem d_L_law_701 : decode b_L_law 701 = .ok (.iconst 3, 1) := by decide +kernel
theorem d_L_law_702 : decode b_L_law 702 = .ok (.iadd, 1) := by decide +kernel
theorem d_L_law_703 : decode b_L_law 703 = .ok (.iaload, 1) := by decide +kernel
theorem d_L_law_704 : decode b_L_law 704 = .ok (.ifCond .eq 7, 3) := by decide +kernel
theorem d_L_law_707 : decode b_L_law 707 = .ok (.iconst 1, 1) := by decide +kernel
theorem d_L_law_708 : decode b_L_law 708 = .ok (.goto 4, 3) := by decide +kernel
theorem d_L_law_711 : decode b_L_law 711 = .ok (.iconst 0, 1) := by decide +kernel
theorem d_L_law_712 : decode b_L_law 712 = .ok (.invokevirtual 144, 3) := by decide +kernel
theorem d_L_law_715 : decode b_L_law 715 = .ok (.goto 299, 3) := by decide +kernel
theorem d_L_law_718 : decode b_L_law 718 = .ok (.aload_n 1, 1) := by decide +kernel
theorem d_L_law_719 : decode b_L_law 719 = .ok (.aload_n 0, 1) := by decide +kernel
theorem d_L_law_720 : decode b_L_law 720 = .ok (.iload 4, 2) := by decide +kernel
theorem d_L_law_722 : decode b_L_law 722 = .ok (.iconst 1, 1) := by decide +kernel
theorem d_L_law_723 : decode b_L_law 723 = .ok (.iadd, 1) := by decide +kernel
theorem d_L_law_724 : decode b_L_law 724 = .ok (.iaload, 1) := by decide +kernel
theorem d_L_law_725 : decode b_L_law 725 = .ok (.aload_n 0, 1) := by decide +kernel
theorem d_L_law_726 : decode b_L_law 726 = .ok (.iload 4, 2) := by decide +kernel
theorem d_L_law_728 : decode b_L_law 728 = .ok (.iconst 2, 1) := by decide +kernel
theorem d_L_law_729 : decode b_L_law 729 = .ok (.iadd, 1) := by decide +kernel
theorem d_L_law_730 : decode b_L_law 730 = .ok (.iaload, 1) := by decide +kernel
theorem d_L_law_731 : decode b_L_law 731 = .ok (.aload_n 3, 1) := by decide +kernel
theorem d_L_law_732 : decode b_L_law 732 = .ok (.invokestatic 145, 3) := by decide +kernel
theorem d_L_law_735 : decode b_L_law 735 = .ok (.istore 5, 2) := by decide +kernel
theorem d_L_law_737 : decode b_L_law 737 = .ok (.aload_n 2, 1) := by decide +kernel
theorem d_L_law_738 : decode b_L_law 738 = .ok (.aload_n 0, 1) := by decide +kernel
theorem d_L_law_739 : decode b_L_law 739 = .ok (.iload 4, 2) := by decide +kernel
theorem d_L_law_741 : decode b_L_law 741 = .ok (.iconst 1, 1) := by decide +kernel
theorem d_L_law_742 : decode b_L_law 742 = .ok (.iadd, 1) := by decide +kernel
theorem d_L_law_743 : decode b_L_law 743 = .ok (.iaload, 1) := by decide +kernel
theorem d_L_law_744 : decode b_L_law 744 = .ok (.aload_n 0, 1) := by decide +kernel
theorem d_L_law_745 : decode b_L_law 745 = .ok (.iload 4, 2) := by decide +kernel
theorem d_L_law_747 : decode b_L_law 747 = .ok (.iconst 2, 1) := by decide +kernel
theorem d_L_law_748 : decode b_L_law 748 = .ok (.iadd, 1) := by decide +kernel
theorem d_L_law_749 : decode b_L_law 749 = .ok (.iaload, 1) := by decide +kernel
theorem d_L_law_750 : decode b_L_law 750 = .ok (.invokevirtual 147, 3) := by decide +kernel
theorem d_L_law_753 : decode b_L_law 753 = .ok (.istore 6, 2) := by decide +kernel
theorem d_L_law_755 : decode b_L_law 755 = .ok (.goto 259, 3) := by decide +kernel
theorem d_L_law_758 : decode b_L_law 758 = .ok (.aload_n 1, 1) := by decide +kernel
theorem d_L_law_759 : decode b_L_law 759 = .ok (.aload_n 0, 1) := by decide +kernel
theorem d_L_law_760 : decode b_L_law 760 = .ok (.iload 4, 2) := by decide +kernel
theorem d_L_law_762 : decode b_L_law 762 = .ok (.iconst 1, 1) := by decide +kernel
theorem d_L_law_763 : decode b_L_law 763 = .ok (.iadd, 1) := by decide +kernel
theorem d_L_law_764 : decode b_L_law 764 = .ok (.iaload, 1) := by decide +kernel
theorem d_L_law_765 : decode b_L_law 765 = .ok (.aload_n 3, 1) := by decide +kernel
theorem d_L_law_766 : decode b_L_law 766 = .ok (.invokestatic 148, 3) := by decide +kernel
theorem d_L_law_769 : decode b_L_law 769 = .ok (.istore 5, 2) := by decide +kernel
theorem d_L_law_771 : decode b_L_law 771 = .ok (.aload_n 2, 1) := by decide +kernel
theorem d_L_law_772 : decode b_L_law 772 = .ok (.aload_n 0, 1) := by decide +kernel
theorem d_L_law_773 : decode b_L_law 773 = .ok (.iload 4, 2) := by decide +kernel
theorem d_L_law_775 : decode b_L_law 775 = .ok (.iconst 1, 1) := by decide +kernel
theorem d_L_law_776 : decode b_L_law 776 = .ok (.iadd, 1) := by decide +kernel
theorem d_L_law_777 : decode b_L_law 777 = .ok (.iaload, 1) := by decide +kernel
theorem d_L_law_778 : decode b_L_law 778 = .ok (.invokevirtual 150, 3) := by decide +kernel
theorem d_L_law_781 : decode b_L_law 781 = .ok (.istore 6, 2) := by decide +kernel
theorem d_L_law_783 : decode b_L_law 783 = .ok (.goto 231, 3) := by decide +kernel
theorem d_L_law_786 : decode b_L_law 786 = .ok (.aload_n 1, 1) := by decide +kernel
theorem d_L_law_787 : decode b_L_law 787 = .ok (.aload_n 0, 1) := by decide +kernel
theorem d_L_law_788 : decode b_L_law 788 = .ok (.iload 4, 2) := by decide +kernel
theorem d_L_law_790 : decode b_L_law 790 = .ok (.iconst 1, 1) := by decide +kernel
theorem d_L_law_791 : decode b_L_law 791 = .ok (.iadd, 1) := by decide +kernel
theorem d_L_law_792 : decode b_L_law 792 = .ok (.iaload, 1) := by decide +kernel
theorem d_L_law_793 : decode b_L_law 793 = .ok (.aload_n 0, 1) := by decide +kernel
theorem d_L_law_794 : decode b_L_law 794 = .ok (.iload 4, 2) := by decide +kernel
theorem d_L_law_796 : decode b_L_law 796 = .ok (.iconst 2, 1) := by decide +kernel
theorem d_L_law_797 : decode b_L_law 797 = .ok (.iadd, 1) := by decide +kernel
theorem d_L_law_798 : decode b_L_law 798 = .ok (.iaload, 1) := by decide +kernel
theorem d_L_law_799 : decode b_L_law 799 = .ok (.aload_n 3, 1) := by decide +kernel
theorem d_L_law_800 : decode b_L_law 800 = .ok (.invokestatic 151, 3) := by decide +kernel
theorem d_L_law_803 : decode b_L_law 803 = .ok (.istore 5, 2) := by decide +kernel
theorem d_L_law_805 : decode b_L_law 805 = .ok (.aload_n 2, 1) := by decide +kernel
theorem d_L_law_806 : decode b_L_law 806 = .ok (.aload_n 0, 1) := by decide +kernel
theorem d_L_law_807 : decode b_L_law 807 = .ok (.iload 4, 2) := by decide +kernel
theorem d_L_law_809 : decode b_L_law 809 = .ok (.iconst 1, 1) := by decide +kernel
theorem d_L_law_810 : decode b_L_law 810 = .ok (.iadd, 1) := by decide +kernel
theorem d_L_law_811 : decode b_L_law 811 = .ok (.iaload, 1) := by decide +kernel
theorem d_L_law_812 : decode b_L_law 812 = .ok (.aload_n 0, 1) := by decide +kernel
theorem d_L_law_813 : decode b_L_law 813 = .ok (.iload 4, 2) := by decide +kernel
theorem d_L_law_815 : decode b_L_law 815 = .ok (.iconst 2, 1) := by decide +kernel
theorem d_L_law_816 : decode b_L_law 816 = .ok (.iadd, 1) := by decide +kernel
theorem d_L_law_817 : decode b_L_law 817 = .ok (.iaload, 1) := by decide +kernel
theorem d_L_law_818 : decode b_L_law 818 = .ok (.invokevirtual 153, 3) := by decide +kernel
theorem d_L_law_821 : decode b_L_law 821 = .ok (.istore 6, 2) := by decide +kernel
theorem d_L_law_823 : decode b_L_law 823 = .ok (.goto 191, 3) := by decide +kernel
theorem d_L_law_826 : decode b_L_law 826 = .ok (.aload_n 1, 1) := by decide +kernel
theorem d_L_law_827 : decode b_L_law 827 = .ok (.aload_n 0, 1) := by decide +kernel
theorem d_L_law_828 : decode b_L_law 828 = .ok (.iload 4, 2) := by decide +kernel
theorem d_L_law_830 : decode b_L_law 830 = .ok (.iconst 1, 1) := by decide +kernel
theorem d_L_law_831 : decode b_L_law 831 = .ok (.iadd, 1) := by decide +kernel
theorem d_L_law_832 : decode b_L_law 832 = .ok (.iaload, 1) := by decide +kernel
theorem d_L_law_833 : decode b_L_law 833 = .ok (.aload_n 0, 1) := by decide +kernel
theorem d_L_law_834 : decode b_L_law 834 = .ok (.iload 4, 2) := by decide +kernel
theorem d_L_law_836 : decode b_L_law 836 = .ok (.iconst 2, 1) := by decide +kernel
theorem d_L_law_837 : decode b_L_law 837 = .ok (.iadd, 1) := by decide +kernel
theorem d_L_law_838 : decode b_L_law 838 = .ok (.iaload, 1) := by decide +kernel
theorem d_L_law_839 : decode b_L_law 839 = .ok (.aload_n 0, 1) := by decide +kernel
theorem d_L_law_840 : decode b_L_law 840 = .ok (.iload 4, 2) := by decide +kernel
theorem d_L_law_842 : decode b_L_law 842 = .ok (.iconst 3, 1) := by decide +kernel
theorem d_L_law_843 : decode b_L_law 843 = .ok (.iadd, 1) := by decide +kernel
theorem d_L_law_844 : decode b_L_law 844 = .ok (.iaload, 1) := by decide +kernel
theorem d_L_law_845 : decode b_L_law 845 = .ok (.aload_n 3, 1) := by decide +kernel
theorem d_L_law_846 : decode b_L_law 846 = .ok (.invokestatic 154, 3) := by decide +kernel
theorem d_L_law_849 : decode b_L_law 849 = .ok (.istore 5, 2) := by decide +kernel
theorem d_L_law_851 : decode b_L_law 851 = .ok (.aload_n 2, 1) := by decide +kernel
theorem d_L_law_852 : decode b_L_law 852 = .ok (.aload_n 0, 1) := by decide +kernel
theorem d_L_law_853 : decode b_L_law 853 = .ok (.iload 4, 2) := by decide +kernel
theorem d_L_law_855 : decode b_L_law 855 = .ok (.iconst 1, 1) := by decide +kernel
theorem d_L_law_856 : decode b_L_law 856 = .ok (.iadd, 1) := by decide +kernel
theorem d_L_law_857 : decode b_L_law 857 = .ok (.iaload, 1) := by decide +kernel
theorem d_L_law_858 : decode b_L_law 858 = .ok (.aload_n 0, 1) := by decide +kernel
theorem d_L_law_859 : decode b_L_law 859 = .ok (.iload 4, 2) := by decide +kernel
theorem d_L_law_861 : decode b_L_law 861 = .ok (.iconst 2, 1) := by decide +kernel
theorem d_L_law_862 : decode b_L_law 862 = .ok (.iadd, 1) := by decide +kernel
theorem d_L_law_863 : decode b_L_law 863 = .ok (.iaload, 1) := by decide +kernel
theorem d_L_law_864 : decode b_L_law 864 = .ok (.aload_n 0, 1) := by decide +kernel
theorem d_L_law_865 : decode b_L_law 865 = .ok (.iload 4, 2) := by decide +kernel
theorem d_L_law_867 : decode b_L_law 867 = .ok (.iconst 3, 1) := by decide +kernel
theorem d_L_law_868 : decode b_L_law 868 = .ok (.iadd, 1) := by decide +kernel
theorem d_L_law_869 : decode b_L_law 869 = .ok (.iaload, 1) := by decide +kernel
theorem d_L_law_870 : decode b_L_law 870 = .ok (.invokevirtual 156, 3) := by decide +kernel
theorem d_L_law_873 : decode b_L_law 873 = .ok (.istore 6, 2) := by decide +kernel
theorem d_L_law_875 : decode b_L_law 875 = .ok (.goto 139, 3) := by decide +kernel
theorem d_L_law_878 : decode b_L_law 878 = .ok (.aload_n 1, 1) := by decide +kernel
theorem d_L_law_879 : decode b_L_law 879 = .ok (.aload_n 0, 1) := by decide +kernel
theorem d_L_law_880 : decode b_L_law 880 = .ok (.iload 4, 2) := by decide +kernel
theorem d_L_law_882 : decode b_L_law 882 = .ok (.iconst 1, 1) := by decide +kernel
theorem d_L_law_883 : decode b_L_law 883 = .ok (.iadd, 1) := by decide +kernel
theorem d_L_law_884 : decode b_L_law 884 = .ok (.iaload, 1) := by decide +kernel
theorem d_L_law_885 : decode b_L_law 885 = .ok (.aload_n 0, 1) := by decide +kernel
theorem d_L_law_886 : decode b_L_law 886 = .ok (.iload 4, 2) := by decide +kernel
theorem d_L_law_888 : decode b_L_law 888 = .ok (.iconst 2, 1) := by decide +kernel
theorem d_L_law_889 : decode b_L_law 889 = .ok (.iadd, 1) := by decide +kernel
theorem d_L_law_890 : decode b_L_law 890 = .ok (.iaload, 1) := by decide +kernel
theorem d_L_law_891 : decode b_L_law 891 = .ok (.aload_n 3, 1) := by decide +kernel
theorem d_L_law_892 : decode b_L_law 892 = .ok (.invokestatic 157, 3) := by decide +kernel
theorem d_L_law_895 : decode b_L_law 895 = .ok (.istore 5, 2) := by decide +kernel
theorem d_L_law_897 : decode b_L_law 897 = .ok (.aload_n 2, 1) := by decide +kernel
theorem d_L_law_898 : decode b_L_law 898 = .ok (.aload_n 0, 1) := by decide +kernel
theorem d_L_law_899 : decode b_L_law 899 = .ok (.iload 4, 2) := by decide +kernel
theorem d_L_law_901 : decode b_L_law 901 = .ok (.iconst 1, 1) := by decide +kernel
theorem d_L_law_902 : decode b_L_law 902 = .ok (.iadd, 1) := by decide +kernel
theorem d_L_law_903 : decode b_L_law 903 = .ok (.iaload, 1) := by decide +kernel
theorem d_L_law_904 : decode b_L_law 904 = .ok (.aload_n 0, 1) := by decide +kernel
theorem d_L_law_905 : decode b_L_law 905 = .ok (.iload 4, 2) := by decide +kernel
theorem d_L_law_907 : decode b_L_law 907 = .ok (.iconst 2, 1) := by decide +kernel
theorem d_L_law_908 : decode b_L_law 908 = .ok (.iadd, 1) := by decide +kernel
theorem d_L_law_909 : decode b_L_law 909 = .ok (.iaload, 1) := by decide +kernel
theorem d_L_law_910 : decode b_L_law 910 = .ok (.invokevirtual 159, 3) := by decide +kernel
theorem d_L_law_913 : decode b_L_law 913 = .ok (.istore 6, 2) := by decide +kernel
theorem d_L_law_915 : decode b_L_law 915 = .ok (.aload_n 2, 1) := by decide +kernel
theorem d_L_law_916 : decode b_L_law 916 = .ok (.invokevirtual 160, 3) := by decide +kernel
theorem d_L_law_919 : decode b_L_law 919 = .ok (.iload 5, 2) := by decide +kernel
theorem d_L_law_921 : decode b_L_law 921 = .ok (.if_icmp .eq 5, 3) := by decide +kernel
theorem d_L_law_924 : decode b_L_law 924 = .ok (.iconst 0, 1) := by decide +kernel
theorem d_L_law_925 : decode b_L_law 925 = .ok (.ireturn, 1) := by decide +kernel
theorem d_L_law_926 : decode b_L_law 926 = .ok (.iload 5, 2) := by decide +kernel
theorem d_L_law_928 : decode b_L_law 928 = .ok (.ifCond .ne 15, 3) := by decide +kernel
theorem d_L_law_931 : decode b_L_law 931 = .ok (.aload_n 3, 1) := by decide +kernel
theorem d_L_law_932 : decode b_L_law 932 = .ok (.iconst 0, 1) := by decide +kernel
theorem d_L_law_933 : decode b_L_law 933 = .ok (.laload, 1) := by decide +kernel
theorem d_L_law_934 : decode b_L_law 934 = .ok (.iload 6, 2) := by decide +kernel
theorem d_L_law_936 : decode b_L_law 936 = .ok (.i2l, 1) := by decide +kernel
theorem d_L_law_937 : decode b_L_law 937 = .ok (.lcmp, 1) := by decide +kernel
theorem d_L_law_938 : decode b_L_law 938 = .ok (.ifCond .eq 5, 3) := by decide +kernel
theorem d_L_law_941 : decode b_L_law 941 = .ok (.iconst 0, 1) := by decide +kernel
theorem d_L_law_942 : decode b_L_law 942 = .ok (.ireturn, 1) := by decide +kernel
theorem d_L_law_943 : decode b_L_law 943 = .ok (.goto 71, 3) := by decide +kernel
theorem d_L_law_946 : decode b_L_law 946 = .ok (.aload_n 1, 1) := by decide +kernel
theorem d_L_law_947 : decode b_L_law 947 = .ok (.aload_n 0, 1) := by decide +kernel
theorem d_L_law_948 : decode b_L_law 948 = .ok (.iload 4, 2) := by decide +kernel
theorem d_L_law_950 : decode b_L_law 950 = .ok (.iconst 1, 1) := by decide +kernel
theorem d_L_law_951 : decode b_L_law 951 = .ok (.iadd, 1) := by decide +kernel
theorem d_L_law_952 : decode b_L_law 952 = .ok (.iaload, 1) := by decide +kernel
theorem d_L_law_953 : decode b_L_law 953 = .ok (.aload_n 0, 1) := by decide +kernel
theorem d_L_law_954 : decode b_L_law 954 = .ok (.iload 4, 2) := by decide +kernel
theorem d_L_law_956 : decode b_L_law 956 = .ok (.iconst 2, 1) := by decide +kernel
theorem d_L_law_957 : decode b_L_law 957 = .ok (.iadd, 1) := by decide +kernel
theorem d_L_law_958 : decode b_L_law 958 = .ok (.iaload, 1) := by decide +kernel
theorem d_L_law_959 : decode b_L_law 959 = .ok (.aload_n 3, 1) := by decide +kernel
theorem d_L_law_960 : decode b_L_law 960 = .ok (.invokestatic 163, 3) := by decide +kernel
theorem d_L_law_963 : decode b_L_law 963 = .ok (.istore 5, 2) := by decide +kernel
theorem d_L_law_965 : decode b_L_law 965 = .ok (.aload_n 2, 1) := by decide +kernel
theorem d_L_law_966 : decode b_L_law 966 = .ok (.aload_n 0, 1) := by decide +kernel
theorem d_L_law_967 : decode b_L_law 967 = .ok (.iload 4, 2) := by decide +kernel
theorem d_L_law_969 : decode b_L_law 969 = .ok (.iconst 1, 1) := by decide +kernel
theorem d_L_law_970 : decode b_L_law 970 = .ok (.iadd, 1) := by decide +kernel
theorem d_L_law_971 : decode b_L_law 971 = .ok (.iaload, 1) := by decide +kernel
theorem d_L_law_972 : decode b_L_law 972 = .ok (.aload_n 0, 1) := by decide +kernel
theorem d_L_law_973 : decode b_L_law 973 = .ok (.iload 4, 2) := by decide +kernel
theorem d_L_law_975 : decode b_L_law 975 = .ok (.iconst 2, 1) := by decide +kernel
theorem d_L_law_976 : decode b_L_law 976 = .ok (.iadd, 1) := by decide +kernel
theorem d_L_law_977 : decode b_L_law 977 = .ok (.iaload, 1) := by decide +kernel
theorem d_L_law_978 : decode b_L_law 978 = .ok (.invokevirtual 165, 3) := by decide +kernel
theorem d_L_law_981 : decode b_L_law 981 = .ok (.istore 6, 2) := by decide +kernel
theorem d_L_law_983 : decode b_L_law 983 = .ok (.goto 31, 3) := by decide +kernel
theorem d_L_law_986 : decode b_L_law 986 = .ok (.aload_n 1, 1) := by decide +kernel
theorem d_L_law_987 : decode b_L_law 987 = .ok (.aload_n 0, 1) := by decide +kernel
theorem d_L_law_988 : decode b_L_law 988 = .ok (.iload 4, 2) := by decide +kernel
theorem d_L_law_990 : decode b_L_law 990 = .ok (.iconst 1, 1) := by decide +kernel
theorem d_L_law_991 : decode b_L_law 991 = .ok (.iadd, 1) := by decide +kernel
theorem d_L_law_992 : decode b_L_law 992 = .ok (.iaload, 1) := by decide +kernel
theorem d_L_law_993 : decode b_L_law 993 = .ok (.aload_n 3, 1) := by decide +kernel
theorem d_L_law_994 : decode b_L_law 994 = .ok (.invokestatic 166, 3) := by decide +kernel
theorem d_L_law_997 : decode b_L_law 997 = .ok (.istore 5, 2) := by decide +kernel
theorem d_L_law_999 : decode b_L_law 999 = .ok (.aload_n 2, 1) := by decide +kernel
theorem d_L_law_1000 : decode b_L_law 1000 = .ok (.aload_n 0, 1) := by decide +kernel
theorem d_L_law_1001 : decode b_L_law 1001 = .ok (.iload 4, 2) := by decide +kernel
theorem d_L_law_1003 : decode b_L_law 1003 = .ok (.iconst 1, 1) := by decide +kernel
theorem d_L_law_1004 : decode b_L_law 1004 = .ok (.iadd, 1) := by decide +kernel
theorem d_L_law_1005 : decode b_L_law 1005 = .ok (.iaload, 1) := by decide +kernel
theorem d_L_law_1006 : decode b_L_law 1006 = .ok (.invokevirtual 168, 3) := by decide +kernel
theorem d_L_law_1009 : decode b_L_law 1009 = .ok (.istore 6, 2) := by decide +kernel
theorem d_L_law_1011 : decode b_L_law 1011 = .ok (.goto 3, 3) := by decide +kernel
theorem d_L_law_1014 : decode b_L_law 1014 = .ok (.iinc 4 4, 3) := by decide +kernel
theorem d_L_law_1017 : decode b_L_law 1017 = .ok (.goto (-994), 3) := by decide +kernel
theorem d_L_law_1020 : decode b_L_law 1020 = .ok (.iconst 1, 1) := by decide +kernel
theorem d_L_law_1021 : decode b_L_law 1021 = .ok (.ireturn, 1) := by decide +kernel
