abbrev b_law : ByteArray := code
theorem d_law_0 : decode b_law 0 = .ok (.new 8, 3) := by decide +kernel
theorem d_law_3 : decode b_law 3 = .ok (.dup, 1) := by decide +kernel
theorem d_law_4 : decode b_law 4 = .ok (.aload_n 0, 1) := by decide +kernel
theorem d_law_5 : decode b_law 5 = .ok (.iconst 0, 1) := by decide +kernel
theorem d_law_6 : decode b_law 6 = .ok (.invokestatic 31, 3) := by decide +kernel
theorem d_law_9 : decode b_law 9 = .ok (.invokespecial 37, 3) := by decide +kernel
theorem d_law_12 : decode b_law 12 = .ok (.astore_n 1, 1) := by decide +kernel
theorem d_law_13 : decode b_law 13 = .ok (.new 40, 3) := by decide +kernel
theorem d_law_16 : decode b_law 16 = .ok (.dup, 1) := by decide +kernel
theorem d_law_17 : decode b_law 17 = .ok (.aload_n 0, 1) := by decide +kernel
theorem d_law_18 : decode b_law 18 = .ok (.iconst 0, 1) := by decide +kernel
theorem d_law_19 : decode b_law 19 = .ok (.invokestatic 31, 3) := by decide +kernel
theorem d_law_22 : decode b_law 22 = .ok (.invokespecial 42, 3) := by decide +kernel
theorem d_law_25 : decode b_law 25 = .ok (.astore_n 2, 1) := by decide +kernel
theorem d_law_26 : decode b_law 26 = .ok (.iconst 1, 1) := by decide +kernel
theorem d_law_27 : decode b_law 27 = .ok (.newarray .long, 2) := by decide +kernel
theorem d_law_29 : decode b_law 29 = .ok (.astore_n 3, 1) := by decide +kernel
theorem d_law_30 : decode b_law 30 = .ok (.iconst 1, 1) := by decide +kernel
theorem d_law_31 : decode b_law 31 = .ok (.istore 4, 2) := by decide +kernel
theorem d_law_33 : decode b_law 33 = .ok (.iload 4, 2) := by decide +kernel
theorem d_law_35 : decode b_law 35 = .ok (.aload_n 0, 1) := by decide +kernel
theorem d_law_36 : decode b_law 36 = .ok (.arraylength, 1) := by decide +kernel
theorem d_law_37 : decode b_law 37 = .ok (.iconst 5, 1) := by decide +kernel
theorem d_law_38 : decode b_law 38 = .ok (.isub, 1) := by decide +kernel
theorem d_law_39 : decode b_law 39 = .ok (.if_icmp .gt 1050, 3) := by decide +kernel
theorem d_law_42 : decode b_law 42 = .ok (.aload_n 0, 1) := by decide +kernel
theorem d_law_43 : decode b_law 43 = .ok (.iload 4, 2) := by decide +kernel
theorem d_law_45 : decode b_law 45 = .ok (.iaload, 1) := by decide +kernel
theorem d_law_46 : decode b_law 46 = .ok (.bipush 31, 2) := by decide +kernel
theorem d_law_48 : decode b_law 48 = .ok (.iand, 1) := by decide +kernel
theorem d_law_136 : decode b_law 136 = .ok (.aload_n 1, 1) := by decide +kernel
theorem d_law_137 : decode b_law 137 = .ok (.aload_n 0, 1) := by decide +kernel
theorem d_law_138 : decode b_law 138 = .ok (.iload 4, 2) := by decide +kernel
theorem d_law_140 : decode b_law 140 = .ok (.iconst 1, 1) := by decide +kernel
theorem d_law_141 : decode b_law 141 = .ok (.iadd, 1) := by decide +kernel
theorem d_law_142 : decode b_law 142 = .ok (.iaload, 1) := by decide +kernel
theorem d_law_143 : decode b_law 143 = .ok (.i2l, 1) := by decide +kernel
theorem d_law_144 : decode b_law 144 = .ok (.bipush 32, 2) := by decide +kernel
theorem d_law_146 : decode b_law 146 = .ok (.lshl, 1) := by decide +kernel
theorem d_law_147 : decode b_law 147 = .ok (.aload_n 0, 1) := by decide +kernel
theorem d_law_148 : decode b_law 148 = .ok (.iload 4, 2) := by decide +kernel
theorem d_law_150 : decode b_law 150 = .ok (.iconst 2, 1) := by decide +kernel
theorem d_law_151 : decode b_law 151 = .ok (.iadd, 1) := by decide +kernel
theorem d_law_152 : decode b_law 152 = .ok (.iaload, 1) := by decide +kernel
theorem d_law_153 : decode b_law 153 = .ok (.i2l, 1) := by decide +kernel
theorem d_law_154 : decode b_law 154 = .ok (.ldc2_w 43, 3) := by decide +kernel
theorem d_law_157 : decode b_law 157 = .ok (.land, 1) := by decide +kernel
theorem d_law_158 : decode b_law 158 = .ok (.lor, 1) := by decide +kernel
theorem d_law_159 : decode b_law 159 = .ok (.aload_n 0, 1) := by decide +kernel
theorem d_law_160 : decode b_law 160 = .ok (.iload 4, 2) := by decide +kernel
theorem d_law_162 : decode b_law 162 = .ok (.iconst 3, 1) := by decide +kernel
theorem d_law_163 : decode b_law 163 = .ok (.iadd, 1) := by decide +kernel
theorem d_law_164 : decode b_law 164 = .ok (.iaload, 1) := by decide +kernel
theorem d_law_165 : decode b_law 165 = .ok (.i2l, 1) := by decide +kernel
theorem d_law_166 : decode b_law 166 = .ok (.bipush 32, 2) := by decide +kernel
theorem d_law_168 : decode b_law 168 = .ok (.lshl, 1) := by decide +kernel
theorem d_law_169 : decode b_law 169 = .ok (.aload_n 0, 1) := by decide +kernel
theorem d_law_170 : decode b_law 170 = .ok (.iload 4, 2) := by decide +kernel
theorem d_law_172 : decode b_law 172 = .ok (.iconst 4, 1) := by decide +kernel
theorem d_law_173 : decode b_law 173 = .ok (.iadd, 1) := by decide +kernel
theorem d_law_174 : decode b_law 174 = .ok (.iaload, 1) := by decide +kernel
theorem d_law_175 : decode b_law 175 = .ok (.i2l, 1) := by decide +kernel
theorem d_law_176 : decode b_law 176 = .ok (.ldc2_w 43, 3) := by decide +kernel
theorem d_law_179 : decode b_law 179 = .ok (.land, 1) := by decide +kernel
theorem d_law_180 : decode b_law 180 = .ok (.lor, 1) := by decide +kernel
theorem d_law_181 : decode b_law 181 = .ok (.aload_n 3, 1) := by decide +kernel
theorem d_law_182 : decode b_law 182 = .ok (.invokestatic 45, 3) := by decide +kernel
theorem d_law_185 : decode b_law 185 = .ok (.istore 5, 2) := by decide +kernel
theorem d_law_187 : decode b_law 187 = .ok (.aload_n 2, 1) := by decide +kernel
theorem d_law_188 : decode b_law 188 = .ok (.aload_n 0, 1) := by decide +kernel
theorem d_law_189 : decode b_law 189 = .ok (.iload 4, 2) := by decide +kernel
theorem d_law_191 : decode b_law 191 = .ok (.iconst 1, 1) := by decide +kernel
theorem d_law_192 : decode b_law 192 = .ok (.iadd, 1) := by decide +kernel
theorem d_law_193 : decode b_law 193 = .ok (.iaload, 1) := by decide +kernel
theorem d_law_194 : decode b_law 194 = .ok (.i2l, 1) := by decide +kernel
theorem d_law_195 : decode b_law 195 = .ok (.bipush 32, 2) := by decide +kernel
theorem d_law_197 : decode b_law 197 = .ok (.lshl, 1) := by decide +kernel
theorem d_law_198 : decode b_law 198 = .ok (.aload_n 0, 1) := by decide +kernel
theorem d_law_199 : decode b_law 199 = .ok (.iload 4, 2) := by decide +kernel
theorem d_law_201 : decode b_law 201 = .ok (.iconst 2, 1) := by decide +kernel
theorem d_law_202 : decode b_law 202 = .ok (.iadd, 1) := by decide +kernel
theorem d_law_203 : decode b_law 203 = .ok (.iaload, 1) := by decide +kernel
theorem d_law_204 : decode b_law 204 = .ok (.i2l, 1) := by decide +kernel
theorem d_law_205 : decode b_law 205 = .ok (.ldc2_w 43, 3) := by decide +kernel
theorem d_law_208 : decode b_law 208 = .ok (.land, 1) := by decide +kernel
theorem d_law_209 : decode b_law 209 = .ok (.lor, 1) := by decide +kernel
theorem d_law_210 : decode b_law 210 = .ok (.aload_n 0, 1) := by decide +kernel
theorem d_law_211 : decode b_law 211 = .ok (.iload 4, 2) := by decide +kernel
theorem d_law_213 : decode b_law 213 = .ok (.iconst 3, 1) := by decide +kernel
theorem d_law_214 : decode b_law 214 = .ok (.iadd, 1) := by decide +kernel
theorem d_law_215 : decode b_law 215 = .ok (.iaload, 1) := by decide +kernel
theorem d_law_216 : decode b_law 216 = .ok (.i2l, 1) := by decide +kernel
theorem d_law_217 : decode b_law 217 = .ok (.bipush 32, 2) := by decide +kernel
theorem d_law_219 : decode b_law 219 = .ok (.lshl, 1) := by decide +kernel
theorem d_law_220 : decode b_law 220 = .ok (.aload_n 0, 1) := by decide +kernel
theorem d_law_221 : decode b_law 221 = .ok (.iload 4, 2) := by decide +kernel
theorem d_law_223 : decode b_law 223 = .ok (.iconst 4, 1) := by decide +kernel
theorem d_law_224 : decode b_law 224 = .ok (.iadd, 1) := by decide +kernel
theorem d_law_225 : decode b_law 225 = .ok (.iaload, 1) := by decide +kernel
theorem d_law_226 : decode b_law 226 = .ok (.i2l, 1) := by decide +kernel
theorem d_law_227 : decode b_law 227 = .ok (.ldc2_w 43, 3) := by decide +kernel
theorem d_law_230 : decode b_law 230 = .ok (.land, 1) := by decide +kernel
theorem d_law_231 : decode b_law 231 = .ok (.lor, 1) := by decide +kernel
theorem d_law_232 : decode b_law 232 = .ok (.invokevirtual 48, 3) := by decide +kernel
theorem d_law_235 : decode b_law 235 = .ok (.istore 6, 2) := by decide +kernel
theorem d_law_237 : decode b_law 237 = .ok (.aload_n 2, 1) := by decide +kernel
theorem d_law_238 : decode b_law 238 = .ok (.invokevirtual 49, 3) := by decide +kernel
theorem d_law_241 : decode b_law 241 = .ok (.iload 5, 2) := by decide +kernel
theorem d_law_243 : decode b_law 243 = .ok (.if_icmp .eq 5, 3) := by decide +kernel
theorem d_law_246 : decode b_law 246 = .ok (.iconst 0, 1) := by decide +kernel
theorem d_law_247 : decode b_law 247 = .ok (.ireturn, 1) := by decide +kernel
theorem d_law_248 : decode b_law 248 = .ok (.iload 5, 2) := by decide +kernel
theorem d_law_250 : decode b_law 250 = .ok (.ifCond .ne 15, 3) := by decide +kernel
theorem d_law_253 : decode b_law 253 = .ok (.aload_n 3, 1) := by decide +kernel
theorem d_law_254 : decode b_law 254 = .ok (.iconst 0, 1) := by decide +kernel
theorem d_law_255 : decode b_law 255 = .ok (.laload, 1) := by decide +kernel
theorem d_law_256 : decode b_law 256 = .ok (.iload 6, 2) := by decide +kernel
theorem d_law_258 : decode b_law 258 = .ok (.i2l, 1) := by decide +kernel
theorem d_law_259 : decode b_law 259 = .ok (.lcmp, 1) := by decide +kernel
theorem d_law_260 : decode b_law 260 = .ok (.ifCond .eq 5, 3) := by decide +kernel
theorem d_law_263 : decode b_law 263 = .ok (.iconst 0, 1) := by decide +kernel
theorem d_law_264 : decode b_law 264 = .ok (.ireturn, 1) := by decide +kernel
theorem d_law_265 : decode b_law 265 = .ok (.goto 818, 3) := by decide +kernel
theorem d_law_268 : decode b_law 268 = .ok (.aload_n 1, 1) := by decide +kernel
theorem d_law_269 : decode b_law 269 = .ok (.aload_n 0, 1) := by decide +kernel
theorem d_law_270 : decode b_law 270 = .ok (.iload 4, 2) := by decide +kernel
theorem d_law_272 : decode b_law 272 = .ok (.iconst 1, 1) := by decide +kernel
theorem d_law_273 : decode b_law 273 = .ok (.iadd, 1) := by decide +kernel
theorem d_law_274 : decode b_law 274 = .ok (.iaload, 1) := by decide +kernel
theorem d_law_275 : decode b_law 275 = .ok (.aload_n 0, 1) := by decide +kernel
theorem d_law_276 : decode b_law 276 = .ok (.iload 4, 2) := by decide +kernel
theorem d_law_278 : decode b_law 278 = .ok (.iconst 2, 1) := by decide +kernel
theorem d_law_279 : decode b_law 279 = .ok (.iadd, 1) := by decide +kernel
theorem d_law_280 : decode b_law 280 = .ok (.iaload, 1) := by decide +kernel
theorem d_law_281 : decode b_law 281 = .ok (.aload_n 3, 1) := by decide +kernel
theorem d_law_282 : decode b_law 282 = .ok (.invokestatic 53, 3) := by decide +kernel
theorem d_law_285 : decode b_law 285 = .ok (.istore 5, 2) := by decide +kernel
theorem d_law_287 : decode b_law 287 = .ok (.aload_n 2, 1) := by decide +kernel
theorem d_law_288 : decode b_law 288 = .ok (.aload_n 0, 1) := by decide +kernel
theorem d_law_289 : decode b_law 289 = .ok (.iload 4, 2) := by decide +kernel
theorem d_law_291 : decode b_law 291 = .ok (.iconst 1, 1) := by decide +kernel
theorem d_law_292 : decode b_law 292 = .ok (.iadd, 1) := by decide +kernel
theorem d_law_293 : decode b_law 293 = .ok (.iaload, 1) := by decide +kernel
theorem d_law_294 : decode b_law 294 = .ok (.aload_n 0, 1) := by decide +kernel
theorem d_law_295 : decode b_law 295 = .ok (.iload 4, 2) := by decide +kernel
theorem d_law_297 : decode b_law 297 = .ok (.iconst 2, 1) := by decide +kernel
theorem d_law_298 : decode b_law 298 = .ok (.iadd, 1) := by decide +kernel
theorem d_law_299 : decode b_law 299 = .ok (.iaload, 1) := by decide +kernel
theorem d_law_300 : decode b_law 300 = .ok (.invokevirtual 56, 3) := by decide +kernel
theorem d_law_303 : decode b_law 303 = .ok (.istore 6, 2) := by decide +kernel
theorem d_law_305 : decode b_law 305 = .ok (.aload_n 2, 1) := by decide +kernel
theorem d_law_306 : decode b_law 306 = .ok (.invokevirtual 49, 3) := by decide +kernel
theorem d_law_309 : decode b_law 309 = .ok (.iload 5, 2) := by decide +kernel
theorem d_law_311 : decode b_law 311 = .ok (.if_icmp .eq 5, 3) := by decide +kernel
theorem d_law_314 : decode b_law 314 = .ok (.iconst 0, 1) := by decide +kernel
theorem d_law_315 : decode b_law 315 = .ok (.ireturn, 1) := by decide +kernel
theorem d_law_316 : decode b_law 316 = .ok (.iload 5, 2) := by decide +kernel
theorem d_law_318 : decode b_law 318 = .ok (.ifCond .ne 15, 3) := by decide +kernel
theorem d_law_321 : decode b_law 321 = .ok (.aload_n 3, 1) := by decide +kernel
theorem d_law_322 : decode b_law 322 = .ok (.iconst 0, 1) := by decide +kernel
theorem d_law_323 : decode b_law 323 = .ok (.laload, 1) := by decide +kernel
theorem d_law_324 : decode b_law 324 = .ok (.iload 6, 2) := by decide +kernel
theorem d_law_326 : decode b_law 326 = .ok (.i2l, 1) := by decide +kernel
theorem d_law_327 : decode b_law 327 = .ok (.lcmp, 1) := by decide +kernel
theorem d_law_328 : decode b_law 328 = .ok (.ifCond .eq 5, 3) := by decide +kernel
theorem d_law_331 : decode b_law 331 = .ok (.iconst 0, 1) := by decide +kernel
theorem d_law_332 : decode b_law 332 = .ok (.ireturn, 1) := by decide +kernel
theorem d_law_333 : decode b_law 333 = .ok (.goto 750, 3) := by decide +kernel
theorem d_law_336 : decode b_law 336 = .ok (.aload_n 1, 1) := by decide +kernel
theorem d_law_337 : decode b_law 337 = .ok (.aload_n 0, 1) := by decide +kernel
theorem d_law_338 : decode b_law 338 = .ok (.iload 4, 2) := by decide +kernel
theorem d_law_340 : decode b_law 340 = .ok (.iconst 1, 1) := by decide +kernel
theorem d_law_341 : decode b_law 341 = .ok (.iadd, 1) := by decide +kernel
theorem d_law_342 : decode b_law 342 = .ok (.iaload, 1) := by decide +kernel
theorem d_law_343 : decode b_law 343 = .ok (.aload_n 0, 1) := by decide +kernel
theorem d_law_344 : decode b_law 344 = .ok (.iload 4, 2) := by decide +kernel
theorem d_law_346 : decode b_law 346 = .ok (.iconst 2, 1) := by decide +kernel
theorem d_law_347 : decode b_law 347 = .ok (.iadd, 1) := by decide +kernel
theorem d_law_348 : decode b_law 348 = .ok (.iaload, 1) := by decide +kernel
theorem d_law_349 : decode b_law 349 = .ok (.invokevirtual 57, 3) := by decide +kernel
theorem d_law_352 : decode b_law 352 = .ok (.aload_n 2, 1) := by decide +kernel
theorem d_law_353 : decode b_law 353 = .ok (.aload_n 0, 1) := by decide +kernel
theorem d_law_354 : decode b_law 354 = .ok (.iload 4, 2) := by decide +kernel
theorem d_law_356 : decode b_law 356 = .ok (.iconst 1, 1) := by decide +kernel
theorem d_law_357 : decode b_law 357 = .ok (.iadd, 1) := by decide +kernel
theorem d_law_358 : decode b_law 358 = .ok (.iaload, 1) := by decide +kernel
theorem d_law_359 : decode b_law 359 = .ok (.aload_n 0, 1) := by decide +kernel
theorem d_law_360 : decode b_law 360 = .ok (.iload 4, 2) := by decide +kernel
theorem d_law_362 : decode b_law 362 = .ok (.iconst 2, 1) := by decide +kernel
theorem d_law_363 : decode b_law 363 = .ok (.iadd, 1) := by decide +kernel
theorem d_law_364 : decode b_law 364 = .ok (.iaload, 1) := by decide +kernel
theorem d_law_365 : decode b_law 365 = .ok (.invokevirtual 60, 3) := by decide +kernel
theorem d_law_368 : decode b_law 368 = .ok (.if_icmp .eq 715, 3) := by decide +kernel
theorem d_law_371 : decode b_law 371 = .ok (.iconst 0, 1) := by decide +kernel
theorem d_law_372 : decode b_law 372 = .ok (.ireturn, 1) := by decide +kernel
theorem d_law_373 : decode b_law 373 = .ok (.aload_n 1, 1) := by decide +kernel
theorem d_law_374 : decode b_law 374 = .ok (.aload_n 0, 1) := by decide +kernel
theorem d_law_375 : decode b_law 375 = .ok (.iload 4, 2) := by decide +kernel
theorem d_law_377 : decode b_law 377 = .ok (.iconst 1, 1) := by decide +kernel
theorem d_law_378 : decode b_law 378 = .ok (.iadd, 1) := by decide +kernel
theorem d_law_379 : decode b_law 379 = .ok (.iaload, 1) := by decide +kernel
theorem d_law_380 : decode b_law 380 = .ok (.aload_n 0, 1) := by decide +kernel
theorem d_law_381 : decode b_law 381 = .ok (.iload 4, 2) := by decide +kernel
theorem d_law_383 : decode b_law 383 = .ok (.iconst 2, 1) := by decide +kernel
theorem d_law_384 : decode b_law 384 = .ok (.iadd, 1) := by decide +kernel
theorem d_law_385 : decode b_law 385 = .ok (.iaload, 1) := by decide +kernel
theorem d_law_386 : decode b_law 386 = .ok (.invokevirtual 61, 3) := by decide +kernel
theorem d_law_389 : decode b_law 389 = .ok (.aload_n 2, 1) := by decide +kernel
theorem d_law_390 : decode b_law 390 = .ok (.aload_n 0, 1) := by decide +kernel
theorem d_law_391 : decode b_law 391 = .ok (.iload 4, 2) := by decide +kernel
theorem d_law_393 : decode b_law 393 = .ok (.iconst 1, 1) := by decide +kernel
theorem d_law_394 : decode b_law 394 = .ok (.iadd, 1) := by decide +kernel
theorem d_law_395 : decode b_law 395 = .ok (.iaload, 1) := by decide +kernel
theorem d_law_396 : decode b_law 396 = .ok (.aload_n 0, 1) := by decide +kernel
theorem d_law_397 : decode b_law 397 = .ok (.iload 4, 2) := by decide +kernel
theorem d_law_399 : decode b_law 399 = .ok (.iconst 2, 1) := by decide +kernel
theorem d_law_400 : decode b_law 400 = .ok (.iadd, 1) := by decide +kernel
theorem d_law_401 : decode b_law 401 = .ok (.iaload, 1) := by decide +kernel
theorem d_law_402 : decode b_law 402 = .ok (.invokevirtual 64, 3) := by decide +kernel
theorem d_law_405 : decode b_law 405 = .ok (.if_icmp .eq 678, 3) := by decide +kernel
theorem d_law_408 : decode b_law 408 = .ok (.iconst 0, 1) := by decide +kernel
theorem d_law_409 : decode b_law 409 = .ok (.ireturn, 1) := by decide +kernel
theorem d_law_410 : decode b_law 410 = .ok (.aload_n 1, 1) := by decide +kernel
theorem d_law_411 : decode b_law 411 = .ok (.aload_n 0, 1) := by decide +kernel
theorem d_law_412 : decode b_law 412 = .ok (.iload 4, 2) := by decide +kernel
theorem d_law_414 : decode b_law 414 = .ok (.iconst 1, 1) := by decide +kernel
theorem d_law_415 : decode b_law 415 = .ok (.iadd, 1) := by decide +kernel
theorem d_law_416 : decode b_law 416 = .ok (.iaload, 1) := by decide +kernel
theorem d_law_417 : decode b_law 417 = .ok (.aload_n 0, 1) := by decide +kernel
theorem d_law_418 : decode b_law 418 = .ok (.iload 4, 2) := by decide +kernel
theorem d_law_420 : decode b_law 420 = .ok (.iconst 2, 1) := by decide +kernel
theorem d_law_421 : decode b_law 421 = .ok (.iadd, 1) := by decide +kernel
theorem d_law_422 : decode b_law 422 = .ok (.iaload, 1) := by decide +kernel
theorem d_law_423 : decode b_law 423 = .ok (.invokevirtual 65, 3) := by decide +kernel
theorem d_law_426 : decode b_law 426 = .ok (.aload_n 2, 1) := by decide +kernel
theorem d_law_427 : decode b_law 427 = .ok (.aload_n 0, 1) := by decide +kernel
theorem d_law_428 : decode b_law 428 = .ok (.iload 4, 2) := by decide +kernel
theorem d_law_430 : decode b_law 430 = .ok (.iconst 1, 1) := by decide +kernel
theorem d_law_431 : decode b_law 431 = .ok (.iadd, 1) := by decide +kernel
theorem d_law_432 : decode b_law 432 = .ok (.iaload, 1) := by decide +kernel
theorem d_law_433 : decode b_law 433 = .ok (.aload_n 0, 1) := by decide +kernel
theorem d_law_434 : decode b_law 434 = .ok (.iload 4, 2) := by decide +kernel
theorem d_law_436 : decode b_law 436 = .ok (.iconst 2, 1) := by decide +kernel
theorem d_law_437 : decode b_law 437 = .ok (.iadd, 1) := by decide +kernel
theorem d_law_438 : decode b_law 438 = .ok (.iaload, 1) := by decide +kernel
theorem d_law_439 : decode b_law 439 = .ok (.invokevirtual 68, 3) := by decide +kernel
theorem d_law_442 : decode b_law 442 = .ok (.if_icmp .eq 641, 3) := by decide +kernel
theorem d_law_445 : decode b_law 445 = .ok (.iconst 0, 1) := by decide +kernel
theorem d_law_446 : decode b_law 446 = .ok (.ireturn, 1) := by decide +kernel
theorem d_law_447 : decode b_law 447 = .ok (.aload_n 1, 1) := by decide +kernel
theorem d_law_448 : decode b_law 448 = .ok (.aload_n 0, 1) := by decide +kernel
theorem d_law_449 : decode b_law 449 = .ok (.iload 4, 2) := by decide +kernel
theorem d_law_451 : decode b_law 451 = .ok (.iconst 1, 1) := by decide +kernel
theorem d_law_452 : decode b_law 452 = .ok (.iadd, 1) := by decide +kernel
theorem d_law_453 : decode b_law 453 = .ok (.iaload, 1) := by decide +kernel
theorem d_law_454 : decode b_law 454 = .ok (.aload_n 0, 1) := by decide +kernel
theorem d_law_455 : decode b_law 455 = .ok (.iload 4, 2) := by decide +kernel
theorem d_law_457 : decode b_law 457 = .ok (.iconst 2, 1) := by decide +kernel
theorem d_law_458 : decode b_law 458 = .ok (.iadd, 1) := by decide +kernel
theorem d_law_459 : decode b_law 459 = .ok (.iaload, 1) := by decide +kernel
theorem d_law_460 : decode b_law 460 = .ok (.aload_n 3, 1) := by decide +kernel
theorem d_law_461 : decode b_law 461 = .ok (.invokestatic 69, 3) := by decide +kernel
theorem d_law_464 : decode b_law 464 = .ok (.istore 5, 2) := by decide +kernel
theorem d_law_466 : decode b_law 466 = .ok (.aload_n 2, 1) := by decide +kernel
theorem d_law_467 : decode b_law 467 = .ok (.aload_n 0, 1) := by decide +kernel
theorem d_law_468 : decode b_law 468 = .ok (.iload 4, 2) := by decide +kernel
theorem d_law_470 : decode b_law 470 = .ok (.iconst 1, 1) := by decide +kernel
theorem d_law_471 : decode b_law 471 = .ok (.iadd, 1) := by decide +kernel
theorem d_law_472 : decode b_law 472 = .ok (.iaload, 1) := by decide +kernel
theorem d_law_473 : decode b_law 473 = .ok (.aload_n 0, 1) := by decide +kernel
theorem d_law_474 : decode b_law 474 = .ok (.iload 4, 2) := by decide +kernel
theorem d_law_476 : decode b_law 476 = .ok (.iconst 2, 1) := by decide +kernel
theorem d_law_477 : decode b_law 477 = .ok (.iadd, 1) := by decide +kernel
theorem d_law_478 : decode b_law 478 = .ok (.iaload, 1) := by decide +kernel
theorem d_law_479 : decode b_law 479 = .ok (.invokevirtual 71, 3) := by decide +kernel
theorem d_law_482 : decode b_law 482 = .ok (.istore 6, 2) := by decide +kernel
theorem d_law_484 : decode b_law 484 = .ok (.aload_n 2, 1) := by decide +kernel
theorem d_law_485 : decode b_law 485 = .ok (.invokevirtual 49, 3) := by decide +kernel
theorem d_law_488 : decode b_law 488 = .ok (.iload 5, 2) := by decide +kernel
theorem d_law_490 : decode b_law 490 = .ok (.if_icmp .eq 5, 3) := by decide +kernel
theorem d_law_493 : decode b_law 493 = .ok (.iconst 0, 1) := by decide +kernel
theorem d_law_494 : decode b_law 494 = .ok (.ireturn, 1) := by decide +kernel
theorem d_law_495 : decode b_law 495 = .ok (.iload 5, 2) := by decide +kernel
theorem d_law_497 : decode b_law 497 = .ok (.ifCond .ne 15, 3) := by decide +kernel
theorem d_law_500 : decode b_law 500 = .ok (.aload_n 3, 1) := by decide +kernel
theorem d_law_501 : decode b_law 501 = .ok (.iconst 0, 1) := by decide +kernel
theorem d_law_502 : decode b_law 502 = .ok (.laload, 1) := by decide +kernel
theorem d_law_503 : decode b_law 503 = .ok (.iload 6, 2) := by decide +kernel
theorem d_law_505 : decode b_law 505 = .ok (.i2l, 1) := by decide +kernel
theorem d_law_506 : decode b_law 506 = .ok (.lcmp, 1) := by decide +kernel
theorem d_law_507 : decode b_law 507 = .ok (.ifCond .eq 5, 3) := by decide +kernel
theorem d_law_510 : decode b_law 510 = .ok (.iconst 0, 1) := by decide +kernel
theorem d_law_511 : decode b_law 511 = .ok (.ireturn, 1) := by decide +kernel
theorem d_law_512 : decode b_law 512 = .ok (.goto 571, 3) := by decide +kernel
theorem d_law_515 : decode b_law 515 = .ok (.aload_n 1, 1) := by decide +kernel
theorem d_law_516 : decode b_law 516 = .ok (.aload_n 0, 1) := by decide +kernel
theorem d_law_517 : decode b_law 517 = .ok (.iload 4, 2) := by decide +kernel
theorem d_law_519 : decode b_law 519 = .ok (.iconst 1, 1) := by decide +kernel
theorem d_law_520 : decode b_law 520 = .ok (.iadd, 1) := by decide +kernel
theorem d_law_521 : decode b_law 521 = .ok (.iaload, 1) := by decide +kernel
theorem d_law_522 : decode b_law 522 = .ok (.aload_n 0, 1) := by decide +kernel
theorem d_law_523 : decode b_law 523 = .ok (.iload 4, 2) := by decide +kernel
theorem d_law_525 : decode b_law 525 = .ok (.iconst 2, 1) := by decide +kernel
theorem d_law_526 : decode b_law 526 = .ok (.iadd, 1) := by decide +kernel
theorem d_law_527 : decode b_law 527 = .ok (.iaload, 1) := by decide +kernel
theorem d_law_528 : decode b_law 528 = .ok (.invokevirtual 72, 3) := by decide +kernel
theorem d_law_531 : decode b_law 531 = .ok (.aload_n 2, 1) := by decide +kernel
theorem d_law_532 : decode b_law 532 = .ok (.aload_n 0, 1) := by decide +kernel
theorem d_law_533 : decode b_law 533 = .ok (.iload 4, 2) := by decide +kernel
theorem d_law_535 : decode b_law 535 = .ok (.iconst 1, 1) := by decide +kernel
theorem d_law_536 : decode b_law 536 = .ok (.iadd, 1) := by decide +kernel
theorem d_law_537 : decode b_law 537 = .ok (.iaload, 1) := by decide +kernel
theorem d_law_538 : decode b_law 538 = .ok (.aload_n 0, 1) := by decide +kernel
theorem d_law_539 : decode b_law 539 = .ok (.iload 4, 2) := by decide +kernel
theorem d_law_541 : decode b_law 541 = .ok (.iconst 2, 1) := by decide +kernel
theorem d_law_542 : decode b_law 542 = .ok (.iadd, 1) := by decide +kernel
theorem d_law_543 : decode b_law 543 = .ok (.iaload, 1) := by decide +kernel
theorem d_law_544 : decode b_law 544 = .ok (.invokevirtual 75, 3) := by decide +kernel
theorem d_law_547 : decode b_law 547 = .ok (.if_icmp .eq 536, 3) := by decide +kernel
theorem d_law_550 : decode b_law 550 = .ok (.iconst 0, 1) := by decide +kernel
theorem d_law_551 : decode b_law 551 = .ok (.ireturn, 1) := by decide +kernel
theorem d_law_552 : decode b_law 552 = .ok (.aload_n 1, 1) := by decide +kernel
theorem d_law_553 : decode b_law 553 = .ok (.aload_n 0, 1) := by decide +kernel
theorem d_law_554 : decode b_law 554 = .ok (.iload 4, 2) := by decide +kernel
theorem d_law_556 : decode b_law 556 = .ok (.iconst 1, 1) := by decide +kernel
theorem d_law_557 : decode b_law 557 = .ok (.iadd, 1) := by decide +kernel
theorem d_law_558 : decode b_law 558 = .ok (.iaload, 1) := by decide +kernel
theorem d_law_559 : decode b_law 559 = .ok (.aload_n 0, 1) := by decide +kernel
theorem d_law_560 : decode b_law 560 = .ok (.iload 4, 2) := by decide +kernel
theorem d_law_562 : decode b_law 562 = .ok (.iconst 2, 1) := by decide +kernel
theorem d_law_563 : decode b_law 563 = .ok (.iadd, 1) := by decide +kernel
theorem d_law_564 : decode b_law 564 = .ok (.iaload, 1) := by decide +kernel
theorem d_law_565 : decode b_law 565 = .ok (.aload_n 0, 1) := by decide +kernel
theorem d_law_566 : decode b_law 566 = .ok (.iload 4, 2) := by decide +kernel
theorem d_law_568 : decode b_law 568 = .ok (.iconst 3, 1) := by decide +kernel
theorem d_law_569 : decode b_law 569 = .ok (.iadd, 1) := by decide +kernel
theorem d_law_570 : decode b_law 570 = .ok (.iaload, 1) := by decide +kernel
theorem d_law_571 : decode b_law 571 = .ok (.i2l, 1) := by decide +kernel
theorem d_law_572 : decode b_law 572 = .ok (.bipush 32, 2) := by decide +kernel
theorem d_law_574 : decode b_law 574 = .ok (.lshl, 1) := by decide +kernel
theorem d_law_575 : decode b_law 575 = .ok (.aload_n 0, 1) := by decide +kernel
theorem d_law_576 : decode b_law 576 = .ok (.iload 4, 2) := by decide +kernel
theorem d_law_578 : decode b_law 578 = .ok (.iconst 4, 1) := by decide +kernel
theorem d_law_579 : decode b_law 579 = .ok (.iadd, 1) := by decide +kernel
theorem d_law_580 : decode b_law 580 = .ok (.iaload, 1) := by decide +kernel
theorem d_law_581 : decode b_law 581 = .ok (.i2l, 1) := by decide +kernel
theorem d_law_582 : decode b_law 582 = .ok (.ldc2_w 43, 3) := by decide +kernel
theorem d_law_585 : decode b_law 585 = .ok (.land, 1) := by decide +kernel
theorem d_law_586 : decode b_law 586 = .ok (.lor, 1) := by decide +kernel
theorem d_law_587 : decode b_law 587 = .ok (.invokevirtual 76, 3) := by decide +kernel
theorem d_law_590 : decode b_law 590 = .ok (.aload_n 2, 1) := by decide +kernel
theorem d_law_591 : decode b_law 591 = .ok (.aload_n 0, 1) := by decide +kernel
theorem d_law_592 : decode b_law 592 = .ok (.iload 4, 2) := by decide +kernel
theorem d_law_594 : decode b_law 594 = .ok (.iconst 1, 1) := by decide +kernel
theorem d_law_595 : decode b_law 595 = .ok (.iadd, 1) := by decide +kernel
theorem d_law_596 : decode b_law 596 = .ok (.iaload, 1) := by decide +kernel
theorem d_law_597 : decode b_law 597 = .ok (.aload_n 0, 1) := by decide +kernel
theorem d_law_598 : decode b_law 598 = .ok (.iload 4, 2) := by decide +kernel
theorem d_law_600 : decode b_law 600 = .ok (.iconst 2, 1) := by decide +kernel
theorem d_law_601 : decode b_law 601 = .ok (.iadd, 1) := by decide +kernel
theorem d_law_602 : decode b_law 602 = .ok (.iaload, 1) := by decide +kernel
theorem d_law_603 : decode b_law 603 = .ok (.aload_n 0, 1) := by decide +kernel
theorem d_law_604 : decode b_law 604 = .ok (.iload 4, 2) := by decide +kernel
theorem d_law_606 : decode b_law 606 = .ok (.iconst 3, 1) := by decide +kernel
theorem d_law_607 : decode b_law 607 = .ok (.iadd, 1) := by decide +kernel
theorem d_law_608 : decode b_law 608 = .ok (.iaload, 1) := by decide +kernel
theorem d_law_609 : decode b_law 609 = .ok (.i2l, 1) := by decide +kernel
theorem d_law_610 : decode b_law 610 = .ok (.bipush 32, 2) := by decide +kernel
theorem d_law_612 : decode b_law 612 = .ok (.lshl, 1) := by decide +kernel
theorem d_law_613 : decode b_law 613 = .ok (.aload_n 0, 1) := by decide +kernel
theorem d_law_614 : decode b_law 614 = .ok (.iload 4, 2) := by decide +kernel
theorem d_law_616 : decode b_law 616 = .ok (.iconst 4, 1) := by decide +kernel
theorem d_law_617 : decode b_law 617 = .ok (.iadd, 1) := by decide +kernel
theorem d_law_618 : decode b_law 618 = .ok (.iaload, 1) := by decide +kernel
theorem d_law_619 : decode b_law 619 = .ok (.i2l, 1) := by decide +kernel
theorem d_law_620 : decode b_law 620 = .ok (.ldc2_w 43, 3) := by decide +kernel
theorem d_law_623 : decode b_law 623 = .ok (.land, 1) := by decide +kernel
theorem d_law_624 : decode b_law 624 = .ok (.lor, 1) := by decide +kernel
theorem d_law_625 : decode b_law 625 = .ok (.invokevirtual 80, 3) := by decide +kernel
theorem d_law_628 : decode b_law 628 = .ok (.lcmp, 1) := by decide +kernel
theorem d_law_629 : decode b_law 629 = .ok (.ifCond .eq 454, 3) := by decide +kernel
theorem d_law_632 : decode b_law 632 = .ok (.iconst 0, 1) := by decide +kernel
theorem d_law_633 : decode b_law 633 = .ok (.ireturn, 1) := by decide +kernel
theorem d_law_634 : decode b_law 634 = .ok (.aload_n 1, 1) := by decide +kernel
theorem d_law_635 : decode b_law 635 = .ok (.aload_n 0, 1) := by decide +kernel
theorem d_law_636 : decode b_law 636 = .ok (.iload 4, 2) := by decide +kernel
theorem d_law_638 : decode b_law 638 = .ok (.iconst 1, 1) := by decide +kernel
theorem d_law_639 : decode b_law 639 = .ok (.iadd, 1) := by decide +kernel
theorem d_law_640 : decode b_law 640 = .ok (.iaload, 1) := by decide +kernel
theorem d_law_641 : decode b_law 641 = .ok (.aload_n 0, 1) := by decide +kernel
theorem d_law_642 : decode b_law 642 = .ok (.iload 4, 2) := by decide +kernel
theorem d_law_644 : decode b_law 644 = .ok (.iconst 2, 1) := by decide +kernel
theorem d_law_645 : decode b_law 645 = .ok (.iadd, 1) := by decide +kernel
theorem d_law_646 : decode b_law 646 = .ok (.iaload, 1) := by decide +kernel
theorem d_law_647 : decode b_law 647 = .ok (.aload_n 0, 1) := by decide +kernel
theorem d_law_648 : decode b_law 648 = .ok (.iload 4, 2) := by decide +kernel
theorem d_law_650 : decode b_law 650 = .ok (.iconst 3, 1) := by decide +kernel
theorem d_law_651 : decode b_law 651 = .ok (.iadd, 1) := by decide +kernel
theorem d_law_652 : decode b_law 652 = .ok (.iaload, 1) := by decide +kernel
theorem d_law_653 : decode b_law 653 = .ok (.invokevirtual 81, 3) := by decide +kernel
theorem d_law_656 : decode b_law 656 = .ok (.aload_n 2, 1) := by decide +kernel
theorem d_law_657 : decode b_law 657 = .ok (.aload_n 0, 1) := by decide +kernel
theorem d_law_658 : decode b_law 658 = .ok (.iload 4, 2) := by decide +kernel
theorem d_law_660 : decode b_law 660 = .ok (.iconst 1, 1) := by decide +kernel
theorem d_law_661 : decode b_law 661 = .ok (.iadd, 1) := by decide +kernel
theorem d_law_662 : decode b_law 662 = .ok (.iaload, 1) := by decide +kernel
theorem d_law_663 : decode b_law 663 = .ok (.aload_n 0, 1) := by decide +kernel
theorem d_law_664 : decode b_law 664 = .ok (.iload 4, 2) := by decide +kernel
theorem d_law_666 : decode b_law 666 = .ok (.iconst 2, 1) := by decide +kernel
theorem d_law_667 : decode b_law 667 = .ok (.iadd, 1) := by decide +kernel
theorem d_law_668 : decode b_law 668 = .ok (.iaload, 1) := by decide +kernel
theorem d_law_669 : decode b_law 669 = .ok (.aload_n 0, 1) := by decide +kernel
theorem d_law_670 : decode b_law 670 = .ok (.iload 4, 2) := by decide +kernel
theorem d_law_672 : decode b_law 672 = .ok (.iconst 3, 1) := by decide +kernel
theorem d_law_673 : decode b_law 673 = .ok (.iadd, 1) := by decide +kernel
theorem d_law_674 : decode b_law 674 = .ok (.iaload, 1) := by decide +kernel
theorem d_law_675 : decode b_law 675 = .ok (.invokevirtual 85, 3) := by decide +kernel
theorem d_law_678 : decode b_law 678 = .ok (.if_icmp .eq 405, 3) := by decide +kernel
theorem d_law_681 : decode b_law 681 = .ok (.iconst 0, 1) := by decide +kernel
theorem d_law_682 : decode b_law 682 = .ok (.ireturn, 1) := by decide +kernel
theorem d_law_683 : decode b_law 683 = .ok (.aload_n 1, 1) := by decide +kernel
theorem d_law_684 : decode b_law 684 = .ok (.invokevirtual 86, 3) := by decide +kernel
theorem d_law_687 : decode b_law 687 = .ok (.aload_n 2, 1) := by decide +kernel
theorem d_law_688 : decode b_law 688 = .ok (.invokevirtual 89, 3) := by decide +kernel
theorem d_law_691 : decode b_law 691 = .ok (.if_icmp .eq 392, 3) := by decide +kernel
theorem d_law_694 : decode b_law 694 = .ok (.iconst 0, 1) := by decide +kernel
theorem d_law_695 : decode b_law 695 = .ok (.ireturn, 1) := by decide +kernel
theorem d_law_696 : decode b_law 696 = .ok (.aload_n 1, 1) := by decide +kernel
theorem d_law_697 : decode b_law 697 = .ok (.aload_n 0, 1) := by decide +kernel
theorem d_law_698 : decode b_law 698 = .ok (.iload 4, 2) := by decide +kernel
theorem d_law_700 : decode b_law 700 = .ok (.iconst 1, 1) := by decide +kernel
theorem d_law_701 : decode b_law 701 = .ok (.iadd, 1) := by decide +kernel
theorem d_law_702 : decode b_law 702 = .ok (.iaload, 1) := by decide +kernel
theorem d_law_703 : decode b_law 703 = .ok (.aload_n 0, 1) := by decide +kernel
theorem d_law_704 : decode b_law 704 = .ok (.iload 4, 2) := by decide +kernel
theorem d_law_706 : decode b_law 706 = .ok (.iconst 2, 1) := by decide +kernel
theorem d_law_707 : decode b_law 707 = .ok (.iadd, 1) := by decide +kernel
theorem d_law_708 : decode b_law 708 = .ok (.iaload, 1) := by decide +kernel
theorem d_law_709 : decode b_law 709 = .ok (.aload_n 0, 1) := by decide +kernel
theorem d_law_710 : decode b_law 710 = .ok (.iload 4, 2) := by decide +kernel
theorem d_law_712 : decode b_law 712 = .ok (.iconst 3, 1) := by decide +kernel
theorem d_law_713 : decode b_law 713 = .ok (.iadd, 1) := by decide +kernel
theorem d_law_714 : decode b_law 714 = .ok (.iaload, 1) := by decide +kernel
theorem d_law_715 : decode b_law 715 = .ok (.aload_n 3, 1) := by decide +kernel
theorem d_law_716 : decode b_law 716 = .ok (.invokestatic 90, 3) := by decide +kernel
theorem d_law_719 : decode b_law 719 = .ok (.istore 5, 2) := by decide +kernel
theorem d_law_721 : decode b_law 721 = .ok (.aload_n 2, 1) := by decide +kernel
theorem d_law_722 : decode b_law 722 = .ok (.aload_n 0, 1) := by decide +kernel
theorem d_law_723 : decode b_law 723 = .ok (.iload 4, 2) := by decide +kernel
theorem d_law_725 : decode b_law 725 = .ok (.iconst 1, 1) := by decide +kernel
theorem d_law_726 : decode b_law 726 = .ok (.iadd, 1) := by decide +kernel
theorem d_law_727 : decode b_law 727 = .ok (.iaload, 1) := by decide +kernel
theorem d_law_728 : decode b_law 728 = .ok (.aload_n 0, 1) := by decide +kernel
theorem d_law_729 : decode b_law 729 = .ok (.iload 4, 2) := by decide +kernel
theorem d_law_731 : decode b_law 731 = .ok (.iconst 2, 1) := by decide +kernel
theorem d_law_732 : decode b_law 732 = .ok (.iadd, 1) := by decide +kernel
theorem d_law_733 : decode b_law 733 = .ok (.iaload, 1) := by decide +kernel
theorem d_law_734 : decode b_law 734 = .ok (.aload_n 0, 1) := by decide +kernel
theorem d_law_735 : decode b_law 735 = .ok (.iload 4, 2) := by decide +kernel
theorem d_law_737 : decode b_law 737 = .ok (.iconst 3, 1) := by decide +kernel
theorem d_law_738 : decode b_law 738 = .ok (.iadd, 1) := by decide +kernel
theorem d_law_739 : decode b_law 739 = .ok (.iaload, 1) := by decide +kernel
theorem d_law_740 : decode b_law 740 = .ok (.invokevirtual 93, 3) := by decide +kernel
theorem d_law_743 : decode b_law 743 = .ok (.istore 6, 2) := by decide +kernel
theorem d_law_745 : decode b_law 745 = .ok (.aload_n 2, 1) := by decide +kernel
theorem d_law_746 : decode b_law 746 = .ok (.invokevirtual 49, 3) := by decide +kernel
theorem d_law_749 : decode b_law 749 = .ok (.iload 5, 2) := by decide +kernel
theorem d_law_751 : decode b_law 751 = .ok (.if_icmp .eq 5, 3) := by decide +kernel
theorem d_law_754 : decode b_law 754 = .ok (.iconst 0, 1) := by decide +kernel
theorem d_law_755 : decode b_law 755 = .ok (.ireturn, 1) := by decide +kernel
theorem d_law_756 : decode b_law 756 = .ok (.iload 5, 2) := by decide +kernel
theorem d_law_758 : decode b_law 758 = .ok (.ifCond .ne 22, 3) := by decide +kernel
theorem d_law_761 : decode b_law 761 = .ok (.aload_n 3, 1) := by decide +kernel
theorem d_law_762 : decode b_law 762 = .ok (.iconst 0, 1) := by decide +kernel
theorem d_law_763 : decode b_law 763 = .ok (.laload, 1) := by decide +kernel
theorem d_law_764 : decode b_law 764 = .ok (.iload 6, 2) := by decide +kernel
theorem d_law_766 : decode b_law 766 = .ok (.ifCond .eq 7, 3) := by decide +kernel
theorem d_law_769 : decode b_law 769 = .ok (.lconst 1, 1) := by decide +kernel
theorem d_law_770 : decode b_law 770 = .ok (.goto 4, 3) := by decide +kernel
theorem d_law_773 : decode b_law 773 = .ok (.lconst 0, 1) := by decide +kernel
theorem d_law_774 : decode b_law 774 = .ok (.lcmp, 1) := by decide +kernel
theorem d_law_775 : decode b_law 775 = .ok (.ifCond .eq 5, 3) := by decide +kernel
theorem d_law_778 : decode b_law 778 = .ok (.iconst 0, 1) := by decide +kernel
theorem d_law_779 : decode b_law 779 = .ok (.ireturn, 1) := by decide +kernel
theorem d_law_780 : decode b_law 780 = .ok (.goto 303, 3) := by decide +kernel
theorem d_law_783 : decode b_law 783 = .ok (.aload_n 1, 1) := by decide +kernel
theorem d_law_784 : decode b_law 784 = .ok (.aload_n 0, 1) := by decide +kernel
theorem d_law_785 : decode b_law 785 = .ok (.iload 4, 2) := by decide +kernel
theorem d_law_787 : decode b_law 787 = .ok (.iconst 1, 1) := by decide +kernel
theorem d_law_788 : decode b_law 788 = .ok (.iadd, 1) := by decide +kernel
theorem d_law_789 : decode b_law 789 = .ok (.iaload, 1) := by decide +kernel
theorem d_law_790 : decode b_law 790 = .ok (.aload_n 0, 1) := by decide +kernel
theorem d_law_791 : decode b_law 791 = .ok (.iload 4, 2) := by decide +kernel
theorem d_law_793 : decode b_law 793 = .ok (.iconst 2, 1) := by decide +kernel
theorem d_law_794 : decode b_law 794 = .ok (.iadd, 1) := by decide +kernel
theorem d_law_795 : decode b_law 795 = .ok (.iaload, 1) := by decide +kernel
theorem d_law_796 : decode b_law 796 = .ok (.aload_n 3, 1) := by decide +kernel
theorem d_law_797 : decode b_law 797 = .ok (.invokestatic 94, 3) := by decide +kernel
theorem d_law_800 : decode b_law 800 = .ok (.istore 5, 2) := by decide +kernel
theorem d_law_802 : decode b_law 802 = .ok (.aload_n 2, 1) := by decide +kernel
theorem d_law_803 : decode b_law 803 = .ok (.aload_n 0, 1) := by decide +kernel
theorem d_law_804 : decode b_law 804 = .ok (.iload 4, 2) := by decide +kernel
theorem d_law_806 : decode b_law 806 = .ok (.iconst 1, 1) := by decide +kernel
theorem d_law_807 : decode b_law 807 = .ok (.iadd, 1) := by decide +kernel
theorem d_law_808 : decode b_law 808 = .ok (.iaload, 1) := by decide +kernel
theorem d_law_809 : decode b_law 809 = .ok (.aload_n 0, 1) := by decide +kernel
theorem d_law_810 : decode b_law 810 = .ok (.iload 4, 2) := by decide +kernel
theorem d_law_812 : decode b_law 812 = .ok (.iconst 2, 1) := by decide +kernel
theorem d_law_813 : decode b_law 813 = .ok (.iadd, 1) := by decide +kernel
theorem d_law_814 : decode b_law 814 = .ok (.iaload, 1) := by decide +kernel
theorem d_law_815 : decode b_law 815 = .ok (.invokevirtual 96, 3) := by decide +kernel
theorem d_law_818 : decode b_law 818 = .ok (.istore 6, 2) := by decide +kernel
theorem d_law_820 : decode b_law 820 = .ok (.aload_n 2, 1) := by decide +kernel
theorem d_law_821 : decode b_law 821 = .ok (.invokevirtual 49, 3) := by decide +kernel
theorem d_law_824 : decode b_law 824 = .ok (.iload 5, 2) := by decide +kernel
theorem d_law_826 : decode b_law 826 = .ok (.if_icmp .eq 5, 3) := by decide +kernel
theorem d_law_829 : decode b_law 829 = .ok (.iconst 0, 1) := by decide +kernel
theorem d_law_830 : decode b_law 830 = .ok (.ireturn, 1) := by decide +kernel
theorem d_law_831 : decode b_law 831 = .ok (.iload 5, 2) := by decide +kernel
theorem d_law_833 : decode b_law 833 = .ok (.ifCond .ne 15, 3) := by decide +kernel
theorem d_law_836 : decode b_law 836 = .ok (.aload_n 3, 1) := by decide +kernel
theorem d_law_837 : decode b_law 837 = .ok (.iconst 0, 1) := by decide +kernel
theorem d_law_838 : decode b_law 838 = .ok (.laload, 1) := by decide +kernel
theorem d_law_839 : decode b_law 839 = .ok (.iload 6, 2) := by decide +kernel
theorem d_law_841 : decode b_law 841 = .ok (.i2l, 1) := by decide +kernel
theorem d_law_842 : decode b_law 842 = .ok (.lcmp, 1) := by decide +kernel
theorem d_law_843 : decode b_law 843 = .ok (.ifCond .eq 5, 3) := by decide +kernel
theorem d_law_846 : decode b_law 846 = .ok (.iconst 0, 1) := by decide +kernel
theorem d_law_847 : decode b_law 847 = .ok (.ireturn, 1) := by decide +kernel
theorem d_law_848 : decode b_law 848 = .ok (.goto 235, 3) := by decide +kernel
theorem d_law_851 : decode b_law 851 = .ok (.aload_n 1, 1) := by decide +kernel
theorem d_law_852 : decode b_law 852 = .ok (.aload_n 0, 1) := by decide +kernel
theorem d_law_853 : decode b_law 853 = .ok (.iload 4, 2) := by decide +kernel
theorem d_law_855 : decode b_law 855 = .ok (.iconst 1, 1) := by decide +kernel
theorem d_law_856 : decode b_law 856 = .ok (.iadd, 1) := by decide +kernel
theorem d_law_857 : decode b_law 857 = .ok (.iaload, 1) := by decide +kernel
theorem d_law_858 : decode b_law 858 = .ok (.invokevirtual 97, 3) := by decide +kernel
theorem d_law_861 : decode b_law 861 = .ok (.aload_n 2, 1) := by decide +kernel
theorem d_law_862 : decode b_law 862 = .ok (.aload_n 0, 1) := by decide +kernel
theorem d_law_863 : decode b_law 863 = .ok (.iload 4, 2) := by decide +kernel
theorem d_law_865 : decode b_law 865 = .ok (.iconst 1, 1) := by decide +kernel
theorem d_law_866 : decode b_law 866 = .ok (.iadd, 1) := by decide +kernel
theorem d_law_867 : decode b_law 867 = .ok (.iaload, 1) := by decide +kernel
theorem d_law_868 : decode b_law 868 = .ok (.invokevirtual 101, 3) := by decide +kernel
theorem d_law_871 : decode b_law 871 = .ok (.if_icmp .eq 212, 3) := by decide +kernel
theorem d_law_874 : decode b_law 874 = .ok (.iconst 0, 1) := by decide +kernel
theorem d_law_875 : decode b_law 875 = .ok (.ireturn, 1) := by decide +kernel
theorem d_law_876 : decode b_law 876 = .ok (.aload_n 1, 1) := by decide +kernel
theorem d_law_877 : decode b_law 877 = .ok (.aload_n 0, 1) := by decide +kernel
theorem d_law_878 : decode b_law 878 = .ok (.iload 4, 2) := by decide +kernel
theorem d_law_880 : decode b_law 880 = .ok (.iconst 1, 1) := by decide +kernel
theorem d_law_881 : decode b_law 881 = .ok (.iadd, 1) := by decide +kernel
theorem d_law_882 : decode b_law 882 = .ok (.iaload, 1) := by decide +kernel
theorem d_law_883 : decode b_law 883 = .ok (.aload_n 0, 1) := by decide +kernel
theorem d_law_884 : decode b_law 884 = .ok (.iload 4, 2) := by decide +kernel
theorem d_law_886 : decode b_law 886 = .ok (.iconst 2, 1) := by decide +kernel
theorem d_law_887 : decode b_law 887 = .ok (.iadd, 1) := by decide +kernel
theorem d_law_888 : decode b_law 888 = .ok (.iaload, 1) := by decide +kernel
theorem d_law_889 : decode b_law 889 = .ok (.aload_n 0, 1) := by decide +kernel
theorem d_law_890 : decode b_law 890 = .ok (.iload 4, 2) := by decide +kernel
theorem d_law_892 : decode b_law 892 = .ok (.iconst 3, 1) := by decide +kernel
theorem d_law_893 : decode b_law 893 = .ok (.iadd, 1) := by decide +kernel
theorem d_law_894 : decode b_law 894 = .ok (.iaload, 1) := by decide +kernel
theorem d_law_895 : decode b_law 895 = .ok (.invokevirtual 102, 3) := by decide +kernel
theorem d_law_898 : decode b_law 898 = .ok (.aload_n 2, 1) := by decide +kernel
theorem d_law_899 : decode b_law 899 = .ok (.aload_n 0, 1) := by decide +kernel
theorem d_law_900 : decode b_law 900 = .ok (.iload 4, 2) := by decide +kernel
theorem d_law_902 : decode b_law 902 = .ok (.iconst 1, 1) := by decide +kernel
theorem d_law_903 : decode b_law 903 = .ok (.iadd, 1) := by decide +kernel
theorem d_law_904 : decode b_law 904 = .ok (.iaload, 1) := by decide +kernel
theorem d_law_905 : decode b_law 905 = .ok (.aload_n 0, 1) := by decide +kernel
theorem d_law_906 : decode b_law 906 = .ok (.iload 4, 2) := by decide +kernel
theorem d_law_908 : decode b_law 908 = .ok (.iconst 2, 1) := by decide +kernel
theorem d_law_909 : decode b_law 909 = .ok (.iadd, 1) := by decide +kernel
theorem d_law_910 : decode b_law 910 = .ok (.iaload, 1) := by decide +kernel
theorem d_law_911 : decode b_law 911 = .ok (.aload_n 0, 1) := by decide +kernel
theorem d_law_912 : decode b_law 912 = .ok (.iload 4, 2) := by decide +kernel
theorem d_law_914 : decode b_law 914 = .ok (.iconst 3, 1) := by decide +kernel
theorem d_law_915 : decode b_law 915 = .ok (.iadd, 1) := by decide +kernel
theorem d_law_916 : decode b_law 916 = .ok (.iaload, 1) := by decide +kernel
theorem d_law_917 : decode b_law 917 = .ok (.invokevirtual 105, 3) := by decide +kernel
theorem d_law_920 : decode b_law 920 = .ok (.if_icmp .eq 163, 3) := by decide +kernel
theorem d_law_923 : decode b_law 923 = .ok (.iconst 0, 1) := by decide +kernel
theorem d_law_924 : decode b_law 924 = .ok (.ireturn, 1) := by decide +kernel
theorem d_law_925 : decode b_law 925 = .ok (.aload_n 1, 1) := by decide +kernel
theorem d_law_926 : decode b_law 926 = .ok (.aload_n 0, 1) := by decide +kernel
theorem d_law_927 : decode b_law 927 = .ok (.iload 4, 2) := by decide +kernel
theorem d_law_929 : decode b_law 929 = .ok (.iconst 1, 1) := by decide +kernel
theorem d_law_930 : decode b_law 930 = .ok (.iadd, 1) := by decide +kernel
theorem d_law_931 : decode b_law 931 = .ok (.iaload, 1) := by decide +kernel
theorem d_law_932 : decode b_law 932 = .ok (.invokevirtual 106, 3) := by decide +kernel
theorem d_law_935 : decode b_law 935 = .ok (.aload_n 2, 1) := by decide +kernel
theorem d_law_936 : decode b_law 936 = .ok (.aload_n 0, 1) := by decide +kernel
theorem d_law_937 : decode b_law 937 = .ok (.iload 4, 2) := by decide +kernel
theorem d_law_939 : decode b_law 939 = .ok (.iconst 1, 1) := by decide +kernel
theorem d_law_940 : decode b_law 940 = .ok (.iadd, 1) := by decide +kernel
theorem d_law_941 : decode b_law 941 = .ok (.iaload, 1) := by decide +kernel
theorem d_law_942 : decode b_law 942 = .ok (.invokevirtual 109, 3) := by decide +kernel
theorem d_law_945 : decode b_law 945 = .ok (.if_icmp .eq 138, 3) := by decide +kernel
theorem d_law_948 : decode b_law 948 = .ok (.iconst 0, 1) := by decide +kernel
theorem d_law_949 : decode b_law 949 = .ok (.ireturn, 1) := by decide +kernel
theorem d_law_950 : decode b_law 950 = .ok (.aload_n 1, 1) := by decide +kernel
theorem d_law_951 : decode b_law 951 = .ok (.aload_n 0, 1) := by decide +kernel
theorem d_law_952 : decode b_law 952 = .ok (.iload 4, 2) := by decide +kernel
theorem d_law_954 : decode b_law 954 = .ok (.iconst 1, 1) := by decide +kernel
theorem d_law_955 : decode b_law 955 = .ok (.iadd, 1) := by decide +kernel
theorem d_law_956 : decode b_law 956 = .ok (.iaload, 1) := by decide +kernel
theorem d_law_957 : decode b_law 957 = .ok (.aload_n 0, 1) := by decide +kernel
theorem d_law_958 : decode b_law 958 = .ok (.iload 4, 2) := by decide +kernel
theorem d_law_960 : decode b_law 960 = .ok (.iconst 2, 1) := by decide +kernel
theorem d_law_961 : decode b_law 961 = .ok (.iadd, 1) := by decide +kernel
theorem d_law_962 : decode b_law 962 = .ok (.iaload, 1) := by decide +kernel
theorem d_law_963 : decode b_law 963 = .ok (.invokevirtual 110, 3) := by decide +kernel
theorem d_law_966 : decode b_law 966 = .ok (.aload_n 2, 1) := by decide +kernel
theorem d_law_967 : decode b_law 967 = .ok (.aload_n 0, 1) := by decide +kernel
theorem d_law_968 : decode b_law 968 = .ok (.iload 4, 2) := by decide +kernel
theorem d_law_970 : decode b_law 970 = .ok (.iconst 1, 1) := by decide +kernel
theorem d_law_971 : decode b_law 971 = .ok (.iadd, 1) := by decide +kernel
theorem d_law_972 : decode b_law 972 = .ok (.iaload, 1) := by decide +kernel
theorem d_law_973 : decode b_law 973 = .ok (.aload_n 0, 1) := by decide +kernel
theorem d_law_974 : decode b_law 974 = .ok (.iload 4, 2) := by decide +kernel
theorem d_law_976 : decode b_law 976 = .ok (.iconst 2, 1) := by decide +kernel
theorem d_law_977 : decode b_law 977 = .ok (.iadd, 1) := by decide +kernel
theorem d_law_978 : decode b_law 978 = .ok (.iaload, 1) := by decide +kernel
theorem d_law_979 : decode b_law 979 = .ok (.invokevirtual 114, 3) := by decide +kernel
theorem d_law_982 : decode b_law 982 = .ok (.lcmp, 1) := by decide +kernel
theorem d_law_983 : decode b_law 983 = .ok (.ifCond .eq 100, 3) := by decide +kernel
theorem d_law_986 : decode b_law 986 = .ok (.iconst 0, 1) := by decide +kernel
theorem d_law_987 : decode b_law 987 = .ok (.ireturn, 1) := by decide +kernel
theorem d_law_988 : decode b_law 988 = .ok (.aload_n 1, 1) := by decide +kernel
theorem d_law_989 : decode b_law 989 = .ok (.aload_n 0, 1) := by decide +kernel
theorem d_law_990 : decode b_law 990 = .ok (.iload 4, 2) := by decide +kernel
theorem d_law_992 : decode b_law 992 = .ok (.iconst 1, 1) := by decide +kernel
theorem d_law_993 : decode b_law 993 = .ok (.iadd, 1) := by decide +kernel
theorem d_law_994 : decode b_law 994 = .ok (.iaload, 1) := by decide +kernel
theorem d_law_995 : decode b_law 995 = .ok (.invokevirtual 115, 3) := by decide +kernel
theorem d_law_998 : decode b_law 998 = .ok (.aload_n 2, 1) := by decide +kernel
theorem d_law_999 : decode b_law 999 = .ok (.aload_n 0, 1) := by decide +kernel
theorem d_law_1000 : decode b_law 1000 = .ok (.iload 4, 2) := by decide +kernel
theorem d_law_1002 : decode b_law 1002 = .ok (.iconst 1, 1) := by decide +kernel
theorem d_law_1003 : decode b_law 1003 = .ok (.iadd, 1) := by decide +kernel
theorem d_law_1004 : decode b_law 1004 = .ok (.iaload, 1) := by decide +kernel
theorem d_law_1005 : decode b_law 1005 = .ok (.invokevirtual 118, 3) := by decide +kernel
theorem d_law_1008 : decode b_law 1008 = .ok (.if_icmp .eq 75, 3) := by decide +kernel
theorem d_law_1011 : decode b_law 1011 = .ok (.iconst 0, 1) := by decide +kernel
theorem d_law_1012 : decode b_law 1012 = .ok (.ireturn, 1) := by decide +kernel
theorem d_law_1013 : decode b_law 1013 = .ok (.aload_n 1, 1) := by decide +kernel
theorem d_law_1014 : decode b_law 1014 = .ok (.aload_n 0, 1) := by decide +kernel
theorem d_law_1015 : decode b_law 1015 = .ok (.iload 4, 2) := by decide +kernel
theorem d_law_1017 : decode b_law 1017 = .ok (.iconst 1, 1) := by decide +kernel
theorem d_law_1018 : decode b_law 1018 = .ok (.iadd, 1) := by decide +kernel
theorem d_law_1019 : decode b_law 1019 = .ok (.iaload, 1) := by decide +kernel
theorem d_law_1020 : decode b_law 1020 = .ok (.i2l, 1) := by decide +kernel
theorem d_law_1021 : decode b_law 1021 = .ok (.bipush 32, 2) := by decide +kernel
theorem d_law_1023 : decode b_law 1023 = .ok (.lshl, 1) := by decide +kernel
theorem d_law_1024 : decode b_law 1024 = .ok (.aload_n 0, 1) := by decide +kernel
theorem d_law_1025 : decode b_law 1025 = .ok (.iload 4, 2) := by decide +kernel
theorem d_law_1027 : decode b_law 1027 = .ok (.iconst 2, 1) := by decide +kernel
theorem d_law_1028 : decode b_law 1028 = .ok (.iadd, 1) := by decide +kernel
theorem d_law_1029 : decode b_law 1029 = .ok (.iaload, 1) := by decide +kernel
theorem d_law_1030 : decode b_law 1030 = .ok (.i2l, 1) := by decide +kernel
theorem d_law_1031 : decode b_law 1031 = .ok (.ldc2_w 43, 3) := by decide +kernel
theorem d_law_1034 : decode b_law 1034 = .ok (.land, 1) := by decide +kernel
theorem d_law_1035 : decode b_law 1035 = .ok (.lor, 1) := by decide +kernel
theorem d_law_1036 : decode b_law 1036 = .ok (.aload_n 0, 1) := by decide +kernel
theorem d_law_1037 : decode b_law 1037 = .ok (.iload 4, 2) := by decide +kernel
theorem d_law_1039 : decode b_law 1039 = .ok (.iconst 3, 1) := by decide +kernel
theorem d_law_1040 : decode b_law 1040 = .ok (.iadd, 1) := by decide +kernel
theorem d_law_1041 : decode b_law 1041 = .ok (.iaload, 1) := by decide +kernel
theorem d_law_1042 : decode b_law 1042 = .ok (.invokevirtual 119, 3) := by decide +kernel
theorem d_law_1045 : decode b_law 1045 = .ok (.aload_n 2, 1) := by decide +kernel
theorem d_law_1046 : decode b_law 1046 = .ok (.aload_n 0, 1) := by decide +kernel
theorem d_law_1047 : decode b_law 1047 = .ok (.iload 4, 2) := by decide +kernel
theorem d_law_1049 : decode b_law 1049 = .ok (.iconst 1, 1) := by decide +kernel
theorem d_law_1050 : decode b_law 1050 = .ok (.iadd, 1) := by decide +kernel
theorem d_law_1051 : decode b_law 1051 = .ok (.iaload, 1) := by decide +kernel
theorem d_law_1052 : decode b_law 1052 = .ok (.i2l, 1) := by decide +kernel
theorem d_law_1053 : decode b_law 1053 = .ok (.bipush 32, 2) := by decide +kernel
theorem d_law_1055 : decode b_law 1055 = .ok (.lshl, 1) := by decide +kernel
theorem d_law_1056 : decode b_law 1056 = .ok (.aload_n 0, 1) := by decide +kernel
theorem d_law_1057 : decode b_law 1057 = .ok (.iload 4, 2) := by decide +kernel
theorem d_law_1059 : decode b_law 1059 = .ok (.iconst 2, 1) := by decide +kernel
theorem d_law_1060 : decode b_law 1060 = .ok (.iadd, 1) := by decide +kernel
theorem d_law_1061 : decode b_law 1061 = .ok (.iaload, 1) := by decide +kernel
theorem d_law_1062 : decode b_law 1062 = .ok (.i2l, 1) := by decide +kernel
theorem d_law_1063 : decode b_law 1063 = .ok (.ldc2_w 43, 3) := by decide +kernel
theorem d_law_1066 : decode b_law 1066 = .ok (.land, 1) := by decide +kernel
theorem d_law_1067 : decode b_law 1067 = .ok (.lor, 1) := by decide +kernel
theorem d_law_1068 : decode b_law 1068 = .ok (.aload_n 0, 1) := by decide +kernel
theorem d_law_1069 : decode b_law 1069 = .ok (.iload 4, 2) := by decide +kernel
theorem d_law_1071 : decode b_law 1071 = .ok (.iconst 3, 1) := by decide +kernel
theorem d_law_1072 : decode b_law 1072 = .ok (.iadd, 1) := by decide +kernel
theorem d_law_1073 : decode b_law 1073 = .ok (.iaload, 1) := by decide +kernel
theorem d_law_1074 : decode b_law 1074 = .ok (.invokevirtual 123, 3) := by decide +kernel
theorem d_law_1077 : decode b_law 1077 = .ok (.lcmp, 1) := by decide +kernel
theorem d_law_1078 : decode b_law 1078 = .ok (.ifCond .eq 5, 3) := by decide +kernel
theorem d_law_1081 : decode b_law 1081 = .ok (.iconst 0, 1) := by decide +kernel
theorem d_law_1082 : decode b_law 1082 = .ok (.ireturn, 1) := by decide +kernel
theorem d_law_1083 : decode b_law 1083 = .ok (.iinc 4 5, 3) := by decide +kernel
theorem d_law_1086 : decode b_law 1086 = .ok (.goto (-1053), 3) := by decide +kernel
theorem d_law_1089 : decode b_law 1089 = .ok (.iconst 1, 1) := by decide +kernel
theorem d_law_1090 : decode b_law 1090 = .ok (.ireturn, 1) := by decide +kernel
theorem d_law_49 : decode b_law 49 = .ok (.tableswitch 1034 0 17 #[87, 219, 287, 324, 361, 398, 466, 503, 585, 634, 647, 734, 802, 827, 876, 901, 939, 964], 87) := by decide +kernel
