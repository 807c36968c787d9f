/-! the law: its rows, its sites -/
abbrev mf_law : sm_F := (x, code, 7, (Option.some FieldType.boolean), [], 12, 446)
theorem d_law_0 : decode code 0 = .ok (.new 8, 3) := by decide +kernel
theorem d_law_3 : decode code 3 = .ok (.dup, 1) := by decide +kernel
theorem d_law_4 : decode code 4 = .ok (.invokespecial 86, 3) := by decide +kernel
theorem d_law_7 : decode code 7 = .ok (.astore_n 1, 1) := by decide +kernel
theorem d_law_8 : decode code 8 = .ok (.new 87, 3) := by decide +kernel
theorem d_law_11 : decode code 11 = .ok (.dup, 1) := by decide +kernel
theorem d_law_12 : decode code 12 = .ok (.invokespecial 89, 3) := by decide +kernel
theorem d_law_15 : decode code 15 = .ok (.astore_n 2, 1) := by decide +kernel
theorem d_law_16 : decode code 16 = .ok (.iconst 1, 1) := by decide +kernel
theorem d_law_17 : decode code 17 = .ok (.newarray .long, 2) := by decide +kernel
theorem d_law_19 : decode code 19 = .ok (.astore_n 3, 1) := by decide +kernel
theorem d_law_20 : decode code 20 = .ok (.iconst 0, 1) := by decide +kernel
theorem d_law_21 : decode code 21 = .ok (.istore 4, 2) := by decide +kernel
theorem d_law_23 : decode code 23 = .ok (.iload 4, 2) := by decide +kernel
theorem d_law_25 : decode code 25 = .ok (.aload_n 0, 1) := by decide +kernel
theorem d_law_26 : decode code 26 = .ok (.arraylength, 1) := by decide +kernel
theorem d_law_27 : decode code 27 = .ok (.bipush 7, 2) := by decide +kernel
theorem d_law_29 : decode code 29 = .ok (.isub, 1) := by decide +kernel
theorem d_law_30 : decode code 30 = .ok (.if_icmp .gt 1576, 3) := by decide +kernel
theorem d_law_33 : decode code 33 = .ok (.aload_n 0, 1) := by decide +kernel
theorem d_law_34 : decode code 34 = .ok (.iload 4, 2) := by decide +kernel
theorem d_law_36 : decode code 36 = .ok (.iaload, 1) := by decide +kernel
theorem d_law_37 : decode code 37 = .ok (.bipush 31, 2) := by decide +kernel
theorem d_law_39 : decode code 39 = .ok (.iand, 1) := by decide +kernel
theorem d_law_40 : decode code 40 = .ok (.tableswitch 1560 0 22 #[108, 119, 191, 263, 371, 503, 617, 689, 761, 821, 939, 1019, 1030, 1086, 1142, 1186, 1258, 1294, 1342, 1355, 1368, 1424, 1492], 108) := by decide +kernel
theorem d_law_148 : decode code 148 = .ok (.aload_n 1, 1) := by decide +kernel
theorem d_law_149 : decode code 149 = .ok (.invokevirtual 90, 3) := by decide +kernel
theorem d_law_152 : decode code 152 = .ok (.aload_n 2, 1) := by decide +kernel
theorem d_law_153 : decode code 153 = .ok (.invokevirtual 93, 3) := by decide +kernel
theorem d_law_156 : decode code 156 = .ok (.goto 1444, 3) := by decide +kernel
theorem d_law_159 : decode code 159 = .ok (.aload_n 1, 1) := by decide +kernel
theorem d_law_160 : decode code 160 = .ok (.aload_n 0, 1) := by decide +kernel
theorem d_law_161 : decode code 161 = .ok (.iload 4, 2) := by decide +kernel
theorem d_law_163 : decode code 163 = .ok (.iconst 1, 1) := by decide +kernel
theorem d_law_164 : decode code 164 = .ok (.iadd, 1) := by decide +kernel
theorem d_law_165 : decode code 165 = .ok (.iaload, 1) := by decide +kernel
theorem d_law_166 : decode code 166 = .ok (.aload_n 0, 1) := by decide +kernel
theorem d_law_167 : decode code 167 = .ok (.iload 4, 2) := by decide +kernel
theorem d_law_169 : decode code 169 = .ok (.iconst 2, 1) := by decide +kernel
theorem d_law_170 : decode code 170 = .ok (.iadd, 1) := by decide +kernel
theorem d_law_171 : decode code 171 = .ok (.iaload, 1) := by decide +kernel
theorem d_law_172 : decode code 172 = .ok (.aload_n 0, 1) := by decide +kernel
theorem d_law_173 : decode code 173 = .ok (.iload 4, 2) := by decide +kernel
theorem d_law_175 : decode code 175 = .ok (.iconst 3, 1) := by decide +kernel
theorem d_law_176 : decode code 176 = .ok (.iadd, 1) := by decide +kernel
theorem d_law_177 : decode code 177 = .ok (.iaload, 1) := by decide +kernel
theorem d_law_178 : decode code 178 = .ok (.aload_n 0, 1) := by decide +kernel
theorem d_law_179 : decode code 179 = .ok (.iload 4, 2) := by decide +kernel
theorem d_law_181 : decode code 181 = .ok (.iconst 4, 1) := by decide +kernel
theorem d_law_182 : decode code 182 = .ok (.iadd, 1) := by decide +kernel
theorem d_law_183 : decode code 183 = .ok (.iaload, 1) := by decide +kernel
theorem d_law_184 : decode code 184 = .ok (.invokestatic 94, 3) := by decide +kernel
theorem d_law_187 : decode code 187 = .ok (.istore 5, 2) := by decide +kernel
theorem d_law_189 : decode code 189 = .ok (.aload_n 2, 1) := by decide +kernel
theorem d_law_190 : decode code 190 = .ok (.aload_n 0, 1) := by decide +kernel
theorem d_law_191 : decode code 191 = .ok (.iload 4, 2) := by decide +kernel
theorem d_law_193 : decode code 193 = .ok (.iconst 1, 1) := by decide +kernel
theorem d_law_194 : decode code 194 = .ok (.iadd, 1) := by decide +kernel
theorem d_law_195 : decode code 195 = .ok (.iaload, 1) := by decide +kernel
theorem d_law_196 : decode code 196 = .ok (.aload_n 0, 1) := by decide +kernel
theorem d_law_197 : decode code 197 = .ok (.iload 4, 2) := by decide +kernel
theorem d_law_199 : decode code 199 = .ok (.iconst 2, 1) := by decide +kernel
theorem d_law_200 : decode code 200 = .ok (.iadd, 1) := by decide +kernel
theorem d_law_201 : decode code 201 = .ok (.iaload, 1) := by decide +kernel
theorem d_law_202 : decode code 202 = .ok (.aload_n 0, 1) := by decide +kernel
theorem d_law_203 : decode code 203 = .ok (.iload 4, 2) := by decide +kernel
theorem d_law_205 : decode code 205 = .ok (.iconst 3, 1) := by decide +kernel
theorem d_law_206 : decode code 206 = .ok (.iadd, 1) := by decide +kernel
theorem d_law_207 : decode code 207 = .ok (.iaload, 1) := by decide +kernel
theorem d_law_208 : decode code 208 = .ok (.aload_n 0, 1) := by decide +kernel
theorem d_law_209 : decode code 209 = .ok (.iload 4, 2) := by decide +kernel
theorem d_law_211 : decode code 211 = .ok (.iconst 4, 1) := by decide +kernel
theorem d_law_212 : decode code 212 = .ok (.iadd, 1) := by decide +kernel
theorem d_law_213 : decode code 213 = .ok (.iaload, 1) := by decide +kernel
theorem d_law_214 : decode code 214 = .ok (.invokevirtual 99, 3) := by decide +kernel
theorem d_law_217 : decode code 217 = .ok (.aload_n 2, 1) := by decide +kernel
theorem d_law_218 : decode code 218 = .ok (.invokevirtual 100, 3) := by decide +kernel
theorem d_law_221 : decode code 221 = .ok (.iload 5, 2) := by decide +kernel
theorem d_law_223 : decode code 223 = .ok (.if_icmp .eq 5, 3) := by decide +kernel
theorem d_law_226 : decode code 226 = .ok (.iconst 0, 1) := by decide +kernel
theorem d_law_227 : decode code 227 = .ok (.ireturn, 1) := by decide +kernel
theorem d_law_228 : decode code 228 = .ok (.goto 1372, 3) := by decide +kernel
theorem d_law_231 : decode code 231 = .ok (.aload_n 1, 1) := by decide +kernel
theorem d_law_232 : decode code 232 = .ok (.aload_n 0, 1) := by decide +kernel
theorem d_law_233 : decode code 233 = .ok (.iload 4, 2) := by decide +kernel
theorem d_law_235 : decode code 235 = .ok (.iconst 1, 1) := by decide +kernel
theorem d_law_236 : decode code 236 = .ok (.iadd, 1) := by decide +kernel
theorem d_law_237 : decode code 237 = .ok (.iaload, 1) := by decide +kernel
theorem d_law_238 : decode code 238 = .ok (.aload_n 0, 1) := by decide +kernel
theorem d_law_239 : decode code 239 = .ok (.iload 4, 2) := by decide +kernel
theorem d_law_241 : decode code 241 = .ok (.iconst 2, 1) := by decide +kernel
theorem d_law_242 : decode code 242 = .ok (.iadd, 1) := by decide +kernel
theorem d_law_243 : decode code 243 = .ok (.iaload, 1) := by decide +kernel
theorem d_law_244 : decode code 244 = .ok (.aload_n 0, 1) := by decide +kernel
theorem d_law_245 : decode code 245 = .ok (.iload 4, 2) := by decide +kernel
theorem d_law_247 : decode code 247 = .ok (.iconst 3, 1) := by decide +kernel
theorem d_law_248 : decode code 248 = .ok (.iadd, 1) := by decide +kernel
theorem d_law_249 : decode code 249 = .ok (.iaload, 1) := by decide +kernel
theorem d_law_250 : decode code 250 = .ok (.aload_n 0, 1) := by decide +kernel
theorem d_law_251 : decode code 251 = .ok (.iload 4, 2) := by decide +kernel
theorem d_law_253 : decode code 253 = .ok (.iconst 4, 1) := by decide +kernel
theorem d_law_254 : decode code 254 = .ok (.iadd, 1) := by decide +kernel
theorem d_law_255 : decode code 255 = .ok (.iaload, 1) := by decide +kernel
theorem d_law_256 : decode code 256 = .ok (.invokestatic 103, 3) := by decide +kernel
theorem d_law_259 : decode code 259 = .ok (.istore 5, 2) := by decide +kernel
theorem d_law_261 : decode code 261 = .ok (.aload_n 2, 1) := by decide +kernel
theorem d_law_262 : decode code 262 = .ok (.aload_n 0, 1) := by decide +kernel
theorem d_law_263 : decode code 263 = .ok (.iload 4, 2) := by decide +kernel
theorem d_law_265 : decode code 265 = .ok (.iconst 1, 1) := by decide +kernel
theorem d_law_266 : decode code 266 = .ok (.iadd, 1) := by decide +kernel
theorem d_law_267 : decode code 267 = .ok (.iaload, 1) := by decide +kernel
theorem d_law_268 : decode code 268 = .ok (.aload_n 0, 1) := by decide +kernel
theorem d_law_269 : decode code 269 = .ok (.iload 4, 2) := by decide +kernel
theorem d_law_271 : decode code 271 = .ok (.iconst 2, 1) := by decide +kernel
theorem d_law_272 : decode code 272 = .ok (.iadd, 1) := by decide +kernel
theorem d_law_273 : decode code 273 = .ok (.iaload, 1) := by decide +kernel
theorem d_law_274 : decode code 274 = .ok (.aload_n 0, 1) := by decide +kernel
theorem d_law_275 : decode code 275 = .ok (.iload 4, 2) := by decide +kernel
theorem d_law_277 : decode code 277 = .ok (.iconst 3, 1) := by decide +kernel
theorem d_law_278 : decode code 278 = .ok (.iadd, 1) := by decide +kernel
theorem d_law_279 : decode code 279 = .ok (.iaload, 1) := by decide +kernel
theorem d_law_280 : decode code 280 = .ok (.aload_n 0, 1) := by decide +kernel
theorem d_law_281 : decode code 281 = .ok (.iload 4, 2) := by decide +kernel
theorem d_law_283 : decode code 283 = .ok (.iconst 4, 1) := by decide +kernel
theorem d_law_284 : decode code 284 = .ok (.iadd, 1) := by decide +kernel
theorem d_law_285 : decode code 285 = .ok (.iaload, 1) := by decide +kernel
theorem d_law_286 : decode code 286 = .ok (.invokevirtual 105, 3) := by decide +kernel
theorem d_law_289 : decode code 289 = .ok (.aload_n 2, 1) := by decide +kernel
theorem d_law_290 : decode code 290 = .ok (.invokevirtual 100, 3) := by decide +kernel
theorem d_law_293 : decode code 293 = .ok (.iload 5, 2) := by decide +kernel
theorem d_law_295 : decode code 295 = .ok (.if_icmp .eq 5, 3) := by decide +kernel
theorem d_law_298 : decode code 298 = .ok (.iconst 0, 1) := by decide +kernel
theorem d_law_299 : decode code 299 = .ok (.ireturn, 1) := by decide +kernel
theorem d_law_300 : decode code 300 = .ok (.goto 1300, 3) := by decide +kernel
theorem d_law_303 : decode code 303 = .ok (.aload_n 1, 1) := by decide +kernel
theorem d_law_304 : decode code 304 = .ok (.aload_n 0, 1) := by decide +kernel
theorem d_law_305 : decode code 305 = .ok (.iload 4, 2) := by decide +kernel
theorem d_law_307 : decode code 307 = .ok (.iconst 1, 1) := by decide +kernel
theorem d_law_308 : decode code 308 = .ok (.iadd, 1) := by decide +kernel
theorem d_law_309 : decode code 309 = .ok (.iaload, 1) := by decide +kernel
theorem d_law_310 : decode code 310 = .ok (.aload_n 0, 1) := by decide +kernel
theorem d_law_311 : decode code 311 = .ok (.iload 4, 2) := by decide +kernel
theorem d_law_313 : decode code 313 = .ok (.iconst 2, 1) := by decide +kernel
theorem d_law_314 : decode code 314 = .ok (.iadd, 1) := by decide +kernel
theorem d_law_315 : decode code 315 = .ok (.iaload, 1) := by decide +kernel
theorem d_law_316 : decode code 316 = .ok (.ifCond .eq 7, 3) := by decide +kernel
theorem d_law_319 : decode code 319 = .ok (.iconst 1, 1) := by decide +kernel
theorem d_law_320 : decode code 320 = .ok (.goto 4, 3) := by decide +kernel
theorem d_law_323 : decode code 323 = .ok (.iconst 0, 1) := by decide +kernel
theorem d_law_324 : decode code 324 = .ok (.aload_n 0, 1) := by decide +kernel
theorem d_law_325 : decode code 325 = .ok (.iload 4, 2) := by decide +kernel
theorem d_law_327 : decode code 327 = .ok (.iconst 3, 1) := by decide +kernel
theorem d_law_328 : decode code 328 = .ok (.iadd, 1) := by decide +kernel
theorem d_law_329 : decode code 329 = .ok (.iaload, 1) := by decide +kernel
theorem d_law_330 : decode code 330 = .ok (.aload_n 0, 1) := by decide +kernel
theorem d_law_331 : decode code 331 = .ok (.iload 4, 2) := by decide +kernel
theorem d_law_333 : decode code 333 = .ok (.iconst 4, 1) := by decide +kernel
theorem d_law_334 : decode code 334 = .ok (.iadd, 1) := by decide +kernel
theorem d_law_335 : decode code 335 = .ok (.iaload, 1) := by decide +kernel
theorem d_law_336 : decode code 336 = .ok (.aload_n 3, 1) := by decide +kernel
theorem d_law_337 : decode code 337 = .ok (.invokestatic 106, 3) := by decide +kernel
theorem d_law_340 : decode code 340 = .ok (.istore 5, 2) := by decide +kernel
theorem d_law_342 : decode code 342 = .ok (.aload_n 2, 1) := by decide +kernel
theorem d_law_343 : decode code 343 = .ok (.aload_n 0, 1) := by decide +kernel
theorem d_law_344 : decode code 344 = .ok (.iload 4, 2) := by decide +kernel
theorem d_law_346 : decode code 346 = .ok (.iconst 1, 1) := by decide +kernel
theorem d_law_347 : decode code 347 = .ok (.iadd, 1) := by decide +kernel
theorem d_law_348 : decode code 348 = .ok (.iaload, 1) := by decide +kernel
theorem d_law_349 : decode code 349 = .ok (.aload_n 0, 1) := by decide +kernel
theorem d_law_350 : decode code 350 = .ok (.iload 4, 2) := by decide +kernel
theorem d_law_352 : decode code 352 = .ok (.iconst 2, 1) := by decide +kernel
theorem d_law_353 : decode code 353 = .ok (.iadd, 1) := by decide +kernel
theorem d_law_354 : decode code 354 = .ok (.iaload, 1) := by decide +kernel
theorem d_law_355 : decode code 355 = .ok (.ifCond .eq 7, 3) := by decide +kernel
theorem d_law_358 : decode code 358 = .ok (.iconst 1, 1) := by decide +kernel
theorem d_law_359 : decode code 359 = .ok (.goto 4, 3) := by decide +kernel
theorem d_law_362 : decode code 362 = .ok (.iconst 0, 1) := by decide +kernel
theorem d_law_363 : decode code 363 = .ok (.aload_n 0, 1) := by decide +kernel
theorem d_law_364 : decode code 364 = .ok (.iload 4, 2) := by decide +kernel
theorem d_law_366 : decode code 366 = .ok (.iconst 3, 1) := by decide +kernel
theorem d_law_367 : decode code 367 = .ok (.iadd, 1) := by decide +kernel
theorem d_law_368 : decode code 368 = .ok (.iaload, 1) := by decide +kernel
theorem d_law_369 : decode code 369 = .ok (.aload_n 0, 1) := by decide +kernel
theorem d_law_370 : decode code 370 = .ok (.iload 4, 2) := by decide +kernel
theorem d_law_372 : decode code 372 = .ok (.iconst 4, 1) := by decide +kernel
theorem d_law_373 : decode code 373 = .ok (.iadd, 1) := by decide +kernel
theorem d_law_374 : decode code 374 = .ok (.iaload, 1) := by decide +kernel
theorem d_law_375 : decode code 375 = .ok (.invokevirtual 109, 3) := by decide +kernel
theorem d_law_378 : decode code 378 = .ok (.istore 6, 2) := by decide +kernel
theorem d_law_380 : decode code 380 = .ok (.aload_n 2, 1) := by decide +kernel
theorem d_law_381 : decode code 381 = .ok (.invokevirtual 100, 3) := by decide +kernel
theorem d_law_384 : decode code 384 = .ok (.iload 5, 2) := by decide +kernel
theorem d_law_386 : decode code 386 = .ok (.if_icmp .eq 5, 3) := by decide +kernel
theorem d_law_389 : decode code 389 = .ok (.iconst 0, 1) := by decide +kernel
theorem d_law_390 : decode code 390 = .ok (.ireturn, 1) := by decide +kernel
theorem d_law_391 : decode code 391 = .ok (.iload 5, 2) := by decide +kernel
theorem d_law_393 : decode code 393 = .ok (.ifCond .ne 15, 3) := by decide +kernel
theorem d_law_396 : decode code 396 = .ok (.aload_n 3, 1) := by decide +kernel
theorem d_law_397 : decode code 397 = .ok (.iconst 0, 1) := by decide +kernel
theorem d_law_398 : decode code 398 = .ok (.laload, 1) := by decide +kernel
theorem d_law_399 : decode code 399 = .ok (.iload 6, 2) := by decide +kernel
theorem d_law_401 : decode code 401 = .ok (.i2l, 1) := by decide +kernel
theorem d_law_402 : decode code 402 = .ok (.lcmp, 1) := by decide +kernel
theorem d_law_403 : decode code 403 = .ok (.ifCond .eq 5, 3) := by decide +kernel
theorem d_law_406 : decode code 406 = .ok (.iconst 0, 1) := by decide +kernel
theorem d_law_407 : decode code 407 = .ok (.ireturn, 1) := by decide +kernel
theorem d_law_408 : decode code 408 = .ok (.goto 1192, 3) := by decide +kernel
theorem d_law_411 : decode code 411 = .ok (.aload_n 1, 1) := by decide +kernel
theorem d_law_412 : decode code 412 = .ok (.aload_n 0, 1) := by decide +kernel
theorem d_law_413 : decode code 413 = .ok (.iload 4, 2) := by decide +kernel
theorem d_law_415 : decode code 415 = .ok (.iconst 1, 1) := by decide +kernel
theorem d_law_416 : decode code 416 = .ok (.iadd, 1) := by decide +kernel
theorem d_law_417 : decode code 417 = .ok (.iaload, 1) := by decide +kernel
theorem d_law_418 : decode code 418 = .ok (.aload_n 0, 1) := by decide +kernel
theorem d_law_419 : decode code 419 = .ok (.iload 4, 2) := by decide +kernel
theorem d_law_421 : decode code 421 = .ok (.iconst 2, 1) := by decide +kernel
theorem d_law_422 : decode code 422 = .ok (.iadd, 1) := by decide +kernel
theorem d_law_423 : decode code 423 = .ok (.iaload, 1) := by decide +kernel
theorem d_law_424 : decode code 424 = .ok (.aload_n 0, 1) := by decide +kernel
theorem d_law_425 : decode code 425 = .ok (.iload 4, 2) := by decide +kernel
theorem d_law_427 : decode code 427 = .ok (.iconst 3, 1) := by decide +kernel
theorem d_law_428 : decode code 428 = .ok (.iadd, 1) := by decide +kernel
theorem d_law_429 : decode code 429 = .ok (.iaload, 1) := by decide +kernel
theorem d_law_430 : decode code 430 = .ok (.ifCond .eq 7, 3) := by decide +kernel
theorem d_law_433 : decode code 433 = .ok (.iconst 1, 1) := by decide +kernel
theorem d_law_434 : decode code 434 = .ok (.goto 4, 3) := by decide +kernel
theorem d_law_437 : decode code 437 = .ok (.iconst 0, 1) := by decide +kernel
theorem d_law_438 : decode code 438 = .ok (.aload_n 0, 1) := by decide +kernel
theorem d_law_439 : decode code 439 = .ok (.iload 4, 2) := by decide +kernel
theorem d_law_441 : decode code 441 = .ok (.iconst 4, 1) := by decide +kernel
theorem d_law_442 : decode code 442 = .ok (.iadd, 1) := by decide +kernel
theorem d_law_443 : decode code 443 = .ok (.iaload, 1) := by decide +kernel
theorem d_law_444 : decode code 444 = .ok (.ifCond .eq 7, 3) := by decide +kernel
theorem d_law_447 : decode code 447 = .ok (.iconst 1, 1) := by decide +kernel
theorem d_law_448 : decode code 448 = .ok (.goto 4, 3) := by decide +kernel
theorem d_law_451 : decode code 451 = .ok (.iconst 0, 1) := by decide +kernel
theorem d_law_452 : decode code 452 = .ok (.aload_n 0, 1) := by decide +kernel
theorem d_law_453 : decode code 453 = .ok (.iload 4, 2) := by decide +kernel
theorem d_law_455 : decode code 455 = .ok (.iconst 5, 1) := by decide +kernel
theorem d_law_456 : decode code 456 = .ok (.iadd, 1) := by decide +kernel
theorem d_law_457 : decode code 457 = .ok (.iaload, 1) := by decide +kernel
theorem d_law_458 : decode code 458 = .ok (.ifCond .eq 7, 3) := by decide +kernel
theorem d_law_461 : decode code 461 = .ok (.iconst 1, 1) := by decide +kernel
theorem d_law_462 : decode code 462 = .ok (.goto 4, 3) := by decide +kernel
theorem d_law_465 : decode code 465 = .ok (.iconst 0, 1) := by decide +kernel
theorem d_law_466 : decode code 466 = .ok (.invokestatic 110, 3) := by decide +kernel
theorem d_law_469 : decode code 469 = .ok (.istore 5, 2) := by decide +kernel
theorem d_law_471 : decode code 471 = .ok (.aload_n 2, 1) := by decide +kernel
theorem d_law_472 : decode code 472 = .ok (.aload_n 0, 1) := by decide +kernel
theorem d_law_473 : decode code 473 = .ok (.iload 4, 2) := by decide +kernel
theorem d_law_475 : decode code 475 = .ok (.iconst 1, 1) := by decide +kernel
theorem d_law_476 : decode code 476 = .ok (.iadd, 1) := by decide +kernel
theorem d_law_477 : decode code 477 = .ok (.iaload, 1) := by decide +kernel
theorem d_law_478 : decode code 478 = .ok (.aload_n 0, 1) := by decide +kernel
theorem d_law_479 : decode code 479 = .ok (.iload 4, 2) := by decide +kernel
theorem d_law_481 : decode code 481 = .ok (.iconst 2, 1) := by decide +kernel
theorem d_law_482 : decode code 482 = .ok (.iadd, 1) := by decide +kernel
theorem d_law_483 : decode code 483 = .ok (.iaload, 1) := by decide +kernel
theorem d_law_484 : decode code 484 = .ok (.aload_n 0, 1) := by decide +kernel
theorem d_law_485 : decode code 485 = .ok (.iload 4, 2) := by decide +kernel
theorem d_law_487 : decode code 487 = .ok (.iconst 3, 1) := by decide +kernel
theorem d_law_488 : decode code 488 = .ok (.iadd, 1) := by decide +kernel
theorem d_law_489 : decode code 489 = .ok (.iaload, 1) := by decide +kernel
theorem d_law_490 : decode code 490 = .ok (.ifCond .eq 7, 3) := by decide +kernel
theorem d_law_493 : decode code 493 = .ok (.iconst 1, 1) := by decide +kernel
theorem d_law_494 : decode code 494 = .ok (.goto 4, 3) := by decide +kernel
theorem d_law_497 : decode code 497 = .ok (.iconst 0, 1) := by decide +kernel
theorem d_law_498 : decode code 498 = .ok (.aload_n 0, 1) := by decide +kernel
theorem d_law_499 : decode code 499 = .ok (.iload 4, 2) := by decide +kernel
theorem d_law_501 : decode code 501 = .ok (.iconst 4, 1) := by decide +kernel
theorem d_law_502 : decode code 502 = .ok (.iadd, 1) := by decide +kernel
theorem d_law_503 : decode code 503 = .ok (.iaload, 1) := by decide +kernel
theorem d_law_504 : decode code 504 = .ok (.ifCond .eq 7, 3) := by decide +kernel
theorem d_law_507 : decode code 507 = .ok (.iconst 1, 1) := by decide +kernel
theorem d_law_508 : decode code 508 = .ok (.goto 4, 3) := by decide +kernel
theorem d_law_511 : decode code 511 = .ok (.iconst 0, 1) := by decide +kernel
theorem d_law_512 : decode code 512 = .ok (.aload_n 0, 1) := by decide +kernel
theorem d_law_513 : decode code 513 = .ok (.iload 4, 2) := by decide +kernel
theorem d_law_515 : decode code 515 = .ok (.iconst 5, 1) := by decide +kernel
theorem d_law_516 : decode code 516 = .ok (.iadd, 1) := by decide +kernel
theorem d_law_517 : decode code 517 = .ok (.iaload, 1) := by decide +kernel
theorem d_law_518 : decode code 518 = .ok (.ifCond .eq 7, 3) := by decide +kernel
theorem d_law_521 : decode code 521 = .ok (.iconst 1, 1) := by decide +kernel
theorem d_law_522 : decode code 522 = .ok (.goto 4, 3) := by decide +kernel
theorem d_law_525 : decode code 525 = .ok (.iconst 0, 1) := by decide +kernel
theorem d_law_526 : decode code 526 = .ok (.invokevirtual 113, 3) := by decide +kernel
theorem d_law_529 : decode code 529 = .ok (.aload_n 2, 1) := by decide +kernel
theorem d_law_530 : decode code 530 = .ok (.invokevirtual 100, 3) := by decide +kernel
theorem d_law_533 : decode code 533 = .ok (.iload 5, 2) := by decide +kernel
theorem d_law_535 : decode code 535 = .ok (.if_icmp .eq 5, 3) := by decide +kernel
theorem d_law_538 : decode code 538 = .ok (.iconst 0, 1) := by decide +kernel
theorem d_law_539 : decode code 539 = .ok (.ireturn, 1) := by decide +kernel
theorem d_law_540 : decode code 540 = .ok (.goto 1060, 3) := by decide +kernel
theorem d_law_543 : decode code 543 = .ok (.aload_n 1, 1) := by decide +kernel
theorem d_law_544 : decode code 544 = .ok (.aload_n 0, 1) := by decide +kernel
theorem d_law_545 : decode code 545 = .ok (.iload 4, 2) := by decide +kernel
theorem d_law_547 : decode code 547 = .ok (.iconst 1, 1) := by decide +kernel
theorem d_law_548 : decode code 548 = .ok (.iadd, 1) := by decide +kernel
theorem d_law_549 : decode code 549 = .ok (.iaload, 1) := by decide +kernel
theorem d_law_550 : decode code 550 = .ok (.aload_n 0, 1) := by decide +kernel
theorem d_law_551 : decode code 551 = .ok (.iload 4, 2) := by decide +kernel
theorem d_law_553 : decode code 553 = .ok (.iconst 2, 1) := by decide +kernel
theorem d_law_554 : decode code 554 = .ok (.iadd, 1) := by decide +kernel
theorem d_law_555 : decode code 555 = .ok (.iaload, 1) := by decide +kernel
theorem d_law_556 : decode code 556 = .ok (.aload_n 0, 1) := by decide +kernel
theorem d_law_557 : decode code 557 = .ok (.iload 4, 2) := by decide +kernel
theorem d_law_559 : decode code 559 = .ok (.iconst 3, 1) := by decide +kernel
theorem d_law_560 : decode code 560 = .ok (.iadd, 1) := by decide +kernel
theorem d_law_561 : decode code 561 = .ok (.iaload, 1) := by decide +kernel
theorem d_law_562 : decode code 562 = .ok (.aload_n 0, 1) := by decide +kernel
theorem d_law_563 : decode code 563 = .ok (.iload 4, 2) := by decide +kernel
theorem d_law_565 : decode code 565 = .ok (.iconst 4, 1) := by decide +kernel
theorem d_law_566 : decode code 566 = .ok (.iadd, 1) := by decide +kernel
theorem d_law_567 : decode code 567 = .ok (.iaload, 1) := by decide +kernel
theorem d_law_568 : decode code 568 = .ok (.aload_n 0, 1) := by decide +kernel
theorem d_law_569 : decode code 569 = .ok (.iload 4, 2) := by decide +kernel
theorem d_law_571 : decode code 571 = .ok (.iconst 5, 1) := by decide +kernel
theorem d_law_572 : decode code 572 = .ok (.iadd, 1) := by decide +kernel
theorem d_law_573 : decode code 573 = .ok (.iaload, 1) := by decide +kernel
theorem d_law_574 : decode code 574 = .ok (.aload_n 0, 1) := by decide +kernel
theorem d_law_575 : decode code 575 = .ok (.iload 4, 2) := by decide +kernel
theorem d_law_577 : decode code 577 = .ok (.bipush 6, 2) := by decide +kernel
theorem d_law_579 : decode code 579 = .ok (.iadd, 1) := by decide +kernel
theorem d_law_580 : decode code 580 = .ok (.iaload, 1) := by decide +kernel
theorem d_law_581 : decode code 581 = .ok (.ifCond .eq 7, 3) := by decide +kernel
theorem d_law_584 : decode code 584 = .ok (.iconst 1, 1) := by decide +kernel
theorem d_law_585 : decode code 585 = .ok (.goto 4, 3) := by decide +kernel
theorem d_law_588 : decode code 588 = .ok (.iconst 0, 1) := by decide +kernel
theorem d_law_589 : decode code 589 = .ok (.invokestatic 114, 3) := by decide +kernel
theorem d_law_592 : decode code 592 = .ok (.istore 5, 2) := by decide +kernel
theorem d_law_594 : decode code 594 = .ok (.aload_n 2, 1) := by decide +kernel
theorem d_law_595 : decode code 595 = .ok (.aload_n 0, 1) := by decide +kernel
theorem d_law_596 : decode code 596 = .ok (.iload 4, 2) := by decide +kernel
theorem d_law_598 : decode code 598 = .ok (.iconst 1, 1) := by decide +kernel
theorem d_law_599 : decode code 599 = .ok (.iadd, 1) := by decide +kernel
theorem d_law_600 : decode code 600 = .ok (.iaload, 1) := by decide +kernel
theorem d_law_601 : decode code 601 = .ok (.aload_n 0, 1) := by decide +kernel
theorem d_law_602 : decode code 602 = .ok (.iload 4, 2) := by decide +kernel
theorem d_law_604 : decode code 604 = .ok (.iconst 2, 1) := by decide +kernel
theorem d_law_605 : decode code 605 = .ok (.iadd, 1) := by decide +kernel
theorem d_law_606 : decode code 606 = .ok (.iaload, 1) := by decide +kernel
theorem d_law_607 : decode code 607 = .ok (.aload_n 0, 1) := by decide +kernel
theorem d_law_608 : decode code 608 = .ok (.iload 4, 2) := by decide +kernel
theorem d_law_610 : decode code 610 = .ok (.iconst 3, 1) := by decide +kernel
theorem d_law_611 : decode code 611 = .ok (.iadd, 1) := by decide +kernel
theorem d_law_612 : decode code 612 = .ok (.iaload, 1) := by decide +kernel
theorem d_law_613 : decode code 613 = .ok (.aload_n 0, 1) := by decide +kernel
theorem d_law_614 : decode code 614 = .ok (.iload 4, 2) := by decide +kernel
theorem d_law_616 : decode code 616 = .ok (.iconst 4, 1) := by decide +kernel
theorem d_law_617 : decode code 617 = .ok (.iadd, 1) := by decide +kernel
theorem d_law_618 : decode code 618 = .ok (.iaload, 1) := by decide +kernel
theorem d_law_619 : decode code 619 = .ok (.aload_n 0, 1) := by decide +kernel
theorem d_law_620 : decode code 620 = .ok (.iload 4, 2) := by decide +kernel
theorem d_law_622 : decode code 622 = .ok (.iconst 5, 1) := by decide +kernel
theorem d_law_623 : decode code 623 = .ok (.iadd, 1) := by decide +kernel
theorem d_law_624 : decode code 624 = .ok (.iaload, 1) := by decide +kernel
theorem d_law_625 : decode code 625 = .ok (.aload_n 0, 1) := by decide +kernel
theorem d_law_626 : decode code 626 = .ok (.iload 4, 2) := by decide +kernel
theorem d_law_628 : decode code 628 = .ok (.bipush 6, 2) := by decide +kernel
theorem d_law_630 : decode code 630 = .ok (.iadd, 1) := by decide +kernel
theorem d_law_631 : decode code 631 = .ok (.iaload, 1) := by decide +kernel
theorem d_law_632 : decode code 632 = .ok (.ifCond .eq 7, 3) := by decide +kernel
theorem d_law_635 : decode code 635 = .ok (.iconst 1, 1) := by decide +kernel
theorem d_law_636 : decode code 636 = .ok (.goto 4, 3) := by decide +kernel
theorem d_law_639 : decode code 639 = .ok (.iconst 0, 1) := by decide +kernel
theorem d_law_640 : decode code 640 = .ok (.invokevirtual 117, 3) := by decide +kernel
theorem d_law_643 : decode code 643 = .ok (.aload_n 2, 1) := by decide +kernel
theorem d_law_644 : decode code 644 = .ok (.invokevirtual 100, 3) := by decide +kernel
theorem d_law_647 : decode code 647 = .ok (.iload 5, 2) := by decide +kernel
theorem d_law_649 : decode code 649 = .ok (.if_icmp .eq 5, 3) := by decide +kernel
theorem d_law_652 : decode code 652 = .ok (.iconst 0, 1) := by decide +kernel
theorem d_law_653 : decode code 653 = .ok (.ireturn, 1) := by decide +kernel
theorem d_law_654 : decode code 654 = .ok (.goto 946, 3) := by decide +kernel
theorem d_law_657 : decode code 657 = .ok (.aload_n 1, 1) := by decide +kernel
theorem d_law_658 : decode code 658 = .ok (.aload_n 0, 1) := by decide +kernel
theorem d_law_659 : decode code 659 = .ok (.iload 4, 2) := by decide +kernel
theorem d_law_661 : decode code 661 = .ok (.iconst 1, 1) := by decide +kernel
theorem d_law_662 : decode code 662 = .ok (.iadd, 1) := by decide +kernel
theorem d_law_663 : decode code 663 = .ok (.iaload, 1) := by decide +kernel
theorem d_law_664 : decode code 664 = .ok (.aload_n 0, 1) := by decide +kernel
theorem d_law_665 : decode code 665 = .ok (.iload 4, 2) := by decide +kernel
theorem d_law_667 : decode code 667 = .ok (.iconst 2, 1) := by decide +kernel
theorem d_law_668 : decode code 668 = .ok (.iadd, 1) := by decide +kernel
theorem d_law_669 : decode code 669 = .ok (.iaload, 1) := by decide +kernel
theorem d_law_670 : decode code 670 = .ok (.aload_n 0, 1) := by decide +kernel
theorem d_law_671 : decode code 671 = .ok (.iload 4, 2) := by decide +kernel
theorem d_law_673 : decode code 673 = .ok (.iconst 3, 1) := by decide +kernel
theorem d_law_674 : decode code 674 = .ok (.iadd, 1) := by decide +kernel
theorem d_law_675 : decode code 675 = .ok (.iaload, 1) := by decide +kernel
theorem d_law_676 : decode code 676 = .ok (.aload_n 0, 1) := by decide +kernel
theorem d_law_677 : decode code 677 = .ok (.iload 4, 2) := by decide +kernel
theorem d_law_679 : decode code 679 = .ok (.iconst 4, 1) := by decide +kernel
theorem d_law_680 : decode code 680 = .ok (.iadd, 1) := by decide +kernel
theorem d_law_681 : decode code 681 = .ok (.iaload, 1) := by decide +kernel
theorem d_law_682 : decode code 682 = .ok (.invokestatic 118, 3) := by decide +kernel
theorem d_law_685 : decode code 685 = .ok (.istore 5, 2) := by decide +kernel
theorem d_law_687 : decode code 687 = .ok (.aload_n 2, 1) := by decide +kernel
theorem d_law_688 : decode code 688 = .ok (.aload_n 0, 1) := by decide +kernel
theorem d_law_689 : decode code 689 = .ok (.iload 4, 2) := by decide +kernel
theorem d_law_691 : decode code 691 = .ok (.iconst 1, 1) := by decide +kernel
theorem d_law_692 : decode code 692 = .ok (.iadd, 1) := by decide +kernel
theorem d_law_693 : decode code 693 = .ok (.iaload, 1) := by decide +kernel
theorem d_law_694 : decode code 694 = .ok (.aload_n 0, 1) := by decide +kernel
theorem d_law_695 : decode code 695 = .ok (.iload 4, 2) := by decide +kernel
theorem d_law_697 : decode code 697 = .ok (.iconst 2, 1) := by decide +kernel
theorem d_law_698 : decode code 698 = .ok (.iadd, 1) := by decide +kernel
theorem d_law_699 : decode code 699 = .ok (.iaload, 1) := by decide +kernel
theorem d_law_700 : decode code 700 = .ok (.aload_n 0, 1) := by decide +kernel
theorem d_law_701 : decode code 701 = .ok (.iload 4, 2) := by decide +kernel
theorem d_law_703 : decode code 703 = .ok (.iconst 3, 1) := by decide +kernel
theorem d_law_704 : decode code 704 = .ok (.iadd, 1) := by decide +kernel
theorem d_law_705 : decode code 705 = .ok (.iaload, 1) := by decide +kernel
theorem d_law_706 : decode code 706 = .ok (.aload_n 0, 1) := by decide +kernel
theorem d_law_707 : decode code 707 = .ok (.iload 4, 2) := by decide +kernel
theorem d_law_709 : decode code 709 = .ok (.iconst 4, 1) := by decide +kernel
theorem d_law_710 : decode code 710 = .ok (.iadd, 1) := by decide +kernel
theorem d_law_711 : decode code 711 = .ok (.iaload, 1) := by decide +kernel
theorem d_law_712 : decode code 712 = .ok (.invokevirtual 120, 3) := by decide +kernel
theorem d_law_715 : decode code 715 = .ok (.aload_n 2, 1) := by decide +kernel
theorem d_law_716 : decode code 716 = .ok (.invokevirtual 100, 3) := by decide +kernel
theorem d_law_719 : decode code 719 = .ok (.iload 5, 2) := by decide +kernel
theorem d_law_721 : decode code 721 = .ok (.if_icmp .eq 5, 3) := by decide +kernel
theorem d_law_724 : decode code 724 = .ok (.iconst 0, 1) := by decide +kernel
theorem d_law_725 : decode code 725 = .ok (.ireturn, 1) := by decide +kernel
theorem d_law_726 : decode code 726 = .ok (.goto 874, 3) := by decide +kernel
theorem d_law_729 : decode code 729 = .ok (.aload_n 1, 1) := by decide +kernel
theorem d_law_730 : decode code 730 = .ok (.aload_n 0, 1) := by decide +kernel
theorem d_law_731 : decode code 731 = .ok (.iload 4, 2) := by decide +kernel
theorem d_law_733 : decode code 733 = .ok (.iconst 1, 1) := by decide +kernel
theorem d_law_734 : decode code 734 = .ok (.iadd, 1) := by decide +kernel
theorem d_law_735 : decode code 735 = .ok (.iaload, 1) := by decide +kernel
theorem d_law_736 : decode code 736 = .ok (.aload_n 0, 1) := by decide +kernel
theorem d_law_737 : decode code 737 = .ok (.iload 4, 2) := by decide +kernel
theorem d_law_739 : decode code 739 = .ok (.iconst 2, 1) := by decide +kernel
theorem d_law_740 : decode code 740 = .ok (.iadd, 1) := by decide +kernel
theorem d_law_741 : decode code 741 = .ok (.iaload, 1) := by decide +kernel
theorem d_law_742 : decode code 742 = .ok (.aload_n 0, 1) := by decide +kernel
theorem d_law_743 : decode code 743 = .ok (.iload 4, 2) := by decide +kernel
theorem d_law_745 : decode code 745 = .ok (.iconst 3, 1) := by decide +kernel
theorem d_law_746 : decode code 746 = .ok (.iadd, 1) := by decide +kernel
theorem d_law_747 : decode code 747 = .ok (.iaload, 1) := by decide +kernel
theorem d_law_748 : decode code 748 = .ok (.aload_n 0, 1) := by decide +kernel
theorem d_law_749 : decode code 749 = .ok (.iload 4, 2) := by decide +kernel
theorem d_law_751 : decode code 751 = .ok (.iconst 4, 1) := by decide +kernel
theorem d_law_752 : decode code 752 = .ok (.iadd, 1) := by decide +kernel
theorem d_law_753 : decode code 753 = .ok (.iaload, 1) := by decide +kernel
theorem d_law_754 : decode code 754 = .ok (.invokestatic 121, 3) := by decide +kernel
theorem d_law_757 : decode code 757 = .ok (.istore 5, 2) := by decide +kernel
theorem d_law_759 : decode code 759 = .ok (.aload_n 2, 1) := by decide +kernel
theorem d_law_760 : decode code 760 = .ok (.aload_n 0, 1) := by decide +kernel
theorem d_law_761 : decode code 761 = .ok (.iload 4, 2) := by decide +kernel
theorem d_law_763 : decode code 763 = .ok (.iconst 1, 1) := by decide +kernel
theorem d_law_764 : decode code 764 = .ok (.iadd, 1) := by decide +kernel
theorem d_law_765 : decode code 765 = .ok (.iaload, 1) := by decide +kernel
theorem d_law_766 : decode code 766 = .ok (.aload_n 0, 1) := by decide +kernel
theorem d_law_767 : decode code 767 = .ok (.iload 4, 2) := by decide +kernel
theorem d_law_769 : decode code 769 = .ok (.iconst 2, 1) := by decide +kernel
theorem d_law_770 : decode code 770 = .ok (.iadd, 1) := by decide +kernel
theorem d_law_771 : decode code 771 = .ok (.iaload, 1) := by decide +kernel
theorem d_law_772 : decode code 772 = .ok (.aload_n 0, 1) := by decide +kernel
theorem d_law_773 : decode code 773 = .ok (.iload 4, 2) := by decide +kernel
theorem d_law_775 : decode code 775 = .ok (.iconst 3, 1) := by decide +kernel
theorem d_law_776 : decode code 776 = .ok (.iadd, 1) := by decide +kernel
theorem d_law_777 : decode code 777 = .ok (.iaload, 1) := by decide +kernel
theorem d_law_778 : decode code 778 = .ok (.aload_n 0, 1) := by decide +kernel
theorem d_law_779 : decode code 779 = .ok (.iload 4, 2) := by decide +kernel
theorem d_law_781 : decode code 781 = .ok (.iconst 4, 1) := by decide +kernel
theorem d_law_782 : decode code 782 = .ok (.iadd, 1) := by decide +kernel
theorem d_law_783 : decode code 783 = .ok (.iaload, 1) := by decide +kernel
theorem d_law_784 : decode code 784 = .ok (.invokevirtual 123, 3) := by decide +kernel
theorem d_law_787 : decode code 787 = .ok (.aload_n 2, 1) := by decide +kernel
theorem d_law_788 : decode code 788 = .ok (.invokevirtual 100, 3) := by decide +kernel
theorem d_law_791 : decode code 791 = .ok (.iload 5, 2) := by decide +kernel
theorem d_law_793 : decode code 793 = .ok (.if_icmp .eq 5, 3) := by decide +kernel
theorem d_law_796 : decode code 796 = .ok (.iconst 0, 1) := by decide +kernel
theorem d_law_797 : decode code 797 = .ok (.ireturn, 1) := by decide +kernel
theorem d_law_798 : decode code 798 = .ok (.goto 802, 3) := by decide +kernel
theorem d_law_801 : decode code 801 = .ok (.aload_n 1, 1) := by decide +kernel
theorem d_law_802 : decode code 802 = .ok (.aload_n 0, 1) := by decide +kernel
theorem d_law_803 : decode code 803 = .ok (.iload 4, 2) := by decide +kernel
theorem d_law_805 : decode code 805 = .ok (.iconst 1, 1) := by decide +kernel
theorem d_law_806 : decode code 806 = .ok (.iadd, 1) := by decide +kernel
theorem d_law_807 : decode code 807 = .ok (.iaload, 1) := by decide +kernel
theorem d_law_808 : decode code 808 = .ok (.aload_n 0, 1) := by decide +kernel
theorem d_law_809 : decode code 809 = .ok (.iload 4, 2) := by decide +kernel
theorem d_law_811 : decode code 811 = .ok (.iconst 2, 1) := by decide +kernel
theorem d_law_812 : decode code 812 = .ok (.iadd, 1) := by decide +kernel
theorem d_law_813 : decode code 813 = .ok (.iaload, 1) := by decide +kernel
theorem d_law_814 : decode code 814 = .ok (.aload_n 0, 1) := by decide +kernel
theorem d_law_815 : decode code 815 = .ok (.iload 4, 2) := by decide +kernel
theorem d_law_817 : decode code 817 = .ok (.iconst 3, 1) := by decide +kernel
theorem d_law_818 : decode code 818 = .ok (.iadd, 1) := by decide +kernel
theorem d_law_819 : decode code 819 = .ok (.iaload, 1) := by decide +kernel
theorem d_law_820 : decode code 820 = .ok (.invokestatic 124, 3) := by decide +kernel
theorem d_law_823 : decode code 823 = .ok (.istore 5, 2) := by decide +kernel
theorem d_law_825 : decode code 825 = .ok (.aload_n 2, 1) := by decide +kernel
theorem d_law_826 : decode code 826 = .ok (.aload_n 0, 1) := by decide +kernel
theorem d_law_827 : decode code 827 = .ok (.iload 4, 2) := by decide +kernel
theorem d_law_829 : decode code 829 = .ok (.iconst 1, 1) := by decide +kernel
theorem d_law_830 : decode code 830 = .ok (.iadd, 1) := by decide +kernel
theorem d_law_831 : decode code 831 = .ok (.iaload, 1) := by decide +kernel
theorem d_law_832 : decode code 832 = .ok (.aload_n 0, 1) := by decide +kernel
theorem d_law_833 : decode code 833 = .ok (.iload 4, 2) := by decide +kernel
theorem d_law_835 : decode code 835 = .ok (.iconst 2, 1) := by decide +kernel
theorem d_law_836 : decode code 836 = .ok (.iadd, 1) := by decide +kernel
theorem d_law_837 : decode code 837 = .ok (.iaload, 1) := by decide +kernel
theorem d_law_838 : decode code 838 = .ok (.aload_n 0, 1) := by decide +kernel
theorem d_law_839 : decode code 839 = .ok (.iload 4, 2) := by decide +kernel
theorem d_law_841 : decode code 841 = .ok (.iconst 3, 1) := by decide +kernel
theorem d_law_842 : decode code 842 = .ok (.iadd, 1) := by decide +kernel
theorem d_law_843 : decode code 843 = .ok (.iaload, 1) := by decide +kernel
theorem d_law_844 : decode code 844 = .ok (.invokevirtual 127, 3) := by decide +kernel
theorem d_law_847 : decode code 847 = .ok (.aload_n 2, 1) := by decide +kernel
theorem d_law_848 : decode code 848 = .ok (.invokevirtual 100, 3) := by decide +kernel
theorem d_law_851 : decode code 851 = .ok (.iload 5, 2) := by decide +kernel
theorem d_law_853 : decode code 853 = .ok (.if_icmp .eq 5, 3) := by decide +kernel
theorem d_law_856 : decode code 856 = .ok (.iconst 0, 1) := by decide +kernel
theorem d_law_857 : decode code 857 = .ok (.ireturn, 1) := by decide +kernel
theorem d_law_858 : decode code 858 = .ok (.goto 742, 3) := by decide +kernel
theorem d_law_861 : decode code 861 = .ok (.aload_n 1, 1) := by decide +kernel
theorem d_law_862 : decode code 862 = .ok (.aload_n 0, 1) := by decide +kernel
theorem d_law_863 : decode code 863 = .ok (.iload 4, 2) := by decide +kernel
theorem d_law_865 : decode code 865 = .ok (.iconst 1, 1) := by decide +kernel
theorem d_law_866 : decode code 866 = .ok (.iadd, 1) := by decide +kernel
theorem d_law_867 : decode code 867 = .ok (.iaload, 1) := by decide +kernel
theorem d_law_868 : decode code 868 = .ok (.aload_n 0, 1) := by decide +kernel
theorem d_law_869 : decode code 869 = .ok (.iload 4, 2) := by decide +kernel
theorem d_law_871 : decode code 871 = .ok (.iconst 2, 1) := by decide +kernel
theorem d_law_872 : decode code 872 = .ok (.iadd, 1) := by decide +kernel
theorem d_law_873 : decode code 873 = .ok (.iaload, 1) := by decide +kernel
theorem d_law_874 : decode code 874 = .ok (.aload_n 0, 1) := by decide +kernel
theorem d_law_875 : decode code 875 = .ok (.iload 4, 2) := by decide +kernel
theorem d_law_877 : decode code 877 = .ok (.iconst 3, 1) := by decide +kernel
theorem d_law_878 : decode code 878 = .ok (.iadd, 1) := by decide +kernel
theorem d_law_879 : decode code 879 = .ok (.iaload, 1) := by decide +kernel
theorem d_law_880 : decode code 880 = .ok (.aload_n 0, 1) := by decide +kernel
theorem d_law_881 : decode code 881 = .ok (.iload 4, 2) := by decide +kernel
theorem d_law_883 : decode code 883 = .ok (.iconst 4, 1) := by decide +kernel
theorem d_law_884 : decode code 884 = .ok (.iadd, 1) := by decide +kernel
theorem d_law_885 : decode code 885 = .ok (.iaload, 1) := by decide +kernel
theorem d_law_886 : decode code 886 = .ok (.aload_n 0, 1) := by decide +kernel
theorem d_law_887 : decode code 887 = .ok (.iload 4, 2) := by decide +kernel
theorem d_law_889 : decode code 889 = .ok (.iconst 5, 1) := by decide +kernel
theorem d_law_890 : decode code 890 = .ok (.iadd, 1) := by decide +kernel
theorem d_law_891 : decode code 891 = .ok (.iaload, 1) := by decide +kernel
theorem d_law_892 : decode code 892 = .ok (.aload_n 0, 1) := by decide +kernel
theorem d_law_893 : decode code 893 = .ok (.iload 4, 2) := by decide +kernel
theorem d_law_895 : decode code 895 = .ok (.bipush 6, 2) := by decide +kernel
theorem d_law_897 : decode code 897 = .ok (.iadd, 1) := by decide +kernel
theorem d_law_898 : decode code 898 = .ok (.iaload, 1) := by decide +kernel
theorem d_law_899 : decode code 899 = .ok (.aload_n 3, 1) := by decide +kernel
theorem d_law_900 : decode code 900 = .ok (.invokestatic 128, 3) := by decide +kernel
theorem d_law_903 : decode code 903 = .ok (.istore 5, 2) := by decide +kernel
theorem d_law_905 : decode code 905 = .ok (.aload_n 2, 1) := by decide +kernel
theorem d_law_906 : decode code 906 = .ok (.aload_n 0, 1) := by decide +kernel
theorem d_law_907 : decode code 907 = .ok (.iload 4, 2) := by decide +kernel
theorem d_law_909 : decode code 909 = .ok (.iconst 1, 1) := by decide +kernel
theorem d_law_910 : decode code 910 = .ok (.iadd, 1) := by decide +kernel
theorem d_law_911 : decode code 911 = .ok (.iaload, 1) := by decide +kernel
theorem d_law_912 : decode code 912 = .ok (.aload_n 0, 1) := by decide +kernel
theorem d_law_913 : decode code 913 = .ok (.iload 4, 2) := by decide +kernel
theorem d_law_915 : decode code 915 = .ok (.iconst 2, 1) := by decide +kernel
theorem d_law_916 : decode code 916 = .ok (.iadd, 1) := by decide +kernel
theorem d_law_917 : decode code 917 = .ok (.iaload, 1) := by decide +kernel
theorem d_law_918 : decode code 918 = .ok (.aload_n 0, 1) := by decide +kernel
theorem d_law_919 : decode code 919 = .ok (.iload 4, 2) := by decide +kernel
theorem d_law_921 : decode code 921 = .ok (.iconst 3, 1) := by decide +kernel
theorem d_law_922 : decode code 922 = .ok (.iadd, 1) := by decide +kernel
theorem d_law_923 : decode code 923 = .ok (.iaload, 1) := by decide +kernel
theorem d_law_924 : decode code 924 = .ok (.aload_n 0, 1) := by decide +kernel
theorem d_law_925 : decode code 925 = .ok (.iload 4, 2) := by decide +kernel
theorem d_law_927 : decode code 927 = .ok (.iconst 4, 1) := by decide +kernel
theorem d_law_928 : decode code 928 = .ok (.iadd, 1) := by decide +kernel
theorem d_law_929 : decode code 929 = .ok (.iaload, 1) := by decide +kernel
theorem d_law_930 : decode code 930 = .ok (.aload_n 0, 1) := by decide +kernel
theorem d_law_931 : decode code 931 = .ok (.iload 4, 2) := by decide +kernel
theorem d_law_933 : decode code 933 = .ok (.iconst 5, 1) := by decide +kernel
theorem d_law_934 : decode code 934 = .ok (.iadd, 1) := by decide +kernel
theorem d_law_935 : decode code 935 = .ok (.iaload, 1) := by decide +kernel
theorem d_law_936 : decode code 936 = .ok (.aload_n 0, 1) := by decide +kernel
theorem d_law_937 : decode code 937 = .ok (.iload 4, 2) := by decide +kernel
theorem d_law_939 : decode code 939 = .ok (.bipush 6, 2) := by decide +kernel
theorem d_law_941 : decode code 941 = .ok (.iadd, 1) := by decide +kernel
theorem d_law_942 : decode code 942 = .ok (.iaload, 1) := by decide +kernel
theorem d_law_943 : decode code 943 = .ok (.invokevirtual 131, 3) := by decide +kernel
theorem d_law_946 : decode code 946 = .ok (.istore 6, 2) := by decide +kernel
theorem d_law_948 : decode code 948 = .ok (.aload_n 2, 1) := by decide +kernel
theorem d_law_949 : decode code 949 = .ok (.invokevirtual 100, 3) := by decide +kernel
theorem d_law_952 : decode code 952 = .ok (.iload 5, 2) := by decide +kernel
theorem d_law_954 : decode code 954 = .ok (.if_icmp .eq 5, 3) := by decide +kernel
theorem d_law_957 : decode code 957 = .ok (.iconst 0, 1) := by decide +kernel
theorem d_law_958 : decode code 958 = .ok (.ireturn, 1) := by decide +kernel
theorem d_law_959 : decode code 959 = .ok (.iload 5, 2) := by decide +kernel
theorem d_law_961 : decode code 961 = .ok (.ifCond .ne 15, 3) := by decide +kernel
theorem d_law_964 : decode code 964 = .ok (.aload_n 3, 1) := by decide +kernel
theorem d_law_965 : decode code 965 = .ok (.iconst 0, 1) := by decide +kernel
theorem d_law_966 : decode code 966 = .ok (.laload, 1) := by decide +kernel
theorem d_law_967 : decode code 967 = .ok (.iload 6, 2) := by decide +kernel
theorem d_law_969 : decode code 969 = .ok (.i2l, 1) := by decide +kernel
theorem d_law_970 : decode code 970 = .ok (.lcmp, 1) := by decide +kernel
theorem d_law_971 : decode code 971 = .ok (.ifCond .eq 5, 3) := by decide +kernel
theorem d_law_974 : decode code 974 = .ok (.iconst 0, 1) := by decide +kernel
theorem d_law_975 : decode code 975 = .ok (.ireturn, 1) := by decide +kernel
theorem d_law_976 : decode code 976 = .ok (.goto 624, 3) := by decide +kernel
theorem d_law_979 : decode code 979 = .ok (.aload_n 1, 1) := by decide +kernel
theorem d_law_980 : decode code 980 = .ok (.aload_n 0, 1) := by decide +kernel
theorem d_law_981 : decode code 981 = .ok (.iload 4, 2) := by decide +kernel
theorem d_law_983 : decode code 983 = .ok (.iconst 1, 1) := by decide +kernel
theorem d_law_984 : decode code 984 = .ok (.iadd, 1) := by decide +kernel
theorem d_law_985 : decode code 985 = .ok (.iaload, 1) := by decide +kernel
theorem d_law_986 : decode code 986 = .ok (.aload_n 0, 1) := by decide +kernel
theorem d_law_987 : decode code 987 = .ok (.iload 4, 2) := by decide +kernel
theorem d_law_989 : decode code 989 = .ok (.iconst 2, 1) := by decide +kernel
theorem d_law_990 : decode code 990 = .ok (.iadd, 1) := by decide +kernel
theorem d_law_991 : decode code 991 = .ok (.iaload, 1) := by decide +kernel
theorem d_law_992 : decode code 992 = .ok (.aload_n 0, 1) := by decide +kernel
theorem d_law_993 : decode code 993 = .ok (.iload 4, 2) := by decide +kernel
theorem d_law_995 : decode code 995 = .ok (.iconst 3, 1) := by decide +kernel
theorem d_law_996 : decode code 996 = .ok (.iadd, 1) := by decide +kernel
theorem d_law_997 : decode code 997 = .ok (.iaload, 1) := by decide +kernel
theorem d_law_998 : decode code 998 = .ok (.aload_n 3, 1) := by decide +kernel
theorem d_law_999 : decode code 999 = .ok (.invokestatic 132, 3) := by decide +kernel
theorem d_law_1002 : decode code 1002 = .ok (.istore 5, 2) := by decide +kernel
theorem d_law_1004 : decode code 1004 = .ok (.aload_n 2, 1) := by decide +kernel
theorem d_law_1005 : decode code 1005 = .ok (.aload_n 0, 1) := by decide +kernel
theorem d_law_1006 : decode code 1006 = .ok (.iload 4, 2) := by decide +kernel
theorem d_law_1008 : decode code 1008 = .ok (.iconst 1, 1) := by decide +kernel
theorem d_law_1009 : decode code 1009 = .ok (.iadd, 1) := by decide +kernel
theorem d_law_1010 : decode code 1010 = .ok (.iaload, 1) := by decide +kernel
theorem d_law_1011 : decode code 1011 = .ok (.aload_n 0, 1) := by decide +kernel
theorem d_law_1012 : decode code 1012 = .ok (.iload 4, 2) := by decide +kernel
theorem d_law_1014 : decode code 1014 = .ok (.iconst 2, 1) := by decide +kernel
theorem d_law_1015 : decode code 1015 = .ok (.iadd, 1) := by decide +kernel
theorem d_law_1016 : decode code 1016 = .ok (.iaload, 1) := by decide +kernel
theorem d_law_1017 : decode code 1017 = .ok (.aload_n 0, 1) := by decide +kernel
theorem d_law_1018 : decode code 1018 = .ok (.iload 4, 2) := by decide +kernel
theorem d_law_1020 : decode code 1020 = .ok (.iconst 3, 1) := by decide +kernel
theorem d_law_1021 : decode code 1021 = .ok (.iadd, 1) := by decide +kernel
theorem d_law_1022 : decode code 1022 = .ok (.iaload, 1) := by decide +kernel
theorem d_law_1023 : decode code 1023 = .ok (.invokevirtual 135, 3) := by decide +kernel
theorem d_law_1026 : decode code 1026 = .ok (.istore 6, 2) := by decide +kernel
theorem d_law_1028 : decode code 1028 = .ok (.aload_n 2, 1) := by decide +kernel
theorem d_law_1029 : decode code 1029 = .ok (.invokevirtual 100, 3) := by decide +kernel
theorem d_law_1032 : decode code 1032 = .ok (.iload 5, 2) := by decide +kernel
theorem d_law_1034 : decode code 1034 = .ok (.if_icmp .eq 5, 3) := by decide +kernel
theorem d_law_1037 : decode code 1037 = .ok (.iconst 0, 1) := by decide +kernel
theorem d_law_1038 : decode code 1038 = .ok (.ireturn, 1) := by decide +kernel
theorem d_law_1039 : decode code 1039 = .ok (.iload 5, 2) := by decide +kernel
theorem d_law_1041 : decode code 1041 = .ok (.ifCond .ne 15, 3) := by decide +kernel
theorem d_law_1044 : decode code 1044 = .ok (.aload_n 3, 1) := by decide +kernel
theorem d_law_1045 : decode code 1045 = .ok (.iconst 0, 1) := by decide +kernel
theorem d_law_1046 : decode code 1046 = .ok (.laload, 1) := by decide +kernel
theorem d_law_1047 : decode code 1047 = .ok (.iload 6, 2) := by decide +kernel
theorem d_law_1049 : decode code 1049 = .ok (.i2l, 1) := by decide +kernel
theorem d_law_1050 : decode code 1050 = .ok (.lcmp, 1) := by decide +kernel
theorem d_law_1051 : decode code 1051 = .ok (.ifCond .eq 5, 3) := by decide +kernel
theorem d_law_1054 : decode code 1054 = .ok (.iconst 0, 1) := by decide +kernel
theorem d_law_1055 : decode code 1055 = .ok (.ireturn, 1) := by decide +kernel
theorem d_law_1056 : decode code 1056 = .ok (.goto 544, 3) := by decide +kernel
theorem d_law_1059 : decode code 1059 = .ok (.aload_n 1, 1) := by decide +kernel
theorem d_law_1060 : decode code 1060 = .ok (.invokevirtual 136, 3) := by decide +kernel
theorem d_law_1063 : decode code 1063 = .ok (.aload_n 2, 1) := by decide +kernel
theorem d_law_1064 : decode code 1064 = .ok (.invokevirtual 139, 3) := by decide +kernel
theorem d_law_1067 : decode code 1067 = .ok (.goto 533, 3) := by decide +kernel
theorem d_law_1070 : decode code 1070 = .ok (.aload_n 1, 1) := by decide +kernel
theorem d_law_1071 : decode code 1071 = .ok (.aload_n 0, 1) := by decide +kernel
theorem d_law_1072 : decode code 1072 = .ok (.iload 4, 2) := by decide +kernel
theorem d_law_1074 : decode code 1074 = .ok (.iconst 1, 1) := by decide +kernel
theorem d_law_1075 : decode code 1075 = .ok (.iadd, 1) := by decide +kernel
theorem d_law_1076 : decode code 1076 = .ok (.iaload, 1) := by decide +kernel
theorem d_law_1077 : decode code 1077 = .ok (.aload_n 3, 1) := by decide +kernel
theorem d_law_1078 : decode code 1078 = .ok (.invokestatic 140, 3) := by decide +kernel
theorem d_law_1081 : decode code 1081 = .ok (.istore 5, 2) := by decide +kernel
theorem d_law_1083 : decode code 1083 = .ok (.aload_n 2, 1) := by decide +kernel
theorem d_law_1084 : decode code 1084 = .ok (.aload_n 0, 1) := by decide +kernel
theorem d_law_1085 : decode code 1085 = .ok (.iload 4, 2) := by decide +kernel
theorem d_law_1087 : decode code 1087 = .ok (.iconst 1, 1) := by decide +kernel
theorem d_law_1088 : decode code 1088 = .ok (.iadd, 1) := by decide +kernel
theorem d_law_1089 : decode code 1089 = .ok (.iaload, 1) := by decide +kernel
theorem d_law_1090 : decode code 1090 = .ok (.invokevirtual 143, 3) := by decide +kernel
theorem d_law_1093 : decode code 1093 = .ok (.istore 6, 2) := by decide +kernel
theorem d_law_1095 : decode code 1095 = .ok (.aload_n 2, 1) := by decide +kernel
theorem d_law_1096 : decode code 1096 = .ok (.invokevirtual 100, 3) := by decide +kernel
theorem d_law_1099 : decode code 1099 = .ok (.iload 5, 2) := by decide +kernel
theorem d_law_1101 : decode code 1101 = .ok (.if_icmp .eq 5, 3) := by decide +kernel
theorem d_law_1104 : decode code 1104 = .ok (.iconst 0, 1) := by decide +kernel
theorem d_law_1105 : decode code 1105 = .ok (.ireturn, 1) := by decide +kernel
theorem d_law_1106 : decode code 1106 = .ok (.iload 5, 2) := by decide +kernel
theorem d_law_1108 : decode code 1108 = .ok (.ifCond .ne 15, 3) := by decide +kernel
theorem d_law_1111 : decode code 1111 = .ok (.aload_n 3, 1) := by decide +kernel
theorem d_law_1112 : decode code 1112 = .ok (.iconst 0, 1) := by decide +kernel
theorem d_law_1113 : decode code 1113 = .ok (.laload, 1) := by decide +kernel
theorem d_law_1114 : decode code 1114 = .ok (.iload 6, 2) := by decide +kernel
theorem d_law_1116 : decode code 1116 = .ok (.i2l, 1) := by decide +kernel
theorem d_law_1117 : decode code 1117 = .ok (.lcmp, 1) := by decide +kernel
theorem d_law_1118 : decode code 1118 = .ok (.ifCond .eq 5, 3) := by decide +kernel
theorem d_law_1121 : decode code 1121 = .ok (.iconst 0, 1) := by decide +kernel
theorem d_law_1122 : decode code 1122 = .ok (.ireturn, 1) := by decide +kernel
theorem d_law_1123 : decode code 1123 = .ok (.goto 477, 3) := by decide +kernel
theorem d_law_1126 : decode code 1126 = .ok (.aload_n 1, 1) := by decide +kernel
theorem d_law_1127 : decode code 1127 = .ok (.aload_n 0, 1) := by decide +kernel
theorem d_law_1128 : decode code 1128 = .ok (.iload 4, 2) := by decide +kernel
theorem d_law_1130 : decode code 1130 = .ok (.iconst 1, 1) := by decide +kernel
theorem d_law_1131 : decode code 1131 = .ok (.iadd, 1) := by decide +kernel
theorem d_law_1132 : decode code 1132 = .ok (.iaload, 1) := by decide +kernel
theorem d_law_1133 : decode code 1133 = .ok (.aload_n 3, 1) := by decide +kernel
theorem d_law_1134 : decode code 1134 = .ok (.invokestatic 144, 3) := by decide +kernel
theorem d_law_1137 : decode code 1137 = .ok (.istore 5, 2) := by decide +kernel
theorem d_law_1139 : decode code 1139 = .ok (.aload_n 2, 1) := by decide +kernel
theorem d_law_1140 : decode code 1140 = .ok (.aload_n 0, 1) := by decide +kernel
theorem d_law_1141 : decode code 1141 = .ok (.iload 4, 2) := by decide +kernel
theorem d_law_1143 : decode code 1143 = .ok (.iconst 1, 1) := by decide +kernel
theorem d_law_1144 : decode code 1144 = .ok (.iadd, 1) := by decide +kernel
theorem d_law_1145 : decode code 1145 = .ok (.iaload, 1) := by decide +kernel
theorem d_law_1146 : decode code 1146 = .ok (.invokevirtual 146, 3) := by decide +kernel
theorem d_law_1149 : decode code 1149 = .ok (.istore 6, 2) := by decide +kernel
theorem d_law_1151 : decode code 1151 = .ok (.aload_n 2, 1) := by decide +kernel
theorem d_law_1152 : decode code 1152 = .ok (.invokevirtual 100, 3) := by decide +kernel
theorem d_law_1155 : decode code 1155 = .ok (.iload 5, 2) := by decide +kernel
theorem d_law_1157 : decode code 1157 = .ok (.if_icmp .eq 5, 3) := by decide +kernel
theorem d_law_1160 : decode code 1160 = .ok (.iconst 0, 1) := by decide +kernel
theorem d_law_1161 : decode code 1161 = .ok (.ireturn, 1) := by decide +kernel
theorem d_law_1162 : decode code 1162 = .ok (.iload 5, 2) := by decide +kernel
theorem d_law_1164 : decode code 1164 = .ok (.ifCond .ne 15, 3) := by decide +kernel
theorem d_law_1167 : decode code 1167 = .ok (.aload_n 3, 1) := by decide +kernel
theorem d_law_1168 : decode code 1168 = .ok (.iconst 0, 1) := by decide +kernel
theorem d_law_1169 : decode code 1169 = .ok (.laload, 1) := by decide +kernel
theorem d_law_1170 : decode code 1170 = .ok (.iload 6, 2) := by decide +kernel
theorem d_law_1172 : decode code 1172 = .ok (.i2l, 1) := by decide +kernel
theorem d_law_1173 : decode code 1173 = .ok (.lcmp, 1) := by decide +kernel
theorem d_law_1174 : decode code 1174 = .ok (.ifCond .eq 5, 3) := by decide +kernel
theorem d_law_1177 : decode code 1177 = .ok (.iconst 0, 1) := by decide +kernel
theorem d_law_1178 : decode code 1178 = .ok (.ireturn, 1) := by decide +kernel
theorem d_law_1179 : decode code 1179 = .ok (.goto 421, 3) := by decide +kernel
theorem d_law_1182 : decode code 1182 = .ok (.aload_n 1, 1) := by decide +kernel
theorem d_law_1183 : decode code 1183 = .ok (.aload_n 3, 1) := by decide +kernel
theorem d_law_1184 : decode code 1184 = .ok (.invokestatic 147, 3) := by decide +kernel
theorem d_law_1187 : decode code 1187 = .ok (.istore 5, 2) := by decide +kernel
theorem d_law_1189 : decode code 1189 = .ok (.aload_n 2, 1) := by decide +kernel
theorem d_law_1190 : decode code 1190 = .ok (.invokevirtual 150, 3) := by decide +kernel
theorem d_law_1193 : decode code 1193 = .ok (.istore 6, 2) := by decide +kernel
theorem d_law_1195 : decode code 1195 = .ok (.aload_n 2, 1) := by decide +kernel
theorem d_law_1196 : decode code 1196 = .ok (.invokevirtual 100, 3) := by decide +kernel
theorem d_law_1199 : decode code 1199 = .ok (.iload 5, 2) := by decide +kernel
theorem d_law_1201 : decode code 1201 = .ok (.if_icmp .eq 5, 3) := by decide +kernel
theorem d_law_1204 : decode code 1204 = .ok (.iconst 0, 1) := by decide +kernel
theorem d_law_1205 : decode code 1205 = .ok (.ireturn, 1) := by decide +kernel
theorem d_law_1206 : decode code 1206 = .ok (.iload 5, 2) := by decide +kernel
theorem d_law_1208 : decode code 1208 = .ok (.ifCond .ne 15, 3) := by decide +kernel
theorem d_law_1211 : decode code 1211 = .ok (.aload_n 3, 1) := by decide +kernel
theorem d_law_1212 : decode code 1212 = .ok (.iconst 0, 1) := by decide +kernel
theorem d_law_1213 : decode code 1213 = .ok (.laload, 1) := by decide +kernel
theorem d_law_1214 : decode code 1214 = .ok (.iload 6, 2) := by decide +kernel
theorem d_law_1216 : decode code 1216 = .ok (.i2l, 1) := by decide +kernel
theorem d_law_1217 : decode code 1217 = .ok (.lcmp, 1) := by decide +kernel
theorem d_law_1218 : decode code 1218 = .ok (.ifCond .eq 5, 3) := by decide +kernel
theorem d_law_1221 : decode code 1221 = .ok (.iconst 0, 1) := by decide +kernel
theorem d_law_1222 : decode code 1222 = .ok (.ireturn, 1) := by decide +kernel
theorem d_law_1223 : decode code 1223 = .ok (.goto 377, 3) := by decide +kernel
theorem d_law_1226 : decode code 1226 = .ok (.aload_n 1, 1) := by decide +kernel
theorem d_law_1227 : decode code 1227 = .ok (.aload_n 0, 1) := by decide +kernel
theorem d_law_1228 : decode code 1228 = .ok (.iload 4, 2) := by decide +kernel
theorem d_law_1230 : decode code 1230 = .ok (.iconst 1, 1) := by decide +kernel
theorem d_law_1231 : decode code 1231 = .ok (.iadd, 1) := by decide +kernel
theorem d_law_1232 : decode code 1232 = .ok (.iaload, 1) := by decide +kernel
theorem d_law_1233 : decode code 1233 = .ok (.aload_n 0, 1) := by decide +kernel
theorem d_law_1234 : decode code 1234 = .ok (.iload 4, 2) := by decide +kernel
theorem d_law_1236 : decode code 1236 = .ok (.iconst 2, 1) := by decide +kernel
theorem d_law_1237 : decode code 1237 = .ok (.iadd, 1) := by decide +kernel
theorem d_law_1238 : decode code 1238 = .ok (.iaload, 1) := by decide +kernel
theorem d_law_1239 : decode code 1239 = .ok (.aload_n 0, 1) := by decide +kernel
theorem d_law_1240 : decode code 1240 = .ok (.iload 4, 2) := by decide +kernel
theorem d_law_1242 : decode code 1242 = .ok (.iconst 3, 1) := by decide +kernel
theorem d_law_1243 : decode code 1243 = .ok (.iadd, 1) := by decide +kernel
theorem d_law_1244 : decode code 1244 = .ok (.iaload, 1) := by decide +kernel
theorem d_law_1245 : decode code 1245 = .ok (.aload_n 0, 1) := by decide +kernel
theorem d_law_1246 : decode code 1246 = .ok (.iload 4, 2) := by decide +kernel
theorem d_law_1248 : decode code 1248 = .ok (.iconst 4, 1) := by decide +kernel
theorem d_law_1249 : decode code 1249 = .ok (.iadd, 1) := by decide +kernel
theorem d_law_1250 : decode code 1250 = .ok (.iaload, 1) := by decide +kernel
theorem d_law_1251 : decode code 1251 = .ok (.invokestatic 151, 3) := by decide +kernel
theorem d_law_1254 : decode code 1254 = .ok (.istore 5, 2) := by decide +kernel
theorem d_law_1256 : decode code 1256 = .ok (.aload_n 2, 1) := by decide +kernel
theorem d_law_1257 : decode code 1257 = .ok (.aload_n 0, 1) := by decide +kernel
theorem d_law_1258 : decode code 1258 = .ok (.iload 4, 2) := by decide +kernel
theorem d_law_1260 : decode code 1260 = .ok (.iconst 1, 1) := by decide +kernel
theorem d_law_1261 : decode code 1261 = .ok (.iadd, 1) := by decide +kernel
theorem d_law_1262 : decode code 1262 = .ok (.iaload, 1) := by decide +kernel
theorem d_law_1263 : decode code 1263 = .ok (.aload_n 0, 1) := by decide +kernel
theorem d_law_1264 : decode code 1264 = .ok (.iload 4, 2) := by decide +kernel
theorem d_law_1266 : decode code 1266 = .ok (.iconst 2, 1) := by decide +kernel
theorem d_law_1267 : decode code 1267 = .ok (.iadd, 1) := by decide +kernel
theorem d_law_1268 : decode code 1268 = .ok (.iaload, 1) := by decide +kernel
theorem d_law_1269 : decode code 1269 = .ok (.aload_n 0, 1) := by decide +kernel
theorem d_law_1270 : decode code 1270 = .ok (.iload 4, 2) := by decide +kernel
theorem d_law_1272 : decode code 1272 = .ok (.iconst 3, 1) := by decide +kernel
theorem d_law_1273 : decode code 1273 = .ok (.iadd, 1) := by decide +kernel
theorem d_law_1274 : decode code 1274 = .ok (.iaload, 1) := by decide +kernel
theorem d_law_1275 : decode code 1275 = .ok (.aload_n 0, 1) := by decide +kernel
theorem d_law_1276 : decode code 1276 = .ok (.iload 4, 2) := by decide +kernel
theorem d_law_1278 : decode code 1278 = .ok (.iconst 4, 1) := by decide +kernel
theorem d_law_1279 : decode code 1279 = .ok (.iadd, 1) := by decide +kernel
theorem d_law_1280 : decode code 1280 = .ok (.iaload, 1) := by decide +kernel
theorem d_law_1281 : decode code 1281 = .ok (.invokevirtual 153, 3) := by decide +kernel
theorem d_law_1284 : decode code 1284 = .ok (.aload_n 2, 1) := by decide +kernel
theorem d_law_1285 : decode code 1285 = .ok (.invokevirtual 100, 3) := by decide +kernel
theorem d_law_1288 : decode code 1288 = .ok (.iload 5, 2) := by decide +kernel
theorem d_law_1290 : decode code 1290 = .ok (.if_icmp .eq 5, 3) := by decide +kernel
theorem d_law_1293 : decode code 1293 = .ok (.iconst 0, 1) := by decide +kernel
theorem d_law_1294 : decode code 1294 = .ok (.ireturn, 1) := by decide +kernel
theorem d_law_1295 : decode code 1295 = .ok (.goto 305, 3) := by decide +kernel
theorem d_law_1298 : decode code 1298 = .ok (.aload_n 1, 1) := by decide +kernel
theorem d_law_1299 : decode code 1299 = .ok (.aload_n 0, 1) := by decide +kernel
theorem d_law_1300 : decode code 1300 = .ok (.iload 4, 2) := by decide +kernel
theorem d_law_1302 : decode code 1302 = .ok (.iconst 1, 1) := by decide +kernel
theorem d_law_1303 : decode code 1303 = .ok (.iadd, 1) := by decide +kernel
theorem d_law_1304 : decode code 1304 = .ok (.iaload, 1) := by decide +kernel
theorem d_law_1305 : decode code 1305 = .ok (.invokestatic 154, 3) := by decide +kernel
theorem d_law_1308 : decode code 1308 = .ok (.istore 5, 2) := by decide +kernel
theorem d_law_1310 : decode code 1310 = .ok (.aload_n 2, 1) := by decide +kernel
theorem d_law_1311 : decode code 1311 = .ok (.aload_n 0, 1) := by decide +kernel
theorem d_law_1312 : decode code 1312 = .ok (.iload 4, 2) := by decide +kernel
theorem d_law_1314 : decode code 1314 = .ok (.iconst 1, 1) := by decide +kernel
theorem d_law_1315 : decode code 1315 = .ok (.iadd, 1) := by decide +kernel
theorem d_law_1316 : decode code 1316 = .ok (.iaload, 1) := by decide +kernel
theorem d_law_1317 : decode code 1317 = .ok (.invokevirtual 157, 3) := by decide +kernel
theorem d_law_1320 : decode code 1320 = .ok (.aload_n 2, 1) := by decide +kernel
theorem d_law_1321 : decode code 1321 = .ok (.invokevirtual 100, 3) := by decide +kernel
theorem d_law_1324 : decode code 1324 = .ok (.iload 5, 2) := by decide +kernel
theorem d_law_1326 : decode code 1326 = .ok (.if_icmp .eq 5, 3) := by decide +kernel
theorem d_law_1329 : decode code 1329 = .ok (.iconst 0, 1) := by decide +kernel
theorem d_law_1330 : decode code 1330 = .ok (.ireturn, 1) := by decide +kernel
theorem d_law_1331 : decode code 1331 = .ok (.goto 269, 3) := by decide +kernel
theorem d_law_1334 : decode code 1334 = .ok (.aload_n 1, 1) := by decide +kernel
theorem d_law_1335 : decode code 1335 = .ok (.aload_n 0, 1) := by decide +kernel
theorem d_law_1336 : decode code 1336 = .ok (.iload 4, 2) := by decide +kernel
theorem d_law_1338 : decode code 1338 = .ok (.iconst 1, 1) := by decide +kernel
theorem d_law_1339 : decode code 1339 = .ok (.iadd, 1) := by decide +kernel
theorem d_law_1340 : decode code 1340 = .ok (.iaload, 1) := by decide +kernel
theorem d_law_1341 : decode code 1341 = .ok (.aload_n 0, 1) := by decide +kernel
theorem d_law_1342 : decode code 1342 = .ok (.iload 4, 2) := by decide +kernel
theorem d_law_1344 : decode code 1344 = .ok (.iconst 2, 1) := by decide +kernel
theorem d_law_1345 : decode code 1345 = .ok (.iadd, 1) := by decide +kernel
theorem d_law_1346 : decode code 1346 = .ok (.iaload, 1) := by decide +kernel
theorem d_law_1347 : decode code 1347 = .ok (.invokestatic 158, 3) := by decide +kernel
theorem d_law_1350 : decode code 1350 = .ok (.istore 5, 2) := by decide +kernel
theorem d_law_1352 : decode code 1352 = .ok (.aload_n 2, 1) := by decide +kernel
theorem d_law_1353 : decode code 1353 = .ok (.aload_n 0, 1) := by decide +kernel
theorem d_law_1354 : decode code 1354 = .ok (.iload 4, 2) := by decide +kernel
theorem d_law_1356 : decode code 1356 = .ok (.iconst 1, 1) := by decide +kernel
theorem d_law_1357 : decode code 1357 = .ok (.iadd, 1) := by decide +kernel
theorem d_law_1358 : decode code 1358 = .ok (.iaload, 1) := by decide +kernel
theorem d_law_1359 : decode code 1359 = .ok (.aload_n 0, 1) := by decide +kernel
theorem d_law_1360 : decode code 1360 = .ok (.iload 4, 2) := by decide +kernel
theorem d_law_1362 : decode code 1362 = .ok (.iconst 2, 1) := by decide +kernel
theorem d_law_1363 : decode code 1363 = .ok (.iadd, 1) := by decide +kernel
theorem d_law_1364 : decode code 1364 = .ok (.iaload, 1) := by decide +kernel
theorem d_law_1365 : decode code 1365 = .ok (.invokevirtual 161, 3) := by decide +kernel
theorem d_law_1368 : decode code 1368 = .ok (.aload_n 2, 1) := by decide +kernel
theorem d_law_1369 : decode code 1369 = .ok (.invokevirtual 100, 3) := by decide +kernel
theorem d_law_1372 : decode code 1372 = .ok (.iload 5, 2) := by decide +kernel
theorem d_law_1374 : decode code 1374 = .ok (.if_icmp .eq 5, 3) := by decide +kernel
theorem d_law_1377 : decode code 1377 = .ok (.iconst 0, 1) := by decide +kernel
theorem d_law_1378 : decode code 1378 = .ok (.ireturn, 1) := by decide +kernel
theorem d_law_1379 : decode code 1379 = .ok (.goto 221, 3) := by decide +kernel
theorem d_law_1382 : decode code 1382 = .ok (.aload_n 1, 1) := by decide +kernel
theorem d_law_1383 : decode code 1383 = .ok (.invokevirtual 162, 3) := by decide +kernel
theorem d_law_1386 : decode code 1386 = .ok (.aload_n 2, 1) := by decide +kernel
theorem d_law_1387 : decode code 1387 = .ok (.invokevirtual 165, 3) := by decide +kernel
theorem d_law_1390 : decode code 1390 = .ok (.if_icmp .eq 210, 3) := by decide +kernel
theorem d_law_1393 : decode code 1393 = .ok (.iconst 0, 1) := by decide +kernel
theorem d_law_1394 : decode code 1394 = .ok (.ireturn, 1) := by decide +kernel
theorem d_law_1395 : decode code 1395 = .ok (.aload_n 1, 1) := by decide +kernel
theorem d_law_1396 : decode code 1396 = .ok (.invokevirtual 166, 3) := by decide +kernel
theorem d_law_1399 : decode code 1399 = .ok (.aload_n 2, 1) := by decide +kernel
theorem d_law_1400 : decode code 1400 = .ok (.invokevirtual 169, 3) := by decide +kernel
theorem d_law_1403 : decode code 1403 = .ok (.if_icmp .eq 197, 3) := by decide +kernel
theorem d_law_1406 : decode code 1406 = .ok (.iconst 0, 1) := by decide +kernel
theorem d_law_1407 : decode code 1407 = .ok (.ireturn, 1) := by decide +kernel
theorem d_law_1408 : decode code 1408 = .ok (.aload_n 1, 1) := by decide +kernel
theorem d_law_1409 : decode code 1409 = .ok (.aload_n 0, 1) := by decide +kernel
theorem d_law_1410 : decode code 1410 = .ok (.iload 4, 2) := by decide +kernel
theorem d_law_1412 : decode code 1412 = .ok (.iconst 1, 1) := by decide +kernel
theorem d_law_1413 : decode code 1413 = .ok (.iadd, 1) := by decide +kernel
theorem d_law_1414 : decode code 1414 = .ok (.iaload, 1) := by decide +kernel
theorem d_law_1415 : decode code 1415 = .ok (.aload_n 3, 1) := by decide +kernel
theorem d_law_1416 : decode code 1416 = .ok (.invokestatic 170, 3) := by decide +kernel
theorem d_law_1419 : decode code 1419 = .ok (.istore 5, 2) := by decide +kernel
theorem d_law_1421 : decode code 1421 = .ok (.aload_n 2, 1) := by decide +kernel
theorem d_law_1422 : decode code 1422 = .ok (.aload_n 0, 1) := by decide +kernel
theorem d_law_1423 : decode code 1423 = .ok (.iload 4, 2) := by decide +kernel
theorem d_law_1425 : decode code 1425 = .ok (.iconst 1, 1) := by decide +kernel
theorem d_law_1426 : decode code 1426 = .ok (.iadd, 1) := by decide +kernel
theorem d_law_1427 : decode code 1427 = .ok (.iaload, 1) := by decide +kernel
theorem d_law_1428 : decode code 1428 = .ok (.invokevirtual 172, 3) := by decide +kernel
theorem d_law_1431 : decode code 1431 = .ok (.istore 6, 2) := by decide +kernel
theorem d_law_1433 : decode code 1433 = .ok (.aload_n 2, 1) := by decide +kernel
theorem d_law_1434 : decode code 1434 = .ok (.invokevirtual 100, 3) := by decide +kernel
theorem d_law_1437 : decode code 1437 = .ok (.iload 5, 2) := by decide +kernel
theorem d_law_1439 : decode code 1439 = .ok (.if_icmp .eq 5, 3) := by decide +kernel
theorem d_law_1442 : decode code 1442 = .ok (.iconst 0, 1) := by decide +kernel
theorem d_law_1443 : decode code 1443 = .ok (.ireturn, 1) := by decide +kernel
theorem d_law_1444 : decode code 1444 = .ok (.iload 5, 2) := by decide +kernel
theorem d_law_1446 : decode code 1446 = .ok (.ifCond .ne 15, 3) := by decide +kernel
theorem d_law_1449 : decode code 1449 = .ok (.aload_n 3, 1) := by decide +kernel
theorem d_law_1450 : decode code 1450 = .ok (.iconst 0, 1) := by decide +kernel
theorem d_law_1451 : decode code 1451 = .ok (.laload, 1) := by decide +kernel
theorem d_law_1452 : decode code 1452 = .ok (.iload 6, 2) := by decide +kernel
theorem d_law_1454 : decode code 1454 = .ok (.i2l, 1) := by decide +kernel
theorem d_law_1455 : decode code 1455 = .ok (.lcmp, 1) := by decide +kernel
theorem d_law_1456 : decode code 1456 = .ok (.ifCond .eq 5, 3) := by decide +kernel
theorem d_law_1459 : decode code 1459 = .ok (.iconst 0, 1) := by decide +kernel
theorem d_law_1460 : decode code 1460 = .ok (.ireturn, 1) := by decide +kernel
theorem d_law_1461 : decode code 1461 = .ok (.goto 139, 3) := by decide +kernel
theorem d_law_1464 : decode code 1464 = .ok (.aload_n 1, 1) := by decide +kernel
theorem d_law_1465 : decode code 1465 = .ok (.aload_n 0, 1) := by decide +kernel
theorem d_law_1466 : decode code 1466 = .ok (.iload 4, 2) := by decide +kernel
theorem d_law_1468 : decode code 1468 = .ok (.iconst 1, 1) := by decide +kernel
theorem d_law_1469 : decode code 1469 = .ok (.iadd, 1) := by decide +kernel
theorem d_law_1470 : decode code 1470 = .ok (.iaload, 1) := by decide +kernel
theorem d_law_1471 : decode code 1471 = .ok (.aload_n 0, 1) := by decide +kernel
theorem d_law_1472 : decode code 1472 = .ok (.iload 4, 2) := by decide +kernel
theorem d_law_1474 : decode code 1474 = .ok (.iconst 2, 1) := by decide +kernel
theorem d_law_1475 : decode code 1475 = .ok (.iadd, 1) := by decide +kernel
theorem d_law_1476 : decode code 1476 = .ok (.iaload, 1) := by decide +kernel
theorem d_law_1477 : decode code 1477 = .ok (.aload_n 3, 1) := by decide +kernel
theorem d_law_1478 : decode code 1478 = .ok (.invokestatic 173, 3) := by decide +kernel
theorem d_law_1481 : decode code 1481 = .ok (.istore 5, 2) := by decide +kernel
theorem d_law_1483 : decode code 1483 = .ok (.aload_n 2, 1) := by decide +kernel
theorem d_law_1484 : decode code 1484 = .ok (.aload_n 0, 1) := by decide +kernel
theorem d_law_1485 : decode code 1485 = .ok (.iload 4, 2) := by decide +kernel
theorem d_law_1487 : decode code 1487 = .ok (.iconst 1, 1) := by decide +kernel
theorem d_law_1488 : decode code 1488 = .ok (.iadd, 1) := by decide +kernel
theorem d_law_1489 : decode code 1489 = .ok (.iaload, 1) := by decide +kernel
theorem d_law_1490 : decode code 1490 = .ok (.aload_n 0, 1) := by decide +kernel
theorem d_law_1491 : decode code 1491 = .ok (.iload 4, 2) := by decide +kernel
theorem d_law_1493 : decode code 1493 = .ok (.iconst 2, 1) := by decide +kernel
theorem d_law_1494 : decode code 1494 = .ok (.iadd, 1) := by decide +kernel
theorem d_law_1495 : decode code 1495 = .ok (.iaload, 1) := by decide +kernel
theorem d_law_1496 : decode code 1496 = .ok (.invokevirtual 176, 3) := by decide +kernel
theorem d_law_1499 : decode code 1499 = .ok (.istore 6, 2) := by decide +kernel
theorem d_law_1501 : decode code 1501 = .ok (.aload_n 2, 1) := by decide +kernel
theorem d_law_1502 : decode code 1502 = .ok (.invokevirtual 100, 3) := by decide +kernel
theorem d_law_1505 : decode code 1505 = .ok (.iload 5, 2) := by decide +kernel
theorem d_law_1507 : decode code 1507 = .ok (.if_icmp .eq 5, 3) := by decide +kernel
theorem d_law_1510 : decode code 1510 = .ok (.iconst 0, 1) := by decide +kernel
theorem d_law_1511 : decode code 1511 = .ok (.ireturn, 1) := by decide +kernel
theorem d_law_1512 : decode code 1512 = .ok (.iload 5, 2) := by decide +kernel
theorem d_law_1514 : decode code 1514 = .ok (.ifCond .ne 15, 3) := by decide +kernel
theorem d_law_1517 : decode code 1517 = .ok (.aload_n 3, 1) := by decide +kernel
theorem d_law_1518 : decode code 1518 = .ok (.iconst 0, 1) := by decide +kernel
theorem d_law_1519 : decode code 1519 = .ok (.laload, 1) := by decide +kernel
theorem d_law_1520 : decode code 1520 = .ok (.iload 6, 2) := by decide +kernel
theorem d_law_1522 : decode code 1522 = .ok (.i2l, 1) := by decide +kernel
theorem d_law_1523 : decode code 1523 = .ok (.lcmp, 1) := by decide +kernel
theorem d_law_1524 : decode code 1524 = .ok (.ifCond .eq 5, 3) := by decide +kernel
theorem d_law_1527 : decode code 1527 = .ok (.iconst 0, 1) := by decide +kernel
theorem d_law_1528 : decode code 1528 = .ok (.ireturn, 1) := by decide +kernel
theorem d_law_1529 : decode code 1529 = .ok (.goto 71, 3) := by decide +kernel
theorem d_law_1532 : decode code 1532 = .ok (.aload_n 1, 1) := by decide +kernel
theorem d_law_1533 : decode code 1533 = .ok (.aload_n 0, 1) := by decide +kernel
theorem d_law_1534 : decode code 1534 = .ok (.iload 4, 2) := by decide +kernel
theorem d_law_1536 : decode code 1536 = .ok (.iconst 1, 1) := by decide +kernel
theorem d_law_1537 : decode code 1537 = .ok (.iadd, 1) := by decide +kernel
theorem d_law_1538 : decode code 1538 = .ok (.iaload, 1) := by decide +kernel
theorem d_law_1539 : decode code 1539 = .ok (.aload_n 0, 1) := by decide +kernel
theorem d_law_1540 : decode code 1540 = .ok (.iload 4, 2) := by decide +kernel
theorem d_law_1542 : decode code 1542 = .ok (.iconst 2, 1) := by decide +kernel
theorem d_law_1543 : decode code 1543 = .ok (.iadd, 1) := by decide +kernel
theorem d_law_1544 : decode code 1544 = .ok (.iaload, 1) := by decide +kernel
theorem d_law_1545 : decode code 1545 = .ok (.aload_n 3, 1) := by decide +kernel
theorem d_law_1546 : decode code 1546 = .ok (.invokestatic 177, 3) := by decide +kernel
theorem d_law_1549 : decode code 1549 = .ok (.istore 5, 2) := by decide +kernel
theorem d_law_1551 : decode code 1551 = .ok (.aload_n 2, 1) := by decide +kernel
theorem d_law_1552 : decode code 1552 = .ok (.aload_n 0, 1) := by decide +kernel
theorem d_law_1553 : decode code 1553 = .ok (.iload 4, 2) := by decide +kernel
theorem d_law_1555 : decode code 1555 = .ok (.iconst 1, 1) := by decide +kernel
theorem d_law_1556 : decode code 1556 = .ok (.iadd, 1) := by decide +kernel
theorem d_law_1557 : decode code 1557 = .ok (.iaload, 1) := by decide +kernel
theorem d_law_1558 : decode code 1558 = .ok (.aload_n 0, 1) := by decide +kernel
theorem d_law_1559 : decode code 1559 = .ok (.iload 4, 2) := by decide +kernel
theorem d_law_1561 : decode code 1561 = .ok (.iconst 2, 1) := by decide +kernel
theorem d_law_1562 : decode code 1562 = .ok (.iadd, 1) := by decide +kernel
theorem d_law_1563 : decode code 1563 = .ok (.iaload, 1) := by decide +kernel
theorem d_law_1564 : decode code 1564 = .ok (.invokevirtual 179, 3) := by decide +kernel
theorem d_law_1567 : decode code 1567 = .ok (.istore 6, 2) := by decide +kernel
theorem d_law_1569 : decode code 1569 = .ok (.aload_n 2, 1) := by decide +kernel
theorem d_law_1570 : decode code 1570 = .ok (.invokevirtual 100, 3) := by decide +kernel
theorem d_law_1573 : decode code 1573 = .ok (.iload 5, 2) := by decide +kernel
theorem d_law_1575 : decode code 1575 = .ok (.if_icmp .eq 5, 3) := by decide +kernel
theorem d_law_1578 : decode code 1578 = .ok (.iconst 0, 1) := by decide +kernel
theorem d_law_1579 : decode code 1579 = .ok (.ireturn, 1) := by decide +kernel
theorem d_law_1580 : decode code 1580 = .ok (.iload 5, 2) := by decide +kernel
theorem d_law_1582 : decode code 1582 = .ok (.ifCond .ne 15, 3) := by decide +kernel
theorem d_law_1585 : decode code 1585 = .ok (.aload_n 3, 1) := by decide +kernel
theorem d_law_1586 : decode code 1586 = .ok (.iconst 0, 1) := by decide +kernel
theorem d_law_1587 : decode code 1587 = .ok (.laload, 1) := by decide +kernel
theorem d_law_1588 : decode code 1588 = .ok (.iload 6, 2) := by decide +kernel
theorem d_law_1590 : decode code 1590 = .ok (.i2l, 1) := by decide +kernel
theorem d_law_1591 : decode code 1591 = .ok (.lcmp, 1) := by decide +kernel
theorem d_law_1592 : decode code 1592 = .ok (.ifCond .eq 5, 3) := by decide +kernel
theorem d_law_1595 : decode code 1595 = .ok (.iconst 0, 1) := by decide +kernel
theorem d_law_1596 : decode code 1596 = .ok (.ireturn, 1) := by decide +kernel
theorem d_law_1597 : decode code 1597 = .ok (.goto 3, 3) := by decide +kernel
theorem d_law_1600 : decode code 1600 = .ok (.iinc 4 7, 3) := by decide +kernel
theorem d_law_1603 : decode code 1603 = .ok (.goto (-1580), 3) := by decide +kernel
theorem d_law_1606 : decode code 1606 = .ok (.iconst 1, 1) := by decide +kernel
theorem d_law_1607 : decode code 1607 = .ok (.ireturn, 1) := by decide +kernel
theorem cs_law_86 : sm_Call mf_law 86 mf_SM_init 0 ∧ Cond.instanceMethod my_SM_init ∈ sm_WS ∧ my_SM_init.name = "<init>" ∧ mf_SM_init.2.2.2.1 = none ∧ mf_SM_init.2.2.2.2.1 = [] := ⟨⟨cw_SM_init, mw_1, ⟨by decide +kernel, by decide +kernel⟩, by decide +kernel, ⟨by decide, by decide⟩, Or.inl mw_26⟩, mw_27, rfl, rfl, rfl⟩
theorem cs_law_89 : sm_Call mf_law 89 mf_Md_init 0 ∧ Cond.instanceMethod my_Md_init ∈ sm_WS ∧ my_Md_init.name = "<init>" ∧ mf_Md_init.2.2.2.1 = none ∧ mf_Md_init.2.2.2.2.1 = [] := ⟨⟨cw_Md_init, mw_12, ⟨by decide +kernel, by decide +kernel⟩, by decide +kernel, ⟨by decide, by decide⟩, Or.inl mw_1188⟩, mw_1189, rfl, rfl, rfl⟩
theorem cs_law_90 : sm_Call mf_law 90 mf_SM_plan 0 ∧ Cond.instanceMethod my_SM_plan ∈ sm_WS ∧ Cond.selects "StreamMarks" my_SM_plan my_SM_plan ∈ sm_WS ∧ sm_cl[0]? = some ("StreamMarks", cT_SM, 7) := ⟨⟨cw_SM_plan, mw_1, ⟨by decide +kernel, by decide +kernel⟩, by decide +kernel, ⟨by decide, by decide⟩, Or.inl mw_342⟩, mw_343, mw_344, rfl⟩
theorem cs_law_93 : sm_Call mf_law 93 mf_Md_plan 0 ∧ Cond.instanceMethod my_Md_plan ∈ sm_WS ∧ Cond.selects "StreamMarksModel" my_Md_plan my_Md_plan ∈ sm_WS ∧ sm_cl[10]? = some ("StreamMarksModel", cT_Md, 37) := ⟨⟨cw_Md_plan, mw_12, ⟨by decide +kernel, by decide +kernel⟩, by decide +kernel, ⟨by decide, by decide⟩, Or.inl mw_1309⟩, mw_1310, mw_1311, rfl⟩
theorem cs_law_94 : sm_Call mf_law 94 mf_Lw_picture 5 ∧ Cond.static my_Lw_picture ∈ sm_WS := ⟨⟨cw_Lw_picture, mw_0, ⟨by decide +kernel, by decide +kernel⟩, by decide +kernel, ⟨by decide, by decide⟩, Or.inl mw_734⟩, mw_735⟩
theorem cs_law_99 : sm_Call mf_law 99 mf_Md_picture 4 ∧ Cond.instanceMethod my_Md_picture ∈ sm_WS ∧ Cond.selects "StreamMarksModel" my_Md_picture my_Md_picture ∈ sm_WS ∧ sm_cl[10]? = some ("StreamMarksModel", cT_Md, 37) := ⟨⟨cw_Md_picture, mw_12, ⟨by decide +kernel, by decide +kernel⟩, by decide +kernel, ⟨by decide, by decide⟩, Or.inl mw_1317⟩, mw_1318, mw_1319, rfl⟩
theorem cs_law_100 : sm_Call mf_law 100 mf_Md_thrown 0 ∧ Cond.instanceMethod my_Md_thrown ∈ sm_WS ∧ Cond.selects "StreamMarksModel" my_Md_thrown my_Md_thrown ∈ sm_WS ∧ sm_cl[10]? = some ("StreamMarksModel", cT_Md, 37) := ⟨⟨cw_Md_thrown, mw_12, ⟨by decide +kernel, by decide +kernel⟩, by decide +kernel, ⟨by decide, by decide⟩, Or.inl mw_1305⟩, mw_1306, mw_1307, rfl⟩
theorem cs_law_103 : sm_Call mf_law 103 mf_Lw_tiles 5 ∧ Cond.static my_Lw_tiles ∈ sm_WS := ⟨⟨cw_Lw_tiles, mw_0, ⟨by decide +kernel, by decide +kernel⟩, by decide +kernel, ⟨by decide, by decide⟩, Or.inl mw_813⟩, mw_814⟩
theorem cs_law_105 : sm_Call mf_law 105 mf_Md_tiles 4 ∧ Cond.instanceMethod my_Md_tiles ∈ sm_WS ∧ Cond.selects "StreamMarksModel" my_Md_tiles my_Md_tiles ∈ sm_WS ∧ sm_cl[10]? = some ("StreamMarksModel", cT_Md, 37) := ⟨⟨cw_Md_tiles, mw_12, ⟨by decide +kernel, by decide +kernel⟩, by decide +kernel, ⟨by decide, by decide⟩, Or.inl mw_1325⟩, mw_1326, mw_1327, rfl⟩
theorem cs_law_106 : sm_Call mf_law 106 mf_Lw_component 6 ∧ Cond.static my_Lw_component ∈ sm_WS := ⟨⟨cw_Lw_component, mw_0, ⟨by decide +kernel, by decide +kernel⟩, by decide +kernel, ⟨by decide, by decide⟩, Or.inl mw_846⟩, mw_847⟩
theorem cs_law_109 : sm_Call mf_law 109 mf_Md_component 4 ∧ Cond.instanceMethod my_Md_component ∈ sm_WS ∧ Cond.selects "StreamMarksModel" my_Md_component my_Md_component ∈ sm_WS ∧ sm_cl[10]? = some ("StreamMarksModel", cT_Md, 37) := ⟨⟨cw_Md_component, mw_12, ⟨by decide +kernel, by decide +kernel⟩, by decide +kernel, ⟨by decide, by decide⟩, Or.inl mw_1336⟩, mw_1337, mw_1338, rfl⟩
theorem cs_law_110 : sm_Call mf_law 110 mf_Lw_general 6 ∧ Cond.static my_Lw_general ∈ sm_WS := ⟨⟨cw_Lw_general, mw_0, ⟨by decide +kernel, by decide +kernel⟩, by decide +kernel, ⟨by decide, by decide⟩, Or.inl mw_857⟩, mw_858⟩
theorem cs_law_113 : sm_Call mf_law 113 mf_Md_general 5 ∧ Cond.instanceMethod my_Md_general ∈ sm_WS ∧ Cond.selects "StreamMarksModel" my_Md_general my_Md_general ∈ sm_WS ∧ sm_cl[10]? = some ("StreamMarksModel", cT_Md, 37) := ⟨⟨cw_Md_general, mw_12, ⟨by decide +kernel, by decide +kernel⟩, by decide +kernel, ⟨by decide, by decide⟩, Or.inl mw_1349⟩, mw_1350, mw_1351, rfl⟩
theorem cs_law_114 : sm_Call mf_law 114 mf_Lw_coding 7 ∧ Cond.static my_Lw_coding ∈ sm_WS := ⟨⟨cw_Lw_coding, mw_0, ⟨by decide +kernel, by decide +kernel⟩, by decide +kernel, ⟨by decide, by decide⟩, Or.inl mw_867⟩, mw_868⟩
theorem cs_law_117 : sm_Call mf_law 117 mf_Md_coding 6 ∧ Cond.instanceMethod my_Md_coding ∈ sm_WS ∧ Cond.selects "StreamMarksModel" my_Md_coding my_Md_coding ∈ sm_WS ∧ sm_cl[10]? = some ("StreamMarksModel", cT_Md, 37) := ⟨⟨cw_Md_coding, mw_12, ⟨by decide +kernel, by decide +kernel⟩, by decide +kernel, ⟨by decide, by decide⟩, Or.inl mw_1354⟩, mw_1355, mw_1356, rfl⟩
theorem cs_law_118 : sm_Call mf_law 118 mf_Lw_precincts 5 ∧ Cond.static my_Lw_precincts ∈ sm_WS := ⟨⟨cw_Lw_precincts, mw_0, ⟨by decide +kernel, by decide +kernel⟩, by decide +kernel, ⟨by decide, by decide⟩, Or.inl mw_899⟩, mw_900⟩
theorem cs_law_120 : sm_Call mf_law 120 mf_Md_precincts 4 ∧ Cond.instanceMethod my_Md_precincts ∈ sm_WS ∧ Cond.selects "StreamMarksModel" my_Md_precincts my_Md_precincts ∈ sm_WS ∧ sm_cl[10]? = some ("StreamMarksModel", cT_Md, 37) := ⟨⟨cw_Md_precincts, mw_12, ⟨by decide +kernel, by decide +kernel⟩, by decide +kernel, ⟨by decide, by decide⟩, Or.inl mw_1366⟩, mw_1367, mw_1368, rfl⟩
theorem cs_law_121 : sm_Call mf_law 121 mf_Lw_steps 5 ∧ Cond.static my_Lw_steps ∈ sm_WS := ⟨⟨cw_Lw_steps, mw_0, ⟨by decide +kernel, by decide +kernel⟩, by decide +kernel, ⟨by decide, by decide⟩, Or.inl mw_909⟩, mw_910⟩
theorem cs_law_123 : sm_Call mf_law 123 mf_Md_steps 4 ∧ Cond.instanceMethod my_Md_steps ∈ sm_WS ∧ Cond.selects "StreamMarksModel" my_Md_steps my_Md_steps ∈ sm_WS ∧ sm_cl[10]? = some ("StreamMarksModel", cT_Md, 37) := ⟨⟨cw_Md_steps, mw_12, ⟨by decide +kernel, by decide +kernel⟩, by decide +kernel, ⟨by decide, by decide⟩, Or.inl mw_1371⟩, mw_1372, mw_1373, rfl⟩
theorem cs_law_124 : sm_Call mf_law 124 mf_Lw_step 4 ∧ Cond.static my_Lw_step ∈ sm_WS := ⟨⟨cw_Lw_step, mw_0, ⟨by decide +kernel, by decide +kernel⟩, by decide +kernel, ⟨by decide, by decide⟩, Or.inl mw_919⟩, mw_920⟩
theorem cs_law_127 : sm_Call mf_law 127 mf_Md_step 3 ∧ Cond.instanceMethod my_Md_step ∈ sm_WS ∧ Cond.selects "StreamMarksModel" my_Md_step my_Md_step ∈ sm_WS ∧ sm_cl[10]? = some ("StreamMarksModel", cT_Md, 37) := ⟨⟨cw_Md_step, mw_12, ⟨by decide +kernel, by decide +kernel⟩, by decide +kernel, ⟨by decide, by decide⟩, Or.inl mw_1377⟩, mw_1378, mw_1379, rfl⟩
theorem cs_law_128 : sm_Call mf_law 128 mf_Lw_change 8 ∧ Cond.static my_Lw_change ∈ sm_WS := ⟨⟨cw_Lw_change, mw_0, ⟨by decide +kernel, by decide +kernel⟩, by decide +kernel, ⟨by decide, by decide⟩, Or.inl mw_929⟩, mw_930⟩
theorem cs_law_131 : sm_Call mf_law 131 mf_Md_change 6 ∧ Cond.instanceMethod my_Md_change ∈ sm_WS ∧ Cond.selects "StreamMarksModel" my_Md_change my_Md_change ∈ sm_WS ∧ sm_cl[10]? = some ("StreamMarksModel", cT_Md, 37) := ⟨⟨cw_Md_change, mw_12, ⟨by decide +kernel, by decide +kernel⟩, by decide +kernel, ⟨by decide, by decide⟩, Or.inl mw_1383⟩, mw_1384, mw_1385, rfl⟩
theorem cs_law_132 : sm_Call mf_law 132 mf_Lw_get 5 ∧ Cond.static my_Lw_get ∈ sm_WS := ⟨⟨cw_Lw_get, mw_0, ⟨by decide +kernel, by decide +kernel⟩, by decide +kernel, ⟨by decide, by decide⟩, Or.inl mw_940⟩, mw_941⟩
theorem cs_law_135 : sm_Call mf_law 135 mf_Md_get 3 ∧ Cond.instanceMethod my_Md_get ∈ sm_WS ∧ Cond.selects "StreamMarksModel" my_Md_get my_Md_get ∈ sm_WS ∧ sm_cl[10]? = some ("StreamMarksModel", cT_Md, 37) := ⟨⟨cw_Md_get, mw_12, ⟨by decide +kernel, by decide +kernel⟩, by decide +kernel, ⟨by decide, by decide⟩, Or.inl mw_1391⟩, mw_1392, mw_1393, rfl⟩
theorem cs_law_136 : sm_Call mf_law 136 mf_SM_clear 0 ∧ Cond.instanceMethod my_SM_clear ∈ sm_WS ∧ Cond.selects "StreamMarks" my_SM_clear my_SM_clear ∈ sm_WS ∧ sm_cl[0]? = some ("StreamMarks", cT_SM, 7) := ⟨⟨cw_SM_clear, mw_1, ⟨by decide +kernel, by decide +kernel⟩, by decide +kernel, ⟨by decide, by decide⟩, Or.inl mw_347⟩, mw_348, mw_349, rfl⟩
theorem cs_law_139 : sm_Call mf_law 139 mf_Md_clear 0 ∧ Cond.instanceMethod my_Md_clear ∈ sm_WS ∧ Cond.selects "StreamMarksModel" my_Md_clear my_Md_clear ∈ sm_WS ∧ sm_cl[10]? = some ("StreamMarksModel", cT_Md, 37) := ⟨⟨cw_Md_clear, mw_12, ⟨by decide +kernel, by decide +kernel⟩, by decide +kernel, ⟨by decide, by decide⟩, Or.inl mw_1404⟩, mw_1405, mw_1406, rfl⟩
theorem cs_law_140 : sm_Call mf_law 140 mf_Lw_put 3 ∧ Cond.static my_Lw_put ∈ sm_WS := ⟨⟨cw_Lw_put, mw_0, ⟨by decide +kernel, by decide +kernel⟩, by decide +kernel, ⟨by decide, by decide⟩, Or.inl mw_977⟩, mw_978⟩
theorem cs_law_143 : sm_Call mf_law 143 mf_Md_put 1 ∧ Cond.instanceMethod my_Md_put ∈ sm_WS ∧ Cond.selects "StreamMarksModel" my_Md_put my_Md_put ∈ sm_WS ∧ sm_cl[10]? = some ("StreamMarksModel", cT_Md, 37) := ⟨⟨cw_Md_put, mw_12, ⟨by decide +kernel, by decide +kernel⟩, by decide +kernel, ⟨by decide, by decide⟩, Or.inl mw_1408⟩, mw_1409, mw_1410, rfl⟩
theorem cs_law_144 : sm_Call mf_law 144 mf_Lw_at 3 ∧ Cond.static my_Lw_at ∈ sm_WS := ⟨⟨cw_Lw_at, mw_0, ⟨by decide +kernel, by decide +kernel⟩, by decide +kernel, ⟨by decide, by decide⟩, Or.inl mw_1008⟩, mw_1009⟩
theorem cs_law_146 : sm_Call mf_law 146 mf_Md_at 1 ∧ Cond.instanceMethod my_Md_at ∈ sm_WS ∧ Cond.selects "StreamMarksModel" my_Md_at my_Md_at ∈ sm_WS ∧ sm_cl[10]? = some ("StreamMarksModel", cT_Md, 37) := ⟨⟨cw_Md_at, mw_12, ⟨by decide +kernel, by decide +kernel⟩, by decide +kernel, ⟨by decide, by decide⟩, Or.inl mw_1412⟩, mw_1413, mw_1414, rfl⟩
theorem cs_law_147 : sm_Call mf_law 147 mf_Lw_write 2 ∧ Cond.static my_Lw_write ∈ sm_WS := ⟨⟨cw_Lw_write, mw_0, ⟨by decide +kernel, by decide +kernel⟩, by decide +kernel, ⟨by decide, by decide⟩, Or.inl mw_1021⟩, mw_1022⟩
theorem cs_law_150 : sm_Call mf_law 150 mf_Md_write 0 ∧ Cond.instanceMethod my_Md_write ∈ sm_WS ∧ Cond.selects "StreamMarksModel" my_Md_write my_Md_write ∈ sm_WS ∧ sm_cl[10]? = some ("StreamMarksModel", cT_Md, 37) := ⟨⟨cw_Md_write, mw_12, ⟨by decide +kernel, by decide +kernel⟩, by decide +kernel, ⟨by decide, by decide⟩, Or.inl mw_1416⟩, mw_1417, mw_1418, rfl⟩
theorem cs_law_151 : sm_Call mf_law 151 mf_Lw_part 5 ∧ Cond.static my_Lw_part ∈ sm_WS := ⟨⟨cw_Lw_part, mw_0, ⟨by decide +kernel, by decide +kernel⟩, by decide +kernel, ⟨by decide, by decide⟩, Or.inl mw_1111⟩, mw_1112⟩
theorem cs_law_153 : sm_Call mf_law 153 mf_Md_part 4 ∧ Cond.instanceMethod my_Md_part ∈ sm_WS ∧ Cond.selects "StreamMarksModel" my_Md_part my_Md_part ∈ sm_WS ∧ sm_cl[10]? = some ("StreamMarksModel", cT_Md, 37) := ⟨⟨cw_Md_part, mw_12, ⟨by decide +kernel, by decide +kernel⟩, by decide +kernel, ⟨by decide, by decide⟩, Or.inl mw_1476⟩, mw_1477, mw_1478, rfl⟩
theorem cs_law_154 : sm_Call mf_law 154 mf_Lw_mark 2 ∧ Cond.static my_Lw_mark ∈ sm_WS := ⟨⟨cw_Lw_mark, mw_0, ⟨by decide +kernel, by decide +kernel⟩, by decide +kernel, ⟨by decide, by decide⟩, Or.inl mw_1123⟩, mw_1124⟩
theorem cs_law_157 : sm_Call mf_law 157 mf_Md_mark 1 ∧ Cond.instanceMethod my_Md_mark ∈ sm_WS ∧ Cond.selects "StreamMarksModel" my_Md_mark my_Md_mark ∈ sm_WS ∧ sm_cl[10]? = some ("StreamMarksModel", cT_Md, 37) := ⟨⟨cw_Md_mark, mw_12, ⟨by decide +kernel, by decide +kernel⟩, by decide +kernel, ⟨by decide, by decide⟩, Or.inl mw_1481⟩, mw_1482, mw_1483, rfl⟩
theorem cs_law_158 : sm_Call mf_law 158 mf_Lw_spoil 3 ∧ Cond.static my_Lw_spoil ∈ sm_WS := ⟨⟨cw_Lw_spoil, mw_0, ⟨by decide +kernel, by decide +kernel⟩, by decide +kernel, ⟨by decide, by decide⟩, Or.inl mw_1131⟩, mw_1132⟩
theorem cs_law_161 : sm_Call mf_law 161 mf_Md_spoil 2 ∧ Cond.instanceMethod my_Md_spoil ∈ sm_WS ∧ Cond.selects "StreamMarksModel" my_Md_spoil my_Md_spoil ∈ sm_WS ∧ sm_cl[10]? = some ("StreamMarksModel", cT_Md, 37) := ⟨⟨cw_Md_spoil, mw_12, ⟨by decide +kernel, by decide +kernel⟩, by decide +kernel, ⟨by decide, by decide⟩, Or.inl mw_1485⟩, mw_1486, mw_1487, rfl⟩
theorem cs_law_162 : sm_Call mf_law 162 mf_SM_scan 0 ∧ Cond.instanceMethod my_SM_scan ∈ sm_WS ∧ Cond.selects "StreamMarks" my_SM_scan my_SM_scan ∈ sm_WS ∧ sm_cl[0]? = some ("StreamMarks", cT_SM, 7) := ⟨⟨cw_SM_scan, mw_1, ⟨by decide +kernel, by decide +kernel⟩, by decide +kernel, ⟨by decide, by decide⟩, Or.inl mw_355⟩, mw_356, mw_357, rfl⟩
theorem cs_law_165 : sm_Call mf_law 165 mf_Md_scan 0 ∧ Cond.instanceMethod my_Md_scan ∈ sm_WS ∧ Cond.selects "StreamMarksModel" my_Md_scan my_Md_scan ∈ sm_WS ∧ sm_cl[10]? = some ("StreamMarksModel", cT_Md, 37) := ⟨⟨cw_Md_scan, mw_12, ⟨by decide +kernel, by decide +kernel⟩, by decide +kernel, ⟨by decide, by decide⟩, Or.inl mw_1489⟩, mw_1490, mw_1491, rfl⟩
theorem cs_law_166 : sm_Call mf_law 166 mf_SM_place 0 ∧ Cond.instanceMethod my_SM_place ∈ sm_WS ∧ Cond.selects "StreamMarks" my_SM_place my_SM_place ∈ sm_WS ∧ sm_cl[0]? = some ("StreamMarks", cT_SM, 7) := ⟨⟨cw_SM_place, mw_1, ⟨by decide +kernel, by decide +kernel⟩, by decide +kernel, ⟨by decide, by decide⟩, Or.inl mw_730⟩, mw_731, mw_732, rfl⟩
theorem cs_law_169 : sm_Call mf_law 169 mf_Md_place 0 ∧ Cond.instanceMethod my_Md_place ∈ sm_WS ∧ Cond.selects "StreamMarksModel" my_Md_place my_Md_place ∈ sm_WS ∧ sm_cl[10]? = some ("StreamMarksModel", cT_Md, 37) := ⟨⟨cw_Md_place, mw_12, ⟨by decide +kernel, by decide +kernel⟩, by decide +kernel, ⟨by decide, by decide⟩, Or.inl mw_1636⟩, mw_1637, mw_1638, rfl⟩
theorem cs_law_170 : sm_Call mf_law 170 mf_Lw_use 3 ∧ Cond.static my_Lw_use ∈ sm_WS := ⟨⟨cw_Lw_use, mw_0, ⟨by decide +kernel, by decide +kernel⟩, by decide +kernel, ⟨by decide, by decide⟩, Or.inl mw_1142⟩, mw_1143⟩
theorem cs_law_172 : sm_Call mf_law 172 mf_Md_use 1 ∧ Cond.instanceMethod my_Md_use ∈ sm_WS ∧ Cond.selects "StreamMarksModel" my_Md_use my_Md_use ∈ sm_WS ∧ sm_cl[10]? = some ("StreamMarksModel", cT_Md, 37) := ⟨⟨cw_Md_use, mw_12, ⟨by decide +kernel, by decide +kernel⟩, by decide +kernel, ⟨by decide, by decide⟩, Or.inl mw_1640⟩, mw_1641, mw_1642, rfl⟩
theorem cs_law_173 : sm_Call mf_law 173 mf_Lw_head 4 ∧ Cond.static my_Lw_head ∈ sm_WS := ⟨⟨cw_Lw_head, mw_0, ⟨by decide +kernel, by decide +kernel⟩, by decide +kernel, ⟨by decide, by decide⟩, Or.inl mw_1165⟩, mw_1166⟩
theorem cs_law_176 : sm_Call mf_law 176 mf_Md_head 2 ∧ Cond.instanceMethod my_Md_head ∈ sm_WS ∧ Cond.selects "StreamMarksModel" my_Md_head my_Md_head ∈ sm_WS ∧ sm_cl[10]? = some ("StreamMarksModel", cT_Md, 37) := ⟨⟨cw_Md_head, mw_12, ⟨by decide +kernel, by decide +kernel⟩, by decide +kernel, ⟨by decide, by decide⟩, Or.inl mw_1660⟩, mw_1661, mw_1662, rfl⟩
theorem cs_law_177 : sm_Call mf_law 177 mf_Lw_found 4 ∧ Cond.static my_Lw_found ∈ sm_WS := ⟨⟨cw_Lw_found, mw_0, ⟨by decide +kernel, by decide +kernel⟩, by decide +kernel, ⟨by decide, by decide⟩, Or.inl mw_1177⟩, mw_1178⟩
theorem cs_law_179 : sm_Call mf_law 179 mf_Md_found 2 ∧ Cond.instanceMethod my_Md_found ∈ sm_WS ∧ Cond.selects "StreamMarksModel" my_Md_found my_Md_found ∈ sm_WS ∧ sm_cl[10]? = some ("StreamMarksModel", cT_Md, 37) := ⟨⟨cw_Md_found, mw_12, ⟨by decide +kernel, by decide +kernel⟩, by decide +kernel, ⟨by decide, by decide⟩, Or.inl mw_1664⟩, mw_1665, mw_1666, rfl⟩
