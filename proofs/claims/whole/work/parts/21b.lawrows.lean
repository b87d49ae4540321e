theorem dL_law_249 : decode code 249 = .ok (.iadd, 1) := by decide +kernel
theorem dL_law_250 : decode code 250 = .ok (.iaload, 1) := by decide +kernel
theorem dL_law_251 : decode code 251 = .ok (.invokevirtual 67, 3) := by decide +kernel
theorem dL_law_254 : decode code 254 = .ok (.aload_n 2, 1) := by decide +kernel
theorem dL_law_255 : decode code 255 = .ok (.invokevirtual 57, 3) := by decide +kernel
theorem dL_law_258 : decode code 258 = .ok (.iload 5, 2) := by decide +kernel
theorem dL_law_260 : decode code 260 = .ok (.if_icmp .eq 5, 3) := by decide +kernel
theorem dL_law_263 : decode code 263 = .ok (.iconst 0, 1) := by decide +kernel
theorem dL_law_264 : decode code 264 = .ok (.ireturn, 1) := by decide +kernel
theorem dL_law_265 : decode code 265 = .ok (.goto 533, 3) := by decide +kernel
theorem dL_law_268 : decode code 268 = .ok (.aload_n 1, 1) := by decide +kernel
theorem dL_law_269 : decode code 269 = .ok (.aload_n 0, 1) := by decide +kernel
theorem dL_law_270 : decode code 270 = .ok (.iload 4, 2) := by decide +kernel
theorem dL_law_272 : decode code 272 = .ok (.iconst 1, 1) := by decide +kernel
theorem dL_law_273 : decode code 273 = .ok (.iadd, 1) := by decide +kernel
theorem dL_law_274 : decode code 274 = .ok (.iaload, 1) := by decide +kernel
theorem dL_law_275 : decode code 275 = .ok (.aload_n 0, 1) := by decide +kernel
theorem dL_law_276 : decode code 276 = .ok (.iload 4, 2) := by decide +kernel
theorem dL_law_278 : decode code 278 = .ok (.iconst 2, 1) := by decide +kernel
theorem dL_law_279 : decode code 279 = .ok (.iadd, 1) := by decide +kernel
theorem dL_law_280 : decode code 280 = .ok (.iaload, 1) := by decide +kernel
theorem dL_law_281 : decode code 281 = .ok (.i2l, 1) := by decide +kernel
theorem dL_law_282 : decode code 282 = .ok (.bipush 32, 2) := by decide +kernel
theorem dL_law_284 : decode code 284 = .ok (.lshl, 1) := by decide +kernel
theorem dL_law_285 : decode code 285 = .ok (.aload_n 0, 1) := by decide +kernel
theorem dL_law_286 : decode code 286 = .ok (.iload 4, 2) := by decide +kernel
theorem dL_law_288 : decode code 288 = .ok (.iconst 3, 1) := by decide +kernel
theorem dL_law_289 : decode code 289 = .ok (.iadd, 1) := by decide +kernel
theorem dL_law_290 : decode code 290 = .ok (.iaload, 1) := by decide +kernel
theorem dL_law_291 : decode code 291 = .ok (.i2l, 1) := by decide +kernel
theorem dL_law_292 : decode code 292 = .ok (.ldc2_w 68, 3) := by decide +kernel
theorem dL_law_295 : decode code 295 = .ok (.land, 1) := by decide +kernel
theorem dL_law_296 : decode code 296 = .ok (.lor, 1) := by decide +kernel
theorem dL_law_297 : decode code 297 = .ok (.invokestatic 70, 3) := by decide +kernel
theorem dL_law_300 : decode code 300 = .ok (.istore 5, 2) := by decide +kernel
theorem dL_law_302 : decode code 302 = .ok (.aload_n 2, 1) := by decide +kernel
theorem dL_law_303 : decode code 303 = .ok (.aload_n 0, 1) := by decide +kernel
theorem dL_law_304 : decode code 304 = .ok (.iload 4, 2) := by decide +kernel
theorem dL_law_306 : decode code 306 = .ok (.iconst 1, 1) := by decide +kernel
theorem dL_law_307 : decode code 307 = .ok (.iadd, 1) := by decide +kernel
theorem dL_law_308 : decode code 308 = .ok (.iaload, 1) := by decide +kernel
theorem dL_law_309 : decode code 309 = .ok (.aload_n 0, 1) := by decide +kernel
theorem dL_law_310 : decode code 310 = .ok (.iload 4, 2) := by decide +kernel
theorem dL_law_312 : decode code 312 = .ok (.iconst 2, 1) := by decide +kernel
theorem dL_law_313 : decode code 313 = .ok (.iadd, 1) := by decide +kernel
theorem dL_law_314 : decode code 314 = .ok (.iaload, 1) := by decide +kernel
theorem dL_law_315 : decode code 315 = .ok (.i2l, 1) := by decide +kernel
theorem dL_law_316 : decode code 316 = .ok (.bipush 32, 2) := by decide +kernel
theorem dL_law_318 : decode code 318 = .ok (.lshl, 1) := by decide +kernel
theorem dL_law_319 : decode code 319 = .ok (.aload_n 0, 1) := by decide +kernel
theorem dL_law_320 : decode code 320 = .ok (.iload 4, 2) := by decide +kernel
theorem dL_law_322 : decode code 322 = .ok (.iconst 3, 1) := by decide +kernel
theorem dL_law_323 : decode code 323 = .ok (.iadd, 1) := by decide +kernel
theorem dL_law_324 : decode code 324 = .ok (.iaload, 1) := by decide +kernel
theorem dL_law_325 : decode code 325 = .ok (.i2l, 1) := by decide +kernel
theorem dL_law_326 : decode code 326 = .ok (.ldc2_w 68, 3) := by decide +kernel
theorem dL_law_329 : decode code 329 = .ok (.land, 1) := by decide +kernel
theorem dL_law_330 : decode code 330 = .ok (.lor, 1) := by decide +kernel
theorem dL_law_331 : decode code 331 = .ok (.invokevirtual 73, 3) := by decide +kernel
theorem dL_law_334 : decode code 334 = .ok (.aload_n 2, 1) := by decide +kernel
theorem dL_law_335 : decode code 335 = .ok (.invokevirtual 57, 3) := by decide +kernel
theorem dL_law_338 : decode code 338 = .ok (.iload 5, 2) := by decide +kernel
theorem dL_law_340 : decode code 340 = .ok (.if_icmp .eq 5, 3) := by decide +kernel
theorem dL_law_343 : decode code 343 = .ok (.iconst 0, 1) := by decide +kernel
theorem dL_law_344 : decode code 344 = .ok (.ireturn, 1) := by decide +kernel
theorem dL_law_345 : decode code 345 = .ok (.goto 453, 3) := by decide +kernel
theorem dL_law_348 : decode code 348 = .ok (.aload_n 1, 1) := by decide +kernel
theorem dL_law_349 : decode code 349 = .ok (.aload_n 0, 1) := by decide +kernel
theorem dL_law_350 : decode code 350 = .ok (.iload 4, 2) := by decide +kernel
theorem dL_law_352 : decode code 352 = .ok (.iconst 1, 1) := by decide +kernel
theorem dL_law_353 : decode code 353 = .ok (.iadd, 1) := by decide +kernel
theorem dL_law_354 : decode code 354 = .ok (.iaload, 1) := by decide +kernel
theorem dL_law_355 : decode code 355 = .ok (.aload_n 3, 1) := by decide +kernel
theorem dL_law_356 : decode code 356 = .ok (.invokestatic 74, 3) := by decide +kernel
theorem dL_law_359 : decode code 359 = .ok (.istore 5, 2) := by decide +kernel
theorem dL_law_361 : decode code 361 = .ok (.aload_n 2, 1) := by decide +kernel
theorem dL_law_362 : decode code 362 = .ok (.aload_n 0, 1) := by decide +kernel
theorem dL_law_363 : decode code 363 = .ok (.iload 4, 2) := by decide +kernel
theorem dL_law_365 : decode code 365 = .ok (.iconst 1, 1) := by decide +kernel
theorem dL_law_366 : decode code 366 = .ok (.iadd, 1) := by decide +kernel
theorem dL_law_367 : decode code 367 = .ok (.iaload, 1) := by decide +kernel
theorem dL_law_368 : decode code 368 = .ok (.invokevirtual 77, 3) := by decide +kernel
theorem dL_law_371 : decode code 371 = .ok (.lstore 6, 2) := by decide +kernel
theorem dL_law_373 : decode code 373 = .ok (.aload_n 2, 1) := by decide +kernel
theorem dL_law_374 : decode code 374 = .ok (.invokevirtual 57, 3) := by decide +kernel
theorem dL_law_377 : decode code 377 = .ok (.iload 5, 2) := by decide +kernel
theorem dL_law_379 : decode code 379 = .ok (.if_icmp .eq 5, 3) := by decide +kernel
theorem dL_law_382 : decode code 382 = .ok (.iconst 0, 1) := by decide +kernel
theorem dL_law_383 : decode code 383 = .ok (.ireturn, 1) := by decide +kernel
theorem dL_law_384 : decode code 384 = .ok (.iload 5, 2) := by decide +kernel
theorem dL_law_386 : decode code 386 = .ok (.ifCond .ne 14, 3) := by decide +kernel
theorem dL_law_389 : decode code 389 = .ok (.aload_n 3, 1) := by decide +kernel
theorem dL_law_390 : decode code 390 = .ok (.iconst 0, 1) := by decide +kernel
theorem dL_law_391 : decode code 391 = .ok (.laload, 1) := by decide +kernel
theorem dL_law_392 : decode code 392 = .ok (.lload 6, 2) := by decide +kernel
theorem dL_law_394 : decode code 394 = .ok (.lcmp, 1) := by decide +kernel
theorem dL_law_395 : decode code 395 = .ok (.ifCond .eq 5, 3) := by decide +kernel
theorem dL_law_398 : decode code 398 = .ok (.iconst 0, 1) := by decide +kernel
theorem dL_law_399 : decode code 399 = .ok (.ireturn, 1) := by decide +kernel
theorem dL_law_400 : decode code 400 = .ok (.goto 398, 3) := by decide +kernel
theorem dL_law_403 : decode code 403 = .ok (.aload_n 1, 1) := by decide +kernel
theorem dL_law_404 : decode code 404 = .ok (.invokevirtual 78, 3) := by decide +kernel
theorem dL_law_407 : decode code 407 = .ok (.aload_n 2, 1) := by decide +kernel
theorem dL_law_408 : decode code 408 = .ok (.invokevirtual 81, 3) := by decide +kernel
theorem dL_law_411 : decode code 411 = .ok (.if_icmp .eq 387, 3) := by decide +kernel
theorem dL_law_414 : decode code 414 = .ok (.iconst 0, 1) := by decide +kernel
theorem dL_law_415 : decode code 415 = .ok (.ireturn, 1) := by decide +kernel
theorem dL_law_416 : decode code 416 = .ok (.aload_n 1, 1) := by decide +kernel
theorem dL_law_417 : decode code 417 = .ok (.invokevirtual 82, 3) := by decide +kernel
theorem dL_law_420 : decode code 420 = .ok (.aload_n 2, 1) := by decide +kernel
theorem dL_law_421 : decode code 421 = .ok (.invokevirtual 85, 3) := by decide +kernel
theorem dL_law_424 : decode code 424 = .ok (.goto 374, 3) := by decide +kernel
theorem dL_law_427 : decode code 427 = .ok (.aload_n 1, 1) := by decide +kernel
theorem dL_law_428 : decode code 428 = .ok (.aload_n 0, 1) := by decide +kernel
theorem dL_law_429 : decode code 429 = .ok (.iload 4, 2) := by decide +kernel
theorem dL_law_431 : decode code 431 = .ok (.iconst 1, 1) := by decide +kernel
theorem dL_law_432 : decode code 432 = .ok (.iadd, 1) := by decide +kernel
theorem dL_law_433 : decode code 433 = .ok (.iaload, 1) := by decide +kernel
theorem dL_law_434 : decode code 434 = .ok (.aload_n 3, 1) := by decide +kernel
theorem dL_law_435 : decode code 435 = .ok (.invokestatic 86, 3) := by decide +kernel
theorem dL_law_438 : decode code 438 = .ok (.istore 5, 2) := by decide +kernel
