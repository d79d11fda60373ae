theorem d_LW_law_254 : decode code 254 = .ok (.invokestatic 68, 3) := by decide +kernel
theorem d_LW_law_257 : decode code 257 = .ok (.istore 5, 2) := by decide +kernel
theorem d_LW_law_259 : decode code 259 = .ok (.aload_n 2, 1) := by decide +kernel
theorem d_LW_law_260 : decode code 260 = .ok (.aload_n 0, 1) := by decide +kernel
theorem d_LW_law_261 : decode code 261 = .ok (.iload 4, 2) := by decide +kernel
theorem d_LW_law_263 : decode code 263 = .ok (.iconst 1, 1) := by decide +kernel
theorem d_LW_law_264 : decode code 264 = .ok (.iadd, 1) := by decide +kernel
theorem d_LW_law_265 : decode code 265 = .ok (.iaload, 1) := by decide +kernel
theorem d_LW_law_266 : decode code 266 = .ok (.aload_n 0, 1) := by decide +kernel
theorem d_LW_law_267 : decode code 267 = .ok (.iload 4, 2) := by decide +kernel
theorem d_LW_law_269 : decode code 269 = .ok (.iconst 2, 1) := by decide +kernel
theorem d_LW_law_270 : decode code 270 = .ok (.iadd, 1) := by decide +kernel
theorem d_LW_law_271 : decode code 271 = .ok (.iaload, 1) := by decide +kernel
theorem d_LW_law_272 : decode code 272 = .ok (.aload_n 0, 1) := by decide +kernel
theorem d_LW_law_273 : decode code 273 = .ok (.iload 4, 2) := by decide +kernel
theorem d_LW_law_275 : decode code 275 = .ok (.iconst 3, 1) := by decide +kernel
theorem d_LW_law_276 : decode code 276 = .ok (.iadd, 1) := by decide +kernel
theorem d_LW_law_277 : decode code 277 = .ok (.iaload, 1) := by decide +kernel
theorem d_LW_law_278 : decode code 278 = .ok (.aload_n 0, 1) := by decide +kernel
theorem d_LW_law_279 : decode code 279 = .ok (.iload 4, 2) := by decide +kernel
theorem d_LW_law_281 : decode code 281 = .ok (.iconst 4, 1) := by decide +kernel
theorem d_LW_law_282 : decode code 282 = .ok (.iadd, 1) := by decide +kernel
theorem d_LW_law_283 : decode code 283 = .ok (.iaload, 1) := by decide +kernel
theorem d_LW_law_284 : decode code 284 = .ok (.ifCond .eq 7, 3) := by decide +kernel
theorem d_LW_law_287 : decode code 287 = .ok (.iconst 1, 1) := by decide +kernel
theorem d_LW_law_288 : decode code 288 = .ok (.goto 4, 3) := by decide +kernel
theorem d_LW_law_291 : decode code 291 = .ok (.iconst 0, 1) := by decide +kernel
theorem d_LW_law_292 : decode code 292 = .ok (.invokevirtual 71, 3) := by decide +kernel
theorem d_LW_law_295 : decode code 295 = .ok (.istore 6, 2) := by decide +kernel
theorem d_LW_law_297 : decode code 297 = .ok (.aload_n 2, 1) := by decide +kernel
theorem d_LW_law_298 : decode code 298 = .ok (.invokevirtual 64, 3) := by decide +kernel
theorem d_LW_law_301 : decode code 301 = .ok (.iload 5, 2) := by decide +kernel
theorem d_LW_law_303 : decode code 303 = .ok (.if_icmp .eq 5, 3) := by decide +kernel
theorem d_LW_law_306 : decode code 306 = .ok (.iconst 0, 1) := by decide +kernel
theorem d_LW_law_307 : decode code 307 = .ok (.ireturn, 1) := by decide +kernel
theorem d_LW_law_308 : decode code 308 = .ok (.iload 5, 2) := by decide +kernel
theorem d_LW_law_310 : decode code 310 = .ok (.ifCond .ne 15, 3) := by decide +kernel
theorem d_LW_law_313 : decode code 313 = .ok (.aload_n 3, 1) := by decide +kernel
theorem d_LW_law_314 : decode code 314 = .ok (.iconst 0, 1) := by decide +kernel
theorem d_LW_law_315 : decode code 315 = .ok (.laload, 1) := by decide +kernel
theorem d_LW_law_316 : decode code 316 = .ok (.iload 6, 2) := by decide +kernel
theorem d_LW_law_318 : decode code 318 = .ok (.i2l, 1) := by decide +kernel
theorem d_LW_law_319 : decode code 319 = .ok (.lcmp, 1) := by decide +kernel
theorem d_LW_law_320 : decode code 320 = .ok (.ifCond .eq 5, 3) := by decide +kernel
theorem d_LW_law_323 : decode code 323 = .ok (.iconst 0, 1) := by decide +kernel
theorem d_LW_law_324 : decode code 324 = .ok (.ireturn, 1) := by decide +kernel
theorem d_LW_law_325 : decode code 325 = .ok (.goto 528, 3) := by decide +kernel
theorem d_LW_law_328 : decode code 328 = .ok (.aload_n 1, 1) := by decide +kernel
theorem d_LW_law_329 : decode code 329 = .ok (.aload_n 0, 1) := by decide +kernel
theorem d_LW_law_330 : decode code 330 = .ok (.iload 4, 2) := by decide +kernel
theorem d_LW_law_332 : decode code 332 = .ok (.iconst 1, 1) := by decide +kernel
theorem d_LW_law_333 : decode code 333 = .ok (.iadd, 1) := by decide +kernel
theorem d_LW_law_334 : decode code 334 = .ok (.iaload, 1) := by decide +kernel
theorem d_LW_law_335 : decode code 335 = .ok (.aload_n 0, 1) := by decide +kernel
theorem d_LW_law_336 : decode code 336 = .ok (.iload 4, 2) := by decide +kernel
theorem d_LW_law_338 : decode code 338 = .ok (.iconst 2, 1) := by decide +kernel
theorem d_LW_law_339 : decode code 339 = .ok (.iadd, 1) := by decide +kernel
theorem d_LW_law_340 : decode code 340 = .ok (.iaload, 1) := by decide +kernel
theorem d_LW_law_341 : decode code 341 = .ok (.aload_n 3, 1) := by decide +kernel
theorem d_LW_law_342 : decode code 342 = .ok (.invokestatic 72, 3) := by decide +kernel
theorem d_LW_law_345 : decode code 345 = .ok (.istore 5, 2) := by decide +kernel
theorem d_LW_law_347 : decode code 347 = .ok (.aload_n 2, 1) := by decide +kernel
theorem d_LW_law_348 : decode code 348 = .ok (.aload_n 0, 1) := by decide +kernel
theorem d_LW_law_349 : decode code 349 = .ok (.iload 4, 2) := by decide +kernel
theorem d_LW_law_351 : decode code 351 = .ok (.iconst 1, 1) := by decide +kernel
theorem d_LW_law_352 : decode code 352 = .ok (.iadd, 1) := by decide +kernel
theorem d_LW_law_353 : decode code 353 = .ok (.iaload, 1) := by decide +kernel
theorem d_LW_law_354 : decode code 354 = .ok (.aload_n 0, 1) := by decide +kernel
theorem d_LW_law_355 : decode code 355 = .ok (.iload 4, 2) := by decide +kernel
theorem d_LW_law_357 : decode code 357 = .ok (.iconst 2, 1) := by decide +kernel
theorem d_LW_law_358 : decode code 358 = .ok (.iadd, 1) := by decide +kernel
theorem d_LW_law_359 : decode code 359 = .ok (.iaload, 1) := by decide +kernel
theorem d_LW_law_360 : decode code 360 = .ok (.invokevirtual 75, 3) := by decide +kernel
theorem d_LW_law_363 : decode code 363 = .ok (.istore 6, 2) := by decide +kernel
theorem d_LW_law_365 : decode code 365 = .ok (.aload_n 2, 1) := by decide +kernel
theorem d_LW_law_366 : decode code 366 = .ok (.invokevirtual 64, 3) := by decide +kernel
theorem d_LW_law_369 : decode code 369 = .ok (.iload 5, 2) := by decide +kernel
theorem d_LW_law_371 : decode code 371 = .ok (.if_icmp .eq 5, 3) := by decide +kernel
theorem d_LW_law_374 : decode code 374 = .ok (.iconst 0, 1) := by decide +kernel
theorem d_LW_law_375 : decode code 375 = .ok (.ireturn, 1) := by decide +kernel
theorem d_LW_law_376 : decode code 376 = .ok (.iload 5, 2) := by decide +kernel
theorem d_LW_law_378 : decode code 378 = .ok (.ifCond .ne 15, 3) := by decide +kernel
theorem d_LW_law_381 : decode code 381 = .ok (.aload_n 3, 1) := by decide +kernel
theorem d_LW_law_382 : decode code 382 = .ok (.iconst 0, 1) := by decide +kernel
theorem d_LW_law_383 : decode code 383 = .ok (.laload, 1) := by decide +kernel
theorem d_LW_law_384 : decode code 384 = .ok (.iload 6, 2) := by decide +kernel
theorem d_LW_law_386 : decode code 386 = .ok (.i2l, 1) := by decide +kernel
theorem d_LW_law_387 : decode code 387 = .ok (.lcmp, 1) := by decide +kernel
theorem d_LW_law_388 : decode code 388 = .ok (.ifCond .eq 5, 3) := by decide +kernel
theorem d_LW_law_391 : decode code 391 = .ok (.iconst 0, 1) := by decide +kernel
theorem d_LW_law_392 : decode code 392 = .ok (.ireturn, 1) := by decide +kernel
theorem d_LW_law_393 : decode code 393 = .ok (.goto 460, 3) := by decide +kernel
theorem d_LW_law_396 : decode code 396 = .ok (.aload_n 1, 1) := by decide +kernel
theorem d_LW_law_397 : decode code 397 = .ok (.aload_n 0, 1) := by decide +kernel
theorem d_LW_law_398 : decode code 398 = .ok (.iload 4, 2) := by decide +kernel
theorem d_LW_law_400 : decode code 400 = .ok (.iconst 1, 1) := by decide +kernel
theorem d_LW_law_401 : decode code 401 = .ok (.iadd, 1) := by decide +kernel
theorem d_LW_law_402 : decode code 402 = .ok (.iaload, 1) := by decide +kernel
theorem d_LW_law_403 : decode code 403 = .ok (.aload_n 0, 1) := by decide +kernel
theorem d_LW_law_404 : decode code 404 = .ok (.iload 4, 2) := by decide +kernel
theorem d_LW_law_406 : decode code 406 = .ok (.iconst 2, 1) := by decide +kernel
theorem d_LW_law_407 : decode code 407 = .ok (.iadd, 1) := by decide +kernel
theorem d_LW_law_408 : decode code 408 = .ok (.iaload, 1) := by decide +kernel
theorem d_LW_law_409 : decode code 409 = .ok (.aload_n 0, 1) := by decide +kernel
theorem d_LW_law_410 : decode code 410 = .ok (.iload 4, 2) := by decide +kernel
theorem d_LW_law_412 : decode code 412 = .ok (.iconst 3, 1) := by decide +kernel
theorem d_LW_law_413 : decode code 413 = .ok (.iadd, 1) := by decide +kernel
theorem d_LW_law_414 : decode code 414 = .ok (.iaload, 1) := by decide +kernel
theorem d_LW_law_415 : decode code 415 = .ok (.aload_n 0, 1) := by decide +kernel
theorem d_LW_law_416 : decode code 416 = .ok (.iload 4, 2) := by decide +kernel
theorem d_LW_law_418 : decode code 418 = .ok (.iconst 4, 1) := by decide +kernel
theorem d_LW_law_419 : decode code 419 = .ok (.iadd, 1) := by decide +kernel
theorem d_LW_law_420 : decode code 420 = .ok (.iaload, 1) := by decide +kernel
theorem d_LW_law_421 : decode code 421 = .ok (.aload_n 3, 1) := by decide +kernel
theorem d_LW_law_422 : decode code 422 = .ok (.invokestatic 76, 3) := by decide +kernel
theorem d_LW_law_425 : decode code 425 = .ok (.istore 5, 2) := by decide +kernel
theorem d_LW_law_427 : decode code 427 = .ok (.aload_n 2, 1) := by decide +kernel
theorem d_LW_law_428 : decode code 428 = .ok (.aload_n 0, 1) := by decide +kernel
theorem d_LW_law_429 : decode code 429 = .ok (.iload 4, 2) := by decide +kernel
theorem d_LW_law_431 : decode code 431 = .ok (.iconst 1, 1) := by decide +kernel
theorem d_LW_law_432 : decode code 432 = .ok (.iadd, 1) := by decide +kernel
theorem d_LW_law_433 : decode code 433 = .ok (.iaload, 1) := by decide +kernel
theorem d_LW_law_434 : decode code 434 = .ok (.aload_n 0, 1) := by decide +kernel
theorem d_LW_law_435 : decode code 435 = .ok (.iload 4, 2) := by decide +kernel
theorem d_LW_law_437 : decode code 437 = .ok (.iconst 2, 1) := by decide +kernel
theorem d_LW_law_438 : decode code 438 = .ok (.iadd, 1) := by decide +kernel
theorem d_LW_law_439 : decode code 439 = .ok (.iaload, 1) := by decide +kernel
theorem d_LW_law_440 : decode code 440 = .ok (.aload_n 0, 1) := by decide +kernel
theorem d_LW_law_441 : decode code 441 = .ok (.iload 4, 2) := by decide +kernel
theorem d_LW_law_443 : decode code 443 = .ok (.iconst 3, 1) := by decide +kernel
theorem d_LW_law_444 : decode code 444 = .ok (.iadd, 1) := by decide +kernel
theorem d_LW_law_445 : decode code 445 = .ok (.iaload, 1) := by decide +kernel
theorem d_LW_law_446 : decode code 446 = .ok (.aload_n 0, 1) := by decide +kernel
theorem d_LW_law_447 : decode code 447 = .ok (.iload 4, 2) := by decide +kernel
