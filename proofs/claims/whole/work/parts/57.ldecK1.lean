theorem dK_268 : decode code 268 = .ok (.iaload, 1) := by decide +kernel
theorem dK_269 : decode code 269 = .ok (.aload_n 0, 1) := by decide +kernel
theorem dK_270 : decode code 270 = .ok (.iload 4, 2) := by decide +kernel
theorem dK_272 : decode code 272 = .ok (.iconst 5, 1) := by decide +kernel
theorem dK_273 : decode code 273 = .ok (.iadd, 1) := by decide +kernel
theorem dK_274 : decode code 274 = .ok (.iaload, 1) := by decide +kernel
theorem dK_275 : decode code 275 = .ok (.aload_n 0, 1) := by decide +kernel
theorem dK_276 : decode code 276 = .ok (.iload 4, 2) := by decide +kernel
theorem dK_278 : decode code 278 = .ok (.bipush 6, 2) := by decide +kernel
theorem dK_280 : decode code 280 = .ok (.iadd, 1) := by decide +kernel
theorem dK_281 : decode code 281 = .ok (.iaload, 1) := by decide +kernel
theorem dK_282 : decode code 282 = .ok (.invokevirtual 97, 3) := by decide +kernel
theorem dK_285 : decode code 285 = .ok (.istore 6, 2) := by decide +kernel
theorem dK_287 : decode code 287 = .ok (.aload_n 2, 1) := by decide +kernel
theorem dK_288 : decode code 288 = .ok (.invokevirtual 90, 3) := by decide +kernel
theorem dK_291 : decode code 291 = .ok (.iload 5, 2) := by decide +kernel
theorem dK_293 : decode code 293 = .ok (.if_icmp .eq 5, 3) := by decide +kernel
theorem dK_296 : decode code 296 = .ok (.iconst 0, 1) := by decide +kernel
theorem dK_297 : decode code 297 = .ok (.ireturn, 1) := by decide +kernel
theorem dK_298 : decode code 298 = .ok (.iload 5, 2) := by decide +kernel
theorem dK_300 : decode code 300 = .ok (.ifCond .ne 15, 3) := by decide +kernel
theorem dK_303 : decode code 303 = .ok (.aload_n 3, 1) := by decide +kernel
theorem dK_304 : decode code 304 = .ok (.iconst 0, 1) := by decide +kernel
theorem dK_305 : decode code 305 = .ok (.laload, 1) := by decide +kernel
theorem dK_306 : decode code 306 = .ok (.iload 6, 2) := by decide +kernel
theorem dK_308 : decode code 308 = .ok (.i2l, 1) := by decide +kernel
theorem dK_309 : decode code 309 = .ok (.lcmp, 1) := by decide +kernel
theorem dK_310 : decode code 310 = .ok (.ifCond .eq 5, 3) := by decide +kernel
theorem dK_313 : decode code 313 = .ok (.iconst 0, 1) := by decide +kernel
theorem dK_314 : decode code 314 = .ok (.ireturn, 1) := by decide +kernel
theorem dK_315 : decode code 315 = .ok (.goto 1043, 3) := by decide +kernel
theorem dK_318 : decode code 318 = .ok (.aload_n 1, 1) := by decide +kernel
theorem dK_319 : decode code 319 = .ok (.aload_n 0, 1) := by decide +kernel
theorem dK_320 : decode code 320 = .ok (.iload 4, 2) := by decide +kernel
theorem dK_322 : decode code 322 = .ok (.iconst 1, 1) := by decide +kernel
theorem dK_323 : decode code 323 = .ok (.iadd, 1) := by decide +kernel
theorem dK_324 : decode code 324 = .ok (.iaload, 1) := by decide +kernel
theorem dK_325 : decode code 325 = .ok (.aload_n 0, 1) := by decide +kernel
theorem dK_326 : decode code 326 = .ok (.iload 4, 2) := by decide +kernel
theorem dK_328 : decode code 328 = .ok (.iconst 2, 1) := by decide +kernel
theorem dK_329 : decode code 329 = .ok (.iadd, 1) := by decide +kernel
theorem dK_330 : decode code 330 = .ok (.iaload, 1) := by decide +kernel
theorem dK_331 : decode code 331 = .ok (.aload_n 0, 1) := by decide +kernel
theorem dK_332 : decode code 332 = .ok (.iload 4, 2) := by decide +kernel
theorem dK_334 : decode code 334 = .ok (.iconst 3, 1) := by decide +kernel
theorem dK_335 : decode code 335 = .ok (.iadd, 1) := by decide +kernel
theorem dK_336 : decode code 336 = .ok (.iaload, 1) := by decide +kernel
theorem dK_337 : decode code 337 = .ok (.aload_n 0, 1) := by decide +kernel
theorem dK_338 : decode code 338 = .ok (.iload 4, 2) := by decide +kernel
theorem dK_340 : decode code 340 = .ok (.iconst 4, 1) := by decide +kernel
theorem dK_341 : decode code 341 = .ok (.iadd, 1) := by decide +kernel
theorem dK_342 : decode code 342 = .ok (.iaload, 1) := by decide +kernel
theorem dK_343 : decode code 343 = .ok (.aload_n 3, 1) := by decide +kernel
theorem dK_344 : decode code 344 = .ok (.invokestatic 98, 3) := by decide +kernel
theorem dK_347 : decode code 347 = .ok (.istore 5, 2) := by decide +kernel
theorem dK_349 : decode code 349 = .ok (.aload_n 2, 1) := by decide +kernel
theorem dK_350 : decode code 350 = .ok (.aload_n 0, 1) := by decide +kernel
theorem dK_351 : decode code 351 = .ok (.iload 4, 2) := by decide +kernel
theorem dK_353 : decode code 353 = .ok (.iconst 1, 1) := by decide +kernel
theorem dK_354 : decode code 354 = .ok (.iadd, 1) := by decide +kernel
theorem dK_355 : decode code 355 = .ok (.iaload, 1) := by decide +kernel
theorem dK_356 : decode code 356 = .ok (.aload_n 0, 1) := by decide +kernel
theorem dK_357 : decode code 357 = .ok (.iload 4, 2) := by decide +kernel
theorem dK_359 : decode code 359 = .ok (.iconst 2, 1) := by decide +kernel
theorem dK_360 : decode code 360 = .ok (.iadd, 1) := by decide +kernel
theorem dK_361 : decode code 361 = .ok (.iaload, 1) := by decide +kernel
theorem dK_362 : decode code 362 = .ok (.aload_n 0, 1) := by decide +kernel
theorem dK_363 : decode code 363 = .ok (.iload 4, 2) := by decide +kernel
theorem dK_365 : decode code 365 = .ok (.iconst 3, 1) := by decide +kernel
theorem dK_366 : decode code 366 = .ok (.iadd, 1) := by decide +kernel
theorem dK_367 : decode code 367 = .ok (.iaload, 1) := by decide +kernel
theorem dK_368 : decode code 368 = .ok (.aload_n 0, 1) := by decide +kernel
theorem dK_369 : decode code 369 = .ok (.iload 4, 2) := by decide +kernel
theorem dK_371 : decode code 371 = .ok (.iconst 4, 1) := by decide +kernel
theorem dK_372 : decode code 372 = .ok (.iadd, 1) := by decide +kernel
theorem dK_373 : decode code 373 = .ok (.iaload, 1) := by decide +kernel
theorem dK_374 : decode code 374 = .ok (.invokevirtual 101, 3) := by decide +kernel
theorem dK_377 : decode code 377 = .ok (.istore 6, 2) := by decide +kernel
theorem dK_379 : decode code 379 = .ok (.aload_n 2, 1) := by decide +kernel
theorem dK_380 : decode code 380 = .ok (.invokevirtual 90, 3) := by decide +kernel
theorem dK_383 : decode code 383 = .ok (.iload 5, 2) := by decide +kernel
theorem dK_385 : decode code 385 = .ok (.if_icmp .eq 5, 3) := by decide +kernel
theorem dK_388 : decode code 388 = .ok (.iconst 0, 1) := by decide +kernel
theorem dK_389 : decode code 389 = .ok (.ireturn, 1) := by decide +kernel
theorem dK_390 : decode code 390 = .ok (.iload 5, 2) := by decide +kernel
theorem dK_392 : decode code 392 = .ok (.ifCond .ne 15, 3) := by decide +kernel
theorem dK_395 : decode code 395 = .ok (.aload_n 3, 1) := by decide +kernel
theorem dK_396 : decode code 396 = .ok (.iconst 0, 1) := by decide +kernel
theorem dK_397 : decode code 397 = .ok (.laload, 1) := by decide +kernel
theorem dK_398 : decode code 398 = .ok (.iload 6, 2) := by decide +kernel
theorem dK_400 : decode code 400 = .ok (.i2l, 1) := by decide +kernel
theorem dK_401 : decode code 401 = .ok (.lcmp, 1) := by decide +kernel
theorem dK_402 : decode code 402 = .ok (.ifCond .eq 5, 3) := by decide +kernel
theorem dK_405 : decode code 405 = .ok (.iconst 0, 1) := by decide +kernel
theorem dK_406 : decode code 406 = .ok (.ireturn, 1) := by decide +kernel
theorem dK_407 : decode code 407 = .ok (.goto 951, 3) := by decide +kernel
theorem dK_410 : decode code 410 = .ok (.aload_n 1, 1) := by decide +kernel
theorem dK_411 : decode code 411 = .ok (.aload_n 0, 1) := by decide +kernel
theorem dK_412 : decode code 412 = .ok (.iload 4, 2) := by decide +kernel
theorem dK_414 : decode code 414 = .ok (.iconst 1, 1) := by decide +kernel
theorem dK_415 : decode code 415 = .ok (.iadd, 1) := by decide +kernel
theorem dK_416 : decode code 416 = .ok (.iaload, 1) := by decide +kernel
theorem dK_417 : decode code 417 = .ok (.aload_n 0, 1) := by decide +kernel
theorem dK_418 : decode code 418 = .ok (.iload 4, 2) := by decide +kernel
theorem dK_420 : decode code 420 = .ok (.iconst 2, 1) := by decide +kernel
theorem dK_421 : decode code 421 = .ok (.iadd, 1) := by decide +kernel
theorem dK_422 : decode code 422 = .ok (.iaload, 1) := by decide +kernel
theorem dK_423 : decode code 423 = .ok (.ifCond .eq 7, 3) := by decide +kernel
theorem dK_426 : decode code 426 = .ok (.iconst 1, 1) := by decide +kernel
theorem dK_427 : decode code 427 = .ok (.goto 4, 3) := by decide +kernel
theorem dK_430 : decode code 430 = .ok (.iconst 0, 1) := by decide +kernel
theorem dK_431 : decode code 431 = .ok (.aload_n 0, 1) := by decide +kernel
theorem dK_432 : decode code 432 = .ok (.iload 4, 2) := by decide +kernel
theorem dK_434 : decode code 434 = .ok (.iconst 3, 1) := by decide +kernel
theorem dK_435 : decode code 435 = .ok (.iadd, 1) := by decide +kernel
theorem dK_436 : decode code 436 = .ok (.iaload, 1) := by decide +kernel
theorem dK_437 : decode code 437 = .ok (.aload_n 3, 1) := by decide +kernel
theorem dK_438 : decode code 438 = .ok (.invokestatic 102, 3) := by decide +kernel
theorem dK_441 : decode code 441 = .ok (.istore 5, 2) := by decide +kernel
theorem dK_443 : decode code 443 = .ok (.aload_n 2, 1) := by decide +kernel
