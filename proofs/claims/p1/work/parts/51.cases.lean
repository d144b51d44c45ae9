theorem dL_law_240 : decode cL_law 240 = .ok (.aload_n 1, 1) := by decide +kernel
theorem dL_law_241 : decode cL_law 241 = .ok (.aload_n 0, 1) := by decide +kernel
theorem dL_law_242 : decode cL_law 242 = .ok (.iload_n 3, 1) := by decide +kernel
theorem dL_law_243 : decode cL_law 243 = .ok (.iconst 1, 1) := by decide +kernel
theorem dL_law_244 : decode cL_law 244 = .ok (.iadd, 1) := by decide +kernel
theorem dL_law_245 : decode cL_law 245 = .ok (.iaload, 1) := by decide +kernel
theorem dL_law_246 : decode cL_law 246 = .ok (.aload_n 0, 1) := by decide +kernel
theorem dL_law_247 : decode cL_law 247 = .ok (.iload_n 3, 1) := by decide +kernel
theorem dL_law_248 : decode cL_law 248 = .ok (.iconst 2, 1) := by decide +kernel
theorem dL_law_249 : decode cL_law 249 = .ok (.iadd, 1) := by decide +kernel
theorem dL_law_250 : decode cL_law 250 = .ok (.iaload, 1) := by decide +kernel
theorem dL_law_251 : decode cL_law 251 = .ok (.aload_n 0, 1) := by decide +kernel
theorem dL_law_252 : decode cL_law 252 = .ok (.iload_n 3, 1) := by decide +kernel
theorem dL_law_253 : decode cL_law 253 = .ok (.iconst 3, 1) := by decide +kernel
theorem dL_law_254 : decode cL_law 254 = .ok (.iadd, 1) := by decide +kernel
theorem dL_law_255 : decode cL_law 255 = .ok (.iaload, 1) := by decide +kernel
theorem dL_law_256 : decode cL_law 256 = .ok (.aload_n 0, 1) := by decide +kernel
theorem dL_law_257 : decode cL_law 257 = .ok (.iload_n 3, 1) := by decide +kernel
theorem dL_law_258 : decode cL_law 258 = .ok (.iconst 4, 1) := by decide +kernel
theorem dL_law_259 : decode cL_law 259 = .ok (.iadd, 1) := by decide +kernel
theorem dL_law_260 : decode cL_law 260 = .ok (.iaload, 1) := by decide +kernel
theorem dL_law_261 : decode cL_law 261 = .ok (.aload_n 0, 1) := by decide +kernel
theorem dL_law_262 : decode cL_law 262 = .ok (.iload_n 3, 1) := by decide +kernel
theorem dL_law_263 : decode cL_law 263 = .ok (.iconst 5, 1) := by decide +kernel
theorem dL_law_264 : decode cL_law 264 = .ok (.iadd, 1) := by decide +kernel
theorem dL_law_265 : decode cL_law 265 = .ok (.iaload, 1) := by decide +kernel
theorem dL_law_266 : decode cL_law 266 = .ok (.invokevirtual 13, 3) := by decide +kernel
theorem dL_law_269 : decode cL_law 269 = .ok (.aload_n 2, 1) := by decide +kernel
theorem dL_law_270 : decode cL_law 270 = .ok (.aload_n 0, 1) := by decide +kernel
theorem dL_law_271 : decode cL_law 271 = .ok (.iload_n 3, 1) := by decide +kernel
theorem dL_law_272 : decode cL_law 272 = .ok (.iconst 1, 1) := by decide +kernel
theorem dL_law_273 : decode cL_law 273 = .ok (.iadd, 1) := by decide +kernel
theorem dL_law_274 : decode cL_law 274 = .ok (.iaload, 1) := by decide +kernel
theorem dL_law_275 : decode cL_law 275 = .ok (.aload_n 0, 1) := by decide +kernel
theorem dL_law_276 : decode cL_law 276 = .ok (.iload_n 3, 1) := by decide +kernel
theorem dL_law_277 : decode cL_law 277 = .ok (.iconst 2, 1) := by decide +kernel
theorem dL_law_278 : decode cL_law 278 = .ok (.iadd, 1) := by decide +kernel
theorem dL_law_279 : decode cL_law 279 = .ok (.iaload, 1) := by decide +kernel
theorem dL_law_280 : decode cL_law 280 = .ok (.aload_n 0, 1) := by decide +kernel
theorem dL_law_281 : decode cL_law 281 = .ok (.iload_n 3, 1) := by decide +kernel
theorem dL_law_282 : decode cL_law 282 = .ok (.iconst 3, 1) := by decide +kernel
theorem dL_law_283 : decode cL_law 283 = .ok (.iadd, 1) := by decide +kernel
theorem dL_law_284 : decode cL_law 284 = .ok (.iaload, 1) := by decide +kernel
theorem dL_law_285 : decode cL_law 285 = .ok (.aload_n 0, 1) := by decide +kernel
theorem dL_law_286 : decode cL_law 286 = .ok (.iload_n 3, 1) := by decide +kernel
theorem dL_law_287 : decode cL_law 287 = .ok (.iconst 4, 1) := by decide +kernel
theorem dL_law_288 : decode cL_law 288 = .ok (.iadd, 1) := by decide +kernel
theorem dL_law_289 : decode cL_law 289 = .ok (.iaload, 1) := by decide +kernel
theorem dL_law_290 : decode cL_law 290 = .ok (.aload_n 0, 1) := by decide +kernel
theorem dL_law_291 : decode cL_law 291 = .ok (.iload_n 3, 1) := by decide +kernel
theorem dL_law_292 : decode cL_law 292 = .ok (.iconst 5, 1) := by decide +kernel
theorem dL_law_293 : decode cL_law 293 = .ok (.iadd, 1) := by decide +kernel
theorem dL_law_294 : decode cL_law 294 = .ok (.iaload, 1) := by decide +kernel
theorem dL_law_295 : decode cL_law 295 = .ok (.invokevirtual 17, 3) := by decide +kernel
theorem dL_law_298 : decode cL_law 298 = .ok (.if_icmp .eq 1433, 3) := by decide +kernel
theorem dL_law_303 : decode cL_law 303 = .ok (.aload_n 1, 1) := by decide +kernel
theorem dL_law_304 : decode cL_law 304 = .ok (.aload_n 0, 1) := by decide +kernel
theorem dL_law_305 : decode cL_law 305 = .ok (.iload_n 3, 1) := by decide +kernel
theorem dL_law_306 : decode cL_law 306 = .ok (.iconst 1, 1) := by decide +kernel
theorem dL_law_307 : decode cL_law 307 = .ok (.iadd, 1) := by decide +kernel
theorem dL_law_308 : decode cL_law 308 = .ok (.iaload, 1) := by decide +kernel
theorem dL_law_309 : decode cL_law 309 = .ok (.invokevirtual 18, 3) := by decide +kernel
theorem dL_law_312 : decode cL_law 312 = .ok (.aload_n 2, 1) := by decide +kernel
theorem dL_law_313 : decode cL_law 313 = .ok (.aload_n 0, 1) := by decide +kernel
theorem dL_law_314 : decode cL_law 314 = .ok (.iload_n 3, 1) := by decide +kernel
theorem dL_law_315 : decode cL_law 315 = .ok (.iconst 1, 1) := by decide +kernel
theorem dL_law_316 : decode cL_law 316 = .ok (.iadd, 1) := by decide +kernel
theorem dL_law_317 : decode cL_law 317 = .ok (.iaload, 1) := by decide +kernel
theorem dL_law_318 : decode cL_law 318 = .ok (.invokevirtual 22, 3) := by decide +kernel
theorem dL_law_321 : decode cL_law 321 = .ok (.if_icmp .eq 1410, 3) := by decide +kernel
theorem dL_law_326 : decode cL_law 326 = .ok (.aload_n 1, 1) := by decide +kernel
theorem dL_law_327 : decode cL_law 327 = .ok (.invokevirtual 23, 3) := by decide +kernel
theorem dL_law_330 : decode cL_law 330 = .ok (.aload_n 2, 1) := by decide +kernel
theorem dL_law_331 : decode cL_law 331 = .ok (.invokevirtual 27, 3) := by decide +kernel
theorem dL_law_334 : decode cL_law 334 = .ok (.if_icmp .eq 1397, 3) := by decide +kernel
theorem dL_law_339 : decode cL_law 339 = .ok (.aload_n 1, 1) := by decide +kernel
theorem dL_law_340 : decode cL_law 340 = .ok (.invokevirtual 28, 3) := by decide +kernel
theorem dL_law_343 : decode cL_law 343 = .ok (.aload_n 2, 1) := by decide +kernel
theorem dL_law_344 : decode cL_law 344 = .ok (.invokevirtual 31, 3) := by decide +kernel
theorem dL_law_347 : decode cL_law 347 = .ok (.if_icmp .eq 1384, 3) := by decide +kernel
theorem dL_law_352 : decode cL_law 352 = .ok (.aload_n 1, 1) := by decide +kernel
theorem dL_law_353 : decode cL_law 353 = .ok (.aload_n 0, 1) := by decide +kernel
theorem dL_law_354 : decode cL_law 354 = .ok (.iload_n 3, 1) := by decide +kernel
theorem dL_law_355 : decode cL_law 355 = .ok (.iconst 1, 1) := by decide +kernel
theorem dL_law_356 : decode cL_law 356 = .ok (.iadd, 1) := by decide +kernel
theorem dL_law_357 : decode cL_law 357 = .ok (.iaload, 1) := by decide +kernel
theorem dL_law_358 : decode cL_law 358 = .ok (.invokevirtual 32, 3) := by decide +kernel
theorem dL_law_361 : decode cL_law 361 = .ok (.aload_n 2, 1) := by decide +kernel
theorem dL_law_362 : decode cL_law 362 = .ok (.aload_n 0, 1) := by decide +kernel
theorem dL_law_363 : decode cL_law 363 = .ok (.iload_n 3, 1) := by decide +kernel
theorem dL_law_364 : decode cL_law 364 = .ok (.iconst 1, 1) := by decide +kernel
theorem dL_law_365 : decode cL_law 365 = .ok (.iadd, 1) := by decide +kernel
theorem dL_law_366 : decode cL_law 366 = .ok (.iaload, 1) := by decide +kernel
theorem dL_law_367 : decode cL_law 367 = .ok (.invokevirtual 35, 3) := by decide +kernel
theorem dL_law_370 : decode cL_law 370 = .ok (.if_icmp .eq 1361, 3) := by decide +kernel
theorem dL_law_375 : decode cL_law 375 = .ok (.aload_n 1, 1) := by decide +kernel
theorem dL_law_376 : decode cL_law 376 = .ok (.aload_n 0, 1) := by decide +kernel
theorem dL_law_377 : decode cL_law 377 = .ok (.iload_n 3, 1) := by decide +kernel
theorem dL_law_378 : decode cL_law 378 = .ok (.iconst 1, 1) := by decide +kernel
theorem dL_law_379 : decode cL_law 379 = .ok (.iadd, 1) := by decide +kernel
theorem dL_law_380 : decode cL_law 380 = .ok (.iaload, 1) := by decide +kernel
theorem dL_law_381 : decode cL_law 381 = .ok (.aload_n 0, 1) := by decide +kernel
theorem dL_law_382 : decode cL_law 382 = .ok (.iload_n 3, 1) := by decide +kernel
theorem dL_law_383 : decode cL_law 383 = .ok (.iconst 2, 1) := by decide +kernel
theorem dL_law_384 : decode cL_law 384 = .ok (.iadd, 1) := by decide +kernel
theorem dL_law_385 : decode cL_law 385 = .ok (.iaload, 1) := by decide +kernel
theorem dL_law_386 : decode cL_law 386 = .ok (.invokevirtual 36, 3) := by decide +kernel
theorem dL_law_389 : decode cL_law 389 = .ok (.aload_n 2, 1) := by decide +kernel
theorem dL_law_390 : decode cL_law 390 = .ok (.aload_n 0, 1) := by decide +kernel
theorem dL_law_391 : decode cL_law 391 = .ok (.iload_n 3, 1) := by decide +kernel
theorem dL_law_392 : decode cL_law 392 = .ok (.iconst 1, 1) := by decide +kernel
theorem dL_law_393 : decode cL_law 393 = .ok (.iadd, 1) := by decide +kernel
theorem dL_law_394 : decode cL_law 394 = .ok (.iaload, 1) := by decide +kernel
theorem dL_law_395 : decode cL_law 395 = .ok (.aload_n 0, 1) := by decide +kernel
theorem dL_law_396 : decode cL_law 396 = .ok (.iload_n 3, 1) := by decide +kernel
theorem dL_law_397 : decode cL_law 397 = .ok (.iconst 2, 1) := by decide +kernel
theorem dL_law_398 : decode cL_law 398 = .ok (.iadd, 1) := by decide +kernel
theorem dL_law_399 : decode cL_law 399 = .ok (.iaload, 1) := by decide +kernel
theorem dL_law_400 : decode cL_law 400 = .ok (.invokevirtual 40, 3) := by decide +kernel
theorem dL_law_403 : decode cL_law 403 = .ok (.if_icmp .eq 1328, 3) := by decide +kernel
theorem dL_law_408 : decode cL_law 408 = .ok (.aload_n 1, 1) := by decide +kernel
theorem dL_law_409 : decode cL_law 409 = .ok (.aload_n 0, 1) := by decide +kernel
theorem dL_law_410 : decode cL_law 410 = .ok (.iload_n 3, 1) := by decide +kernel
theorem dL_law_411 : decode cL_law 411 = .ok (.iconst 1, 1) := by decide +kernel
theorem dL_law_412 : decode cL_law 412 = .ok (.iadd, 1) := by decide +kernel
theorem dL_law_413 : decode cL_law 413 = .ok (.iaload, 1) := by decide +kernel
theorem dL_law_414 : decode cL_law 414 = .ok (.aload_n 0, 1) := by decide +kernel
theorem dL_law_415 : decode cL_law 415 = .ok (.iload_n 3, 1) := by decide +kernel
theorem dL_law_416 : decode cL_law 416 = .ok (.iconst 2, 1) := by decide +kernel
theorem dL_law_417 : decode cL_law 417 = .ok (.iadd, 1) := by decide +kernel
theorem dL_law_418 : decode cL_law 418 = .ok (.iaload, 1) := by decide +kernel
theorem dL_law_419 : decode cL_law 419 = .ok (.invokevirtual 41, 3) := by decide +kernel
theorem dL_law_422 : decode cL_law 422 = .ok (.aload_n 2, 1) := by decide +kernel
theorem dL_law_423 : decode cL_law 423 = .ok (.aload_n 0, 1) := by decide +kernel
theorem dL_law_424 : decode cL_law 424 = .ok (.iload_n 3, 1) := by decide +kernel
theorem dL_law_425 : decode cL_law 425 = .ok (.iconst 1, 1) := by decide +kernel
theorem dL_law_426 : decode cL_law 426 = .ok (.iadd, 1) := by decide +kernel
theorem dL_law_427 : decode cL_law 427 = .ok (.iaload, 1) := by decide +kernel
theorem dL_law_428 : decode cL_law 428 = .ok (.aload_n 0, 1) := by decide +kernel
theorem dL_law_429 : decode cL_law 429 = .ok (.iload_n 3, 1) := by decide +kernel
theorem dL_law_430 : decode cL_law 430 = .ok (.iconst 2, 1) := by decide +kernel
theorem dL_law_431 : decode cL_law 431 = .ok (.iadd, 1) := by decide +kernel
theorem dL_law_432 : decode cL_law 432 = .ok (.iaload, 1) := by decide +kernel
theorem dL_law_433 : decode cL_law 433 = .ok (.invokevirtual 44, 3) := by decide +kernel
theorem dL_law_436 : decode cL_law 436 = .ok (.if_icmp .eq 1295, 3) := by decide +kernel
theorem dL_law_441 : decode cL_law 441 = .ok (.aload_n 1, 1) := by decide +kernel
theorem dL_law_442 : decode cL_law 442 = .ok (.aload_n 0, 1) := by decide +kernel
theorem dL_law_443 : decode cL_law 443 = .ok (.iload_n 3, 1) := by decide +kernel
theorem dL_law_444 : decode cL_law 444 = .ok (.iconst 1, 1) := by decide +kernel
theorem dL_law_445 : decode cL_law 445 = .ok (.iadd, 1) := by decide +kernel
theorem dL_law_446 : decode cL_law 446 = .ok (.iaload, 1) := by decide +kernel
theorem dL_law_447 : decode cL_law 447 = .ok (.invokevirtual 45, 3) := by decide +kernel
theorem dL_law_450 : decode cL_law 450 = .ok (.aload_n 2, 1) := by decide +kernel
theorem dL_law_451 : decode cL_law 451 = .ok (.aload_n 0, 1) := by decide +kernel
theorem dL_law_452 : decode cL_law 452 = .ok (.iload_n 3, 1) := by decide +kernel
theorem dL_law_453 : decode cL_law 453 = .ok (.iconst 1, 1) := by decide +kernel
theorem dL_law_454 : decode cL_law 454 = .ok (.iadd, 1) := by decide +kernel
theorem dL_law_455 : decode cL_law 455 = .ok (.iaload, 1) := by decide +kernel
theorem dL_law_456 : decode cL_law 456 = .ok (.invokevirtual 48, 3) := by decide +kernel
theorem dL_law_459 : decode cL_law 459 = .ok (.if_icmp .eq 1272, 3) := by decide +kernel
theorem dL_law_464 : decode cL_law 464 = .ok (.aload_n 1, 1) := by decide +kernel
theorem dL_law_465 : decode cL_law 465 = .ok (.aload_n 0, 1) := by decide +kernel
theorem dL_law_466 : decode cL_law 466 = .ok (.iload_n 3, 1) := by decide +kernel
theorem dL_law_467 : decode cL_law 467 = .ok (.iconst 1, 1) := by decide +kernel
theorem dL_law_468 : decode cL_law 468 = .ok (.iadd, 1) := by decide +kernel
theorem dL_law_469 : decode cL_law 469 = .ok (.iaload, 1) := by decide +kernel
theorem dL_law_470 : decode cL_law 470 = .ok (.invokevirtual 49, 3) := by decide +kernel
theorem dL_law_473 : decode cL_law 473 = .ok (.aload_n 2, 1) := by decide +kernel
theorem dL_law_474 : decode cL_law 474 = .ok (.aload_n 0, 1) := by decide +kernel
theorem dL_law_475 : decode cL_law 475 = .ok (.iload_n 3, 1) := by decide +kernel
theorem dL_law_476 : decode cL_law 476 = .ok (.iconst 1, 1) := by decide +kernel
theorem dL_law_477 : decode cL_law 477 = .ok (.iadd, 1) := by decide +kernel
theorem dL_law_478 : decode cL_law 478 = .ok (.iaload, 1) := by decide +kernel
theorem dL_law_479 : decode cL_law 479 = .ok (.invokevirtual 52, 3) := by decide +kernel
theorem dL_law_482 : decode cL_law 482 = .ok (.if_icmp .eq 1249, 3) := by decide +kernel
theorem dL_law_487 : decode cL_law 487 = .ok (.aload_n 1, 1) := by decide +kernel
theorem dL_law_488 : decode cL_law 488 = .ok (.aload_n 0, 1) := by decide +kernel
theorem dL_law_489 : decode cL_law 489 = .ok (.iload_n 3, 1) := by decide +kernel
theorem dL_law_490 : decode cL_law 490 = .ok (.iconst 1, 1) := by decide +kernel
theorem dL_law_491 : decode cL_law 491 = .ok (.iadd, 1) := by decide +kernel
theorem dL_law_492 : decode cL_law 492 = .ok (.iaload, 1) := by decide +kernel
theorem dL_law_493 : decode cL_law 493 = .ok (.aload_n 0, 1) := by decide +kernel
theorem dL_law_494 : decode cL_law 494 = .ok (.iload_n 3, 1) := by decide +kernel
theorem dL_law_495 : decode cL_law 495 = .ok (.iconst 2, 1) := by decide +kernel
theorem dL_law_496 : decode cL_law 496 = .ok (.iadd, 1) := by decide +kernel
theorem dL_law_497 : decode cL_law 497 = .ok (.iaload, 1) := by decide +kernel
theorem dL_law_498 : decode cL_law 498 = .ok (.invokevirtual 53, 3) := by decide +kernel
theorem dL_law_501 : decode cL_law 501 = .ok (.aload_n 2, 1) := by decide +kernel
theorem dL_law_502 : decode cL_law 502 = .ok (.aload_n 0, 1) := by decide +kernel
theorem dL_law_503 : decode cL_law 503 = .ok (.iload_n 3, 1) := by decide +kernel
theorem dL_law_504 : decode cL_law 504 = .ok (.iconst 1, 1) := by decide +kernel
theorem dL_law_505 : decode cL_law 505 = .ok (.iadd, 1) := by decide +kernel
theorem dL_law_506 : decode cL_law 506 = .ok (.iaload, 1) := by decide +kernel
theorem dL_law_507 : decode cL_law 507 = .ok (.aload_n 0, 1) := by decide +kernel
theorem dL_law_508 : decode cL_law 508 = .ok (.iload_n 3, 1) := by decide +kernel
theorem dL_law_509 : decode cL_law 509 = .ok (.iconst 2, 1) := by decide +kernel
theorem dL_law_510 : decode cL_law 510 = .ok (.iadd, 1) := by decide +kernel
theorem dL_law_511 : decode cL_law 511 = .ok (.iaload, 1) := by decide +kernel
theorem dL_law_512 : decode cL_law 512 = .ok (.invokevirtual 56, 3) := by decide +kernel
theorem dL_law_515 : decode cL_law 515 = .ok (.if_icmp .eq 1216, 3) := by decide +kernel
theorem dL_law_520 : decode cL_law 520 = .ok (.aload_n 1, 1) := by decide +kernel
theorem dL_law_521 : decode cL_law 521 = .ok (.aload_n 0, 1) := by decide +kernel
theorem dL_law_522 : decode cL_law 522 = .ok (.iload_n 3, 1) := by decide +kernel
theorem dL_law_523 : decode cL_law 523 = .ok (.iconst 1, 1) := by decide +kernel
theorem dL_law_524 : decode cL_law 524 = .ok (.iadd, 1) := by decide +kernel
theorem dL_law_525 : decode cL_law 525 = .ok (.iaload, 1) := by decide +kernel
theorem dL_law_526 : decode cL_law 526 = .ok (.invokevirtual 57, 3) := by decide +kernel
theorem dL_law_529 : decode cL_law 529 = .ok (.aload_n 2, 1) := by decide +kernel
theorem dL_law_530 : decode cL_law 530 = .ok (.aload_n 0, 1) := by decide +kernel
theorem dL_law_531 : decode cL_law 531 = .ok (.iload_n 3, 1) := by decide +kernel
theorem dL_law_532 : decode cL_law 532 = .ok (.iconst 1, 1) := by decide +kernel
theorem dL_law_533 : decode cL_law 533 = .ok (.iadd, 1) := by decide +kernel
theorem dL_law_534 : decode cL_law 534 = .ok (.iaload, 1) := by decide +kernel
theorem dL_law_535 : decode cL_law 535 = .ok (.invokevirtual 60, 3) := by decide +kernel
theorem dL_law_538 : decode cL_law 538 = .ok (.if_icmp .eq 1193, 3) := by decide +kernel
theorem dL_law_543 : decode cL_law 543 = .ok (.aload_n 1, 1) := by decide +kernel
theorem dL_law_544 : decode cL_law 544 = .ok (.aload_n 0, 1) := by decide +kernel
theorem dL_law_545 : decode cL_law 545 = .ok (.iload_n 3, 1) := by decide +kernel
theorem dL_law_546 : decode cL_law 546 = .ok (.iconst 1, 1) := by decide +kernel
theorem dL_law_547 : decode cL_law 547 = .ok (.iadd, 1) := by decide +kernel
theorem dL_law_548 : decode cL_law 548 = .ok (.iaload, 1) := by decide +kernel
theorem dL_law_549 : decode cL_law 549 = .ok (.aload_n 0, 1) := by decide +kernel
theorem dL_law_550 : decode cL_law 550 = .ok (.iload_n 3, 1) := by decide +kernel
theorem dL_law_551 : decode cL_law 551 = .ok (.iconst 2, 1) := by decide +kernel
theorem dL_law_552 : decode cL_law 552 = .ok (.iadd, 1) := by decide +kernel
theorem dL_law_553 : decode cL_law 553 = .ok (.iaload, 1) := by decide +kernel
theorem dL_law_554 : decode cL_law 554 = .ok (.invokevirtual 61, 3) := by decide +kernel
theorem dL_law_557 : decode cL_law 557 = .ok (.aload_n 2, 1) := by decide +kernel
theorem dL_law_558 : decode cL_law 558 = .ok (.aload_n 0, 1) := by decide +kernel
theorem dL_law_559 : decode cL_law 559 = .ok (.iload_n 3, 1) := by decide +kernel
theorem dL_law_560 : decode cL_law 560 = .ok (.iconst 1, 1) := by decide +kernel
theorem dL_law_561 : decode cL_law 561 = .ok (.iadd, 1) := by decide +kernel
theorem dL_law_562 : decode cL_law 562 = .ok (.iaload, 1) := by decide +kernel
theorem dL_law_563 : decode cL_law 563 = .ok (.aload_n 0, 1) := by decide +kernel
theorem dL_law_564 : decode cL_law 564 = .ok (.iload_n 3, 1) := by decide +kernel
theorem dL_law_565 : decode cL_law 565 = .ok (.iconst 2, 1) := by decide +kernel
theorem dL_law_566 : decode cL_law 566 = .ok (.iadd, 1) := by decide +kernel
theorem dL_law_567 : decode cL_law 567 = .ok (.iaload, 1) := by decide +kernel
theorem dL_law_568 : decode cL_law 568 = .ok (.invokevirtual 64, 3) := by decide +kernel
theorem dL_law_571 : decode cL_law 571 = .ok (.if_icmp .eq 1160, 3) := by decide +kernel
set_option maxHeartbeats 4000000 in
set_option maxRecDepth 100000 in
/-- the call of feed on two fresh objects -/
theorem lcase_0 {p : Program} {l : Launch} {e : Env} {s : State} {m : MethodId} {below : List Frame} {meth : Method} {c : Code} {b : Nat} {xs : Nat → Int32} {dC : Nat → ClassId} {dI : Nat → Nat → Nat} {cI cZ cB cJ cM : ClassId} (x0 y0 : Nat) (u v : Nat → Nat) {H : Heap} {locs : List Loc} {ls : Array Slot} (C0 : lw_At p s m meth c b 6 xs) (hK : va_K (dC, dI) vwCl [(cI, .int), (cZ, .boolean), (cB, .byte), (cJ, .long), (cM, .object RX2)] s) (hP : va_P (dC, dI) vwCl [(x0, .inr (11, [.ref (u 0), .ref (u 2), .ref (u 3), .ref (u 4), .ref (u 5), .ref (u 10), .ref (u 11), .ref (u 12), .ref (u 98), .ref (u 124)])), (u 0, .inr (10, [.ref (u 1), .int 0, .int 0, .int (-1), .int 0, .int 0, .int 0, .int 0])), (u 1, .inl (cB, 1600, .inl (fun _ => 0))), (y0, .inr (12, [.int 0, .ref (v 1), .ref (v 2), .ref (v 3), .ref (v 4), .int 0, .ref (v 6), .int 0, .int 0, .int 0, .int 0, .int 0, .int 0, .int (-1), .ref (v 14), .ref (v 15), .ref (v 16), .ref (v 17), .ref (v 18), .ref (v 19), .ref (v 20), .int 0, .ref (v 22), .int 0, .ref (v 24), .ref (v 25), .int 0, .ref (v 27), .ref (v 28), .ref (v 29), .ref (v 30), .int 0, .int 0, .int 0, .int 0, .int 0, .ref (v 36), .long 0, .ref (v 38), .ref (v 39), .ref (v 40), .ref (v 41)])), (v 4, .inl (cB, 1600, .inl (fun _ => 0))), (v 6, .inl (cI, 5, .inl (fun _ => 0)))] H) (hD : va_D (fun q : Nat => s.heap.size ≤ q) [(x0, .inr (11, [.ref (u 0), .ref (u 2), .ref (u 3), .ref (u 4), .ref (u 5), .ref (u 10), .ref (u 11), .ref (u 12), .ref (u 98), .ref (u 124)])), (u 0, .inr (10, [.ref (u 1), .int 0, .int 0, .int (-1), .int 0, .int 0, .int 0, .int 0])), (u 1, .inl (cB, 1600, .inl (fun _ => 0))), (y0, .inr (12, [.int 0, .ref (v 1), .ref (v 2), .ref (v 3), .ref (v 4), .int 0, .ref (v 6), .int 0, .int 0, .int 0, .int 0, .int 0, .int 0, .int (-1), .ref (v 14), .ref (v 15), .ref (v 16), .ref (v 17), .ref (v 18), .ref (v 19), .ref (v 20), .int 0, .ref (v 22), .int 0, .ref (v 24), .ref (v 25), .int 0, .ref (v 27), .ref (v 28), .ref (v 29), .ref (v 30), .int 0, .int 0, .int 0, .int 0, .int 0, .ref (v 36), .long 0, .ref (v 38), .ref (v 39), .ref (v 40), .ref (v 41)])), (v 4, .inl (cB, 1600, .inl (fun _ => 0))), (v 6, .inl (cI, 5, .inl (fun _ => 0)))]) (hS : va_S (fun q : Nat => s.heap.size ≤ q) s.heap H locs) (hl : lv_has ls 4 [(3, .int 0), (2, .ref y0), (1, .ref x0), (0, .ref b)]) : W p l e room_1 s m #[Value.ref b] below meth c H locs 600000 7302250 (lw_Z below #[Value.ref b] s) (F0 m 240 ls []) := by
  obtain ⟨hx, hb, hr, hml, hown0, hts, hX, hbl, hlocks, hgv⟩ := id C0
  have hb : c.code = cL_law := hb
  have hown : s.vm.findClass RL = some m.cls := hown0
  have hwd : ∀ wd ∈ wsL_law, wd.before #[Value.ref b] s = true := fun w h => hts w (wsL_law_in w h)
  have hA : ∀ q : Nat, s.heap.size ≤ q → (fun q : Nat => s.heap.size ≤ q) q := fun _ h => h
  have hbA : ¬ (fun q : Nat => s.heap.size ≤ q) b := Nat.not_le.mpr hbl
  refine lv_aload_n hx hb dL_law_240 rfl (lv_at hl 2 rfl) ?_
  refine lv_aload_n hx hb dL_law_241 rfl (lv_at hl 3 rfl) ?_
  refine lv_iload_n hx hb dL_law_242 rfl (lv_at hl 0 rfl) ?_
  refine lv_iconst (v := 1) hx hb dL_law_243 (by decide) ?_
  refine lv_iadd hx hb dL_law_244 ?_
  refine lv_topi (nm_r (e' := (1)) (by decide +kernel) ?_)
  refine va_sld hx hb hX hbl hbA hS (vin (by decide)) dL_law_245 ?_
  refine lv_aload_n hx hb dL_law_246 rfl (lv_at hl 3 rfl) ?_
  refine lv_iload_n hx hb dL_law_247 rfl (lv_at hl 0 rfl) ?_
  refine lv_iconst (v := 2) hx hb dL_law_248 (by decide) ?_
  refine lv_iadd hx hb dL_law_249 ?_
  refine lv_topi (nm_r (e' := (2)) (by decide +kernel) ?_)
  refine va_sld hx hb hX hbl hbA hS (vin (by decide)) dL_law_250 ?_
  refine lv_aload_n hx hb dL_law_251 rfl (lv_at hl 3 rfl) ?_
  refine lv_iload_n hx hb dL_law_252 rfl (lv_at hl 0 rfl) ?_
  refine lv_iconst (v := 3) hx hb dL_law_253 (by decide) ?_
  refine lv_iadd hx hb dL_law_254 ?_
  refine lv_topi (nm_r (e' := (3)) (by decide +kernel) ?_)
  refine va_sld hx hb hX hbl hbA hS (vin (by decide)) dL_law_255 ?_
  refine lv_aload_n hx hb dL_law_256 rfl (lv_at hl 3 rfl) ?_
  refine lv_iload_n hx hb dL_law_257 rfl (lv_at hl 0 rfl) ?_
  refine lv_iconst (v := 4) hx hb dL_law_258 (by decide) ?_
  refine lv_iadd hx hb dL_law_259 ?_
  refine lv_topi (nm_r (e' := (4)) (by decide +kernel) ?_)
  refine va_sld hx hb hX hbl hbA hS (vin (by decide)) dL_law_260 ?_
  refine lv_aload_n hx hb dL_law_261 rfl (lv_at hl 3 rfl) ?_
  refine lv_iload_n hx hb dL_law_262 rfl (lv_at hl 0 rfl) ?_
  refine lv_iconst (v := 5) hx hb dL_law_263 (by decide) ?_
  refine lv_iadd hx hb dL_law_264 ?_
  refine lv_topi (nm_r (e' := (5)) (by decide +kernel) ?_)
  refine va_sld hx hb hX hbl hbA hS (vin (by decide)) dL_law_265 ?_
  have hPc := hP.sub (ws' := [(x0, .inr (11, [.ref (u 0), .ref (u 2), .ref (u 3), .ref (u 4), .ref (u 5), .ref (u 10), .ref (u 11), .ref (u 12), .ref (u 98), .ref (u 124)])), (u 0, .inr (10, [.ref (u 1), .int 0, .int 0, .int (-1), .int 0, .int 0, .int 0, .int 0])), (u 1, .inl (cB, 1600, .inl (fun _ => 0)))]) [0, 1, 2] rfl
  have hDc := hD.sub (ws' := [(x0, .inr (11, [.ref (u 0), .ref (u 2), .ref (u 3), .ref (u 4), .ref (u 5), .ref (u 10), .ref (u 11), .ref (u 12), .ref (u 98), .ref (u 124)])), (u 0, .inr (10, [.ref (u 1), .int 0, .int 0, .int (-1), .int 0, .int 0, .int 0, .int 0])), (u 1, .inl (cB, 1600, .inl (fun _ => 0)))]) [0, 1, 2] (by decide) rfl
  have hFc := va_free (wc := [(x0, .inr (11, [.ref (u 0), .ref (u 2), .ref (u 3), .ref (u 4), .ref (u 5), .ref (u 10), .ref (u 11), .ref (u 12), .ref (u 98), .ref (u 124)])), (u 0, .inr (10, [.ref (u 1), .int 0, .int 0, .int (-1), .int 0, .int 0, .int 0, .int 0])), (u 1, .inl (cB, 1600, .inl (fun _ => 0)))]) hD hS hA [0, 1, 2] rfl
  refine va_calli (va_runV (As := [.int (xs (1 : Int32).toNatClampNeg), .int (xs (2 : Int32).toNatClampNeg), .int (xs (3 : Int32).toNatClampNeg), .int (xs (4 : Int32).toNatClampNeg), .int (xs (5 : Int32).toNatClampNeg)]) (rest := []) ⟨hx, hb, hml, hown, hwd⟩ (c_X11_feed l dC dI cI cZ cB cJ cM x0 (u 0) (u 2) (u 3) (u 4) (u 5) (u 10) (u 11) (u 12) (u 98) (u 124) (u 1) (xs (1 : Int32).toNatClampNeg) (xs (2 : Int32).toNatClampNeg) (xs (3 : Int32).toNatClampNeg) (xs (4 : Int32).toNatClampNeg) (xs (5 : Int32).toNatClampNeg) H.size) (cwV 5 hwd (gV kr8_7 kr8_8 kr8_9 kr1_2 kr8_10) rfl rfl rfl (by decide +kernel) ⟨Nat.le_of_ble_eq_true rfl, Nat.le_of_ble_eq_true rfl⟩) (kPreV hPc hK hDc (ci := 11) (q0 := 0) rfl rfl) rfl rfl hl.1 rfl (lv_room (Nat.le_of_ble_eq_true rfl)) dL_law_266 ⟨Nat.le_of_ble_eq_true rfl, Nat.le_of_ble_eq_true rfl⟩) hS (fun q _ h => hFc q h) hFc (fun r1 u2 t H1 locs ht9 hvm hw hB hz1 hk1 hS => ?_)
  obtain ⟨hP, hD⟩ := va_join (wr := [(y0, .inr (12, [.int 0, .ref (v 1), .ref (v 2), .ref (v 3), .ref (v 4), .int 0, .ref (v 6), .int 0, .int 0, .int 0, .int 0, .int 0, .int 0, .int (-1), .ref (v 14), .ref (v 15), .ref (v 16), .ref (v 17), .ref (v 18), .ref (v 19), .ref (v 20), .int 0, .ref (v 22), .int 0, .ref (v 24), .ref (v 25), .int 0, .ref (v 27), .ref (v 28), .ref (v 29), .ref (v 30), .int 0, .int 0, .int 0, .int 0, .int 0, .ref (v 36), .long 0, .ref (v 38), .ref (v 39), .ref (v 40), .ref (v 41)])), (v 4, .inl (cB, 1600, .inl (fun _ => 0))), (v 6, .inl (cI, 5, .inl (fun _ => 0)))]) (w1 := []) hP hD [0, 1, 2] [3, 4, 5] rfl rfl (by decide) (by decide) hk1 hFc kP0 kD0
  generalize H1 = H at hP hS ⊢
  have hP : va_P (dC, dI) vwCl [(y0, .inr (12, [.int 0, .ref (v 1), .ref (v 2), .ref (v 3), .ref (v 4), .int 0, .ref (v 6), .int 0, .int 0, .int 0, .int 0, .int 0, .int 0, .int (-1), .ref (v 14), .ref (v 15), .ref (v 16), .ref (v 17), .ref (v 18), .ref (v 19), .ref (v 20), .int 0, .ref (v 22), .int 0, .ref (v 24), .ref (v 25), .int 0, .ref (v 27), .ref (v 28), .ref (v 29), .ref (v 30), .int 0, .int 0, .int 0, .int 0, .int 0, .ref (v 36), .long 0, .ref (v 38), .ref (v 39), .ref (v 40), .ref (v 41)])), (v 4, .inl (cB, 1600, .inl (fun _ => 0))), (v 6, .inl (cI, 5, .inl (fun _ => 0)))] H := hP
  have hD : va_D (fun q : Nat => s.heap.size ≤ q) [(y0, .inr (12, [.int 0, .ref (v 1), .ref (v 2), .ref (v 3), .ref (v 4), .int 0, .ref (v 6), .int 0, .int 0, .int 0, .int 0, .int 0, .int 0, .int (-1), .ref (v 14), .ref (v 15), .ref (v 16), .ref (v 17), .ref (v 18), .ref (v 19), .ref (v 20), .int 0, .ref (v 22), .int 0, .ref (v 24), .ref (v 25), .int 0, .ref (v 27), .ref (v 28), .ref (v 29), .ref (v 30), .int 0, .int 0, .int 0, .int 0, .int 0, .ref (v 36), .long 0, .ref (v 38), .ref (v 39), .ref (v 40), .ref (v 41)])), (v 4, .inl (cB, 1600, .inl (fun _ => 0))), (v 6, .inl (cI, 5, .inl (fun _ => 0)))] := hD
  subst hw
  refine lv_aload_n hx hb dL_law_269 rfl (lv_at hl 1 rfl) ?_
  refine lv_aload_n hx hb dL_law_270 rfl (lv_at hl 3 rfl) ?_
  refine lv_iload_n hx hb dL_law_271 rfl (lv_at hl 0 rfl) ?_
  refine lv_iconst (v := 1) hx hb dL_law_272 (by decide) ?_
  refine lv_iadd hx hb dL_law_273 ?_
  refine lv_topi (nm_r (e' := (1)) (by decide +kernel) ?_)
  refine va_sld hx hb hX hbl hbA hS (vin (by decide)) dL_law_274 ?_
  refine lv_aload_n hx hb dL_law_275 rfl (lv_at hl 3 rfl) ?_
  refine lv_iload_n hx hb dL_law_276 rfl (lv_at hl 0 rfl) ?_
  refine lv_iconst (v := 2) hx hb dL_law_277 (by decide) ?_
  refine lv_iadd hx hb dL_law_278 ?_
  refine lv_topi (nm_r (e' := (2)) (by decide +kernel) ?_)
  refine va_sld hx hb hX hbl hbA hS (vin (by decide)) dL_law_279 ?_
  refine lv_aload_n hx hb dL_law_280 rfl (lv_at hl 3 rfl) ?_
  refine lv_iload_n hx hb dL_law_281 rfl (lv_at hl 0 rfl) ?_
  refine lv_iconst (v := 3) hx hb dL_law_282 (by decide) ?_
  refine lv_iadd hx hb dL_law_283 ?_
  refine lv_topi (nm_r (e' := (3)) (by decide +kernel) ?_)
  refine va_sld hx hb hX hbl hbA hS (vin (by decide)) dL_law_284 ?_
  refine lv_aload_n hx hb dL_law_285 rfl (lv_at hl 3 rfl) ?_
  refine lv_iload_n hx hb dL_law_286 rfl (lv_at hl 0 rfl) ?_
  refine lv_iconst (v := 4) hx hb dL_law_287 (by decide) ?_
  refine lv_iadd hx hb dL_law_288 ?_
  refine lv_topi (nm_r (e' := (4)) (by decide +kernel) ?_)
  refine va_sld hx hb hX hbl hbA hS (vin (by decide)) dL_law_289 ?_
  refine lv_aload_n hx hb dL_law_290 rfl (lv_at hl 3 rfl) ?_
  refine lv_iload_n hx hb dL_law_291 rfl (lv_at hl 0 rfl) ?_
  refine lv_iconst (v := 5) hx hb dL_law_292 (by decide) ?_
  refine lv_iadd hx hb dL_law_293 ?_
  refine lv_topi (nm_r (e' := (5)) (by decide +kernel) ?_)
  refine va_sld hx hb hX hbl hbA hS (vin (by decide)) dL_law_294 ?_
  have hPc := hP.sub (ws' := [(y0, .inr (12, [.int 0, .ref (v 1), .ref (v 2), .ref (v 3), .ref (v 4), .int 0, .ref (v 6), .int 0, .int 0, .int 0, .int 0, .int 0, .int 0, .int (-1), .ref (v 14), .ref (v 15), .ref (v 16), .ref (v 17), .ref (v 18), .ref (v 19), .ref (v 20), .int 0, .ref (v 22), .int 0, .ref (v 24), .ref (v 25), .int 0, .ref (v 27), .ref (v 28), .ref (v 29), .ref (v 30), .int 0, .int 0, .int 0, .int 0, .int 0, .ref (v 36), .long 0, .ref (v 38), .ref (v 39), .ref (v 40), .ref (v 41)])), (v 4, .inl (cB, 1600, .inl (fun _ => 0))), (v 6, .inl (cI, 5, .inl (fun _ => 0)))]) [0, 1, 2] rfl
  have hDc := hD.sub (ws' := [(y0, .inr (12, [.int 0, .ref (v 1), .ref (v 2), .ref (v 3), .ref (v 4), .int 0, .ref (v 6), .int 0, .int 0, .int 0, .int 0, .int 0, .int 0, .int (-1), .ref (v 14), .ref (v 15), .ref (v 16), .ref (v 17), .ref (v 18), .ref (v 19), .ref (v 20), .int 0, .ref (v 22), .int 0, .ref (v 24), .ref (v 25), .int 0, .ref (v 27), .ref (v 28), .ref (v 29), .ref (v 30), .int 0, .int 0, .int 0, .int 0, .int 0, .ref (v 36), .long 0, .ref (v 38), .ref (v 39), .ref (v 40), .ref (v 41)])), (v 4, .inl (cB, 1600, .inl (fun _ => 0))), (v 6, .inl (cI, 5, .inl (fun _ => 0)))]) [0, 1, 2] (by decide) rfl
  have hFc := va_free (wc := [(y0, .inr (12, [.int 0, .ref (v 1), .ref (v 2), .ref (v 3), .ref (v 4), .int 0, .ref (v 6), .int 0, .int 0, .int 0, .int 0, .int 0, .int 0, .int (-1), .ref (v 14), .ref (v 15), .ref (v 16), .ref (v 17), .ref (v 18), .ref (v 19), .ref (v 20), .int 0, .ref (v 22), .int 0, .ref (v 24), .ref (v 25), .int 0, .ref (v 27), .ref (v 28), .ref (v 29), .ref (v 30), .int 0, .int 0, .int 0, .int 0, .int 0, .ref (v 36), .long 0, .ref (v 38), .ref (v 39), .ref (v 40), .ref (v 41)])), (v 4, .inl (cB, 1600, .inl (fun _ => 0))), (v 6, .inl (cI, 5, .inl (fun _ => 0)))]) hD hS hA [0, 1, 2] rfl
  refine va_calli (va_runV (As := [.int (xs (1 : Int32).toNatClampNeg), .int (xs (2 : Int32).toNatClampNeg), .int (xs (3 : Int32).toNatClampNeg), .int (xs (4 : Int32).toNatClampNeg), .int (xs (5 : Int32).toNatClampNeg)]) (rest := [.int 20]) ⟨hx, hb, hml, hown, hwd⟩ (c_X12_feed l dC dI cI cZ cB cJ cM y0 v (xs (1 : Int32).toNatClampNeg) (xs (2 : Int32).toNatClampNeg) (xs (3 : Int32).toNatClampNeg) (xs (4 : Int32).toNatClampNeg) (xs (5 : Int32).toNatClampNeg) H.size) (cwV 5 hwd (gV kr8_21 kr8_22 kr8_23 kr1_5 kr9_0) rfl rfl rfl (by decide +kernel) ⟨Nat.le_of_ble_eq_true rfl, Nat.le_of_ble_eq_true rfl⟩) (kPreV hPc hK hDc (ci := 12) (q0 := 0) rfl rfl) rfl rfl hl.1 rfl (lv_room (Nat.le_of_ble_eq_true rfl)) dL_law_295 ⟨Nat.le_of_ble_eq_true rfl, Nat.le_of_ble_eq_true rfl⟩) hS (fun q _ h => hFc q h) hFc (fun r3 u4 t H1 locs ht9 hvm hw hB hz1 hk1 hS => ?_)
  obtain ⟨hP, hD⟩ := va_join (wr := []) (w1 := []) hP hD [0, 1, 2] [] rfl rfl (by decide) (by decide) hk1 hFc kP0 kD0
  generalize H1 = H at hP hS ⊢
  have hP : va_P (dC, dI) vwCl [] H := hP
  have hD : va_D (fun q : Nat => s.heap.size ≤ q) [] := hD
  subst hw
  refine lv_icmp_eq (tgt := 1731) hx hb dL_law_298 (by decide) (fun c5 => ?_) (fun c5 => absurd c5 (by decide))
  exact law_tail C0 hS (lv_sub hl [3, 0] rfl)
set_option maxHeartbeats 4000000 in
set_option maxRecDepth 100000 in
/-- the call of end on two fresh objects -/
theorem lcase_1 {p : Program} {l : Launch} {e : Env} {s : State} {m : MethodId} {below : List Frame} {meth : Method} {c : Code} {b : Nat} {xs : Nat → Int32} {dC : Nat → ClassId} {dI : Nat → Nat → Nat} {cI cZ cB cJ cM : ClassId} (x0 y0 : Nat) (u v : Nat → Nat) {H : Heap} {locs : List Loc} {ls : Array Slot} (C0 : lw_At p s m meth c b 6 xs) (hK : va_K (dC, dI) vwCl [(cI, .int), (cZ, .boolean), (cB, .byte), (cJ, .long), (cM, .object RX2)] s) (hP : va_P (dC, dI) vwCl [(x0, .inr (11, [.ref (u 0), .ref (u 2), .ref (u 3), .ref (u 4), .ref (u 5), .ref (u 10), .ref (u 11), .ref (u 12), .ref (u 98), .ref (u 124)])), (u 0, .inr (10, [.ref (u 1), .int 0, .int 0, .int (-1), .int 0, .int 0, .int 0, .int 0])), (y0, .inr (12, [.int 0, .ref (v 1), .ref (v 2), .ref (v 3), .ref (v 4), .int 0, .ref (v 6), .int 0, .int 0, .int 0, .int 0, .int 0, .int 0, .int (-1), .ref (v 14), .ref (v 15), .ref (v 16), .ref (v 17), .ref (v 18), .ref (v 19), .ref (v 20), .int 0, .ref (v 22), .int 0, .ref (v 24), .ref (v 25), .int 0, .ref (v 27), .ref (v 28), .ref (v 29), .ref (v 30), .int 0, .int 0, .int 0, .int 0, .int 0, .ref (v 36), .long 0, .ref (v 38), .ref (v 39), .ref (v 40), .ref (v 41)]))] H) (hD : va_D (fun q : Nat => s.heap.size ≤ q) [(x0, .inr (11, [.ref (u 0), .ref (u 2), .ref (u 3), .ref (u 4), .ref (u 5), .ref (u 10), .ref (u 11), .ref (u 12), .ref (u 98), .ref (u 124)])), (u 0, .inr (10, [.ref (u 1), .int 0, .int 0, .int (-1), .int 0, .int 0, .int 0, .int 0])), (y0, .inr (12, [.int 0, .ref (v 1), .ref (v 2), .ref (v 3), .ref (v 4), .int 0, .ref (v 6), .int 0, .int 0, .int 0, .int 0, .int 0, .int 0, .int (-1), .ref (v 14), .ref (v 15), .ref (v 16), .ref (v 17), .ref (v 18), .ref (v 19), .ref (v 20), .int 0, .ref (v 22), .int 0, .ref (v 24), .ref (v 25), .int 0, .ref (v 27), .ref (v 28), .ref (v 29), .ref (v 30), .int 0, .int 0, .int 0, .int 0, .int 0, .ref (v 36), .long 0, .ref (v 38), .ref (v 39), .ref (v 40), .ref (v 41)]))]) (hS : va_S (fun q : Nat => s.heap.size ≤ q) s.heap H locs) (hl : lv_has ls 4 [(3, .int 0), (2, .ref y0), (1, .ref x0), (0, .ref b)]) : W p l e room_1 s m #[Value.ref b] below meth c H locs 600000 7302250 (lw_Z below #[Value.ref b] s) (F0 m 303 ls []) := by
  obtain ⟨hx, hb, hr, hml, hown0, hts, hX, hbl, hlocks, hgv⟩ := id C0
  have hb : c.code = cL_law := hb
  have hown : s.vm.findClass RL = some m.cls := hown0
  have hwd : ∀ wd ∈ wsL_law, wd.before #[Value.ref b] s = true := fun w h => hts w (wsL_law_in w h)
  have hA : ∀ q : Nat, s.heap.size ≤ q → (fun q : Nat => s.heap.size ≤ q) q := fun _ h => h
  have hbA : ¬ (fun q : Nat => s.heap.size ≤ q) b := Nat.not_le.mpr hbl
  refine lv_aload_n hx hb dL_law_303 rfl (lv_at hl 2 rfl) ?_
  refine lv_aload_n hx hb dL_law_304 rfl (lv_at hl 3 rfl) ?_
  refine lv_iload_n hx hb dL_law_305 rfl (lv_at hl 0 rfl) ?_
  refine lv_iconst (v := 1) hx hb dL_law_306 (by decide) ?_
  refine lv_iadd hx hb dL_law_307 ?_
  refine lv_topi (nm_r (e' := (1)) (by decide +kernel) ?_)
  refine va_sld hx hb hX hbl hbA hS (vin (by decide)) dL_law_308 ?_
  have hPc := hP.sub (ws' := [(x0, .inr (11, [.ref (u 0), .ref (u 2), .ref (u 3), .ref (u 4), .ref (u 5), .ref (u 10), .ref (u 11), .ref (u 12), .ref (u 98), .ref (u 124)])), (u 0, .inr (10, [.ref (u 1), .int 0, .int 0, .int (-1), .int 0, .int 0, .int 0, .int 0]))]) [0, 1] rfl
  have hDc := hD.sub (ws' := [(x0, .inr (11, [.ref (u 0), .ref (u 2), .ref (u 3), .ref (u 4), .ref (u 5), .ref (u 10), .ref (u 11), .ref (u 12), .ref (u 98), .ref (u 124)])), (u 0, .inr (10, [.ref (u 1), .int 0, .int 0, .int (-1), .int 0, .int 0, .int 0, .int 0]))]) [0, 1] (by decide) rfl
  have hFc := va_free (wc := [(x0, .inr (11, [.ref (u 0), .ref (u 2), .ref (u 3), .ref (u 4), .ref (u 5), .ref (u 10), .ref (u 11), .ref (u 12), .ref (u 98), .ref (u 124)])), (u 0, .inr (10, [.ref (u 1), .int 0, .int 0, .int (-1), .int 0, .int 0, .int 0, .int 0]))]) hD hS hA [0, 1] rfl
  refine va_calli (va_runV (As := [.int (xs (1 : Int32).toNatClampNeg)]) (rest := []) ⟨hx, hb, hml, hown, hwd⟩ (c_X11_end l dC dI cI cZ cB cJ cM x0 (u 0) (u 2) (u 3) (u 4) (u 5) (u 10) (u 11) (u 12) (u 98) (u 124) (u 1) (xs (1 : Int32).toNatClampNeg) H.size) (cwV 1 hwd (gV kr9_2 kr9_3 kr9_4 kr1_2 kr9_5) rfl rfl rfl (by decide +kernel) ⟨Nat.le_of_ble_eq_true rfl, Nat.le_of_ble_eq_true rfl⟩) (kPreV hPc hK hDc (ci := 11) (q0 := 0) rfl rfl) rfl rfl hl.1 rfl (lv_room (Nat.le_of_ble_eq_true rfl)) dL_law_309 ⟨Nat.le_of_ble_eq_true rfl, Nat.le_of_ble_eq_true rfl⟩) hS (fun q _ h => hFc q h) hFc (fun r1 u2 t H1 locs ht9 hvm hw hB hz1 hk1 hS => ?_)
  obtain ⟨hP, hD⟩ := va_join (wr := [(y0, .inr (12, [.int 0, .ref (v 1), .ref (v 2), .ref (v 3), .ref (v 4), .int 0, .ref (v 6), .int 0, .int 0, .int 0, .int 0, .int 0, .int 0, .int (-1), .ref (v 14), .ref (v 15), .ref (v 16), .ref (v 17), .ref (v 18), .ref (v 19), .ref (v 20), .int 0, .ref (v 22), .int 0, .ref (v 24), .ref (v 25), .int 0, .ref (v 27), .ref (v 28), .ref (v 29), .ref (v 30), .int 0, .int 0, .int 0, .int 0, .int 0, .ref (v 36), .long 0, .ref (v 38), .ref (v 39), .ref (v 40), .ref (v 41)]))]) (w1 := []) hP hD [0, 1] [2] rfl rfl (by decide) (by decide) hk1 hFc kP0 kD0
  generalize H1 = H at hP hS ⊢
  have hP : va_P (dC, dI) vwCl [(y0, .inr (12, [.int 0, .ref (v 1), .ref (v 2), .ref (v 3), .ref (v 4), .int 0, .ref (v 6), .int 0, .int 0, .int 0, .int 0, .int 0, .int 0, .int (-1), .ref (v 14), .ref (v 15), .ref (v 16), .ref (v 17), .ref (v 18), .ref (v 19), .ref (v 20), .int 0, .ref (v 22), .int 0, .ref (v 24), .ref (v 25), .int 0, .ref (v 27), .ref (v 28), .ref (v 29), .ref (v 30), .int 0, .int 0, .int 0, .int 0, .int 0, .ref (v 36), .long 0, .ref (v 38), .ref (v 39), .ref (v 40), .ref (v 41)]))] H := hP
  have hD : va_D (fun q : Nat => s.heap.size ≤ q) [(y0, .inr (12, [.int 0, .ref (v 1), .ref (v 2), .ref (v 3), .ref (v 4), .int 0, .ref (v 6), .int 0, .int 0, .int 0, .int 0, .int 0, .int 0, .int (-1), .ref (v 14), .ref (v 15), .ref (v 16), .ref (v 17), .ref (v 18), .ref (v 19), .ref (v 20), .int 0, .ref (v 22), .int 0, .ref (v 24), .ref (v 25), .int 0, .ref (v 27), .ref (v 28), .ref (v 29), .ref (v 30), .int 0, .int 0, .int 0, .int 0, .int 0, .ref (v 36), .long 0, .ref (v 38), .ref (v 39), .ref (v 40), .ref (v 41)]))] := hD
  have hs3 := hw
  refine lv_aload_n hx hb dL_law_312 rfl (lv_at hl 1 rfl) ?_
  refine lv_aload_n hx hb dL_law_313 rfl (lv_at hl 3 rfl) ?_
  refine lv_iload_n hx hb dL_law_314 rfl (lv_at hl 0 rfl) ?_
  refine lv_iconst (v := 1) hx hb dL_law_315 (by decide) ?_
  refine lv_iadd hx hb dL_law_316 ?_
  refine lv_topi (nm_r (e' := (1)) (by decide +kernel) ?_)
  refine va_sld hx hb hX hbl hbA hS (vin (by decide)) dL_law_317 ?_
  have hPc := hP.sub (ws' := [(y0, .inr (12, [.int 0, .ref (v 1), .ref (v 2), .ref (v 3), .ref (v 4), .int 0, .ref (v 6), .int 0, .int 0, .int 0, .int 0, .int 0, .int 0, .int (-1), .ref (v 14), .ref (v 15), .ref (v 16), .ref (v 17), .ref (v 18), .ref (v 19), .ref (v 20), .int 0, .ref (v 22), .int 0, .ref (v 24), .ref (v 25), .int 0, .ref (v 27), .ref (v 28), .ref (v 29), .ref (v 30), .int 0, .int 0, .int 0, .int 0, .int 0, .ref (v 36), .long 0, .ref (v 38), .ref (v 39), .ref (v 40), .ref (v 41)]))]) [0] rfl
  have hDc := hD.sub (ws' := [(y0, .inr (12, [.int 0, .ref (v 1), .ref (v 2), .ref (v 3), .ref (v 4), .int 0, .ref (v 6), .int 0, .int 0, .int 0, .int 0, .int 0, .int 0, .int (-1), .ref (v 14), .ref (v 15), .ref (v 16), .ref (v 17), .ref (v 18), .ref (v 19), .ref (v 20), .int 0, .ref (v 22), .int 0, .ref (v 24), .ref (v 25), .int 0, .ref (v 27), .ref (v 28), .ref (v 29), .ref (v 30), .int 0, .int 0, .int 0, .int 0, .int 0, .ref (v 36), .long 0, .ref (v 38), .ref (v 39), .ref (v 40), .ref (v 41)]))]) [0] (by decide) rfl
  have hFc := va_free (wc := [(y0, .inr (12, [.int 0, .ref (v 1), .ref (v 2), .ref (v 3), .ref (v 4), .int 0, .ref (v 6), .int 0, .int 0, .int 0, .int 0, .int 0, .int 0, .int (-1), .ref (v 14), .ref (v 15), .ref (v 16), .ref (v 17), .ref (v 18), .ref (v 19), .ref (v 20), .int 0, .ref (v 22), .int 0, .ref (v 24), .ref (v 25), .int 0, .ref (v 27), .ref (v 28), .ref (v 29), .ref (v 30), .int 0, .int 0, .int 0, .int 0, .int 0, .ref (v 36), .long 0, .ref (v 38), .ref (v 39), .ref (v 40), .ref (v 41)]))]) hD hS hA [0] rfl
  refine va_calli (va_runV (As := [.int (xs (1 : Int32).toNatClampNeg)]) (rest := [.int r1]) ⟨hx, hb, hml, hown, hwd⟩ (c_X12_end l dC dI cI cZ cB cJ cM y0 v (xs (1 : Int32).toNatClampNeg) H.size) (cwV 1 hwd (gV kr9_6 kr9_7 kr9_8 kr1_5 kr9_9) rfl rfl rfl (by decide +kernel) ⟨Nat.le_of_ble_eq_true rfl, Nat.le_of_ble_eq_true rfl⟩) (kPreV hPc hK hDc (ci := 12) (q0 := 0) rfl rfl) rfl rfl hl.1 rfl (lv_room (Nat.le_of_ble_eq_true rfl)) dL_law_318 ⟨Nat.le_of_ble_eq_true rfl, Nat.le_of_ble_eq_true rfl⟩) hS (fun q _ h => hFc q h) hFc (fun r4 u5 t H1 locs ht9 hvm hw hB hz1 hk1 hS => ?_)
  obtain ⟨hP, hD⟩ := va_join (wr := []) (w1 := []) hP hD [0] [] rfl rfl (by decide) (by decide) hk1 hFc kP0 kD0
  generalize H1 = H at hP hS ⊢
  have hP : va_P (dC, dI) vwCl [] H := hP
  have hD : va_D (fun q : Nat => s.heap.size ≤ q) [] := hD
  have hs6 := hw
  refine lv_icmp_eq (tgt := 1731) hx hb dL_law_321 (by decide) (fun c7 => ?_) (fun c7 => absurd (by simp only [Sp_end] at hs3 hs6; rw [ki_eq]; omega) c7)
  exact law_tail C0 hS (lv_sub hl [3, 0] rfl)
set_option maxHeartbeats 4000000 in
set_option maxRecDepth 100000 in
/-- the call of drum on two fresh objects -/
theorem lcase_2 {p : Program} {l : Launch} {e : Env} {s : State} {m : MethodId} {below : List Frame} {meth : Method} {c : Code} {b : Nat} {xs : Nat → Int32} {dC : Nat → ClassId} {dI : Nat → Nat → Nat} {cI cZ cB cJ cM : ClassId} (x0 y0 : Nat) (u v : Nat → Nat) {H : Heap} {locs : List Loc} {ls : Array Slot} (C0 : lw_At p s m meth c b 6 xs) (hK : va_K (dC, dI) vwCl [(cI, .int), (cZ, .boolean), (cB, .byte), (cJ, .long), (cM, .object RX2)] s) (hP : va_P (dC, dI) vwCl [(x0, .inr (11, [.ref (u 0), .ref (u 2), .ref (u 3), .ref (u 4), .ref (u 5), .ref (u 10), .ref (u 11), .ref (u 12), .ref (u 98), .ref (u 124)])), (u 0, .inr (10, [.ref (u 1), .int 0, .int 0, .int (-1), .int 0, .int 0, .int 0, .int 0])), (u 3, .inr (0, [.ref (u 13), .ref (u 14), .ref (u 15), .ref (u 16), .ref (u 17), .ref (u 18), .ref (u 19)])), (u 124, .inr (2, [.int 0, .int 0, .int 0, .int 0, .int 0, .int 0, .int 0, .int 0, .int 0, .ref (u 125), .ref (u 133), .ref (u 143), .ref (u 148), .ref (u 149)])), (u 125, .inr (3, [.int 0, .ref (u 126), .ref (u 127), .ref (u 128), .ref (u 129), .ref (u 130), .ref (u 131), .ref (u 132)])), (u 133, .inr (1, [.int 0, .ref (u 134), .ref (u 135), .ref (u 136), .ref (u 137), .ref (u 138), .ref (u 139), .ref (u 140), .ref (u 141), .ref (u 142)])), (u 143, .inr (4, [.int 0, .ref (u 144), .ref (u 145), .ref (u 146), .ref (u 147)])), (u 148, .inr (7, [.int 0, .int 0, .int 0, .int 0, .int 0, .int 0, .int (-1), .int 0])), (y0, .inr (12, [.int 0, .ref (v 1), .ref (v 2), .ref (v 3), .ref (v 4), .int 0, .ref (v 6), .int 0, .int 0, .int 0, .int 0, .int 0, .int 0, .int (-1), .ref (v 14), .ref (v 15), .ref (v 16), .ref (v 17), .ref (v 18), .ref (v 19), .ref (v 20), .int 0, .ref (v 22), .int 0, .ref (v 24), .ref (v 25), .int 0, .ref (v 27), .ref (v 28), .ref (v 29), .ref (v 30), .int 0, .int 0, .int 0, .int 0, .int 0, .ref (v 36), .long 0, .ref (v 38), .ref (v 39), .ref (v 40), .ref (v 41)])), (v 1, .inl (cI, 544, .inl (upd (upd (upd (fun _ => 0) 8 1) 9 1) 17 (-1)))), (v 14, .inl (cI, 544, .inl (fun _ => 0)))] H) (hD : va_D (fun q : Nat => s.heap.size ≤ q) [(x0, .inr (11, [.ref (u 0), .ref (u 2), .ref (u 3), .ref (u 4), .ref (u 5), .ref (u 10), .ref (u 11), .ref (u 12), .ref (u 98), .ref (u 124)])), (u 0, .inr (10, [.ref (u 1), .int 0, .int 0, .int (-1), .int 0, .int 0, .int 0, .int 0])), (u 3, .inr (0, [.ref (u 13), .ref (u 14), .ref (u 15), .ref (u 16), .ref (u 17), .ref (u 18), .ref (u 19)])), (u 124, .inr (2, [.int 0, .int 0, .int 0, .int 0, .int 0, .int 0, .int 0, .int 0, .int 0, .ref (u 125), .ref (u 133), .ref (u 143), .ref (u 148), .ref (u 149)])), (u 125, .inr (3, [.int 0, .ref (u 126), .ref (u 127), .ref (u 128), .ref (u 129), .ref (u 130), .ref (u 131), .ref (u 132)])), (u 133, .inr (1, [.int 0, .ref (u 134), .ref (u 135), .ref (u 136), .ref (u 137), .ref (u 138), .ref (u 139), .ref (u 140), .ref (u 141), .ref (u 142)])), (u 143, .inr (4, [.int 0, .ref (u 144), .ref (u 145), .ref (u 146), .ref (u 147)])), (u 148, .inr (7, [.int 0, .int 0, .int 0, .int 0, .int 0, .int 0, .int (-1), .int 0])), (y0, .inr (12, [.int 0, .ref (v 1), .ref (v 2), .ref (v 3), .ref (v 4), .int 0, .ref (v 6), .int 0, .int 0, .int 0, .int 0, .int 0, .int 0, .int (-1), .ref (v 14), .ref (v 15), .ref (v 16), .ref (v 17), .ref (v 18), .ref (v 19), .ref (v 20), .int 0, .ref (v 22), .int 0, .ref (v 24), .ref (v 25), .int 0, .ref (v 27), .ref (v 28), .ref (v 29), .ref (v 30), .int 0, .int 0, .int 0, .int 0, .int 0, .ref (v 36), .long 0, .ref (v 38), .ref (v 39), .ref (v 40), .ref (v 41)])), (v 1, .inl (cI, 544, .inl (upd (upd (upd (fun _ => 0) 8 1) 9 1) 17 (-1)))), (v 14, .inl (cI, 544, .inl (fun _ => 0)))]) (hS : va_S (fun q : Nat => s.heap.size ≤ q) s.heap H locs) (hl : lv_has ls 4 [(3, .int 0), (2, .ref y0), (1, .ref x0), (0, .ref b)]) : W p l e room_1 s m #[Value.ref b] below meth c H locs 600000 7302250 (lw_Z below #[Value.ref b] s) (F0 m 326 ls []) := by
  obtain ⟨hx, hb, hr, hml, hown0, hts, hX, hbl, hlocks, hgv⟩ := id C0
  have hb : c.code = cL_law := hb
  have hown : s.vm.findClass RL = some m.cls := hown0
  have hwd : ∀ wd ∈ wsL_law, wd.before #[Value.ref b] s = true := fun w h => hts w (wsL_law_in w h)
  have hA : ∀ q : Nat, s.heap.size ≤ q → (fun q : Nat => s.heap.size ≤ q) q := fun _ h => h
  have hbA : ¬ (fun q : Nat => s.heap.size ≤ q) b := Nat.not_le.mpr hbl
  refine lv_aload_n hx hb dL_law_326 rfl (lv_at hl 2 rfl) ?_
  have hPc := hP.sub (ws' := [(x0, .inr (11, [.ref (u 0), .ref (u 2), .ref (u 3), .ref (u 4), .ref (u 5), .ref (u 10), .ref (u 11), .ref (u 12), .ref (u 98), .ref (u 124)])), (u 0, .inr (10, [.ref (u 1), .int 0, .int 0, .int (-1), .int 0, .int 0, .int 0, .int 0])), (u 3, .inr (0, [.ref (u 13), .ref (u 14), .ref (u 15), .ref (u 16), .ref (u 17), .ref (u 18), .ref (u 19)])), (u 124, .inr (2, [.int 0, .int 0, .int 0, .int 0, .int 0, .int 0, .int 0, .int 0, .int 0, .ref (u 125), .ref (u 133), .ref (u 143), .ref (u 148), .ref (u 149)])), (u 125, .inr (3, [.int 0, .ref (u 126), .ref (u 127), .ref (u 128), .ref (u 129), .ref (u 130), .ref (u 131), .ref (u 132)])), (u 133, .inr (1, [.int 0, .ref (u 134), .ref (u 135), .ref (u 136), .ref (u 137), .ref (u 138), .ref (u 139), .ref (u 140), .ref (u 141), .ref (u 142)])), (u 143, .inr (4, [.int 0, .ref (u 144), .ref (u 145), .ref (u 146), .ref (u 147)])), (u 148, .inr (7, [.int 0, .int 0, .int 0, .int 0, .int 0, .int 0, .int (-1), .int 0]))]) [0, 1, 2, 3, 4, 5, 6, 7] rfl
  have hDc := hD.sub (ws' := [(x0, .inr (11, [.ref (u 0), .ref (u 2), .ref (u 3), .ref (u 4), .ref (u 5), .ref (u 10), .ref (u 11), .ref (u 12), .ref (u 98), .ref (u 124)])), (u 0, .inr (10, [.ref (u 1), .int 0, .int 0, .int (-1), .int 0, .int 0, .int 0, .int 0])), (u 3, .inr (0, [.ref (u 13), .ref (u 14), .ref (u 15), .ref (u 16), .ref (u 17), .ref (u 18), .ref (u 19)])), (u 124, .inr (2, [.int 0, .int 0, .int 0, .int 0, .int 0, .int 0, .int 0, .int 0, .int 0, .ref (u 125), .ref (u 133), .ref (u 143), .ref (u 148), .ref (u 149)])), (u 125, .inr (3, [.int 0, .ref (u 126), .ref (u 127), .ref (u 128), .ref (u 129), .ref (u 130), .ref (u 131), .ref (u 132)])), (u 133, .inr (1, [.int 0, .ref (u 134), .ref (u 135), .ref (u 136), .ref (u 137), .ref (u 138), .ref (u 139), .ref (u 140), .ref (u 141), .ref (u 142)])), (u 143, .inr (4, [.int 0, .ref (u 144), .ref (u 145), .ref (u 146), .ref (u 147)])), (u 148, .inr (7, [.int 0, .int 0, .int 0, .int 0, .int 0, .int 0, .int (-1), .int 0]))]) [0, 1, 2, 3, 4, 5, 6, 7] (by decide) rfl
  have hFc := va_free (wc := [(x0, .inr (11, [.ref (u 0), .ref (u 2), .ref (u 3), .ref (u 4), .ref (u 5), .ref (u 10), .ref (u 11), .ref (u 12), .ref (u 98), .ref (u 124)])), (u 0, .inr (10, [.ref (u 1), .int 0, .int 0, .int (-1), .int 0, .int 0, .int 0, .int 0])), (u 3, .inr (0, [.ref (u 13), .ref (u 14), .ref (u 15), .ref (u 16), .ref (u 17), .ref (u 18), .ref (u 19)])), (u 124, .inr (2, [.int 0, .int 0, .int 0, .int 0, .int 0, .int 0, .int 0, .int 0, .int 0, .ref (u 125), .ref (u 133), .ref (u 143), .ref (u 148), .ref (u 149)])), (u 125, .inr (3, [.int 0, .ref (u 126), .ref (u 127), .ref (u 128), .ref (u 129), .ref (u 130), .ref (u 131), .ref (u 132)])), (u 133, .inr (1, [.int 0, .ref (u 134), .ref (u 135), .ref (u 136), .ref (u 137), .ref (u 138), .ref (u 139), .ref (u 140), .ref (u 141), .ref (u 142)])), (u 143, .inr (4, [.int 0, .ref (u 144), .ref (u 145), .ref (u 146), .ref (u 147)])), (u 148, .inr (7, [.int 0, .int 0, .int 0, .int 0, .int 0, .int 0, .int (-1), .int 0]))]) hD hS hA [0, 1, 2, 3, 4, 5, 6, 7] rfl
  refine va_calli (va_runV (As := []) (rest := []) ⟨hx, hb, hml, hown, hwd⟩ (c_X11_drum l dC dI cI cZ cB cJ cM x0 (u 0) (u 2) (u 3) (u 4) (u 5) (u 10) (u 11) (u 12) (u 98) (u 124) (u 1) (u 13) (u 14) (u 15) (u 16) (u 17) (u 18) (u 19) (u 125) (u 133) (u 143) (u 148) (u 149) (u 126) (u 127) (u 128) (u 129) (u 130) (u 131) (u 132) (u 134) (u 135) (u 136) (u 137) (u 138) (u 139) (u 140) (u 141) (u 142) (u 144) (u 145) (u 146) (u 147) H.size) (cwV 0 hwd (gV kr9_13 kr9_14 kr9_15 kr1_2 kr9_16) rfl rfl rfl (by decide +kernel) ⟨Nat.le_of_ble_eq_true rfl, Nat.le_of_ble_eq_true rfl⟩) (kPreV hPc hK hDc (ci := 11) (q0 := 0) rfl rfl) rfl rfl hl.1 rfl (lv_room (Nat.le_of_ble_eq_true rfl)) dL_law_327 ⟨Nat.le_of_ble_eq_true rfl, Nat.le_of_ble_eq_true rfl⟩) hS (fun q _ h => hFc q h) hFc (fun r1 u2 t H1 locs ht9 hvm hw hB hz1 hk1 hS => ?_)
  obtain ⟨hP, hD⟩ := va_join (wr := [(y0, .inr (12, [.int 0, .ref (v 1), .ref (v 2), .ref (v 3), .ref (v 4), .int 0, .ref (v 6), .int 0, .int 0, .int 0, .int 0, .int 0, .int 0, .int (-1), .ref (v 14), .ref (v 15), .ref (v 16), .ref (v 17), .ref (v 18), .ref (v 19), .ref (v 20), .int 0, .ref (v 22), .int 0, .ref (v 24), .ref (v 25), .int 0, .ref (v 27), .ref (v 28), .ref (v 29), .ref (v 30), .int 0, .int 0, .int 0, .int 0, .int 0, .ref (v 36), .long 0, .ref (v 38), .ref (v 39), .ref (v 40), .ref (v 41)])), (v 1, .inl (cI, 544, .inl (upd (upd (upd (fun _ => 0) 8 1) 9 1) 17 (-1)))), (v 14, .inl (cI, 544, .inl (fun _ => 0)))]) (w1 := []) hP hD [0, 1, 2, 3, 4, 5, 6, 7] [8, 9, 10] rfl rfl (by decide) (by decide) hk1 hFc kP0 kD0
  generalize H1 = H at hP hS ⊢
  have hP : va_P (dC, dI) vwCl [(y0, .inr (12, [.int 0, .ref (v 1), .ref (v 2), .ref (v 3), .ref (v 4), .int 0, .ref (v 6), .int 0, .int 0, .int 0, .int 0, .int 0, .int 0, .int (-1), .ref (v 14), .ref (v 15), .ref (v 16), .ref (v 17), .ref (v 18), .ref (v 19), .ref (v 20), .int 0, .ref (v 22), .int 0, .ref (v 24), .ref (v 25), .int 0, .ref (v 27), .ref (v 28), .ref (v 29), .ref (v 30), .int 0, .int 0, .int 0, .int 0, .int 0, .ref (v 36), .long 0, .ref (v 38), .ref (v 39), .ref (v 40), .ref (v 41)])), (v 1, .inl (cI, 544, .inl (upd (upd (upd (fun _ => 0) 8 1) 9 1) 17 (-1)))), (v 14, .inl (cI, 544, .inl (fun _ => 0)))] H := hP
  have hD : va_D (fun q : Nat => s.heap.size ≤ q) [(y0, .inr (12, [.int 0, .ref (v 1), .ref (v 2), .ref (v 3), .ref (v 4), .int 0, .ref (v 6), .int 0, .int 0, .int 0, .int 0, .int 0, .int 0, .int (-1), .ref (v 14), .ref (v 15), .ref (v 16), .ref (v 17), .ref (v 18), .ref (v 19), .ref (v 20), .int 0, .ref (v 22), .int 0, .ref (v 24), .ref (v 25), .int 0, .ref (v 27), .ref (v 28), .ref (v 29), .ref (v 30), .int 0, .int 0, .int 0, .int 0, .int 0, .ref (v 36), .long 0, .ref (v 38), .ref (v 39), .ref (v 40), .ref (v 41)])), (v 1, .inl (cI, 544, .inl (upd (upd (upd (fun _ => 0) 8 1) 9 1) 17 (-1)))), (v 14, .inl (cI, 544, .inl (fun _ => 0)))] := hD
  subst hw
  refine lv_aload_n hx hb dL_law_330 rfl (lv_at hl 1 rfl) ?_
  have hPc := hP.sub (ws' := [(y0, .inr (12, [.int 0, .ref (v 1), .ref (v 2), .ref (v 3), .ref (v 4), .int 0, .ref (v 6), .int 0, .int 0, .int 0, .int 0, .int 0, .int 0, .int (-1), .ref (v 14), .ref (v 15), .ref (v 16), .ref (v 17), .ref (v 18), .ref (v 19), .ref (v 20), .int 0, .ref (v 22), .int 0, .ref (v 24), .ref (v 25), .int 0, .ref (v 27), .ref (v 28), .ref (v 29), .ref (v 30), .int 0, .int 0, .int 0, .int 0, .int 0, .ref (v 36), .long 0, .ref (v 38), .ref (v 39), .ref (v 40), .ref (v 41)])), (v 1, .inl (cI, 544, .inl (upd (upd (upd (fun _ => 0) 8 1) 9 1) 17 (-1)))), (v 14, .inl (cI, 544, .inl (fun _ => 0)))]) [0, 1, 2] rfl
  have hDc := hD.sub (ws' := [(y0, .inr (12, [.int 0, .ref (v 1), .ref (v 2), .ref (v 3), .ref (v 4), .int 0, .ref (v 6), .int 0, .int 0, .int 0, .int 0, .int 0, .int 0, .int (-1), .ref (v 14), .ref (v 15), .ref (v 16), .ref (v 17), .ref (v 18), .ref (v 19), .ref (v 20), .int 0, .ref (v 22), .int 0, .ref (v 24), .ref (v 25), .int 0, .ref (v 27), .ref (v 28), .ref (v 29), .ref (v 30), .int 0, .int 0, .int 0, .int 0, .int 0, .ref (v 36), .long 0, .ref (v 38), .ref (v 39), .ref (v 40), .ref (v 41)])), (v 1, .inl (cI, 544, .inl (upd (upd (upd (fun _ => 0) 8 1) 9 1) 17 (-1)))), (v 14, .inl (cI, 544, .inl (fun _ => 0)))]) [0, 1, 2] (by decide) rfl
  have hFc := va_free (wc := [(y0, .inr (12, [.int 0, .ref (v 1), .ref (v 2), .ref (v 3), .ref (v 4), .int 0, .ref (v 6), .int 0, .int 0, .int 0, .int 0, .int 0, .int 0, .int (-1), .ref (v 14), .ref (v 15), .ref (v 16), .ref (v 17), .ref (v 18), .ref (v 19), .ref (v 20), .int 0, .ref (v 22), .int 0, .ref (v 24), .ref (v 25), .int 0, .ref (v 27), .ref (v 28), .ref (v 29), .ref (v 30), .int 0, .int 0, .int 0, .int 0, .int 0, .ref (v 36), .long 0, .ref (v 38), .ref (v 39), .ref (v 40), .ref (v 41)])), (v 1, .inl (cI, 544, .inl (upd (upd (upd (fun _ => 0) 8 1) 9 1) 17 (-1)))), (v 14, .inl (cI, 544, .inl (fun _ => 0)))]) hD hS hA [0, 1, 2] rfl
  refine va_calli (va_runV (As := []) (rest := [.int 0]) ⟨hx, hb, hml, hown, hwd⟩ (c_X12_drum l dC dI cI cZ cB cJ cM y0 v H.size) (cwV 0 hwd (gV kr13_11 kr13_12 kr13_13 kr1_5 kr13_14) rfl rfl rfl (by decide +kernel) ⟨Nat.le_of_ble_eq_true rfl, Nat.le_of_ble_eq_true rfl⟩) (kPreV hPc hK hDc (ci := 12) (q0 := 0) rfl rfl) rfl rfl hl.1 rfl (lv_room (Nat.le_of_ble_eq_true rfl)) dL_law_331 ⟨Nat.le_of_ble_eq_true rfl, Nat.le_of_ble_eq_true rfl⟩) hS (fun q _ h => hFc q h) hFc (fun r3 u4 t H1 locs ht9 hvm hw hB hz1 hk1 hS => ?_)
  obtain ⟨hP, hD⟩ := va_join (wr := []) (w1 := []) hP hD [0, 1, 2] [] rfl rfl (by decide) (by decide) hk1 hFc kP0 kD0
  generalize H1 = H at hP hS ⊢
  have hP : va_P (dC, dI) vwCl [] H := hP
  have hD : va_D (fun q : Nat => s.heap.size ≤ q) [] := hD
  subst hw
  refine lv_icmp_eq (tgt := 1731) hx hb dL_law_334 (by decide) (fun c5 => ?_) (fun c5 => absurd c5 (by decide))
  exact law_tail C0 hS (lv_sub hl [3, 0] rfl)
set_option maxHeartbeats 4000000 in
set_option maxRecDepth 100000 in
/-- the call of motion on two fresh objects -/
theorem lcase_3 {p : Program} {l : Launch} {e : Env} {s : State} {m : MethodId} {below : List Frame} {meth : Method} {c : Code} {b : Nat} {xs : Nat → Int32} {dC : Nat → ClassId} {dI : Nat → Nat → Nat} {cI cZ cB cJ cM : ClassId} (x0 y0 : Nat) (u v : Nat → Nat) {H : Heap} {locs : List Loc} {ls : Array Slot} (C0 : lw_At p s m meth c b 6 xs) (hK : va_K (dC, dI) vwCl [(cI, .int), (cZ, .boolean), (cB, .byte), (cJ, .long), (cM, .object RX2)] s) (hP : va_P (dC, dI) vwCl [(x0, .inr (11, [.ref (u 0), .ref (u 2), .ref (u 3), .ref (u 4), .ref (u 5), .ref (u 10), .ref (u 11), .ref (u 12), .ref (u 98), .ref (u 124)])), (u 0, .inr (10, [.ref (u 1), .int 0, .int 0, .int (-1), .int 0, .int 0, .int 0, .int 0])), (u 98, .inr (2, [.int 0, .int 0, .int 0, .int 0, .int 0, .int 0, .int 0, .int 0, .int 0, .ref (u 99), .ref (u 107), .ref (u 117), .ref (u 122), .ref (u 123)])), (y0, .inr (12, [.int 0, .ref (v 1), .ref (v 2), .ref (v 3), .ref (v 4), .int 0, .ref (v 6), .int 0, .int 0, .int 0, .int 0, .int 0, .int 0, .int (-1), .ref (v 14), .ref (v 15), .ref (v 16), .ref (v 17), .ref (v 18), .ref (v 19), .ref (v 20), .int 0, .ref (v 22), .int 0, .ref (v 24), .ref (v 25), .int 0, .ref (v 27), .ref (v 28), .ref (v 29), .ref (v 30), .int 0, .int 0, .int 0, .int 0, .int 0, .ref (v 36), .long 0, .ref (v 38), .ref (v 39), .ref (v 40), .ref (v 41)])), (v 1, .inl (cI, 544, .inl (upd (upd (upd (fun _ => 0) 8 1) 9 1) 17 (-1))))] H) (hD : va_D (fun q : Nat => s.heap.size ≤ q) [(x0, .inr (11, [.ref (u 0), .ref (u 2), .ref (u 3), .ref (u 4), .ref (u 5), .ref (u 10), .ref (u 11), .ref (u 12), .ref (u 98), .ref (u 124)])), (u 0, .inr (10, [.ref (u 1), .int 0, .int 0, .int (-1), .int 0, .int 0, .int 0, .int 0])), (u 98, .inr (2, [.int 0, .int 0, .int 0, .int 0, .int 0, .int 0, .int 0, .int 0, .int 0, .ref (u 99), .ref (u 107), .ref (u 117), .ref (u 122), .ref (u 123)])), (y0, .inr (12, [.int 0, .ref (v 1), .ref (v 2), .ref (v 3), .ref (v 4), .int 0, .ref (v 6), .int 0, .int 0, .int 0, .int 0, .int 0, .int 0, .int (-1), .ref (v 14), .ref (v 15), .ref (v 16), .ref (v 17), .ref (v 18), .ref (v 19), .ref (v 20), .int 0, .ref (v 22), .int 0, .ref (v 24), .ref (v 25), .int 0, .ref (v 27), .ref (v 28), .ref (v 29), .ref (v 30), .int 0, .int 0, .int 0, .int 0, .int 0, .ref (v 36), .long 0, .ref (v 38), .ref (v 39), .ref (v 40), .ref (v 41)])), (v 1, .inl (cI, 544, .inl (upd (upd (upd (fun _ => 0) 8 1) 9 1) 17 (-1))))]) (hS : va_S (fun q : Nat => s.heap.size ≤ q) s.heap H locs) (hl : lv_has ls 4 [(3, .int 0), (2, .ref y0), (1, .ref x0), (0, .ref b)]) : W p l e room_1 s m #[Value.ref b] below meth c H locs 600000 7302250 (lw_Z below #[Value.ref b] s) (F0 m 339 ls []) := by
  obtain ⟨hx, hb, hr, hml, hown0, hts, hX, hbl, hlocks, hgv⟩ := id C0
  have hb : c.code = cL_law := hb
  have hown : s.vm.findClass RL = some m.cls := hown0
  have hwd : ∀ wd ∈ wsL_law, wd.before #[Value.ref b] s = true := fun w h => hts w (wsL_law_in w h)
  have hA : ∀ q : Nat, s.heap.size ≤ q → (fun q : Nat => s.heap.size ≤ q) q := fun _ h => h
  have hbA : ¬ (fun q : Nat => s.heap.size ≤ q) b := Nat.not_le.mpr hbl
  refine lv_aload_n hx hb dL_law_339 rfl (lv_at hl 2 rfl) ?_
  have hPc := hP.sub (ws' := [(x0, .inr (11, [.ref (u 0), .ref (u 2), .ref (u 3), .ref (u 4), .ref (u 5), .ref (u 10), .ref (u 11), .ref (u 12), .ref (u 98), .ref (u 124)])), (u 0, .inr (10, [.ref (u 1), .int 0, .int 0, .int (-1), .int 0, .int 0, .int 0, .int 0])), (u 98, .inr (2, [.int 0, .int 0, .int 0, .int 0, .int 0, .int 0, .int 0, .int 0, .int 0, .ref (u 99), .ref (u 107), .ref (u 117), .ref (u 122), .ref (u 123)]))]) [0, 1, 2] rfl
  have hDc := hD.sub (ws' := [(x0, .inr (11, [.ref (u 0), .ref (u 2), .ref (u 3), .ref (u 4), .ref (u 5), .ref (u 10), .ref (u 11), .ref (u 12), .ref (u 98), .ref (u 124)])), (u 0, .inr (10, [.ref (u 1), .int 0, .int 0, .int (-1), .int 0, .int 0, .int 0, .int 0])), (u 98, .inr (2, [.int 0, .int 0, .int 0, .int 0, .int 0, .int 0, .int 0, .int 0, .int 0, .ref (u 99), .ref (u 107), .ref (u 117), .ref (u 122), .ref (u 123)]))]) [0, 1, 2] (by decide) rfl
  have hFc := va_free (wc := [(x0, .inr (11, [.ref (u 0), .ref (u 2), .ref (u 3), .ref (u 4), .ref (u 5), .ref (u 10), .ref (u 11), .ref (u 12), .ref (u 98), .ref (u 124)])), (u 0, .inr (10, [.ref (u 1), .int 0, .int 0, .int (-1), .int 0, .int 0, .int 0, .int 0])), (u 98, .inr (2, [.int 0, .int 0, .int 0, .int 0, .int 0, .int 0, .int 0, .int 0, .int 0, .ref (u 99), .ref (u 107), .ref (u 117), .ref (u 122), .ref (u 123)]))]) hD hS hA [0, 1, 2] rfl
  refine va_calli (va_runV (As := []) (rest := []) ⟨hx, hb, hml, hown, hwd⟩ (c_X11_motion l dC dI cI cZ cB cJ cM x0 (u 0) (u 2) (u 3) (u 4) (u 5) (u 10) (u 11) (u 12) (u 98) (u 124) (u 1) (u 99) (u 107) (u 117) (u 122) (u 123) H.size) (cwV 0 hwd (gV kr14_16 kr14_17 kr14_18 kr1_2 kr14_19) rfl rfl rfl (by decide +kernel) ⟨Nat.le_of_ble_eq_true rfl, Nat.le_of_ble_eq_true rfl⟩) (kPreV hPc hK hDc (ci := 11) (q0 := 0) rfl rfl) rfl rfl hl.1 rfl (lv_room (Nat.le_of_ble_eq_true rfl)) dL_law_340 ⟨Nat.le_of_ble_eq_true rfl, Nat.le_of_ble_eq_true rfl⟩) hS (fun q _ h => hFc q h) hFc (fun r1 u2 t H1 locs ht9 hvm hw hB hz1 hk1 hS => ?_)
  obtain ⟨hP, hD⟩ := va_join (wr := [(y0, .inr (12, [.int 0, .ref (v 1), .ref (v 2), .ref (v 3), .ref (v 4), .int 0, .ref (v 6), .int 0, .int 0, .int 0, .int 0, .int 0, .int 0, .int (-1), .ref (v 14), .ref (v 15), .ref (v 16), .ref (v 17), .ref (v 18), .ref (v 19), .ref (v 20), .int 0, .ref (v 22), .int 0, .ref (v 24), .ref (v 25), .int 0, .ref (v 27), .ref (v 28), .ref (v 29), .ref (v 30), .int 0, .int 0, .int 0, .int 0, .int 0, .ref (v 36), .long 0, .ref (v 38), .ref (v 39), .ref (v 40), .ref (v 41)])), (v 1, .inl (cI, 544, .inl (upd (upd (upd (fun _ => 0) 8 1) 9 1) 17 (-1))))]) (w1 := []) hP hD [0, 1, 2] [3, 4] rfl rfl (by decide) (by decide) hk1 hFc kP0 kD0
  generalize H1 = H at hP hS ⊢
  have hP : va_P (dC, dI) vwCl [(y0, .inr (12, [.int 0, .ref (v 1), .ref (v 2), .ref (v 3), .ref (v 4), .int 0, .ref (v 6), .int 0, .int 0, .int 0, .int 0, .int 0, .int 0, .int (-1), .ref (v 14), .ref (v 15), .ref (v 16), .ref (v 17), .ref (v 18), .ref (v 19), .ref (v 20), .int 0, .ref (v 22), .int 0, .ref (v 24), .ref (v 25), .int 0, .ref (v 27), .ref (v 28), .ref (v 29), .ref (v 30), .int 0, .int 0, .int 0, .int 0, .int 0, .ref (v 36), .long 0, .ref (v 38), .ref (v 39), .ref (v 40), .ref (v 41)])), (v 1, .inl (cI, 544, .inl (upd (upd (upd (fun _ => 0) 8 1) 9 1) 17 (-1))))] H := hP
  have hD : va_D (fun q : Nat => s.heap.size ≤ q) [(y0, .inr (12, [.int 0, .ref (v 1), .ref (v 2), .ref (v 3), .ref (v 4), .int 0, .ref (v 6), .int 0, .int 0, .int 0, .int 0, .int 0, .int 0, .int (-1), .ref (v 14), .ref (v 15), .ref (v 16), .ref (v 17), .ref (v 18), .ref (v 19), .ref (v 20), .int 0, .ref (v 22), .int 0, .ref (v 24), .ref (v 25), .int 0, .ref (v 27), .ref (v 28), .ref (v 29), .ref (v 30), .int 0, .int 0, .int 0, .int 0, .int 0, .ref (v 36), .long 0, .ref (v 38), .ref (v 39), .ref (v 40), .ref (v 41)])), (v 1, .inl (cI, 544, .inl (upd (upd (upd (fun _ => 0) 8 1) 9 1) 17 (-1))))] := hD
  subst hw
  refine lv_aload_n hx hb dL_law_343 rfl (lv_at hl 1 rfl) ?_
  have hPc := hP.sub (ws' := [(y0, .inr (12, [.int 0, .ref (v 1), .ref (v 2), .ref (v 3), .ref (v 4), .int 0, .ref (v 6), .int 0, .int 0, .int 0, .int 0, .int 0, .int 0, .int (-1), .ref (v 14), .ref (v 15), .ref (v 16), .ref (v 17), .ref (v 18), .ref (v 19), .ref (v 20), .int 0, .ref (v 22), .int 0, .ref (v 24), .ref (v 25), .int 0, .ref (v 27), .ref (v 28), .ref (v 29), .ref (v 30), .int 0, .int 0, .int 0, .int 0, .int 0, .ref (v 36), .long 0, .ref (v 38), .ref (v 39), .ref (v 40), .ref (v 41)])), (v 1, .inl (cI, 544, .inl (upd (upd (upd (fun _ => 0) 8 1) 9 1) 17 (-1))))]) [0, 1] rfl
  have hDc := hD.sub (ws' := [(y0, .inr (12, [.int 0, .ref (v 1), .ref (v 2), .ref (v 3), .ref (v 4), .int 0, .ref (v 6), .int 0, .int 0, .int 0, .int 0, .int 0, .int 0, .int (-1), .ref (v 14), .ref (v 15), .ref (v 16), .ref (v 17), .ref (v 18), .ref (v 19), .ref (v 20), .int 0, .ref (v 22), .int 0, .ref (v 24), .ref (v 25), .int 0, .ref (v 27), .ref (v 28), .ref (v 29), .ref (v 30), .int 0, .int 0, .int 0, .int 0, .int 0, .ref (v 36), .long 0, .ref (v 38), .ref (v 39), .ref (v 40), .ref (v 41)])), (v 1, .inl (cI, 544, .inl (upd (upd (upd (fun _ => 0) 8 1) 9 1) 17 (-1))))]) [0, 1] (by decide) rfl
  have hFc := va_free (wc := [(y0, .inr (12, [.int 0, .ref (v 1), .ref (v 2), .ref (v 3), .ref (v 4), .int 0, .ref (v 6), .int 0, .int 0, .int 0, .int 0, .int 0, .int 0, .int (-1), .ref (v 14), .ref (v 15), .ref (v 16), .ref (v 17), .ref (v 18), .ref (v 19), .ref (v 20), .int 0, .ref (v 22), .int 0, .ref (v 24), .ref (v 25), .int 0, .ref (v 27), .ref (v 28), .ref (v 29), .ref (v 30), .int 0, .int 0, .int 0, .int 0, .int 0, .ref (v 36), .long 0, .ref (v 38), .ref (v 39), .ref (v 40), .ref (v 41)])), (v 1, .inl (cI, 544, .inl (upd (upd (upd (fun _ => 0) 8 1) 9 1) 17 (-1))))]) hD hS hA [0, 1] rfl
  refine va_calli (va_runV (As := []) (rest := [.int (-2)]) ⟨hx, hb, hml, hown, hwd⟩ (c_X12_motion l dC dI cI cZ cB cJ cM y0 v H.size) (cwV 0 hwd (gV kr15_3 kr15_4 kr15_5 kr1_5 kr15_6) rfl rfl rfl (by decide +kernel) ⟨Nat.le_of_ble_eq_true rfl, Nat.le_of_ble_eq_true rfl⟩) (kPreV hPc hK hDc (ci := 12) (q0 := 0) rfl rfl) rfl rfl hl.1 rfl (lv_room (Nat.le_of_ble_eq_true rfl)) dL_law_344 ⟨Nat.le_of_ble_eq_true rfl, Nat.le_of_ble_eq_true rfl⟩) hS (fun q _ h => hFc q h) hFc (fun r3 u4 t H1 locs ht9 hvm hw hB hz1 hk1 hS => ?_)
  obtain ⟨hP, hD⟩ := va_join (wr := []) (w1 := []) hP hD [0, 1] [] rfl rfl (by decide) (by decide) hk1 hFc kP0 kD0
  generalize H1 = H at hP hS ⊢
  have hP : va_P (dC, dI) vwCl [] H := hP
  have hD : va_D (fun q : Nat => s.heap.size ≤ q) [] := hD
  subst hw
  refine lv_icmp_eq (tgt := 1731) hx hb dL_law_347 (by decide) (fun c5 => ?_) (fun c5 => absurd c5 (by decide))
  exact law_tail C0 hS (lv_sub hl [3, 0] rfl)
set_option maxHeartbeats 4000000 in
set_option maxRecDepth 100000 in
/-- the call of fault on two fresh objects -/
theorem lcase_4 {p : Program} {l : Launch} {e : Env} {s : State} {m : MethodId} {below : List Frame} {meth : Method} {c : Code} {b : Nat} {xs : Nat → Int32} {dC : Nat → ClassId} {dI : Nat → Nat → Nat} {cI cZ cB cJ cM : ClassId} (x0 y0 : Nat) (u v : Nat → Nat) {H : Heap} {locs : List Loc} {ls : Array Slot} (C0 : lw_At p s m meth c b 6 xs) (hK : va_K (dC, dI) vwCl [(cI, .int), (cZ, .boolean), (cB, .byte), (cJ, .long), (cM, .object RX2)] s) (hP : va_P (dC, dI) vwCl [(x0, .inr (11, [.ref (u 0), .ref (u 2), .ref (u 3), .ref (u 4), .ref (u 5), .ref (u 10), .ref (u 11), .ref (u 12), .ref (u 98), .ref (u 124)])), (u 0, .inr (10, [.ref (u 1), .int 0, .int 0, .int (-1), .int 0, .int 0, .int 0, .int 0])), (y0, .inr (12, [.int 0, .ref (v 1), .ref (v 2), .ref (v 3), .ref (v 4), .int 0, .ref (v 6), .int 0, .int 0, .int 0, .int 0, .int 0, .int 0, .int (-1), .ref (v 14), .ref (v 15), .ref (v 16), .ref (v 17), .ref (v 18), .ref (v 19), .ref (v 20), .int 0, .ref (v 22), .int 0, .ref (v 24), .ref (v 25), .int 0, .ref (v 27), .ref (v 28), .ref (v 29), .ref (v 30), .int 0, .int 0, .int 0, .int 0, .int 0, .ref (v 36), .long 0, .ref (v 38), .ref (v 39), .ref (v 40), .ref (v 41)]))] H) (hD : va_D (fun q : Nat => s.heap.size ≤ q) [(x0, .inr (11, [.ref (u 0), .ref (u 2), .ref (u 3), .ref (u 4), .ref (u 5), .ref (u 10), .ref (u 11), .ref (u 12), .ref (u 98), .ref (u 124)])), (u 0, .inr (10, [.ref (u 1), .int 0, .int 0, .int (-1), .int 0, .int 0, .int 0, .int 0])), (y0, .inr (12, [.int 0, .ref (v 1), .ref (v 2), .ref (v 3), .ref (v 4), .int 0, .ref (v 6), .int 0, .int 0, .int 0, .int 0, .int 0, .int 0, .int (-1), .ref (v 14), .ref (v 15), .ref (v 16), .ref (v 17), .ref (v 18), .ref (v 19), .ref (v 20), .int 0, .ref (v 22), .int 0, .ref (v 24), .ref (v 25), .int 0, .ref (v 27), .ref (v 28), .ref (v 29), .ref (v 30), .int 0, .int 0, .int 0, .int 0, .int 0, .ref (v 36), .long 0, .ref (v 38), .ref (v 39), .ref (v 40), .ref (v 41)]))]) (hS : va_S (fun q : Nat => s.heap.size ≤ q) s.heap H locs) (hl : lv_has ls 4 [(3, .int 0), (2, .ref y0), (1, .ref x0), (0, .ref b)]) : W p l e room_1 s m #[Value.ref b] below meth c H locs 600000 7302250 (lw_Z below #[Value.ref b] s) (F0 m 352 ls []) := by
  obtain ⟨hx, hb, hr, hml, hown0, hts, hX, hbl, hlocks, hgv⟩ := id C0
  have hb : c.code = cL_law := hb
  have hown : s.vm.findClass RL = some m.cls := hown0
  have hwd : ∀ wd ∈ wsL_law, wd.before #[Value.ref b] s = true := fun w h => hts w (wsL_law_in w h)
  have hA : ∀ q : Nat, s.heap.size ≤ q → (fun q : Nat => s.heap.size ≤ q) q := fun _ h => h
  have hbA : ¬ (fun q : Nat => s.heap.size ≤ q) b := Nat.not_le.mpr hbl
  refine lv_aload_n hx hb dL_law_352 rfl (lv_at hl 2 rfl) ?_
  refine lv_aload_n hx hb dL_law_353 rfl (lv_at hl 3 rfl) ?_
  refine lv_iload_n hx hb dL_law_354 rfl (lv_at hl 0 rfl) ?_
  refine lv_iconst (v := 1) hx hb dL_law_355 (by decide) ?_
  refine lv_iadd hx hb dL_law_356 ?_
  refine lv_topi (nm_r (e' := (1)) (by decide +kernel) ?_)
  refine va_sld hx hb hX hbl hbA hS (vin (by decide)) dL_law_357 ?_
  have hPc := hP.sub (ws' := [(x0, .inr (11, [.ref (u 0), .ref (u 2), .ref (u 3), .ref (u 4), .ref (u 5), .ref (u 10), .ref (u 11), .ref (u 12), .ref (u 98), .ref (u 124)])), (u 0, .inr (10, [.ref (u 1), .int 0, .int 0, .int (-1), .int 0, .int 0, .int 0, .int 0]))]) [0, 1] rfl
  have hDc := hD.sub (ws' := [(x0, .inr (11, [.ref (u 0), .ref (u 2), .ref (u 3), .ref (u 4), .ref (u 5), .ref (u 10), .ref (u 11), .ref (u 12), .ref (u 98), .ref (u 124)])), (u 0, .inr (10, [.ref (u 1), .int 0, .int 0, .int (-1), .int 0, .int 0, .int 0, .int 0]))]) [0, 1] (by decide) rfl
  have hFc := va_free (wc := [(x0, .inr (11, [.ref (u 0), .ref (u 2), .ref (u 3), .ref (u 4), .ref (u 5), .ref (u 10), .ref (u 11), .ref (u 12), .ref (u 98), .ref (u 124)])), (u 0, .inr (10, [.ref (u 1), .int 0, .int 0, .int (-1), .int 0, .int 0, .int 0, .int 0]))]) hD hS hA [0, 1] rfl
  refine va_calli (va_runV (As := [.int (xs (1 : Int32).toNatClampNeg)]) (rest := []) ⟨hx, hb, hml, hown, hwd⟩ (c_X11_fault l dC dI cI cZ cB cJ cM x0 (u 0) (u 2) (u 3) (u 4) (u 5) (u 10) (u 11) (u 12) (u 98) (u 124) (u 1) (xs (1 : Int32).toNatClampNeg) H.size) (cwV 1 hwd (gV kr15_7 kr15_8 kr15_9 kr1_2 kr15_10) rfl rfl rfl (by decide +kernel) ⟨Nat.le_of_ble_eq_true rfl, Nat.le_of_ble_eq_true rfl⟩) (kPreV hPc hK hDc (ci := 11) (q0 := 0) rfl rfl) rfl rfl hl.1 rfl (lv_room (Nat.le_of_ble_eq_true rfl)) dL_law_358 ⟨Nat.le_of_ble_eq_true rfl, Nat.le_of_ble_eq_true rfl⟩) hS (fun q _ h => hFc q h) hFc (fun r1 u2 t H1 locs ht9 hvm hw hB hz1 hk1 hS => ?_)
  obtain ⟨hP, hD⟩ := va_join (wr := [(y0, .inr (12, [.int 0, .ref (v 1), .ref (v 2), .ref (v 3), .ref (v 4), .int 0, .ref (v 6), .int 0, .int 0, .int 0, .int 0, .int 0, .int 0, .int (-1), .ref (v 14), .ref (v 15), .ref (v 16), .ref (v 17), .ref (v 18), .ref (v 19), .ref (v 20), .int 0, .ref (v 22), .int 0, .ref (v 24), .ref (v 25), .int 0, .ref (v 27), .ref (v 28), .ref (v 29), .ref (v 30), .int 0, .int 0, .int 0, .int 0, .int 0, .ref (v 36), .long 0, .ref (v 38), .ref (v 39), .ref (v 40), .ref (v 41)]))]) (w1 := []) hP hD [0, 1] [2] rfl rfl (by decide) (by decide) hk1 hFc kP0 kD0
  generalize H1 = H at hP hS ⊢
  have hP : va_P (dC, dI) vwCl [(y0, .inr (12, [.int 0, .ref (v 1), .ref (v 2), .ref (v 3), .ref (v 4), .int 0, .ref (v 6), .int 0, .int 0, .int 0, .int 0, .int 0, .int 0, .int (-1), .ref (v 14), .ref (v 15), .ref (v 16), .ref (v 17), .ref (v 18), .ref (v 19), .ref (v 20), .int 0, .ref (v 22), .int 0, .ref (v 24), .ref (v 25), .int 0, .ref (v 27), .ref (v 28), .ref (v 29), .ref (v 30), .int 0, .int 0, .int 0, .int 0, .int 0, .ref (v 36), .long 0, .ref (v 38), .ref (v 39), .ref (v 40), .ref (v 41)]))] H := hP
  have hD : va_D (fun q : Nat => s.heap.size ≤ q) [(y0, .inr (12, [.int 0, .ref (v 1), .ref (v 2), .ref (v 3), .ref (v 4), .int 0, .ref (v 6), .int 0, .int 0, .int 0, .int 0, .int 0, .int 0, .int (-1), .ref (v 14), .ref (v 15), .ref (v 16), .ref (v 17), .ref (v 18), .ref (v 19), .ref (v 20), .int 0, .ref (v 22), .int 0, .ref (v 24), .ref (v 25), .int 0, .ref (v 27), .ref (v 28), .ref (v 29), .ref (v 30), .int 0, .int 0, .int 0, .int 0, .int 0, .ref (v 36), .long 0, .ref (v 38), .ref (v 39), .ref (v 40), .ref (v 41)]))] := hD
  have hs3 := hw
  refine lv_aload_n hx hb dL_law_361 rfl (lv_at hl 1 rfl) ?_
  refine lv_aload_n hx hb dL_law_362 rfl (lv_at hl 3 rfl) ?_
  refine lv_iload_n hx hb dL_law_363 rfl (lv_at hl 0 rfl) ?_
  refine lv_iconst (v := 1) hx hb dL_law_364 (by decide) ?_
  refine lv_iadd hx hb dL_law_365 ?_
  refine lv_topi (nm_r (e' := (1)) (by decide +kernel) ?_)
  refine va_sld hx hb hX hbl hbA hS (vin (by decide)) dL_law_366 ?_
  have hPc := hP.sub (ws' := [(y0, .inr (12, [.int 0, .ref (v 1), .ref (v 2), .ref (v 3), .ref (v 4), .int 0, .ref (v 6), .int 0, .int 0, .int 0, .int 0, .int 0, .int 0, .int (-1), .ref (v 14), .ref (v 15), .ref (v 16), .ref (v 17), .ref (v 18), .ref (v 19), .ref (v 20), .int 0, .ref (v 22), .int 0, .ref (v 24), .ref (v 25), .int 0, .ref (v 27), .ref (v 28), .ref (v 29), .ref (v 30), .int 0, .int 0, .int 0, .int 0, .int 0, .ref (v 36), .long 0, .ref (v 38), .ref (v 39), .ref (v 40), .ref (v 41)]))]) [0] rfl
  have hDc := hD.sub (ws' := [(y0, .inr (12, [.int 0, .ref (v 1), .ref (v 2), .ref (v 3), .ref (v 4), .int 0, .ref (v 6), .int 0, .int 0, .int 0, .int 0, .int 0, .int 0, .int (-1), .ref (v 14), .ref (v 15), .ref (v 16), .ref (v 17), .ref (v 18), .ref (v 19), .ref (v 20), .int 0, .ref (v 22), .int 0, .ref (v 24), .ref (v 25), .int 0, .ref (v 27), .ref (v 28), .ref (v 29), .ref (v 30), .int 0, .int 0, .int 0, .int 0, .int 0, .ref (v 36), .long 0, .ref (v 38), .ref (v 39), .ref (v 40), .ref (v 41)]))]) [0] (by decide) rfl
  have hFc := va_free (wc := [(y0, .inr (12, [.int 0, .ref (v 1), .ref (v 2), .ref (v 3), .ref (v 4), .int 0, .ref (v 6), .int 0, .int 0, .int 0, .int 0, .int 0, .int 0, .int (-1), .ref (v 14), .ref (v 15), .ref (v 16), .ref (v 17), .ref (v 18), .ref (v 19), .ref (v 20), .int 0, .ref (v 22), .int 0, .ref (v 24), .ref (v 25), .int 0, .ref (v 27), .ref (v 28), .ref (v 29), .ref (v 30), .int 0, .int 0, .int 0, .int 0, .int 0, .ref (v 36), .long 0, .ref (v 38), .ref (v 39), .ref (v 40), .ref (v 41)]))]) hD hS hA [0] rfl
  refine va_calli (va_runV (As := [.int (xs (1 : Int32).toNatClampNeg)]) (rest := [.int r1]) ⟨hx, hb, hml, hown, hwd⟩ (c_X12_fault l dC dI cI cZ cB cJ cM y0 v (xs (1 : Int32).toNatClampNeg) H.size) (cwV 1 hwd (gV kr15_12 kr15_13 kr15_14 kr1_5 kr15_15) rfl rfl rfl (by decide +kernel) ⟨Nat.le_of_ble_eq_true rfl, Nat.le_of_ble_eq_true rfl⟩) (kPreV hPc hK hDc (ci := 12) (q0 := 0) rfl rfl) rfl rfl hl.1 rfl (lv_room (Nat.le_of_ble_eq_true rfl)) dL_law_367 ⟨Nat.le_of_ble_eq_true rfl, Nat.le_of_ble_eq_true rfl⟩) hS (fun q _ h => hFc q h) hFc (fun r4 u5 t H1 locs ht9 hvm hw hB hz1 hk1 hS => ?_)
  obtain ⟨hP, hD⟩ := va_join (wr := []) (w1 := []) hP hD [0] [] rfl rfl (by decide) (by decide) hk1 hFc kP0 kD0
  generalize H1 = H at hP hS ⊢
  have hP : va_P (dC, dI) vwCl [] H := hP
  have hD : va_D (fun q : Nat => s.heap.size ≤ q) [] := hD
  have hs6 := hw
  refine lv_icmp_eq (tgt := 1731) hx hb dL_law_370 (by decide) (fun c7 => ?_) (fun c7 => absurd (by simp only [Sp_fault] at hs3 hs6; rw [ki_eq]; omega) c7)
  exact law_tail C0 hS (lv_sub hl [3, 0] rfl)
set_option maxHeartbeats 4000000 in
set_option maxRecDepth 100000 in
/-- the call of profile on two fresh objects -/
theorem lcase_5 {p : Program} {l : Launch} {e : Env} {s : State} {m : MethodId} {below : List Frame} {meth : Method} {c : Code} {b : Nat} {xs : Nat → Int32} {dC : Nat → ClassId} {dI : Nat → Nat → Nat} {cI cZ cB cJ cM : ClassId} (x0 y0 : Nat) (u v : Nat → Nat) {H : Heap} {locs : List Loc} {ls : Array Slot} (C0 : lw_At p s m meth c b 6 xs) (hK : va_K (dC, dI) vwCl [(cI, .int), (cZ, .boolean), (cB, .byte), (cJ, .long), (cM, .object RX2)] s) (hP : va_P (dC, dI) vwCl [(x0, .inr (11, [.ref (u 0), .ref (u 2), .ref (u 3), .ref (u 4), .ref (u 5), .ref (u 10), .ref (u 11), .ref (u 12), .ref (u 98), .ref (u 124)])), (u 98, .inr (2, [.int 0, .int 0, .int 0, .int 0, .int 0, .int 0, .int 0, .int 0, .int 0, .ref (u 99), .ref (u 107), .ref (u 117), .ref (u 122), .ref (u 123)])), (y0, .inr (12, [.int 0, .ref (v 1), .ref (v 2), .ref (v 3), .ref (v 4), .int 0, .ref (v 6), .int 0, .int 0, .int 0, .int 0, .int 0, .int 0, .int (-1), .ref (v 14), .ref (v 15), .ref (v 16), .ref (v 17), .ref (v 18), .ref (v 19), .ref (v 20), .int 0, .ref (v 22), .int 0, .ref (v 24), .ref (v 25), .int 0, .ref (v 27), .ref (v 28), .ref (v 29), .ref (v 30), .int 0, .int 0, .int 0, .int 0, .int 0, .ref (v 36), .long 0, .ref (v 38), .ref (v 39), .ref (v 40), .ref (v 41)])), (v 1, .inl (cI, 544, .inl (upd (upd (upd (fun _ => 0) 8 1) 9 1) 17 (-1))))] H) (hD : va_D (fun q : Nat => s.heap.size ≤ q) [(x0, .inr (11, [.ref (u 0), .ref (u 2), .ref (u 3), .ref (u 4), .ref (u 5), .ref (u 10), .ref (u 11), .ref (u 12), .ref (u 98), .ref (u 124)])), (u 98, .inr (2, [.int 0, .int 0, .int 0, .int 0, .int 0, .int 0, .int 0, .int 0, .int 0, .ref (u 99), .ref (u 107), .ref (u 117), .ref (u 122), .ref (u 123)])), (y0, .inr (12, [.int 0, .ref (v 1), .ref (v 2), .ref (v 3), .ref (v 4), .int 0, .ref (v 6), .int 0, .int 0, .int 0, .int 0, .int 0, .int 0, .int (-1), .ref (v 14), .ref (v 15), .ref (v 16), .ref (v 17), .ref (v 18), .ref (v 19), .ref (v 20), .int 0, .ref (v 22), .int 0, .ref (v 24), .ref (v 25), .int 0, .ref (v 27), .ref (v 28), .ref (v 29), .ref (v 30), .int 0, .int 0, .int 0, .int 0, .int 0, .ref (v 36), .long 0, .ref (v 38), .ref (v 39), .ref (v 40), .ref (v 41)])), (v 1, .inl (cI, 544, .inl (upd (upd (upd (fun _ => 0) 8 1) 9 1) 17 (-1))))]) (hS : va_S (fun q : Nat => s.heap.size ≤ q) s.heap H locs) (hl : lv_has ls 4 [(3, .int 0), (2, .ref y0), (1, .ref x0), (0, .ref b)]) : W p l e room_1 s m #[Value.ref b] below meth c H locs 600000 7302250 (lw_Z below #[Value.ref b] s) (F0 m 375 ls []) := by
  obtain ⟨hx, hb, hr, hml, hown0, hts, hX, hbl, hlocks, hgv⟩ := id C0
  have hb : c.code = cL_law := hb
  have hown : s.vm.findClass RL = some m.cls := hown0
  have hwd : ∀ wd ∈ wsL_law, wd.before #[Value.ref b] s = true := fun w h => hts w (wsL_law_in w h)
  have hA : ∀ q : Nat, s.heap.size ≤ q → (fun q : Nat => s.heap.size ≤ q) q := fun _ h => h
  have hbA : ¬ (fun q : Nat => s.heap.size ≤ q) b := Nat.not_le.mpr hbl
  refine lv_aload_n hx hb dL_law_375 rfl (lv_at hl 2 rfl) ?_
  refine lv_aload_n hx hb dL_law_376 rfl (lv_at hl 3 rfl) ?_
  refine lv_iload_n hx hb dL_law_377 rfl (lv_at hl 0 rfl) ?_
  refine lv_iconst (v := 1) hx hb dL_law_378 (by decide) ?_
  refine lv_iadd hx hb dL_law_379 ?_
  refine lv_topi (nm_r (e' := (1)) (by decide +kernel) ?_)
  refine va_sld hx hb hX hbl hbA hS (vin (by decide)) dL_law_380 ?_
  refine lv_aload_n hx hb dL_law_381 rfl (lv_at hl 3 rfl) ?_
  refine lv_iload_n hx hb dL_law_382 rfl (lv_at hl 0 rfl) ?_
  refine lv_iconst (v := 2) hx hb dL_law_383 (by decide) ?_
  refine lv_iadd hx hb dL_law_384 ?_
  refine lv_topi (nm_r (e' := (2)) (by decide +kernel) ?_)
  refine va_sld hx hb hX hbl hbA hS (vin (by decide)) dL_law_385 ?_
  have hPc := hP.sub (ws' := [(x0, .inr (11, [.ref (u 0), .ref (u 2), .ref (u 3), .ref (u 4), .ref (u 5), .ref (u 10), .ref (u 11), .ref (u 12), .ref (u 98), .ref (u 124)])), (u 98, .inr (2, [.int 0, .int 0, .int 0, .int 0, .int 0, .int 0, .int 0, .int 0, .int 0, .ref (u 99), .ref (u 107), .ref (u 117), .ref (u 122), .ref (u 123)]))]) [0, 1] rfl
  have hDc := hD.sub (ws' := [(x0, .inr (11, [.ref (u 0), .ref (u 2), .ref (u 3), .ref (u 4), .ref (u 5), .ref (u 10), .ref (u 11), .ref (u 12), .ref (u 98), .ref (u 124)])), (u 98, .inr (2, [.int 0, .int 0, .int 0, .int 0, .int 0, .int 0, .int 0, .int 0, .int 0, .ref (u 99), .ref (u 107), .ref (u 117), .ref (u 122), .ref (u 123)]))]) [0, 1] (by decide) rfl
  have hFc := va_free (wc := [(x0, .inr (11, [.ref (u 0), .ref (u 2), .ref (u 3), .ref (u 4), .ref (u 5), .ref (u 10), .ref (u 11), .ref (u 12), .ref (u 98), .ref (u 124)])), (u 98, .inr (2, [.int 0, .int 0, .int 0, .int 0, .int 0, .int 0, .int 0, .int 0, .int 0, .ref (u 99), .ref (u 107), .ref (u 117), .ref (u 122), .ref (u 123)]))]) hD hS hA [0, 1] rfl
  refine va_calli (va_runV (As := [.int (xs (1 : Int32).toNatClampNeg), .int (xs (2 : Int32).toNatClampNeg)]) (rest := []) ⟨hx, hb, hml, hown, hwd⟩ (c_X11_profile l dC dI cI cZ cB cJ cM x0 (u 0) (u 2) (u 3) (u 4) (u 5) (u 10) (u 11) (u 12) (u 98) (u 124) (u 99) (u 107) (u 117) (u 122) (u 123) (xs (1 : Int32).toNatClampNeg) (xs (2 : Int32).toNatClampNeg) H.size) (cwV 2 hwd (gV kr15_16 kr15_17 kr15_18 kr1_2 kr15_19) rfl rfl rfl (by decide +kernel) ⟨Nat.le_of_ble_eq_true rfl, Nat.le_of_ble_eq_true rfl⟩) (kPreV hPc hK hDc (ci := 11) (q0 := 0) rfl rfl) rfl rfl hl.1 rfl (lv_room (Nat.le_of_ble_eq_true rfl)) dL_law_386 ⟨Nat.le_of_ble_eq_true rfl, Nat.le_of_ble_eq_true rfl⟩) hS (fun q _ h => hFc q h) hFc (fun r1 u2 t H1 locs ht9 hvm hw hB hz1 hk1 hS => ?_)
  obtain ⟨hP, hD⟩ := va_join (wr := [(y0, .inr (12, [.int 0, .ref (v 1), .ref (v 2), .ref (v 3), .ref (v 4), .int 0, .ref (v 6), .int 0, .int 0, .int 0, .int 0, .int 0, .int 0, .int (-1), .ref (v 14), .ref (v 15), .ref (v 16), .ref (v 17), .ref (v 18), .ref (v 19), .ref (v 20), .int 0, .ref (v 22), .int 0, .ref (v 24), .ref (v 25), .int 0, .ref (v 27), .ref (v 28), .ref (v 29), .ref (v 30), .int 0, .int 0, .int 0, .int 0, .int 0, .ref (v 36), .long 0, .ref (v 38), .ref (v 39), .ref (v 40), .ref (v 41)])), (v 1, .inl (cI, 544, .inl (upd (upd (upd (fun _ => 0) 8 1) 9 1) 17 (-1))))]) (w1 := []) hP hD [0, 1] [2, 3] rfl rfl (by decide) (by decide) hk1 hFc kP0 kD0
  generalize H1 = H at hP hS ⊢
  have hP : va_P (dC, dI) vwCl [(y0, .inr (12, [.int 0, .ref (v 1), .ref (v 2), .ref (v 3), .ref (v 4), .int 0, .ref (v 6), .int 0, .int 0, .int 0, .int 0, .int 0, .int 0, .int (-1), .ref (v 14), .ref (v 15), .ref (v 16), .ref (v 17), .ref (v 18), .ref (v 19), .ref (v 20), .int 0, .ref (v 22), .int 0, .ref (v 24), .ref (v 25), .int 0, .ref (v 27), .ref (v 28), .ref (v 29), .ref (v 30), .int 0, .int 0, .int 0, .int 0, .int 0, .ref (v 36), .long 0, .ref (v 38), .ref (v 39), .ref (v 40), .ref (v 41)])), (v 1, .inl (cI, 544, .inl (upd (upd (upd (fun _ => 0) 8 1) 9 1) 17 (-1))))] H := hP
  have hD : va_D (fun q : Nat => s.heap.size ≤ q) [(y0, .inr (12, [.int 0, .ref (v 1), .ref (v 2), .ref (v 3), .ref (v 4), .int 0, .ref (v 6), .int 0, .int 0, .int 0, .int 0, .int 0, .int 0, .int (-1), .ref (v 14), .ref (v 15), .ref (v 16), .ref (v 17), .ref (v 18), .ref (v 19), .ref (v 20), .int 0, .ref (v 22), .int 0, .ref (v 24), .ref (v 25), .int 0, .ref (v 27), .ref (v 28), .ref (v 29), .ref (v 30), .int 0, .int 0, .int 0, .int 0, .int 0, .ref (v 36), .long 0, .ref (v 38), .ref (v 39), .ref (v 40), .ref (v 41)])), (v 1, .inl (cI, 544, .inl (upd (upd (upd (fun _ => 0) 8 1) 9 1) 17 (-1))))] := hD
  subst hw
  refine lv_aload_n hx hb dL_law_389 rfl (lv_at hl 1 rfl) ?_
  refine lv_aload_n hx hb dL_law_390 rfl (lv_at hl 3 rfl) ?_
  refine lv_iload_n hx hb dL_law_391 rfl (lv_at hl 0 rfl) ?_
  refine lv_iconst (v := 1) hx hb dL_law_392 (by decide) ?_
  refine lv_iadd hx hb dL_law_393 ?_
  refine lv_topi (nm_r (e' := (1)) (by decide +kernel) ?_)
  refine va_sld hx hb hX hbl hbA hS (vin (by decide)) dL_law_394 ?_
  refine lv_aload_n hx hb dL_law_395 rfl (lv_at hl 3 rfl) ?_
  refine lv_iload_n hx hb dL_law_396 rfl (lv_at hl 0 rfl) ?_
  refine lv_iconst (v := 2) hx hb dL_law_397 (by decide) ?_
  refine lv_iadd hx hb dL_law_398 ?_
  refine lv_topi (nm_r (e' := (2)) (by decide +kernel) ?_)
  refine va_sld hx hb hX hbl hbA hS (vin (by decide)) dL_law_399 ?_
  have hPc := hP.sub (ws' := [(y0, .inr (12, [.int 0, .ref (v 1), .ref (v 2), .ref (v 3), .ref (v 4), .int 0, .ref (v 6), .int 0, .int 0, .int 0, .int 0, .int 0, .int 0, .int (-1), .ref (v 14), .ref (v 15), .ref (v 16), .ref (v 17), .ref (v 18), .ref (v 19), .ref (v 20), .int 0, .ref (v 22), .int 0, .ref (v 24), .ref (v 25), .int 0, .ref (v 27), .ref (v 28), .ref (v 29), .ref (v 30), .int 0, .int 0, .int 0, .int 0, .int 0, .ref (v 36), .long 0, .ref (v 38), .ref (v 39), .ref (v 40), .ref (v 41)])), (v 1, .inl (cI, 544, .inl (upd (upd (upd (fun _ => 0) 8 1) 9 1) 17 (-1))))]) [0, 1] rfl
  have hDc := hD.sub (ws' := [(y0, .inr (12, [.int 0, .ref (v 1), .ref (v 2), .ref (v 3), .ref (v 4), .int 0, .ref (v 6), .int 0, .int 0, .int 0, .int 0, .int 0, .int 0, .int (-1), .ref (v 14), .ref (v 15), .ref (v 16), .ref (v 17), .ref (v 18), .ref (v 19), .ref (v 20), .int 0, .ref (v 22), .int 0, .ref (v 24), .ref (v 25), .int 0, .ref (v 27), .ref (v 28), .ref (v 29), .ref (v 30), .int 0, .int 0, .int 0, .int 0, .int 0, .ref (v 36), .long 0, .ref (v 38), .ref (v 39), .ref (v 40), .ref (v 41)])), (v 1, .inl (cI, 544, .inl (upd (upd (upd (fun _ => 0) 8 1) 9 1) 17 (-1))))]) [0, 1] (by decide) rfl
  have hFc := va_free (wc := [(y0, .inr (12, [.int 0, .ref (v 1), .ref (v 2), .ref (v 3), .ref (v 4), .int 0, .ref (v 6), .int 0, .int 0, .int 0, .int 0, .int 0, .int 0, .int (-1), .ref (v 14), .ref (v 15), .ref (v 16), .ref (v 17), .ref (v 18), .ref (v 19), .ref (v 20), .int 0, .ref (v 22), .int 0, .ref (v 24), .ref (v 25), .int 0, .ref (v 27), .ref (v 28), .ref (v 29), .ref (v 30), .int 0, .int 0, .int 0, .int 0, .int 0, .ref (v 36), .long 0, .ref (v 38), .ref (v 39), .ref (v 40), .ref (v 41)])), (v 1, .inl (cI, 544, .inl (upd (upd (upd (fun _ => 0) 8 1) 9 1) 17 (-1))))]) hD hS hA [0, 1] rfl
  refine va_calli (va_runV (As := [.int (xs (1 : Int32).toNatClampNeg), .int (xs (2 : Int32).toNatClampNeg)]) (rest := [.int (-2)]) ⟨hx, hb, hml, hown, hwd⟩ (c_X12_profile l dC dI cI cZ cB cJ cM y0 v (xs (1 : Int32).toNatClampNeg) (xs (2 : Int32).toNatClampNeg) H.size) (cwV 2 hwd (gV kr16_1 kr16_2 kr16_3 kr1_5 kr16_4) rfl rfl rfl (by decide +kernel) ⟨Nat.le_of_ble_eq_true rfl, Nat.le_of_ble_eq_true rfl⟩) (kPreV hPc hK hDc (ci := 12) (q0 := 0) rfl rfl) rfl rfl hl.1 rfl (lv_room (Nat.le_of_ble_eq_true rfl)) dL_law_400 ⟨Nat.le_of_ble_eq_true rfl, Nat.le_of_ble_eq_true rfl⟩) hS (fun q _ h => hFc q h) hFc (fun r3 u4 t H1 locs ht9 hvm hw hB hz1 hk1 hS => ?_)
  obtain ⟨hP, hD⟩ := va_join (wr := []) (w1 := []) hP hD [0, 1] [] rfl rfl (by decide) (by decide) hk1 hFc kP0 kD0
  generalize H1 = H at hP hS ⊢
  have hP : va_P (dC, dI) vwCl [] H := hP
  have hD : va_D (fun q : Nat => s.heap.size ≤ q) [] := hD
  subst hw
  refine lv_icmp_eq (tgt := 1731) hx hb dL_law_403 (by decide) (fun c5 => ?_) (fun c5 => absurd c5 (by decide))
  exact law_tail C0 hS (lv_sub hl [3, 0] rfl)
set_option maxHeartbeats 4000000 in
set_option maxRecDepth 100000 in
/-- the call of lift on two fresh objects -/
theorem lcase_6 {p : Program} {l : Launch} {e : Env} {s : State} {m : MethodId} {below : List Frame} {meth : Method} {c : Code} {b : Nat} {xs : Nat → Int32} {dC : Nat → ClassId} {dI : Nat → Nat → Nat} {cI cZ cB cJ cM : ClassId} (x0 y0 : Nat) (u v : Nat → Nat) {H : Heap} {locs : List Loc} {ls : Array Slot} (C0 : lw_At p s m meth c b 6 xs) (hK : va_K (dC, dI) vwCl [(cI, .int), (cZ, .boolean), (cB, .byte), (cJ, .long), (cM, .object RX2)] s) (hP : va_P (dC, dI) vwCl [(x0, .inr (11, [.ref (u 0), .ref (u 2), .ref (u 3), .ref (u 4), .ref (u 5), .ref (u 10), .ref (u 11), .ref (u 12), .ref (u 98), .ref (u 124)])), (u 98, .inr (2, [.int 0, .int 0, .int 0, .int 0, .int 0, .int 0, .int 0, .int 0, .int 0, .ref (u 99), .ref (u 107), .ref (u 117), .ref (u 122), .ref (u 123)])), (u 107, .inr (1, [.int 0, .ref (u 108), .ref (u 109), .ref (u 110), .ref (u 111), .ref (u 112), .ref (u 113), .ref (u 114), .ref (u 115), .ref (u 116)])), (y0, .inr (12, [.int 0, .ref (v 1), .ref (v 2), .ref (v 3), .ref (v 4), .int 0, .ref (v 6), .int 0, .int 0, .int 0, .int 0, .int 0, .int 0, .int (-1), .ref (v 14), .ref (v 15), .ref (v 16), .ref (v 17), .ref (v 18), .ref (v 19), .ref (v 20), .int 0, .ref (v 22), .int 0, .ref (v 24), .ref (v 25), .int 0, .ref (v 27), .ref (v 28), .ref (v 29), .ref (v 30), .int 0, .int 0, .int 0, .int 0, .int 0, .ref (v 36), .long 0, .ref (v 38), .ref (v 39), .ref (v 40), .ref (v 41)])), (v 1, .inl (cI, 544, .inl (upd (upd (upd (fun _ => 0) 8 1) 9 1) 17 (-1))))] H) (hD : va_D (fun q : Nat => s.heap.size ≤ q) [(x0, .inr (11, [.ref (u 0), .ref (u 2), .ref (u 3), .ref (u 4), .ref (u 5), .ref (u 10), .ref (u 11), .ref (u 12), .ref (u 98), .ref (u 124)])), (u 98, .inr (2, [.int 0, .int 0, .int 0, .int 0, .int 0, .int 0, .int 0, .int 0, .int 0, .ref (u 99), .ref (u 107), .ref (u 117), .ref (u 122), .ref (u 123)])), (u 107, .inr (1, [.int 0, .ref (u 108), .ref (u 109), .ref (u 110), .ref (u 111), .ref (u 112), .ref (u 113), .ref (u 114), .ref (u 115), .ref (u 116)])), (y0, .inr (12, [.int 0, .ref (v 1), .ref (v 2), .ref (v 3), .ref (v 4), .int 0, .ref (v 6), .int 0, .int 0, .int 0, .int 0, .int 0, .int 0, .int (-1), .ref (v 14), .ref (v 15), .ref (v 16), .ref (v 17), .ref (v 18), .ref (v 19), .ref (v 20), .int 0, .ref (v 22), .int 0, .ref (v 24), .ref (v 25), .int 0, .ref (v 27), .ref (v 28), .ref (v 29), .ref (v 30), .int 0, .int 0, .int 0, .int 0, .int 0, .ref (v 36), .long 0, .ref (v 38), .ref (v 39), .ref (v 40), .ref (v 41)])), (v 1, .inl (cI, 544, .inl (upd (upd (upd (fun _ => 0) 8 1) 9 1) 17 (-1))))]) (hS : va_S (fun q : Nat => s.heap.size ≤ q) s.heap H locs) (hl : lv_has ls 4 [(3, .int 0), (2, .ref y0), (1, .ref x0), (0, .ref b)]) : W p l e room_1 s m #[Value.ref b] below meth c H locs 600000 7302250 (lw_Z below #[Value.ref b] s) (F0 m 408 ls []) := by
  obtain ⟨hx, hb, hr, hml, hown0, hts, hX, hbl, hlocks, hgv⟩ := id C0
  have hb : c.code = cL_law := hb
  have hown : s.vm.findClass RL = some m.cls := hown0
  have hwd : ∀ wd ∈ wsL_law, wd.before #[Value.ref b] s = true := fun w h => hts w (wsL_law_in w h)
  have hA : ∀ q : Nat, s.heap.size ≤ q → (fun q : Nat => s.heap.size ≤ q) q := fun _ h => h
  have hbA : ¬ (fun q : Nat => s.heap.size ≤ q) b := Nat.not_le.mpr hbl
  refine lv_aload_n hx hb dL_law_408 rfl (lv_at hl 2 rfl) ?_
  refine lv_aload_n hx hb dL_law_409 rfl (lv_at hl 3 rfl) ?_
  refine lv_iload_n hx hb dL_law_410 rfl (lv_at hl 0 rfl) ?_
  refine lv_iconst (v := 1) hx hb dL_law_411 (by decide) ?_
  refine lv_iadd hx hb dL_law_412 ?_
  refine lv_topi (nm_r (e' := (1)) (by decide +kernel) ?_)
  refine va_sld hx hb hX hbl hbA hS (vin (by decide)) dL_law_413 ?_
  refine lv_aload_n hx hb dL_law_414 rfl (lv_at hl 3 rfl) ?_
  refine lv_iload_n hx hb dL_law_415 rfl (lv_at hl 0 rfl) ?_
  refine lv_iconst (v := 2) hx hb dL_law_416 (by decide) ?_
  refine lv_iadd hx hb dL_law_417 ?_
  refine lv_topi (nm_r (e' := (2)) (by decide +kernel) ?_)
  refine va_sld hx hb hX hbl hbA hS (vin (by decide)) dL_law_418 ?_
  have hPc := hP.sub (ws' := [(x0, .inr (11, [.ref (u 0), .ref (u 2), .ref (u 3), .ref (u 4), .ref (u 5), .ref (u 10), .ref (u 11), .ref (u 12), .ref (u 98), .ref (u 124)])), (u 98, .inr (2, [.int 0, .int 0, .int 0, .int 0, .int 0, .int 0, .int 0, .int 0, .int 0, .ref (u 99), .ref (u 107), .ref (u 117), .ref (u 122), .ref (u 123)])), (u 107, .inr (1, [.int 0, .ref (u 108), .ref (u 109), .ref (u 110), .ref (u 111), .ref (u 112), .ref (u 113), .ref (u 114), .ref (u 115), .ref (u 116)]))]) [0, 1, 2] rfl
  have hDc := hD.sub (ws' := [(x0, .inr (11, [.ref (u 0), .ref (u 2), .ref (u 3), .ref (u 4), .ref (u 5), .ref (u 10), .ref (u 11), .ref (u 12), .ref (u 98), .ref (u 124)])), (u 98, .inr (2, [.int 0, .int 0, .int 0, .int 0, .int 0, .int 0, .int 0, .int 0, .int 0, .ref (u 99), .ref (u 107), .ref (u 117), .ref (u 122), .ref (u 123)])), (u 107, .inr (1, [.int 0, .ref (u 108), .ref (u 109), .ref (u 110), .ref (u 111), .ref (u 112), .ref (u 113), .ref (u 114), .ref (u 115), .ref (u 116)]))]) [0, 1, 2] (by decide) rfl
  have hFc := va_free (wc := [(x0, .inr (11, [.ref (u 0), .ref (u 2), .ref (u 3), .ref (u 4), .ref (u 5), .ref (u 10), .ref (u 11), .ref (u 12), .ref (u 98), .ref (u 124)])), (u 98, .inr (2, [.int 0, .int 0, .int 0, .int 0, .int 0, .int 0, .int 0, .int 0, .int 0, .ref (u 99), .ref (u 107), .ref (u 117), .ref (u 122), .ref (u 123)])), (u 107, .inr (1, [.int 0, .ref (u 108), .ref (u 109), .ref (u 110), .ref (u 111), .ref (u 112), .ref (u 113), .ref (u 114), .ref (u 115), .ref (u 116)]))]) hD hS hA [0, 1, 2] rfl
  refine va_calli (va_runV (As := [.int (xs (1 : Int32).toNatClampNeg), .int (xs (2 : Int32).toNatClampNeg)]) (rest := []) ⟨hx, hb, hml, hown, hwd⟩ (c_X11_lift l dC dI cI cZ cB cJ cM x0 (u 0) (u 2) (u 3) (u 4) (u 5) (u 10) (u 11) (u 12) (u 98) (u 124) (u 99) (u 107) (u 117) (u 122) (u 123) (u 108) (u 109) (u 110) (u 111) (u 112) (u 113) (u 114) (u 115) (u 116) (xs (1 : Int32).toNatClampNeg) (xs (2 : Int32).toNatClampNeg) H.size) (cwV 2 hwd (gV kr16_13 kr16_14 kr16_15 kr1_2 kr16_16) rfl rfl rfl (by decide +kernel) ⟨Nat.le_of_ble_eq_true rfl, Nat.le_of_ble_eq_true rfl⟩) (kPreV hPc hK hDc (ci := 11) (q0 := 0) rfl rfl) rfl rfl hl.1 rfl (lv_room (Nat.le_of_ble_eq_true rfl)) dL_law_419 ⟨Nat.le_of_ble_eq_true rfl, Nat.le_of_ble_eq_true rfl⟩) hS (fun q _ h => hFc q h) hFc (fun r1 u2 t H1 locs ht9 hvm hw hB hz1 hk1 hS => ?_)
  obtain ⟨hP, hD⟩ := va_join (wr := [(y0, .inr (12, [.int 0, .ref (v 1), .ref (v 2), .ref (v 3), .ref (v 4), .int 0, .ref (v 6), .int 0, .int 0, .int 0, .int 0, .int 0, .int 0, .int (-1), .ref (v 14), .ref (v 15), .ref (v 16), .ref (v 17), .ref (v 18), .ref (v 19), .ref (v 20), .int 0, .ref (v 22), .int 0, .ref (v 24), .ref (v 25), .int 0, .ref (v 27), .ref (v 28), .ref (v 29), .ref (v 30), .int 0, .int 0, .int 0, .int 0, .int 0, .ref (v 36), .long 0, .ref (v 38), .ref (v 39), .ref (v 40), .ref (v 41)])), (v 1, .inl (cI, 544, .inl (upd (upd (upd (fun _ => 0) 8 1) 9 1) 17 (-1))))]) (w1 := []) hP hD [0, 1, 2] [3, 4] rfl rfl (by decide) (by decide) hk1 hFc kP0 kD0
  generalize H1 = H at hP hS ⊢
  have hP : va_P (dC, dI) vwCl [(y0, .inr (12, [.int 0, .ref (v 1), .ref (v 2), .ref (v 3), .ref (v 4), .int 0, .ref (v 6), .int 0, .int 0, .int 0, .int 0, .int 0, .int 0, .int (-1), .ref (v 14), .ref (v 15), .ref (v 16), .ref (v 17), .ref (v 18), .ref (v 19), .ref (v 20), .int 0, .ref (v 22), .int 0, .ref (v 24), .ref (v 25), .int 0, .ref (v 27), .ref (v 28), .ref (v 29), .ref (v 30), .int 0, .int 0, .int 0, .int 0, .int 0, .ref (v 36), .long 0, .ref (v 38), .ref (v 39), .ref (v 40), .ref (v 41)])), (v 1, .inl (cI, 544, .inl (upd (upd (upd (fun _ => 0) 8 1) 9 1) 17 (-1))))] H := hP
  have hD : va_D (fun q : Nat => s.heap.size ≤ q) [(y0, .inr (12, [.int 0, .ref (v 1), .ref (v 2), .ref (v 3), .ref (v 4), .int 0, .ref (v 6), .int 0, .int 0, .int 0, .int 0, .int 0, .int 0, .int (-1), .ref (v 14), .ref (v 15), .ref (v 16), .ref (v 17), .ref (v 18), .ref (v 19), .ref (v 20), .int 0, .ref (v 22), .int 0, .ref (v 24), .ref (v 25), .int 0, .ref (v 27), .ref (v 28), .ref (v 29), .ref (v 30), .int 0, .int 0, .int 0, .int 0, .int 0, .ref (v 36), .long 0, .ref (v 38), .ref (v 39), .ref (v 40), .ref (v 41)])), (v 1, .inl (cI, 544, .inl (upd (upd (upd (fun _ => 0) 8 1) 9 1) 17 (-1))))] := hD
  subst hw
  refine lv_aload_n hx hb dL_law_422 rfl (lv_at hl 1 rfl) ?_
  refine lv_aload_n hx hb dL_law_423 rfl (lv_at hl 3 rfl) ?_
  refine lv_iload_n hx hb dL_law_424 rfl (lv_at hl 0 rfl) ?_
  refine lv_iconst (v := 1) hx hb dL_law_425 (by decide) ?_
  refine lv_iadd hx hb dL_law_426 ?_
  refine lv_topi (nm_r (e' := (1)) (by decide +kernel) ?_)
  refine va_sld hx hb hX hbl hbA hS (vin (by decide)) dL_law_427 ?_
  refine lv_aload_n hx hb dL_law_428 rfl (lv_at hl 3 rfl) ?_
  refine lv_iload_n hx hb dL_law_429 rfl (lv_at hl 0 rfl) ?_
  refine lv_iconst (v := 2) hx hb dL_law_430 (by decide) ?_
  refine lv_iadd hx hb dL_law_431 ?_
  refine lv_topi (nm_r (e' := (2)) (by decide +kernel) ?_)
  refine va_sld hx hb hX hbl hbA hS (vin (by decide)) dL_law_432 ?_
  have hPc := hP.sub (ws' := [(y0, .inr (12, [.int 0, .ref (v 1), .ref (v 2), .ref (v 3), .ref (v 4), .int 0, .ref (v 6), .int 0, .int 0, .int 0, .int 0, .int 0, .int 0, .int (-1), .ref (v 14), .ref (v 15), .ref (v 16), .ref (v 17), .ref (v 18), .ref (v 19), .ref (v 20), .int 0, .ref (v 22), .int 0, .ref (v 24), .ref (v 25), .int 0, .ref (v 27), .ref (v 28), .ref (v 29), .ref (v 30), .int 0, .int 0, .int 0, .int 0, .int 0, .ref (v 36), .long 0, .ref (v 38), .ref (v 39), .ref (v 40), .ref (v 41)])), (v 1, .inl (cI, 544, .inl (upd (upd (upd (fun _ => 0) 8 1) 9 1) 17 (-1))))]) [0, 1] rfl
  have hDc := hD.sub (ws' := [(y0, .inr (12, [.int 0, .ref (v 1), .ref (v 2), .ref (v 3), .ref (v 4), .int 0, .ref (v 6), .int 0, .int 0, .int 0, .int 0, .int 0, .int 0, .int (-1), .ref (v 14), .ref (v 15), .ref (v 16), .ref (v 17), .ref (v 18), .ref (v 19), .ref (v 20), .int 0, .ref (v 22), .int 0, .ref (v 24), .ref (v 25), .int 0, .ref (v 27), .ref (v 28), .ref (v 29), .ref (v 30), .int 0, .int 0, .int 0, .int 0, .int 0, .ref (v 36), .long 0, .ref (v 38), .ref (v 39), .ref (v 40), .ref (v 41)])), (v 1, .inl (cI, 544, .inl (upd (upd (upd (fun _ => 0) 8 1) 9 1) 17 (-1))))]) [0, 1] (by decide) rfl
  have hFc := va_free (wc := [(y0, .inr (12, [.int 0, .ref (v 1), .ref (v 2), .ref (v 3), .ref (v 4), .int 0, .ref (v 6), .int 0, .int 0, .int 0, .int 0, .int 0, .int 0, .int (-1), .ref (v 14), .ref (v 15), .ref (v 16), .ref (v 17), .ref (v 18), .ref (v 19), .ref (v 20), .int 0, .ref (v 22), .int 0, .ref (v 24), .ref (v 25), .int 0, .ref (v 27), .ref (v 28), .ref (v 29), .ref (v 30), .int 0, .int 0, .int 0, .int 0, .int 0, .ref (v 36), .long 0, .ref (v 38), .ref (v 39), .ref (v 40), .ref (v 41)])), (v 1, .inl (cI, 544, .inl (upd (upd (upd (fun _ => 0) 8 1) 9 1) 17 (-1))))]) hD hS hA [0, 1] rfl
  refine va_calli (va_runV (As := [.int (xs (1 : Int32).toNatClampNeg), .int (xs (2 : Int32).toNatClampNeg)]) (rest := [.int (-2)]) ⟨hx, hb, hml, hown, hwd⟩ (c_X12_lift l dC dI cI cZ cB cJ cM y0 v (xs (1 : Int32).toNatClampNeg) (xs (2 : Int32).toNatClampNeg) H.size) (cwV 2 hwd (gV kr16_18 kr16_19 kr16_20 kr1_5 kr16_21) rfl rfl rfl (by decide +kernel) ⟨Nat.le_of_ble_eq_true rfl, Nat.le_of_ble_eq_true rfl⟩) (kPreV hPc hK hDc (ci := 12) (q0 := 0) rfl rfl) rfl rfl hl.1 rfl (lv_room (Nat.le_of_ble_eq_true rfl)) dL_law_433 ⟨Nat.le_of_ble_eq_true rfl, Nat.le_of_ble_eq_true rfl⟩) hS (fun q _ h => hFc q h) hFc (fun r3 u4 t H1 locs ht9 hvm hw hB hz1 hk1 hS => ?_)
  obtain ⟨hP, hD⟩ := va_join (wr := []) (w1 := []) hP hD [0, 1] [] rfl rfl (by decide) (by decide) hk1 hFc kP0 kD0
  generalize H1 = H at hP hS ⊢
  have hP : va_P (dC, dI) vwCl [] H := hP
  have hD : va_D (fun q : Nat => s.heap.size ≤ q) [] := hD
  subst hw
  refine lv_icmp_eq (tgt := 1731) hx hb dL_law_436 (by decide) (fun c5 => ?_) (fun c5 => absurd c5 (by decide))
  exact law_tail C0 hS (lv_sub hl [3, 0] rfl)
set_option maxHeartbeats 4000000 in
set_option maxRecDepth 100000 in
/-- the call of steep on two fresh objects -/
theorem lcase_7 {p : Program} {l : Launch} {e : Env} {s : State} {m : MethodId} {below : List Frame} {meth : Method} {c : Code} {b : Nat} {xs : Nat → Int32} {dC : Nat → ClassId} {dI : Nat → Nat → Nat} {cI cZ cB cJ cM : ClassId} (x0 y0 : Nat) (u v : Nat → Nat) {H : Heap} {locs : List Loc} {ls : Array Slot} (C0 : lw_At p s m meth c b 6 xs) (hK : va_K (dC, dI) vwCl [(cI, .int), (cZ, .boolean), (cB, .byte), (cJ, .long), (cM, .object RX2)] s) (hP : va_P (dC, dI) vwCl [(x0, .inr (11, [.ref (u 0), .ref (u 2), .ref (u 3), .ref (u 4), .ref (u 5), .ref (u 10), .ref (u 11), .ref (u 12), .ref (u 98), .ref (u 124)])), (u 98, .inr (2, [.int 0, .int 0, .int 0, .int 0, .int 0, .int 0, .int 0, .int 0, .int 0, .ref (u 99), .ref (u 107), .ref (u 117), .ref (u 122), .ref (u 123)])), (y0, .inr (12, [.int 0, .ref (v 1), .ref (v 2), .ref (v 3), .ref (v 4), .int 0, .ref (v 6), .int 0, .int 0, .int 0, .int 0, .int 0, .int 0, .int (-1), .ref (v 14), .ref (v 15), .ref (v 16), .ref (v 17), .ref (v 18), .ref (v 19), .ref (v 20), .int 0, .ref (v 22), .int 0, .ref (v 24), .ref (v 25), .int 0, .ref (v 27), .ref (v 28), .ref (v 29), .ref (v 30), .int 0, .int 0, .int 0, .int 0, .int 0, .ref (v 36), .long 0, .ref (v 38), .ref (v 39), .ref (v 40), .ref (v 41)])), (v 1, .inl (cI, 544, .inl (upd (upd (upd (fun _ => 0) 8 1) 9 1) 17 (-1))))] H) (hD : va_D (fun q : Nat => s.heap.size ≤ q) [(x0, .inr (11, [.ref (u 0), .ref (u 2), .ref (u 3), .ref (u 4), .ref (u 5), .ref (u 10), .ref (u 11), .ref (u 12), .ref (u 98), .ref (u 124)])), (u 98, .inr (2, [.int 0, .int 0, .int 0, .int 0, .int 0, .int 0, .int 0, .int 0, .int 0, .ref (u 99), .ref (u 107), .ref (u 117), .ref (u 122), .ref (u 123)])), (y0, .inr (12, [.int 0, .ref (v 1), .ref (v 2), .ref (v 3), .ref (v 4), .int 0, .ref (v 6), .int 0, .int 0, .int 0, .int 0, .int 0, .int 0, .int (-1), .ref (v 14), .ref (v 15), .ref (v 16), .ref (v 17), .ref (v 18), .ref (v 19), .ref (v 20), .int 0, .ref (v 22), .int 0, .ref (v 24), .ref (v 25), .int 0, .ref (v 27), .ref (v 28), .ref (v 29), .ref (v 30), .int 0, .int 0, .int 0, .int 0, .int 0, .ref (v 36), .long 0, .ref (v 38), .ref (v 39), .ref (v 40), .ref (v 41)])), (v 1, .inl (cI, 544, .inl (upd (upd (upd (fun _ => 0) 8 1) 9 1) 17 (-1))))]) (hS : va_S (fun q : Nat => s.heap.size ≤ q) s.heap H locs) (hl : lv_has ls 4 [(3, .int 0), (2, .ref y0), (1, .ref x0), (0, .ref b)]) : W p l e room_1 s m #[Value.ref b] below meth c H locs 600000 7302250 (lw_Z below #[Value.ref b] s) (F0 m 441 ls []) := by
  obtain ⟨hx, hb, hr, hml, hown0, hts, hX, hbl, hlocks, hgv⟩ := id C0
  have hb : c.code = cL_law := hb
  have hown : s.vm.findClass RL = some m.cls := hown0
  have hwd : ∀ wd ∈ wsL_law, wd.before #[Value.ref b] s = true := fun w h => hts w (wsL_law_in w h)
  have hA : ∀ q : Nat, s.heap.size ≤ q → (fun q : Nat => s.heap.size ≤ q) q := fun _ h => h
  have hbA : ¬ (fun q : Nat => s.heap.size ≤ q) b := Nat.not_le.mpr hbl
  refine lv_aload_n hx hb dL_law_441 rfl (lv_at hl 2 rfl) ?_
  refine lv_aload_n hx hb dL_law_442 rfl (lv_at hl 3 rfl) ?_
  refine lv_iload_n hx hb dL_law_443 rfl (lv_at hl 0 rfl) ?_
  refine lv_iconst (v := 1) hx hb dL_law_444 (by decide) ?_
  refine lv_iadd hx hb dL_law_445 ?_
  refine lv_topi (nm_r (e' := (1)) (by decide +kernel) ?_)
  refine va_sld hx hb hX hbl hbA hS (vin (by decide)) dL_law_446 ?_
  have hPc := hP.sub (ws' := [(x0, .inr (11, [.ref (u 0), .ref (u 2), .ref (u 3), .ref (u 4), .ref (u 5), .ref (u 10), .ref (u 11), .ref (u 12), .ref (u 98), .ref (u 124)])), (u 98, .inr (2, [.int 0, .int 0, .int 0, .int 0, .int 0, .int 0, .int 0, .int 0, .int 0, .ref (u 99), .ref (u 107), .ref (u 117), .ref (u 122), .ref (u 123)]))]) [0, 1] rfl
  have hDc := hD.sub (ws' := [(x0, .inr (11, [.ref (u 0), .ref (u 2), .ref (u 3), .ref (u 4), .ref (u 5), .ref (u 10), .ref (u 11), .ref (u 12), .ref (u 98), .ref (u 124)])), (u 98, .inr (2, [.int 0, .int 0, .int 0, .int 0, .int 0, .int 0, .int 0, .int 0, .int 0, .ref (u 99), .ref (u 107), .ref (u 117), .ref (u 122), .ref (u 123)]))]) [0, 1] (by decide) rfl
  have hFc := va_free (wc := [(x0, .inr (11, [.ref (u 0), .ref (u 2), .ref (u 3), .ref (u 4), .ref (u 5), .ref (u 10), .ref (u 11), .ref (u 12), .ref (u 98), .ref (u 124)])), (u 98, .inr (2, [.int 0, .int 0, .int 0, .int 0, .int 0, .int 0, .int 0, .int 0, .int 0, .ref (u 99), .ref (u 107), .ref (u 117), .ref (u 122), .ref (u 123)]))]) hD hS hA [0, 1] rfl
  refine va_calli (va_runV (As := [.int (xs (1 : Int32).toNatClampNeg)]) (rest := []) ⟨hx, hb, hml, hown, hwd⟩ (c_X11_steep l dC dI cI cZ cB cJ cM x0 (u 0) (u 2) (u 3) (u 4) (u 5) (u 10) (u 11) (u 12) (u 98) (u 124) (u 99) (u 107) (u 117) (u 122) (u 123) (xs (1 : Int32).toNatClampNeg) H.size) (cwV 1 hwd (gV kr17_2 kr17_3 kr17_4 kr1_2 kr17_5) rfl rfl rfl (by decide +kernel) ⟨Nat.le_of_ble_eq_true rfl, Nat.le_of_ble_eq_true rfl⟩) (kPreV hPc hK hDc (ci := 11) (q0 := 0) rfl rfl) rfl rfl hl.1 rfl (lv_room (Nat.le_of_ble_eq_true rfl)) dL_law_447 ⟨Nat.le_of_ble_eq_true rfl, Nat.le_of_ble_eq_true rfl⟩) hS (fun q _ h => hFc q h) hFc (fun r1 u2 t H1 locs ht9 hvm hw hB hz1 hk1 hS => ?_)
  obtain ⟨hP, hD⟩ := va_join (wr := [(y0, .inr (12, [.int 0, .ref (v 1), .ref (v 2), .ref (v 3), .ref (v 4), .int 0, .ref (v 6), .int 0, .int 0, .int 0, .int 0, .int 0, .int 0, .int (-1), .ref (v 14), .ref (v 15), .ref (v 16), .ref (v 17), .ref (v 18), .ref (v 19), .ref (v 20), .int 0, .ref (v 22), .int 0, .ref (v 24), .ref (v 25), .int 0, .ref (v 27), .ref (v 28), .ref (v 29), .ref (v 30), .int 0, .int 0, .int 0, .int 0, .int 0, .ref (v 36), .long 0, .ref (v 38), .ref (v 39), .ref (v 40), .ref (v 41)])), (v 1, .inl (cI, 544, .inl (upd (upd (upd (fun _ => 0) 8 1) 9 1) 17 (-1))))]) (w1 := []) hP hD [0, 1] [2, 3] rfl rfl (by decide) (by decide) hk1 hFc kP0 kD0
  generalize H1 = H at hP hS ⊢
  have hP : va_P (dC, dI) vwCl [(y0, .inr (12, [.int 0, .ref (v 1), .ref (v 2), .ref (v 3), .ref (v 4), .int 0, .ref (v 6), .int 0, .int 0, .int 0, .int 0, .int 0, .int 0, .int (-1), .ref (v 14), .ref (v 15), .ref (v 16), .ref (v 17), .ref (v 18), .ref (v 19), .ref (v 20), .int 0, .ref (v 22), .int 0, .ref (v 24), .ref (v 25), .int 0, .ref (v 27), .ref (v 28), .ref (v 29), .ref (v 30), .int 0, .int 0, .int 0, .int 0, .int 0, .ref (v 36), .long 0, .ref (v 38), .ref (v 39), .ref (v 40), .ref (v 41)])), (v 1, .inl (cI, 544, .inl (upd (upd (upd (fun _ => 0) 8 1) 9 1) 17 (-1))))] H := hP
  have hD : va_D (fun q : Nat => s.heap.size ≤ q) [(y0, .inr (12, [.int 0, .ref (v 1), .ref (v 2), .ref (v 3), .ref (v 4), .int 0, .ref (v 6), .int 0, .int 0, .int 0, .int 0, .int 0, .int 0, .int (-1), .ref (v 14), .ref (v 15), .ref (v 16), .ref (v 17), .ref (v 18), .ref (v 19), .ref (v 20), .int 0, .ref (v 22), .int 0, .ref (v 24), .ref (v 25), .int 0, .ref (v 27), .ref (v 28), .ref (v 29), .ref (v 30), .int 0, .int 0, .int 0, .int 0, .int 0, .ref (v 36), .long 0, .ref (v 38), .ref (v 39), .ref (v 40), .ref (v 41)])), (v 1, .inl (cI, 544, .inl (upd (upd (upd (fun _ => 0) 8 1) 9 1) 17 (-1))))] := hD
  subst hw
  refine lv_aload_n hx hb dL_law_450 rfl (lv_at hl 1 rfl) ?_
  refine lv_aload_n hx hb dL_law_451 rfl (lv_at hl 3 rfl) ?_
  refine lv_iload_n hx hb dL_law_452 rfl (lv_at hl 0 rfl) ?_
  refine lv_iconst (v := 1) hx hb dL_law_453 (by decide) ?_
  refine lv_iadd hx hb dL_law_454 ?_
  refine lv_topi (nm_r (e' := (1)) (by decide +kernel) ?_)
  refine va_sld hx hb hX hbl hbA hS (vin (by decide)) dL_law_455 ?_
  have hPc := hP.sub (ws' := [(y0, .inr (12, [.int 0, .ref (v 1), .ref (v 2), .ref (v 3), .ref (v 4), .int 0, .ref (v 6), .int 0, .int 0, .int 0, .int 0, .int 0, .int 0, .int (-1), .ref (v 14), .ref (v 15), .ref (v 16), .ref (v 17), .ref (v 18), .ref (v 19), .ref (v 20), .int 0, .ref (v 22), .int 0, .ref (v 24), .ref (v 25), .int 0, .ref (v 27), .ref (v 28), .ref (v 29), .ref (v 30), .int 0, .int 0, .int 0, .int 0, .int 0, .ref (v 36), .long 0, .ref (v 38), .ref (v 39), .ref (v 40), .ref (v 41)])), (v 1, .inl (cI, 544, .inl (upd (upd (upd (fun _ => 0) 8 1) 9 1) 17 (-1))))]) [0, 1] rfl
  have hDc := hD.sub (ws' := [(y0, .inr (12, [.int 0, .ref (v 1), .ref (v 2), .ref (v 3), .ref (v 4), .int 0, .ref (v 6), .int 0, .int 0, .int 0, .int 0, .int 0, .int 0, .int (-1), .ref (v 14), .ref (v 15), .ref (v 16), .ref (v 17), .ref (v 18), .ref (v 19), .ref (v 20), .int 0, .ref (v 22), .int 0, .ref (v 24), .ref (v 25), .int 0, .ref (v 27), .ref (v 28), .ref (v 29), .ref (v 30), .int 0, .int 0, .int 0, .int 0, .int 0, .ref (v 36), .long 0, .ref (v 38), .ref (v 39), .ref (v 40), .ref (v 41)])), (v 1, .inl (cI, 544, .inl (upd (upd (upd (fun _ => 0) 8 1) 9 1) 17 (-1))))]) [0, 1] (by decide) rfl
  have hFc := va_free (wc := [(y0, .inr (12, [.int 0, .ref (v 1), .ref (v 2), .ref (v 3), .ref (v 4), .int 0, .ref (v 6), .int 0, .int 0, .int 0, .int 0, .int 0, .int 0, .int (-1), .ref (v 14), .ref (v 15), .ref (v 16), .ref (v 17), .ref (v 18), .ref (v 19), .ref (v 20), .int 0, .ref (v 22), .int 0, .ref (v 24), .ref (v 25), .int 0, .ref (v 27), .ref (v 28), .ref (v 29), .ref (v 30), .int 0, .int 0, .int 0, .int 0, .int 0, .ref (v 36), .long 0, .ref (v 38), .ref (v 39), .ref (v 40), .ref (v 41)])), (v 1, .inl (cI, 544, .inl (upd (upd (upd (fun _ => 0) 8 1) 9 1) 17 (-1))))]) hD hS hA [0, 1] rfl
  refine va_calli (va_runV (As := [.int (xs (1 : Int32).toNatClampNeg)]) (rest := [.int (-2)]) ⟨hx, hb, hml, hown, hwd⟩ (c_X12_steep l dC dI cI cZ cB cJ cM y0 v (xs (1 : Int32).toNatClampNeg) H.size) (cwV 1 hwd (gV kr17_7 kr17_8 kr17_9 kr1_5 kr17_10) rfl rfl rfl (by decide +kernel) ⟨Nat.le_of_ble_eq_true rfl, Nat.le_of_ble_eq_true rfl⟩) (kPreV hPc hK hDc (ci := 12) (q0 := 0) rfl rfl) rfl rfl hl.1 rfl (lv_room (Nat.le_of_ble_eq_true rfl)) dL_law_456 ⟨Nat.le_of_ble_eq_true rfl, Nat.le_of_ble_eq_true rfl⟩) hS (fun q _ h => hFc q h) hFc (fun r3 u4 t H1 locs ht9 hvm hw hB hz1 hk1 hS => ?_)
  obtain ⟨hP, hD⟩ := va_join (wr := []) (w1 := []) hP hD [0, 1] [] rfl rfl (by decide) (by decide) hk1 hFc kP0 kD0
  generalize H1 = H at hP hS ⊢
  have hP : va_P (dC, dI) vwCl [] H := hP
  have hD : va_D (fun q : Nat => s.heap.size ≤ q) [] := hD
  subst hw
  refine lv_icmp_eq (tgt := 1731) hx hb dL_law_459 (by decide) (fun c5 => ?_) (fun c5 => absurd c5 (by decide))
  exact law_tail C0 hS (lv_sub hl [3, 0] rfl)
set_option maxHeartbeats 4000000 in
set_option maxRecDepth 100000 in
/-- the call of jams on two fresh objects -/
theorem lcase_8 {p : Program} {l : Launch} {e : Env} {s : State} {m : MethodId} {below : List Frame} {meth : Method} {c : Code} {b : Nat} {xs : Nat → Int32} {dC : Nat → ClassId} {dI : Nat → Nat → Nat} {cI cZ cB cJ cM : ClassId} (x0 y0 : Nat) (u v : Nat → Nat) {H : Heap} {locs : List Loc} {ls : Array Slot} (C0 : lw_At p s m meth c b 6 xs) (hK : va_K (dC, dI) vwCl [(cI, .int), (cZ, .boolean), (cB, .byte), (cJ, .long), (cM, .object RX2)] s) (hP : va_P (dC, dI) vwCl [(x0, .inr (11, [.ref (u 0), .ref (u 2), .ref (u 3), .ref (u 4), .ref (u 5), .ref (u 10), .ref (u 11), .ref (u 12), .ref (u 98), .ref (u 124)])), (u 98, .inr (2, [.int 0, .int 0, .int 0, .int 0, .int 0, .int 0, .int 0, .int 0, .int 0, .ref (u 99), .ref (u 107), .ref (u 117), .ref (u 122), .ref (u 123)])), (u 107, .inr (1, [.int 0, .ref (u 108), .ref (u 109), .ref (u 110), .ref (u 111), .ref (u 112), .ref (u 113), .ref (u 114), .ref (u 115), .ref (u 116)])), (y0, .inr (12, [.int 0, .ref (v 1), .ref (v 2), .ref (v 3), .ref (v 4), .int 0, .ref (v 6), .int 0, .int 0, .int 0, .int 0, .int 0, .int 0, .int (-1), .ref (v 14), .ref (v 15), .ref (v 16), .ref (v 17), .ref (v 18), .ref (v 19), .ref (v 20), .int 0, .ref (v 22), .int 0, .ref (v 24), .ref (v 25), .int 0, .ref (v 27), .ref (v 28), .ref (v 29), .ref (v 30), .int 0, .int 0, .int 0, .int 0, .int 0, .ref (v 36), .long 0, .ref (v 38), .ref (v 39), .ref (v 40), .ref (v 41)])), (v 1, .inl (cI, 544, .inl (upd (upd (upd (fun _ => 0) 8 1) 9 1) 17 (-1))))] H) (hD : va_D (fun q : Nat => s.heap.size ≤ q) [(x0, .inr (11, [.ref (u 0), .ref (u 2), .ref (u 3), .ref (u 4), .ref (u 5), .ref (u 10), .ref (u 11), .ref (u 12), .ref (u 98), .ref (u 124)])), (u 98, .inr (2, [.int 0, .int 0, .int 0, .int 0, .int 0, .int 0, .int 0, .int 0, .int 0, .ref (u 99), .ref (u 107), .ref (u 117), .ref (u 122), .ref (u 123)])), (u 107, .inr (1, [.int 0, .ref (u 108), .ref (u 109), .ref (u 110), .ref (u 111), .ref (u 112), .ref (u 113), .ref (u 114), .ref (u 115), .ref (u 116)])), (y0, .inr (12, [.int 0, .ref (v 1), .ref (v 2), .ref (v 3), .ref (v 4), .int 0, .ref (v 6), .int 0, .int 0, .int 0, .int 0, .int 0, .int 0, .int (-1), .ref (v 14), .ref (v 15), .ref (v 16), .ref (v 17), .ref (v 18), .ref (v 19), .ref (v 20), .int 0, .ref (v 22), .int 0, .ref (v 24), .ref (v 25), .int 0, .ref (v 27), .ref (v 28), .ref (v 29), .ref (v 30), .int 0, .int 0, .int 0, .int 0, .int 0, .ref (v 36), .long 0, .ref (v 38), .ref (v 39), .ref (v 40), .ref (v 41)])), (v 1, .inl (cI, 544, .inl (upd (upd (upd (fun _ => 0) 8 1) 9 1) 17 (-1))))]) (hS : va_S (fun q : Nat => s.heap.size ≤ q) s.heap H locs) (hl : lv_has ls 4 [(3, .int 0), (2, .ref y0), (1, .ref x0), (0, .ref b)]) : W p l e room_1 s m #[Value.ref b] below meth c H locs 600000 7302250 (lw_Z below #[Value.ref b] s) (F0 m 464 ls []) := by
  obtain ⟨hx, hb, hr, hml, hown0, hts, hX, hbl, hlocks, hgv⟩ := id C0
  have hb : c.code = cL_law := hb
  have hown : s.vm.findClass RL = some m.cls := hown0
  have hwd : ∀ wd ∈ wsL_law, wd.before #[Value.ref b] s = true := fun w h => hts w (wsL_law_in w h)
  have hA : ∀ q : Nat, s.heap.size ≤ q → (fun q : Nat => s.heap.size ≤ q) q := fun _ h => h
  have hbA : ¬ (fun q : Nat => s.heap.size ≤ q) b := Nat.not_le.mpr hbl
  refine lv_aload_n hx hb dL_law_464 rfl (lv_at hl 2 rfl) ?_
  refine lv_aload_n hx hb dL_law_465 rfl (lv_at hl 3 rfl) ?_
  refine lv_iload_n hx hb dL_law_466 rfl (lv_at hl 0 rfl) ?_
  refine lv_iconst (v := 1) hx hb dL_law_467 (by decide) ?_
  refine lv_iadd hx hb dL_law_468 ?_
  refine lv_topi (nm_r (e' := (1)) (by decide +kernel) ?_)
  refine va_sld hx hb hX hbl hbA hS (vin (by decide)) dL_law_469 ?_
  have hPc := hP.sub (ws' := [(x0, .inr (11, [.ref (u 0), .ref (u 2), .ref (u 3), .ref (u 4), .ref (u 5), .ref (u 10), .ref (u 11), .ref (u 12), .ref (u 98), .ref (u 124)])), (u 98, .inr (2, [.int 0, .int 0, .int 0, .int 0, .int 0, .int 0, .int 0, .int 0, .int 0, .ref (u 99), .ref (u 107), .ref (u 117), .ref (u 122), .ref (u 123)])), (u 107, .inr (1, [.int 0, .ref (u 108), .ref (u 109), .ref (u 110), .ref (u 111), .ref (u 112), .ref (u 113), .ref (u 114), .ref (u 115), .ref (u 116)]))]) [0, 1, 2] rfl
  have hDc := hD.sub (ws' := [(x0, .inr (11, [.ref (u 0), .ref (u 2), .ref (u 3), .ref (u 4), .ref (u 5), .ref (u 10), .ref (u 11), .ref (u 12), .ref (u 98), .ref (u 124)])), (u 98, .inr (2, [.int 0, .int 0, .int 0, .int 0, .int 0, .int 0, .int 0, .int 0, .int 0, .ref (u 99), .ref (u 107), .ref (u 117), .ref (u 122), .ref (u 123)])), (u 107, .inr (1, [.int 0, .ref (u 108), .ref (u 109), .ref (u 110), .ref (u 111), .ref (u 112), .ref (u 113), .ref (u 114), .ref (u 115), .ref (u 116)]))]) [0, 1, 2] (by decide) rfl
  have hFc := va_free (wc := [(x0, .inr (11, [.ref (u 0), .ref (u 2), .ref (u 3), .ref (u 4), .ref (u 5), .ref (u 10), .ref (u 11), .ref (u 12), .ref (u 98), .ref (u 124)])), (u 98, .inr (2, [.int 0, .int 0, .int 0, .int 0, .int 0, .int 0, .int 0, .int 0, .int 0, .ref (u 99), .ref (u 107), .ref (u 117), .ref (u 122), .ref (u 123)])), (u 107, .inr (1, [.int 0, .ref (u 108), .ref (u 109), .ref (u 110), .ref (u 111), .ref (u 112), .ref (u 113), .ref (u 114), .ref (u 115), .ref (u 116)]))]) hD hS hA [0, 1, 2] rfl
  refine va_calli (va_runV (As := [.int (xs (1 : Int32).toNatClampNeg)]) (rest := []) ⟨hx, hb, hml, hown, hwd⟩ (c_X11_jams l dC dI cI cZ cB cJ cM x0 (u 0) (u 2) (u 3) (u 4) (u 5) (u 10) (u 11) (u 12) (u 98) (u 124) (u 99) (u 107) (u 117) (u 122) (u 123) (u 108) (u 109) (u 110) (u 111) (u 112) (u 113) (u 114) (u 115) (u 116) (xs (1 : Int32).toNatClampNeg) H.size) (cwV 1 hwd (gV kr17_11 kr17_12 kr17_13 kr1_2 kr17_14) rfl rfl rfl (by decide +kernel) ⟨Nat.le_of_ble_eq_true rfl, Nat.le_of_ble_eq_true rfl⟩) (kPreV hPc hK hDc (ci := 11) (q0 := 0) rfl rfl) rfl rfl hl.1 rfl (lv_room (Nat.le_of_ble_eq_true rfl)) dL_law_470 ⟨Nat.le_of_ble_eq_true rfl, Nat.le_of_ble_eq_true rfl⟩) hS (fun q _ h => hFc q h) hFc (fun r1 u2 t H1 locs ht9 hvm hw hB hz1 hk1 hS => ?_)
  obtain ⟨hP, hD⟩ := va_join (wr := [(y0, .inr (12, [.int 0, .ref (v 1), .ref (v 2), .ref (v 3), .ref (v 4), .int 0, .ref (v 6), .int 0, .int 0, .int 0, .int 0, .int 0, .int 0, .int (-1), .ref (v 14), .ref (v 15), .ref (v 16), .ref (v 17), .ref (v 18), .ref (v 19), .ref (v 20), .int 0, .ref (v 22), .int 0, .ref (v 24), .ref (v 25), .int 0, .ref (v 27), .ref (v 28), .ref (v 29), .ref (v 30), .int 0, .int 0, .int 0, .int 0, .int 0, .ref (v 36), .long 0, .ref (v 38), .ref (v 39), .ref (v 40), .ref (v 41)])), (v 1, .inl (cI, 544, .inl (upd (upd (upd (fun _ => 0) 8 1) 9 1) 17 (-1))))]) (w1 := []) hP hD [0, 1, 2] [3, 4] rfl rfl (by decide) (by decide) hk1 hFc kP0 kD0
  generalize H1 = H at hP hS ⊢
  have hP : va_P (dC, dI) vwCl [(y0, .inr (12, [.int 0, .ref (v 1), .ref (v 2), .ref (v 3), .ref (v 4), .int 0, .ref (v 6), .int 0, .int 0, .int 0, .int 0, .int 0, .int 0, .int (-1), .ref (v 14), .ref (v 15), .ref (v 16), .ref (v 17), .ref (v 18), .ref (v 19), .ref (v 20), .int 0, .ref (v 22), .int 0, .ref (v 24), .ref (v 25), .int 0, .ref (v 27), .ref (v 28), .ref (v 29), .ref (v 30), .int 0, .int 0, .int 0, .int 0, .int 0, .ref (v 36), .long 0, .ref (v 38), .ref (v 39), .ref (v 40), .ref (v 41)])), (v 1, .inl (cI, 544, .inl (upd (upd (upd (fun _ => 0) 8 1) 9 1) 17 (-1))))] H := hP
  have hD : va_D (fun q : Nat => s.heap.size ≤ q) [(y0, .inr (12, [.int 0, .ref (v 1), .ref (v 2), .ref (v 3), .ref (v 4), .int 0, .ref (v 6), .int 0, .int 0, .int 0, .int 0, .int 0, .int 0, .int (-1), .ref (v 14), .ref (v 15), .ref (v 16), .ref (v 17), .ref (v 18), .ref (v 19), .ref (v 20), .int 0, .ref (v 22), .int 0, .ref (v 24), .ref (v 25), .int 0, .ref (v 27), .ref (v 28), .ref (v 29), .ref (v 30), .int 0, .int 0, .int 0, .int 0, .int 0, .ref (v 36), .long 0, .ref (v 38), .ref (v 39), .ref (v 40), .ref (v 41)])), (v 1, .inl (cI, 544, .inl (upd (upd (upd (fun _ => 0) 8 1) 9 1) 17 (-1))))] := hD
  subst hw
  refine lv_aload_n hx hb dL_law_473 rfl (lv_at hl 1 rfl) ?_
  refine lv_aload_n hx hb dL_law_474 rfl (lv_at hl 3 rfl) ?_
  refine lv_iload_n hx hb dL_law_475 rfl (lv_at hl 0 rfl) ?_
  refine lv_iconst (v := 1) hx hb dL_law_476 (by decide) ?_
  refine lv_iadd hx hb dL_law_477 ?_
  refine lv_topi (nm_r (e' := (1)) (by decide +kernel) ?_)
  refine va_sld hx hb hX hbl hbA hS (vin (by decide)) dL_law_478 ?_
  have hPc := hP.sub (ws' := [(y0, .inr (12, [.int 0, .ref (v 1), .ref (v 2), .ref (v 3), .ref (v 4), .int 0, .ref (v 6), .int 0, .int 0, .int 0, .int 0, .int 0, .int 0, .int (-1), .ref (v 14), .ref (v 15), .ref (v 16), .ref (v 17), .ref (v 18), .ref (v 19), .ref (v 20), .int 0, .ref (v 22), .int 0, .ref (v 24), .ref (v 25), .int 0, .ref (v 27), .ref (v 28), .ref (v 29), .ref (v 30), .int 0, .int 0, .int 0, .int 0, .int 0, .ref (v 36), .long 0, .ref (v 38), .ref (v 39), .ref (v 40), .ref (v 41)])), (v 1, .inl (cI, 544, .inl (upd (upd (upd (fun _ => 0) 8 1) 9 1) 17 (-1))))]) [0, 1] rfl
  have hDc := hD.sub (ws' := [(y0, .inr (12, [.int 0, .ref (v 1), .ref (v 2), .ref (v 3), .ref (v 4), .int 0, .ref (v 6), .int 0, .int 0, .int 0, .int 0, .int 0, .int 0, .int (-1), .ref (v 14), .ref (v 15), .ref (v 16), .ref (v 17), .ref (v 18), .ref (v 19), .ref (v 20), .int 0, .ref (v 22), .int 0, .ref (v 24), .ref (v 25), .int 0, .ref (v 27), .ref (v 28), .ref (v 29), .ref (v 30), .int 0, .int 0, .int 0, .int 0, .int 0, .ref (v 36), .long 0, .ref (v 38), .ref (v 39), .ref (v 40), .ref (v 41)])), (v 1, .inl (cI, 544, .inl (upd (upd (upd (fun _ => 0) 8 1) 9 1) 17 (-1))))]) [0, 1] (by decide) rfl
  have hFc := va_free (wc := [(y0, .inr (12, [.int 0, .ref (v 1), .ref (v 2), .ref (v 3), .ref (v 4), .int 0, .ref (v 6), .int 0, .int 0, .int 0, .int 0, .int 0, .int 0, .int (-1), .ref (v 14), .ref (v 15), .ref (v 16), .ref (v 17), .ref (v 18), .ref (v 19), .ref (v 20), .int 0, .ref (v 22), .int 0, .ref (v 24), .ref (v 25), .int 0, .ref (v 27), .ref (v 28), .ref (v 29), .ref (v 30), .int 0, .int 0, .int 0, .int 0, .int 0, .ref (v 36), .long 0, .ref (v 38), .ref (v 39), .ref (v 40), .ref (v 41)])), (v 1, .inl (cI, 544, .inl (upd (upd (upd (fun _ => 0) 8 1) 9 1) 17 (-1))))]) hD hS hA [0, 1] rfl
  refine va_calli (va_runV (As := [.int (xs (1 : Int32).toNatClampNeg)]) (rest := [.int (-2)]) ⟨hx, hb, hml, hown, hwd⟩ (c_X12_jams l dC dI cI cZ cB cJ cM y0 v (xs (1 : Int32).toNatClampNeg) H.size) (cwV 1 hwd (gV kr17_16 kr17_17 kr17_18 kr1_5 kr17_19) rfl rfl rfl (by decide +kernel) ⟨Nat.le_of_ble_eq_true rfl, Nat.le_of_ble_eq_true rfl⟩) (kPreV hPc hK hDc (ci := 12) (q0 := 0) rfl rfl) rfl rfl hl.1 rfl (lv_room (Nat.le_of_ble_eq_true rfl)) dL_law_479 ⟨Nat.le_of_ble_eq_true rfl, Nat.le_of_ble_eq_true rfl⟩) hS (fun q _ h => hFc q h) hFc (fun r3 u4 t H1 locs ht9 hvm hw hB hz1 hk1 hS => ?_)
  obtain ⟨hP, hD⟩ := va_join (wr := []) (w1 := []) hP hD [0, 1] [] rfl rfl (by decide) (by decide) hk1 hFc kP0 kD0
  generalize H1 = H at hP hS ⊢
  have hP : va_P (dC, dI) vwCl [] H := hP
  have hD : va_D (fun q : Nat => s.heap.size ≤ q) [] := hD
  subst hw
  refine lv_icmp_eq (tgt := 1731) hx hb dL_law_482 (by decide) (fun c5 => ?_) (fun c5 => absurd c5 (by decide))
  exact law_tail C0 hS (lv_sub hl [3, 0] rfl)
set_option maxHeartbeats 4000000 in
set_option maxRecDepth 100000 in
/-- the call of covers on two fresh objects -/
theorem lcase_9 {p : Program} {l : Launch} {e : Env} {s : State} {m : MethodId} {below : List Frame} {meth : Method} {c : Code} {b : Nat} {xs : Nat → Int32} {dC : Nat → ClassId} {dI : Nat → Nat → Nat} {cI cZ cB cJ cM : ClassId} (x0 y0 : Nat) (u v : Nat → Nat) {H : Heap} {locs : List Loc} {ls : Array Slot} (C0 : lw_At p s m meth c b 6 xs) (hK : va_K (dC, dI) vwCl [(cI, .int), (cZ, .boolean), (cB, .byte), (cJ, .long), (cM, .object RX2)] s) (hP : va_P (dC, dI) vwCl [(x0, .inr (11, [.ref (u 0), .ref (u 2), .ref (u 3), .ref (u 4), .ref (u 5), .ref (u 10), .ref (u 11), .ref (u 12), .ref (u 98), .ref (u 124)])), (u 98, .inr (2, [.int 0, .int 0, .int 0, .int 0, .int 0, .int 0, .int 0, .int 0, .int 0, .ref (u 99), .ref (u 107), .ref (u 117), .ref (u 122), .ref (u 123)])), (y0, .inr (12, [.int 0, .ref (v 1), .ref (v 2), .ref (v 3), .ref (v 4), .int 0, .ref (v 6), .int 0, .int 0, .int 0, .int 0, .int 0, .int 0, .int (-1), .ref (v 14), .ref (v 15), .ref (v 16), .ref (v 17), .ref (v 18), .ref (v 19), .ref (v 20), .int 0, .ref (v 22), .int 0, .ref (v 24), .ref (v 25), .int 0, .ref (v 27), .ref (v 28), .ref (v 29), .ref (v 30), .int 0, .int 0, .int 0, .int 0, .int 0, .ref (v 36), .long 0, .ref (v 38), .ref (v 39), .ref (v 40), .ref (v 41)])), (v 1, .inl (cI, 544, .inl (upd (upd (upd (fun _ => 0) 8 1) 9 1) 17 (-1))))] H) (hD : va_D (fun q : Nat => s.heap.size ≤ q) [(x0, .inr (11, [.ref (u 0), .ref (u 2), .ref (u 3), .ref (u 4), .ref (u 5), .ref (u 10), .ref (u 11), .ref (u 12), .ref (u 98), .ref (u 124)])), (u 98, .inr (2, [.int 0, .int 0, .int 0, .int 0, .int 0, .int 0, .int 0, .int 0, .int 0, .ref (u 99), .ref (u 107), .ref (u 117), .ref (u 122), .ref (u 123)])), (y0, .inr (12, [.int 0, .ref (v 1), .ref (v 2), .ref (v 3), .ref (v 4), .int 0, .ref (v 6), .int 0, .int 0, .int 0, .int 0, .int 0, .int 0, .int (-1), .ref (v 14), .ref (v 15), .ref (v 16), .ref (v 17), .ref (v 18), .ref (v 19), .ref (v 20), .int 0, .ref (v 22), .int 0, .ref (v 24), .ref (v 25), .int 0, .ref (v 27), .ref (v 28), .ref (v 29), .ref (v 30), .int 0, .int 0, .int 0, .int 0, .int 0, .ref (v 36), .long 0, .ref (v 38), .ref (v 39), .ref (v 40), .ref (v 41)])), (v 1, .inl (cI, 544, .inl (upd (upd (upd (fun _ => 0) 8 1) 9 1) 17 (-1))))]) (hS : va_S (fun q : Nat => s.heap.size ≤ q) s.heap H locs) (hl : lv_has ls 4 [(3, .int 0), (2, .ref y0), (1, .ref x0), (0, .ref b)]) : W p l e room_1 s m #[Value.ref b] below meth c H locs 600000 7302250 (lw_Z below #[Value.ref b] s) (F0 m 487 ls []) := by
  obtain ⟨hx, hb, hr, hml, hown0, hts, hX, hbl, hlocks, hgv⟩ := id C0
  have hb : c.code = cL_law := hb
  have hown : s.vm.findClass RL = some m.cls := hown0
  have hwd : ∀ wd ∈ wsL_law, wd.before #[Value.ref b] s = true := fun w h => hts w (wsL_law_in w h)
  have hA : ∀ q : Nat, s.heap.size ≤ q → (fun q : Nat => s.heap.size ≤ q) q := fun _ h => h
  have hbA : ¬ (fun q : Nat => s.heap.size ≤ q) b := Nat.not_le.mpr hbl
  refine lv_aload_n hx hb dL_law_487 rfl (lv_at hl 2 rfl) ?_
  refine lv_aload_n hx hb dL_law_488 rfl (lv_at hl 3 rfl) ?_
  refine lv_iload_n hx hb dL_law_489 rfl (lv_at hl 0 rfl) ?_
  refine lv_iconst (v := 1) hx hb dL_law_490 (by decide) ?_
  refine lv_iadd hx hb dL_law_491 ?_
  refine lv_topi (nm_r (e' := (1)) (by decide +kernel) ?_)
  refine va_sld hx hb hX hbl hbA hS (vin (by decide)) dL_law_492 ?_
  refine lv_aload_n hx hb dL_law_493 rfl (lv_at hl 3 rfl) ?_
  refine lv_iload_n hx hb dL_law_494 rfl (lv_at hl 0 rfl) ?_
  refine lv_iconst (v := 2) hx hb dL_law_495 (by decide) ?_
  refine lv_iadd hx hb dL_law_496 ?_
  refine lv_topi (nm_r (e' := (2)) (by decide +kernel) ?_)
  refine va_sld hx hb hX hbl hbA hS (vin (by decide)) dL_law_497 ?_
  have hPc := hP.sub (ws' := [(x0, .inr (11, [.ref (u 0), .ref (u 2), .ref (u 3), .ref (u 4), .ref (u 5), .ref (u 10), .ref (u 11), .ref (u 12), .ref (u 98), .ref (u 124)])), (u 98, .inr (2, [.int 0, .int 0, .int 0, .int 0, .int 0, .int 0, .int 0, .int 0, .int 0, .ref (u 99), .ref (u 107), .ref (u 117), .ref (u 122), .ref (u 123)]))]) [0, 1] rfl
  have hDc := hD.sub (ws' := [(x0, .inr (11, [.ref (u 0), .ref (u 2), .ref (u 3), .ref (u 4), .ref (u 5), .ref (u 10), .ref (u 11), .ref (u 12), .ref (u 98), .ref (u 124)])), (u 98, .inr (2, [.int 0, .int 0, .int 0, .int 0, .int 0, .int 0, .int 0, .int 0, .int 0, .ref (u 99), .ref (u 107), .ref (u 117), .ref (u 122), .ref (u 123)]))]) [0, 1] (by decide) rfl
  have hFc := va_free (wc := [(x0, .inr (11, [.ref (u 0), .ref (u 2), .ref (u 3), .ref (u 4), .ref (u 5), .ref (u 10), .ref (u 11), .ref (u 12), .ref (u 98), .ref (u 124)])), (u 98, .inr (2, [.int 0, .int 0, .int 0, .int 0, .int 0, .int 0, .int 0, .int 0, .int 0, .ref (u 99), .ref (u 107), .ref (u 117), .ref (u 122), .ref (u 123)]))]) hD hS hA [0, 1] rfl
  refine va_calli (va_runV (As := [.int (xs (1 : Int32).toNatClampNeg), .int (xs (2 : Int32).toNatClampNeg)]) (rest := []) ⟨hx, hb, hml, hown, hwd⟩ (c_X11_covers l dC dI cI cZ cB cJ cM x0 (u 0) (u 2) (u 3) (u 4) (u 5) (u 10) (u 11) (u 12) (u 98) (u 124) (u 99) (u 107) (u 117) (u 122) (u 123) (xs (1 : Int32).toNatClampNeg) (xs (2 : Int32).toNatClampNeg) H.size) (cwV 2 hwd (gV kr17_20 kr17_21 kr17_22 kr1_2 kr17_23) rfl rfl rfl (by decide +kernel) ⟨Nat.le_of_ble_eq_true rfl, Nat.le_of_ble_eq_true rfl⟩) (kPreV hPc hK hDc (ci := 11) (q0 := 0) rfl rfl) rfl rfl hl.1 rfl (lv_room (Nat.le_of_ble_eq_true rfl)) dL_law_498 ⟨Nat.le_of_ble_eq_true rfl, Nat.le_of_ble_eq_true rfl⟩) hS (fun q _ h => hFc q h) hFc (fun r1 u2 t H1 locs ht9 hvm hw hB hz1 hk1 hS => ?_)
  obtain ⟨hP, hD⟩ := va_join (wr := [(y0, .inr (12, [.int 0, .ref (v 1), .ref (v 2), .ref (v 3), .ref (v 4), .int 0, .ref (v 6), .int 0, .int 0, .int 0, .int 0, .int 0, .int 0, .int (-1), .ref (v 14), .ref (v 15), .ref (v 16), .ref (v 17), .ref (v 18), .ref (v 19), .ref (v 20), .int 0, .ref (v 22), .int 0, .ref (v 24), .ref (v 25), .int 0, .ref (v 27), .ref (v 28), .ref (v 29), .ref (v 30), .int 0, .int 0, .int 0, .int 0, .int 0, .ref (v 36), .long 0, .ref (v 38), .ref (v 39), .ref (v 40), .ref (v 41)])), (v 1, .inl (cI, 544, .inl (upd (upd (upd (fun _ => 0) 8 1) 9 1) 17 (-1))))]) (w1 := []) hP hD [0, 1] [2, 3] rfl rfl (by decide) (by decide) hk1 hFc kP0 kD0
  generalize H1 = H at hP hS ⊢
  have hP : va_P (dC, dI) vwCl [(y0, .inr (12, [.int 0, .ref (v 1), .ref (v 2), .ref (v 3), .ref (v 4), .int 0, .ref (v 6), .int 0, .int 0, .int 0, .int 0, .int 0, .int 0, .int (-1), .ref (v 14), .ref (v 15), .ref (v 16), .ref (v 17), .ref (v 18), .ref (v 19), .ref (v 20), .int 0, .ref (v 22), .int 0, .ref (v 24), .ref (v 25), .int 0, .ref (v 27), .ref (v 28), .ref (v 29), .ref (v 30), .int 0, .int 0, .int 0, .int 0, .int 0, .ref (v 36), .long 0, .ref (v 38), .ref (v 39), .ref (v 40), .ref (v 41)])), (v 1, .inl (cI, 544, .inl (upd (upd (upd (fun _ => 0) 8 1) 9 1) 17 (-1))))] H := hP
  have hD : va_D (fun q : Nat => s.heap.size ≤ q) [(y0, .inr (12, [.int 0, .ref (v 1), .ref (v 2), .ref (v 3), .ref (v 4), .int 0, .ref (v 6), .int 0, .int 0, .int 0, .int 0, .int 0, .int 0, .int (-1), .ref (v 14), .ref (v 15), .ref (v 16), .ref (v 17), .ref (v 18), .ref (v 19), .ref (v 20), .int 0, .ref (v 22), .int 0, .ref (v 24), .ref (v 25), .int 0, .ref (v 27), .ref (v 28), .ref (v 29), .ref (v 30), .int 0, .int 0, .int 0, .int 0, .int 0, .ref (v 36), .long 0, .ref (v 38), .ref (v 39), .ref (v 40), .ref (v 41)])), (v 1, .inl (cI, 544, .inl (upd (upd (upd (fun _ => 0) 8 1) 9 1) 17 (-1))))] := hD
  subst hw
  refine lv_aload_n hx hb dL_law_501 rfl (lv_at hl 1 rfl) ?_
  refine lv_aload_n hx hb dL_law_502 rfl (lv_at hl 3 rfl) ?_
  refine lv_iload_n hx hb dL_law_503 rfl (lv_at hl 0 rfl) ?_
  refine lv_iconst (v := 1) hx hb dL_law_504 (by decide) ?_
  refine lv_iadd hx hb dL_law_505 ?_
  refine lv_topi (nm_r (e' := (1)) (by decide +kernel) ?_)
  refine va_sld hx hb hX hbl hbA hS (vin (by decide)) dL_law_506 ?_
  refine lv_aload_n hx hb dL_law_507 rfl (lv_at hl 3 rfl) ?_
  refine lv_iload_n hx hb dL_law_508 rfl (lv_at hl 0 rfl) ?_
  refine lv_iconst (v := 2) hx hb dL_law_509 (by decide) ?_
  refine lv_iadd hx hb dL_law_510 ?_
  refine lv_topi (nm_r (e' := (2)) (by decide +kernel) ?_)
  refine va_sld hx hb hX hbl hbA hS (vin (by decide)) dL_law_511 ?_
  have hPc := hP.sub (ws' := [(y0, .inr (12, [.int 0, .ref (v 1), .ref (v 2), .ref (v 3), .ref (v 4), .int 0, .ref (v 6), .int 0, .int 0, .int 0, .int 0, .int 0, .int 0, .int (-1), .ref (v 14), .ref (v 15), .ref (v 16), .ref (v 17), .ref (v 18), .ref (v 19), .ref (v 20), .int 0, .ref (v 22), .int 0, .ref (v 24), .ref (v 25), .int 0, .ref (v 27), .ref (v 28), .ref (v 29), .ref (v 30), .int 0, .int 0, .int 0, .int 0, .int 0, .ref (v 36), .long 0, .ref (v 38), .ref (v 39), .ref (v 40), .ref (v 41)])), (v 1, .inl (cI, 544, .inl (upd (upd (upd (fun _ => 0) 8 1) 9 1) 17 (-1))))]) [0, 1] rfl
  have hDc := hD.sub (ws' := [(y0, .inr (12, [.int 0, .ref (v 1), .ref (v 2), .ref (v 3), .ref (v 4), .int 0, .ref (v 6), .int 0, .int 0, .int 0, .int 0, .int 0, .int 0, .int (-1), .ref (v 14), .ref (v 15), .ref (v 16), .ref (v 17), .ref (v 18), .ref (v 19), .ref (v 20), .int 0, .ref (v 22), .int 0, .ref (v 24), .ref (v 25), .int 0, .ref (v 27), .ref (v 28), .ref (v 29), .ref (v 30), .int 0, .int 0, .int 0, .int 0, .int 0, .ref (v 36), .long 0, .ref (v 38), .ref (v 39), .ref (v 40), .ref (v 41)])), (v 1, .inl (cI, 544, .inl (upd (upd (upd (fun _ => 0) 8 1) 9 1) 17 (-1))))]) [0, 1] (by decide) rfl
  have hFc := va_free (wc := [(y0, .inr (12, [.int 0, .ref (v 1), .ref (v 2), .ref (v 3), .ref (v 4), .int 0, .ref (v 6), .int 0, .int 0, .int 0, .int 0, .int 0, .int 0, .int (-1), .ref (v 14), .ref (v 15), .ref (v 16), .ref (v 17), .ref (v 18), .ref (v 19), .ref (v 20), .int 0, .ref (v 22), .int 0, .ref (v 24), .ref (v 25), .int 0, .ref (v 27), .ref (v 28), .ref (v 29), .ref (v 30), .int 0, .int 0, .int 0, .int 0, .int 0, .ref (v 36), .long 0, .ref (v 38), .ref (v 39), .ref (v 40), .ref (v 41)])), (v 1, .inl (cI, 544, .inl (upd (upd (upd (fun _ => 0) 8 1) 9 1) 17 (-1))))]) hD hS hA [0, 1] rfl
  refine va_calli (va_runV (As := [.int (xs (1 : Int32).toNatClampNeg), .int (xs (2 : Int32).toNatClampNeg)]) (rest := [.int (-2)]) ⟨hx, hb, hml, hown, hwd⟩ (c_X12_covers l dC dI cI cZ cB cJ cM y0 v (xs (1 : Int32).toNatClampNeg) (xs (2 : Int32).toNatClampNeg) H.size) (cwV 2 hwd (gV kr18_0 kr18_1 kr18_2 kr1_5 kr18_3) rfl rfl rfl (by decide +kernel) ⟨Nat.le_of_ble_eq_true rfl, Nat.le_of_ble_eq_true rfl⟩) (kPreV hPc hK hDc (ci := 12) (q0 := 0) rfl rfl) rfl rfl hl.1 rfl (lv_room (Nat.le_of_ble_eq_true rfl)) dL_law_512 ⟨Nat.le_of_ble_eq_true rfl, Nat.le_of_ble_eq_true rfl⟩) hS (fun q _ h => hFc q h) hFc (fun r3 u4 t H1 locs ht9 hvm hw hB hz1 hk1 hS => ?_)
  obtain ⟨hP, hD⟩ := va_join (wr := []) (w1 := []) hP hD [0, 1] [] rfl rfl (by decide) (by decide) hk1 hFc kP0 kD0
  generalize H1 = H at hP hS ⊢
  have hP : va_P (dC, dI) vwCl [] H := hP
  have hD : va_D (fun q : Nat => s.heap.size ≤ q) [] := hD
  subst hw
  refine lv_icmp_eq (tgt := 1731) hx hb dL_law_515 (by decide) (fun c5 => ?_) (fun c5 => absurd c5 (by decide))
  exact law_tail C0 hS (lv_sub hl [3, 0] rfl)
set_option maxHeartbeats 4000000 in
set_option maxRecDepth 100000 in
/-- the call of turn on two fresh objects -/
theorem lcase_10 {p : Program} {l : Launch} {e : Env} {s : State} {m : MethodId} {below : List Frame} {meth : Method} {c : Code} {b : Nat} {xs : Nat → Int32} {dC : Nat → ClassId} {dI : Nat → Nat → Nat} {cI cZ cB cJ cM : ClassId} (x0 y0 : Nat) (u v : Nat → Nat) {H : Heap} {locs : List Loc} {ls : Array Slot} (C0 : lw_At p s m meth c b 6 xs) (hK : va_K (dC, dI) vwCl [(cI, .int), (cZ, .boolean), (cB, .byte), (cJ, .long), (cM, .object RX2)] s) (hP : va_P (dC, dI) vwCl [(x0, .inr (11, [.ref (u 0), .ref (u 2), .ref (u 3), .ref (u 4), .ref (u 5), .ref (u 10), .ref (u 11), .ref (u 12), .ref (u 98), .ref (u 124)])), (u 98, .inr (2, [.int 0, .int 0, .int 0, .int 0, .int 0, .int 0, .int 0, .int 0, .int 0, .ref (u 99), .ref (u 107), .ref (u 117), .ref (u 122), .ref (u 123)])), (y0, .inr (12, [.int 0, .ref (v 1), .ref (v 2), .ref (v 3), .ref (v 4), .int 0, .ref (v 6), .int 0, .int 0, .int 0, .int 0, .int 0, .int 0, .int (-1), .ref (v 14), .ref (v 15), .ref (v 16), .ref (v 17), .ref (v 18), .ref (v 19), .ref (v 20), .int 0, .ref (v 22), .int 0, .ref (v 24), .ref (v 25), .int 0, .ref (v 27), .ref (v 28), .ref (v 29), .ref (v 30), .int 0, .int 0, .int 0, .int 0, .int 0, .ref (v 36), .long 0, .ref (v 38), .ref (v 39), .ref (v 40), .ref (v 41)])), (v 1, .inl (cI, 544, .inl (upd (upd (upd (fun _ => 0) 8 1) 9 1) 17 (-1))))] H) (hD : va_D (fun q : Nat => s.heap.size ≤ q) [(x0, .inr (11, [.ref (u 0), .ref (u 2), .ref (u 3), .ref (u 4), .ref (u 5), .ref (u 10), .ref (u 11), .ref (u 12), .ref (u 98), .ref (u 124)])), (u 98, .inr (2, [.int 0, .int 0, .int 0, .int 0, .int 0, .int 0, .int 0, .int 0, .int 0, .ref (u 99), .ref (u 107), .ref (u 117), .ref (u 122), .ref (u 123)])), (y0, .inr (12, [.int 0, .ref (v 1), .ref (v 2), .ref (v 3), .ref (v 4), .int 0, .ref (v 6), .int 0, .int 0, .int 0, .int 0, .int 0, .int 0, .int (-1), .ref (v 14), .ref (v 15), .ref (v 16), .ref (v 17), .ref (v 18), .ref (v 19), .ref (v 20), .int 0, .ref (v 22), .int 0, .ref (v 24), .ref (v 25), .int 0, .ref (v 27), .ref (v 28), .ref (v 29), .ref (v 30), .int 0, .int 0, .int 0, .int 0, .int 0, .ref (v 36), .long 0, .ref (v 38), .ref (v 39), .ref (v 40), .ref (v 41)])), (v 1, .inl (cI, 544, .inl (upd (upd (upd (fun _ => 0) 8 1) 9 1) 17 (-1))))]) (hS : va_S (fun q : Nat => s.heap.size ≤ q) s.heap H locs) (hl : lv_has ls 4 [(3, .int 0), (2, .ref y0), (1, .ref x0), (0, .ref b)]) : W p l e room_1 s m #[Value.ref b] below meth c H locs 600000 7302250 (lw_Z below #[Value.ref b] s) (F0 m 520 ls []) := by
  obtain ⟨hx, hb, hr, hml, hown0, hts, hX, hbl, hlocks, hgv⟩ := id C0
  have hb : c.code = cL_law := hb
  have hown : s.vm.findClass RL = some m.cls := hown0
  have hwd : ∀ wd ∈ wsL_law, wd.before #[Value.ref b] s = true := fun w h => hts w (wsL_law_in w h)
  have hA : ∀ q : Nat, s.heap.size ≤ q → (fun q : Nat => s.heap.size ≤ q) q := fun _ h => h
  have hbA : ¬ (fun q : Nat => s.heap.size ≤ q) b := Nat.not_le.mpr hbl
  refine lv_aload_n hx hb dL_law_520 rfl (lv_at hl 2 rfl) ?_
  refine lv_aload_n hx hb dL_law_521 rfl (lv_at hl 3 rfl) ?_
  refine lv_iload_n hx hb dL_law_522 rfl (lv_at hl 0 rfl) ?_
  refine lv_iconst (v := 1) hx hb dL_law_523 (by decide) ?_
  refine lv_iadd hx hb dL_law_524 ?_
  refine lv_topi (nm_r (e' := (1)) (by decide +kernel) ?_)
  refine va_sld hx hb hX hbl hbA hS (vin (by decide)) dL_law_525 ?_
  have hPc := hP.sub (ws' := [(x0, .inr (11, [.ref (u 0), .ref (u 2), .ref (u 3), .ref (u 4), .ref (u 5), .ref (u 10), .ref (u 11), .ref (u 12), .ref (u 98), .ref (u 124)])), (u 98, .inr (2, [.int 0, .int 0, .int 0, .int 0, .int 0, .int 0, .int 0, .int 0, .int 0, .ref (u 99), .ref (u 107), .ref (u 117), .ref (u 122), .ref (u 123)]))]) [0, 1] rfl
  have hDc := hD.sub (ws' := [(x0, .inr (11, [.ref (u 0), .ref (u 2), .ref (u 3), .ref (u 4), .ref (u 5), .ref (u 10), .ref (u 11), .ref (u 12), .ref (u 98), .ref (u 124)])), (u 98, .inr (2, [.int 0, .int 0, .int 0, .int 0, .int 0, .int 0, .int 0, .int 0, .int 0, .ref (u 99), .ref (u 107), .ref (u 117), .ref (u 122), .ref (u 123)]))]) [0, 1] (by decide) rfl
  have hFc := va_free (wc := [(x0, .inr (11, [.ref (u 0), .ref (u 2), .ref (u 3), .ref (u 4), .ref (u 5), .ref (u 10), .ref (u 11), .ref (u 12), .ref (u 98), .ref (u 124)])), (u 98, .inr (2, [.int 0, .int 0, .int 0, .int 0, .int 0, .int 0, .int 0, .int 0, .int 0, .ref (u 99), .ref (u 107), .ref (u 117), .ref (u 122), .ref (u 123)]))]) hD hS hA [0, 1] rfl
  refine va_calli (va_runV (As := [.int (xs (1 : Int32).toNatClampNeg)]) (rest := []) ⟨hx, hb, hml, hown, hwd⟩ (c_X11_turn l dC dI cI cZ cB cJ cM x0 (u 0) (u 2) (u 3) (u 4) (u 5) (u 10) (u 11) (u 12) (u 98) (u 124) (u 99) (u 107) (u 117) (u 122) (u 123) (xs (1 : Int32).toNatClampNeg) H.size) (cwV 1 hwd (gV kr18_4 kr18_5 kr18_6 kr1_2 kr18_7) rfl rfl rfl (by decide +kernel) ⟨Nat.le_of_ble_eq_true rfl, Nat.le_of_ble_eq_true rfl⟩) (kPreV hPc hK hDc (ci := 11) (q0 := 0) rfl rfl) rfl rfl hl.1 rfl (lv_room (Nat.le_of_ble_eq_true rfl)) dL_law_526 ⟨Nat.le_of_ble_eq_true rfl, Nat.le_of_ble_eq_true rfl⟩) hS (fun q _ h => hFc q h) hFc (fun r1 u2 t H1 locs ht9 hvm hw hB hz1 hk1 hS => ?_)
  obtain ⟨hP, hD⟩ := va_join (wr := [(y0, .inr (12, [.int 0, .ref (v 1), .ref (v 2), .ref (v 3), .ref (v 4), .int 0, .ref (v 6), .int 0, .int 0, .int 0, .int 0, .int 0, .int 0, .int (-1), .ref (v 14), .ref (v 15), .ref (v 16), .ref (v 17), .ref (v 18), .ref (v 19), .ref (v 20), .int 0, .ref (v 22), .int 0, .ref (v 24), .ref (v 25), .int 0, .ref (v 27), .ref (v 28), .ref (v 29), .ref (v 30), .int 0, .int 0, .int 0, .int 0, .int 0, .ref (v 36), .long 0, .ref (v 38), .ref (v 39), .ref (v 40), .ref (v 41)])), (v 1, .inl (cI, 544, .inl (upd (upd (upd (fun _ => 0) 8 1) 9 1) 17 (-1))))]) (w1 := []) hP hD [0, 1] [2, 3] rfl rfl (by decide) (by decide) hk1 hFc kP0 kD0
  generalize H1 = H at hP hS ⊢
  have hP : va_P (dC, dI) vwCl [(y0, .inr (12, [.int 0, .ref (v 1), .ref (v 2), .ref (v 3), .ref (v 4), .int 0, .ref (v 6), .int 0, .int 0, .int 0, .int 0, .int 0, .int 0, .int (-1), .ref (v 14), .ref (v 15), .ref (v 16), .ref (v 17), .ref (v 18), .ref (v 19), .ref (v 20), .int 0, .ref (v 22), .int 0, .ref (v 24), .ref (v 25), .int 0, .ref (v 27), .ref (v 28), .ref (v 29), .ref (v 30), .int 0, .int 0, .int 0, .int 0, .int 0, .ref (v 36), .long 0, .ref (v 38), .ref (v 39), .ref (v 40), .ref (v 41)])), (v 1, .inl (cI, 544, .inl (upd (upd (upd (fun _ => 0) 8 1) 9 1) 17 (-1))))] H := hP
  have hD : va_D (fun q : Nat => s.heap.size ≤ q) [(y0, .inr (12, [.int 0, .ref (v 1), .ref (v 2), .ref (v 3), .ref (v 4), .int 0, .ref (v 6), .int 0, .int 0, .int 0, .int 0, .int 0, .int 0, .int (-1), .ref (v 14), .ref (v 15), .ref (v 16), .ref (v 17), .ref (v 18), .ref (v 19), .ref (v 20), .int 0, .ref (v 22), .int 0, .ref (v 24), .ref (v 25), .int 0, .ref (v 27), .ref (v 28), .ref (v 29), .ref (v 30), .int 0, .int 0, .int 0, .int 0, .int 0, .ref (v 36), .long 0, .ref (v 38), .ref (v 39), .ref (v 40), .ref (v 41)])), (v 1, .inl (cI, 544, .inl (upd (upd (upd (fun _ => 0) 8 1) 9 1) 17 (-1))))] := hD
  subst hw
  refine lv_aload_n hx hb dL_law_529 rfl (lv_at hl 1 rfl) ?_
  refine lv_aload_n hx hb dL_law_530 rfl (lv_at hl 3 rfl) ?_
  refine lv_iload_n hx hb dL_law_531 rfl (lv_at hl 0 rfl) ?_
  refine lv_iconst (v := 1) hx hb dL_law_532 (by decide) ?_
  refine lv_iadd hx hb dL_law_533 ?_
  refine lv_topi (nm_r (e' := (1)) (by decide +kernel) ?_)
  refine va_sld hx hb hX hbl hbA hS (vin (by decide)) dL_law_534 ?_
  have hPc := hP.sub (ws' := [(y0, .inr (12, [.int 0, .ref (v 1), .ref (v 2), .ref (v 3), .ref (v 4), .int 0, .ref (v 6), .int 0, .int 0, .int 0, .int 0, .int 0, .int 0, .int (-1), .ref (v 14), .ref (v 15), .ref (v 16), .ref (v 17), .ref (v 18), .ref (v 19), .ref (v 20), .int 0, .ref (v 22), .int 0, .ref (v 24), .ref (v 25), .int 0, .ref (v 27), .ref (v 28), .ref (v 29), .ref (v 30), .int 0, .int 0, .int 0, .int 0, .int 0, .ref (v 36), .long 0, .ref (v 38), .ref (v 39), .ref (v 40), .ref (v 41)])), (v 1, .inl (cI, 544, .inl (upd (upd (upd (fun _ => 0) 8 1) 9 1) 17 (-1))))]) [0, 1] rfl
  have hDc := hD.sub (ws' := [(y0, .inr (12, [.int 0, .ref (v 1), .ref (v 2), .ref (v 3), .ref (v 4), .int 0, .ref (v 6), .int 0, .int 0, .int 0, .int 0, .int 0, .int 0, .int (-1), .ref (v 14), .ref (v 15), .ref (v 16), .ref (v 17), .ref (v 18), .ref (v 19), .ref (v 20), .int 0, .ref (v 22), .int 0, .ref (v 24), .ref (v 25), .int 0, .ref (v 27), .ref (v 28), .ref (v 29), .ref (v 30), .int 0, .int 0, .int 0, .int 0, .int 0, .ref (v 36), .long 0, .ref (v 38), .ref (v 39), .ref (v 40), .ref (v 41)])), (v 1, .inl (cI, 544, .inl (upd (upd (upd (fun _ => 0) 8 1) 9 1) 17 (-1))))]) [0, 1] (by decide) rfl
  have hFc := va_free (wc := [(y0, .inr (12, [.int 0, .ref (v 1), .ref (v 2), .ref (v 3), .ref (v 4), .int 0, .ref (v 6), .int 0, .int 0, .int 0, .int 0, .int 0, .int 0, .int (-1), .ref (v 14), .ref (v 15), .ref (v 16), .ref (v 17), .ref (v 18), .ref (v 19), .ref (v 20), .int 0, .ref (v 22), .int 0, .ref (v 24), .ref (v 25), .int 0, .ref (v 27), .ref (v 28), .ref (v 29), .ref (v 30), .int 0, .int 0, .int 0, .int 0, .int 0, .ref (v 36), .long 0, .ref (v 38), .ref (v 39), .ref (v 40), .ref (v 41)])), (v 1, .inl (cI, 544, .inl (upd (upd (upd (fun _ => 0) 8 1) 9 1) 17 (-1))))]) hD hS hA [0, 1] rfl
  refine va_calli (va_runV (As := [.int (xs (1 : Int32).toNatClampNeg)]) (rest := [.int (-2)]) ⟨hx, hb, hml, hown, hwd⟩ (c_X12_turn l dC dI cI cZ cB cJ cM y0 v (xs (1 : Int32).toNatClampNeg) H.size) (cwV 1 hwd (gV kr18_8 kr18_9 kr18_10 kr1_5 kr18_11) rfl rfl rfl (by decide +kernel) ⟨Nat.le_of_ble_eq_true rfl, Nat.le_of_ble_eq_true rfl⟩) (kPreV hPc hK hDc (ci := 12) (q0 := 0) rfl rfl) rfl rfl hl.1 rfl (lv_room (Nat.le_of_ble_eq_true rfl)) dL_law_535 ⟨Nat.le_of_ble_eq_true rfl, Nat.le_of_ble_eq_true rfl⟩) hS (fun q _ h => hFc q h) hFc (fun r3 u4 t H1 locs ht9 hvm hw hB hz1 hk1 hS => ?_)
  obtain ⟨hP, hD⟩ := va_join (wr := []) (w1 := []) hP hD [0, 1] [] rfl rfl (by decide) (by decide) hk1 hFc kP0 kD0
  generalize H1 = H at hP hS ⊢
  have hP : va_P (dC, dI) vwCl [] H := hP
  have hD : va_D (fun q : Nat => s.heap.size ≤ q) [] := hD
  subst hw
  refine lv_icmp_eq (tgt := 1731) hx hb dL_law_538 (by decide) (fun c5 => ?_) (fun c5 => absurd c5 (by decide))
  exact law_tail C0 hS (lv_sub hl [3, 0] rfl)
set_option maxHeartbeats 4000000 in
set_option maxRecDepth 100000 in
/-- the call of follower on two fresh objects -/
theorem lcase_11 {p : Program} {l : Launch} {e : Env} {s : State} {m : MethodId} {below : List Frame} {meth : Method} {c : Code} {b : Nat} {xs : Nat → Int32} {dC : Nat → ClassId} {dI : Nat → Nat → Nat} {cI cZ cB cJ cM : ClassId} (x0 y0 : Nat) (u v : Nat → Nat) {H : Heap} {locs : List Loc} {ls : Array Slot} (C0 : lw_At p s m meth c b 6 xs) (hK : va_K (dC, dI) vwCl [(cI, .int), (cZ, .boolean), (cB, .byte), (cJ, .long), (cM, .object RX2)] s) (hP : va_P (dC, dI) vwCl [(x0, .inr (11, [.ref (u 0), .ref (u 2), .ref (u 3), .ref (u 4), .ref (u 5), .ref (u 10), .ref (u 11), .ref (u 12), .ref (u 98), .ref (u 124)])), (u 98, .inr (2, [.int 0, .int 0, .int 0, .int 0, .int 0, .int 0, .int 0, .int 0, .int 0, .ref (u 99), .ref (u 107), .ref (u 117), .ref (u 122), .ref (u 123)])), (u 107, .inr (1, [.int 0, .ref (u 108), .ref (u 109), .ref (u 110), .ref (u 111), .ref (u 112), .ref (u 113), .ref (u 114), .ref (u 115), .ref (u 116)])), (y0, .inr (12, [.int 0, .ref (v 1), .ref (v 2), .ref (v 3), .ref (v 4), .int 0, .ref (v 6), .int 0, .int 0, .int 0, .int 0, .int 0, .int 0, .int (-1), .ref (v 14), .ref (v 15), .ref (v 16), .ref (v 17), .ref (v 18), .ref (v 19), .ref (v 20), .int 0, .ref (v 22), .int 0, .ref (v 24), .ref (v 25), .int 0, .ref (v 27), .ref (v 28), .ref (v 29), .ref (v 30), .int 0, .int 0, .int 0, .int 0, .int 0, .ref (v 36), .long 0, .ref (v 38), .ref (v 39), .ref (v 40), .ref (v 41)])), (v 1, .inl (cI, 544, .inl (upd (upd (upd (fun _ => 0) 8 1) 9 1) 17 (-1))))] H) (hD : va_D (fun q : Nat => s.heap.size ≤ q) [(x0, .inr (11, [.ref (u 0), .ref (u 2), .ref (u 3), .ref (u 4), .ref (u 5), .ref (u 10), .ref (u 11), .ref (u 12), .ref (u 98), .ref (u 124)])), (u 98, .inr (2, [.int 0, .int 0, .int 0, .int 0, .int 0, .int 0, .int 0, .int 0, .int 0, .ref (u 99), .ref (u 107), .ref (u 117), .ref (u 122), .ref (u 123)])), (u 107, .inr (1, [.int 0, .ref (u 108), .ref (u 109), .ref (u 110), .ref (u 111), .ref (u 112), .ref (u 113), .ref (u 114), .ref (u 115), .ref (u 116)])), (y0, .inr (12, [.int 0, .ref (v 1), .ref (v 2), .ref (v 3), .ref (v 4), .int 0, .ref (v 6), .int 0, .int 0, .int 0, .int 0, .int 0, .int 0, .int (-1), .ref (v 14), .ref (v 15), .ref (v 16), .ref (v 17), .ref (v 18), .ref (v 19), .ref (v 20), .int 0, .ref (v 22), .int 0, .ref (v 24), .ref (v 25), .int 0, .ref (v 27), .ref (v 28), .ref (v 29), .ref (v 30), .int 0, .int 0, .int 0, .int 0, .int 0, .ref (v 36), .long 0, .ref (v 38), .ref (v 39), .ref (v 40), .ref (v 41)])), (v 1, .inl (cI, 544, .inl (upd (upd (upd (fun _ => 0) 8 1) 9 1) 17 (-1))))]) (hS : va_S (fun q : Nat => s.heap.size ≤ q) s.heap H locs) (hl : lv_has ls 4 [(3, .int 0), (2, .ref y0), (1, .ref x0), (0, .ref b)]) : W p l e room_1 s m #[Value.ref b] below meth c H locs 600000 7302250 (lw_Z below #[Value.ref b] s) (F0 m 543 ls []) := by
  obtain ⟨hx, hb, hr, hml, hown0, hts, hX, hbl, hlocks, hgv⟩ := id C0
  have hb : c.code = cL_law := hb
  have hown : s.vm.findClass RL = some m.cls := hown0
  have hwd : ∀ wd ∈ wsL_law, wd.before #[Value.ref b] s = true := fun w h => hts w (wsL_law_in w h)
  have hA : ∀ q : Nat, s.heap.size ≤ q → (fun q : Nat => s.heap.size ≤ q) q := fun _ h => h
  have hbA : ¬ (fun q : Nat => s.heap.size ≤ q) b := Nat.not_le.mpr hbl
  refine lv_aload_n hx hb dL_law_543 rfl (lv_at hl 2 rfl) ?_
  refine lv_aload_n hx hb dL_law_544 rfl (lv_at hl 3 rfl) ?_
  refine lv_iload_n hx hb dL_law_545 rfl (lv_at hl 0 rfl) ?_
  refine lv_iconst (v := 1) hx hb dL_law_546 (by decide) ?_
  refine lv_iadd hx hb dL_law_547 ?_
  refine lv_topi (nm_r (e' := (1)) (by decide +kernel) ?_)
  refine va_sld hx hb hX hbl hbA hS (vin (by decide)) dL_law_548 ?_
  refine lv_aload_n hx hb dL_law_549 rfl (lv_at hl 3 rfl) ?_
  refine lv_iload_n hx hb dL_law_550 rfl (lv_at hl 0 rfl) ?_
  refine lv_iconst (v := 2) hx hb dL_law_551 (by decide) ?_
  refine lv_iadd hx hb dL_law_552 ?_
  refine lv_topi (nm_r (e' := (2)) (by decide +kernel) ?_)
  refine va_sld hx hb hX hbl hbA hS (vin (by decide)) dL_law_553 ?_
  have hPc := hP.sub (ws' := [(x0, .inr (11, [.ref (u 0), .ref (u 2), .ref (u 3), .ref (u 4), .ref (u 5), .ref (u 10), .ref (u 11), .ref (u 12), .ref (u 98), .ref (u 124)])), (u 98, .inr (2, [.int 0, .int 0, .int 0, .int 0, .int 0, .int 0, .int 0, .int 0, .int 0, .ref (u 99), .ref (u 107), .ref (u 117), .ref (u 122), .ref (u 123)])), (u 107, .inr (1, [.int 0, .ref (u 108), .ref (u 109), .ref (u 110), .ref (u 111), .ref (u 112), .ref (u 113), .ref (u 114), .ref (u 115), .ref (u 116)]))]) [0, 1, 2] rfl
  have hDc := hD.sub (ws' := [(x0, .inr (11, [.ref (u 0), .ref (u 2), .ref (u 3), .ref (u 4), .ref (u 5), .ref (u 10), .ref (u 11), .ref (u 12), .ref (u 98), .ref (u 124)])), (u 98, .inr (2, [.int 0, .int 0, .int 0, .int 0, .int 0, .int 0, .int 0, .int 0, .int 0, .ref (u 99), .ref (u 107), .ref (u 117), .ref (u 122), .ref (u 123)])), (u 107, .inr (1, [.int 0, .ref (u 108), .ref (u 109), .ref (u 110), .ref (u 111), .ref (u 112), .ref (u 113), .ref (u 114), .ref (u 115), .ref (u 116)]))]) [0, 1, 2] (by decide) rfl
  have hFc := va_free (wc := [(x0, .inr (11, [.ref (u 0), .ref (u 2), .ref (u 3), .ref (u 4), .ref (u 5), .ref (u 10), .ref (u 11), .ref (u 12), .ref (u 98), .ref (u 124)])), (u 98, .inr (2, [.int 0, .int 0, .int 0, .int 0, .int 0, .int 0, .int 0, .int 0, .int 0, .ref (u 99), .ref (u 107), .ref (u 117), .ref (u 122), .ref (u 123)])), (u 107, .inr (1, [.int 0, .ref (u 108), .ref (u 109), .ref (u 110), .ref (u 111), .ref (u 112), .ref (u 113), .ref (u 114), .ref (u 115), .ref (u 116)]))]) hD hS hA [0, 1, 2] rfl
  refine va_calli (va_runV (As := [.int (xs (1 : Int32).toNatClampNeg), .int (xs (2 : Int32).toNatClampNeg)]) (rest := []) ⟨hx, hb, hml, hown, hwd⟩ (c_X11_follower l dC dI cI cZ cB cJ cM x0 (u 0) (u 2) (u 3) (u 4) (u 5) (u 10) (u 11) (u 12) (u 98) (u 124) (u 99) (u 107) (u 117) (u 122) (u 123) (u 108) (u 109) (u 110) (u 111) (u 112) (u 113) (u 114) (u 115) (u 116) (xs (1 : Int32).toNatClampNeg) (xs (2 : Int32).toNatClampNeg) H.size) (cwV 2 hwd (gV kr18_12 kr18_13 kr18_14 kr1_2 kr18_15) rfl rfl rfl (by decide +kernel) ⟨Nat.le_of_ble_eq_true rfl, Nat.le_of_ble_eq_true rfl⟩) (kPreV hPc hK hDc (ci := 11) (q0 := 0) rfl rfl) rfl rfl hl.1 rfl (lv_room (Nat.le_of_ble_eq_true rfl)) dL_law_554 ⟨Nat.le_of_ble_eq_true rfl, Nat.le_of_ble_eq_true rfl⟩) hS (fun q _ h => hFc q h) hFc (fun r1 u2 t H1 locs ht9 hvm hw hB hz1 hk1 hS => ?_)
  obtain ⟨hP, hD⟩ := va_join (wr := [(y0, .inr (12, [.int 0, .ref (v 1), .ref (v 2), .ref (v 3), .ref (v 4), .int 0, .ref (v 6), .int 0, .int 0, .int 0, .int 0, .int 0, .int 0, .int (-1), .ref (v 14), .ref (v 15), .ref (v 16), .ref (v 17), .ref (v 18), .ref (v 19), .ref (v 20), .int 0, .ref (v 22), .int 0, .ref (v 24), .ref (v 25), .int 0, .ref (v 27), .ref (v 28), .ref (v 29), .ref (v 30), .int 0, .int 0, .int 0, .int 0, .int 0, .ref (v 36), .long 0, .ref (v 38), .ref (v 39), .ref (v 40), .ref (v 41)])), (v 1, .inl (cI, 544, .inl (upd (upd (upd (fun _ => 0) 8 1) 9 1) 17 (-1))))]) (w1 := []) hP hD [0, 1, 2] [3, 4] rfl rfl (by decide) (by decide) hk1 hFc kP0 kD0
  generalize H1 = H at hP hS ⊢
  have hP : va_P (dC, dI) vwCl [(y0, .inr (12, [.int 0, .ref (v 1), .ref (v 2), .ref (v 3), .ref (v 4), .int 0, .ref (v 6), .int 0, .int 0, .int 0, .int 0, .int 0, .int 0, .int (-1), .ref (v 14), .ref (v 15), .ref (v 16), .ref (v 17), .ref (v 18), .ref (v 19), .ref (v 20), .int 0, .ref (v 22), .int 0, .ref (v 24), .ref (v 25), .int 0, .ref (v 27), .ref (v 28), .ref (v 29), .ref (v 30), .int 0, .int 0, .int 0, .int 0, .int 0, .ref (v 36), .long 0, .ref (v 38), .ref (v 39), .ref (v 40), .ref (v 41)])), (v 1, .inl (cI, 544, .inl (upd (upd (upd (fun _ => 0) 8 1) 9 1) 17 (-1))))] H := hP
  have hD : va_D (fun q : Nat => s.heap.size ≤ q) [(y0, .inr (12, [.int 0, .ref (v 1), .ref (v 2), .ref (v 3), .ref (v 4), .int 0, .ref (v 6), .int 0, .int 0, .int 0, .int 0, .int 0, .int 0, .int (-1), .ref (v 14), .ref (v 15), .ref (v 16), .ref (v 17), .ref (v 18), .ref (v 19), .ref (v 20), .int 0, .ref (v 22), .int 0, .ref (v 24), .ref (v 25), .int 0, .ref (v 27), .ref (v 28), .ref (v 29), .ref (v 30), .int 0, .int 0, .int 0, .int 0, .int 0, .ref (v 36), .long 0, .ref (v 38), .ref (v 39), .ref (v 40), .ref (v 41)])), (v 1, .inl (cI, 544, .inl (upd (upd (upd (fun _ => 0) 8 1) 9 1) 17 (-1))))] := hD
  subst hw
  refine lv_aload_n hx hb dL_law_557 rfl (lv_at hl 1 rfl) ?_
  refine lv_aload_n hx hb dL_law_558 rfl (lv_at hl 3 rfl) ?_
  refine lv_iload_n hx hb dL_law_559 rfl (lv_at hl 0 rfl) ?_
  refine lv_iconst (v := 1) hx hb dL_law_560 (by decide) ?_
  refine lv_iadd hx hb dL_law_561 ?_
  refine lv_topi (nm_r (e' := (1)) (by decide +kernel) ?_)
  refine va_sld hx hb hX hbl hbA hS (vin (by decide)) dL_law_562 ?_
  refine lv_aload_n hx hb dL_law_563 rfl (lv_at hl 3 rfl) ?_
  refine lv_iload_n hx hb dL_law_564 rfl (lv_at hl 0 rfl) ?_
  refine lv_iconst (v := 2) hx hb dL_law_565 (by decide) ?_
  refine lv_iadd hx hb dL_law_566 ?_
  refine lv_topi (nm_r (e' := (2)) (by decide +kernel) ?_)
  refine va_sld hx hb hX hbl hbA hS (vin (by decide)) dL_law_567 ?_
  have hPc := hP.sub (ws' := [(y0, .inr (12, [.int 0, .ref (v 1), .ref (v 2), .ref (v 3), .ref (v 4), .int 0, .ref (v 6), .int 0, .int 0, .int 0, .int 0, .int 0, .int 0, .int (-1), .ref (v 14), .ref (v 15), .ref (v 16), .ref (v 17), .ref (v 18), .ref (v 19), .ref (v 20), .int 0, .ref (v 22), .int 0, .ref (v 24), .ref (v 25), .int 0, .ref (v 27), .ref (v 28), .ref (v 29), .ref (v 30), .int 0, .int 0, .int 0, .int 0, .int 0, .ref (v 36), .long 0, .ref (v 38), .ref (v 39), .ref (v 40), .ref (v 41)])), (v 1, .inl (cI, 544, .inl (upd (upd (upd (fun _ => 0) 8 1) 9 1) 17 (-1))))]) [0, 1] rfl
  have hDc := hD.sub (ws' := [(y0, .inr (12, [.int 0, .ref (v 1), .ref (v 2), .ref (v 3), .ref (v 4), .int 0, .ref (v 6), .int 0, .int 0, .int 0, .int 0, .int 0, .int 0, .int (-1), .ref (v 14), .ref (v 15), .ref (v 16), .ref (v 17), .ref (v 18), .ref (v 19), .ref (v 20), .int 0, .ref (v 22), .int 0, .ref (v 24), .ref (v 25), .int 0, .ref (v 27), .ref (v 28), .ref (v 29), .ref (v 30), .int 0, .int 0, .int 0, .int 0, .int 0, .ref (v 36), .long 0, .ref (v 38), .ref (v 39), .ref (v 40), .ref (v 41)])), (v 1, .inl (cI, 544, .inl (upd (upd (upd (fun _ => 0) 8 1) 9 1) 17 (-1))))]) [0, 1] (by decide) rfl
  have hFc := va_free (wc := [(y0, .inr (12, [.int 0, .ref (v 1), .ref (v 2), .ref (v 3), .ref (v 4), .int 0, .ref (v 6), .int 0, .int 0, .int 0, .int 0, .int 0, .int 0, .int (-1), .ref (v 14), .ref (v 15), .ref (v 16), .ref (v 17), .ref (v 18), .ref (v 19), .ref (v 20), .int 0, .ref (v 22), .int 0, .ref (v 24), .ref (v 25), .int 0, .ref (v 27), .ref (v 28), .ref (v 29), .ref (v 30), .int 0, .int 0, .int 0, .int 0, .int 0, .ref (v 36), .long 0, .ref (v 38), .ref (v 39), .ref (v 40), .ref (v 41)])), (v 1, .inl (cI, 544, .inl (upd (upd (upd (fun _ => 0) 8 1) 9 1) 17 (-1))))]) hD hS hA [0, 1] rfl
  refine va_calli (va_runV (As := [.int (xs (1 : Int32).toNatClampNeg), .int (xs (2 : Int32).toNatClampNeg)]) (rest := [.int (-2)]) ⟨hx, hb, hml, hown, hwd⟩ (c_X12_follower l dC dI cI cZ cB cJ cM y0 v (xs (1 : Int32).toNatClampNeg) (xs (2 : Int32).toNatClampNeg) H.size) (cwV 2 hwd (gV kr18_18 kr18_19 kr18_20 kr1_5 kr18_21) rfl rfl rfl (by decide +kernel) ⟨Nat.le_of_ble_eq_true rfl, Nat.le_of_ble_eq_true rfl⟩) (kPreV hPc hK hDc (ci := 12) (q0 := 0) rfl rfl) rfl rfl hl.1 rfl (lv_room (Nat.le_of_ble_eq_true rfl)) dL_law_568 ⟨Nat.le_of_ble_eq_true rfl, Nat.le_of_ble_eq_true rfl⟩) hS (fun q _ h => hFc q h) hFc (fun r3 u4 t H1 locs ht9 hvm hw hB hz1 hk1 hS => ?_)
  obtain ⟨hP, hD⟩ := va_join (wr := []) (w1 := []) hP hD [0, 1] [] rfl rfl (by decide) (by decide) hk1 hFc kP0 kD0
  generalize H1 = H at hP hS ⊢
  have hP : va_P (dC, dI) vwCl [] H := hP
  have hD : va_D (fun q : Nat => s.heap.size ≤ q) [] := hD
  subst hw
  refine lv_icmp_eq (tgt := 1731) hx hb dL_law_571 (by decide) (fun c5 => ?_) (fun c5 => absurd c5 (by decide))
  exact law_tail C0 hS (lv_sub hl [3, 0] rfl)
