theorem dL_holds_172 : decode cL_holds 172 = .ok (.istore 9, 2) := by decide +kernel
theorem dL_holds_174 : decode cL_holds 174 = .ok (.iload 4, 2) := by decide +kernel
theorem dL_holds_176 : decode cL_holds 176 = .ok (.ifCond .eq 143, 3) := by decide +kernel
theorem dL_holds_179 : decode cL_holds 179 = .ok (.iload_n 2, 1) := by decide +kernel
theorem dL_holds_180 : decode cL_holds 180 = .ok (.ifCond .ne 24, 3) := by decide +kernel
theorem dL_holds_183 : decode cL_holds 183 = .ok (.iload 7, 2) := by decide +kernel
theorem dL_holds_185 : decode cL_holds 185 = .ok (.iconst 2, 1) := by decide +kernel
theorem dL_holds_186 : decode cL_holds 186 = .ok (.if_icmp .ne 133, 3) := by decide +kernel
theorem dL_holds_189 : decode cL_holds 189 = .ok (.iload 8, 2) := by decide +kernel
theorem dL_holds_191 : decode cL_holds 191 = .ok (.iconst (-1), 1) := by decide +kernel
theorem dL_holds_192 : decode cL_holds 192 = .ok (.if_icmp .ne 127, 3) := by decide +kernel
theorem dL_holds_195 : decode cL_holds 195 = .ok (.iload 9, 2) := by decide +kernel
theorem dL_holds_197 : decode cL_holds 197 = .ok (.iconst (-1), 1) := by decide +kernel
theorem dL_holds_198 : decode cL_holds 198 = .ok (.if_icmp .ne 121, 3) := by decide +kernel
theorem dL_holds_201 : decode cL_holds 201 = .ok (.goto 114, 3) := by decide +kernel
theorem dL_holds_204 : decode cL_holds 204 = .ok (.aload_n 0, 1) := by decide +kernel
theorem dL_holds_205 : decode cL_holds 205 = .ok (.bipush 15, 2) := by decide +kernel
theorem dL_holds_207 : decode cL_holds 207 = .ok (.iconst 0, 1) := by decide +kernel
theorem dL_holds_208 : decode cL_holds 208 = .ok (.iconst 0, 1) := by decide +kernel
theorem dL_holds_209 : decode cL_holds 209 = .ok (.iconst 0, 1) := by decide +kernel
theorem dL_holds_210 : decode cL_holds 210 = .ok (.invokestatic 150, 3) := by decide +kernel
theorem dL_holds_213 : decode cL_holds 213 = .ok (.sipush 1000, 3) := by decide +kernel
theorem dL_holds_216 : decode cL_holds 216 = .ok (.iload 9, 2) := by decide +kernel
theorem dL_holds_218 : decode cL_holds 218 = .ok (.imul, 1) := by decide +kernel
theorem dL_holds_219 : decode cL_holds 219 = .ok (.iload 8, 2) := by decide +kernel
theorem dL_holds_221 : decode cL_holds 221 = .ok (.iadd, 1) := by decide +kernel
theorem dL_holds_222 : decode cL_holds 222 = .ok (.if_icmp .ne 97, 3) := by decide +kernel
theorem dL_holds_225 : decode cL_holds 225 = .ok (.iload 7, 2) := by decide +kernel
theorem dL_holds_227 : decode cL_holds 227 = .ok (.iconst 2, 1) := by decide +kernel
theorem dL_holds_228 : decode cL_holds 228 = .ok (.if_icmp .ne 7, 3) := by decide +kernel
theorem dL_holds_231 : decode cL_holds 231 = .ok (.iconst 1, 1) := by decide +kernel
theorem dL_holds_232 : decode cL_holds 232 = .ok (.goto 4, 3) := by decide +kernel
theorem dL_holds_235 : decode cL_holds 235 = .ok (.iconst 0, 1) := by decide +kernel
theorem dL_holds_236 : decode cL_holds 236 = .ok (.iload 8, 2) := by decide +kernel
theorem dL_holds_238 : decode cL_holds 238 = .ok (.aload_n 0, 1) := by decide +kernel
theorem dL_holds_239 : decode cL_holds 239 = .ok (.bipush 6, 2) := by decide +kernel
theorem dL_holds_241 : decode cL_holds 241 = .ok (.iconst 1, 1) := by decide +kernel
theorem dL_holds_242 : decode cL_holds 242 = .ok (.iconst 0, 1) := by decide +kernel
theorem dL_holds_243 : decode cL_holds 243 = .ok (.iconst 0, 1) := by decide +kernel
theorem dL_holds_244 : decode cL_holds 244 = .ok (.invokestatic 150, 3) := by decide +kernel
theorem dL_holds_247 : decode cL_holds 247 = .ok (.if_icmp .le 7, 3) := by decide +kernel
theorem dL_holds_250 : decode cL_holds 250 = .ok (.iconst 1, 1) := by decide +kernel
theorem dL_holds_251 : decode cL_holds 251 = .ok (.goto 4, 3) := by decide +kernel
theorem dL_holds_254 : decode cL_holds 254 = .ok (.iconst 0, 1) := by decide +kernel
theorem dL_holds_255 : decode cL_holds 255 = .ok (.if_icmp .ne 64, 3) := by decide +kernel
theorem dL_holds_258 : decode cL_holds 258 = .ok (.iload 7, 2) := by decide +kernel
theorem dL_holds_260 : decode cL_holds 260 = .ok (.ifCond .ne 7, 3) := by decide +kernel
theorem dL_holds_263 : decode cL_holds 263 = .ok (.iconst 1, 1) := by decide +kernel
theorem dL_holds_264 : decode cL_holds 264 = .ok (.goto 4, 3) := by decide +kernel
theorem dL_holds_267 : decode cL_holds 267 = .ok (.iconst 0, 1) := by decide +kernel
theorem dL_holds_268 : decode cL_holds 268 = .ok (.aload_n 0, 1) := by decide +kernel
theorem dL_holds_269 : decode cL_holds 269 = .ok (.bipush 14, 2) := by decide +kernel
theorem dL_holds_271 : decode cL_holds 271 = .ok (.iconst 1, 1) := by decide +kernel
theorem dL_holds_272 : decode cL_holds 272 = .ok (.iconst 0, 1) := by decide +kernel
theorem dL_holds_273 : decode cL_holds 273 = .ok (.iconst 0, 1) := by decide +kernel
theorem dL_holds_274 : decode cL_holds 274 = .ok (.invokestatic 150, 3) := by decide +kernel
theorem dL_holds_277 : decode cL_holds 277 = .ok (.iconst (-1), 1) := by decide +kernel
theorem dL_holds_278 : decode cL_holds 278 = .ok (.if_icmp .eq 7, 3) := by decide +kernel
theorem dL_holds_281 : decode cL_holds 281 = .ok (.iconst 1, 1) := by decide +kernel
theorem dL_holds_282 : decode cL_holds 282 = .ok (.goto 4, 3) := by decide +kernel
theorem dL_holds_285 : decode cL_holds 285 = .ok (.iconst 0, 1) := by decide +kernel
theorem dL_holds_286 : decode cL_holds 286 = .ok (.if_icmp .ne 33, 3) := by decide +kernel
theorem dL_holds_289 : decode cL_holds 289 = .ok (.iload 7, 2) := by decide +kernel
theorem dL_holds_291 : decode cL_holds 291 = .ok (.ifCond .gt 24, 3) := by decide +kernel
theorem dL_holds_294 : decode cL_holds 294 = .ok (.aload_n 0, 1) := by decide +kernel
theorem dL_holds_295 : decode cL_holds 295 = .ok (.bipush 14, 2) := by decide +kernel
theorem dL_holds_297 : decode cL_holds 297 = .ok (.iconst 1, 1) := by decide +kernel
theorem dL_holds_298 : decode cL_holds 298 = .ok (.iconst 0, 1) := by decide +kernel
theorem dL_holds_299 : decode cL_holds 299 = .ok (.iconst 0, 1) := by decide +kernel
theorem dL_holds_300 : decode cL_holds 300 = .ok (.invokestatic 150, 3) := by decide +kernel
theorem dL_holds_303 : decode cL_holds 303 = .ok (.aload_n 0, 1) := by decide +kernel
theorem dL_holds_304 : decode cL_holds 304 = .ok (.iconst 3, 1) := by decide +kernel
theorem dL_holds_305 : decode cL_holds 305 = .ok (.iload 9, 2) := by decide +kernel
theorem dL_holds_307 : decode cL_holds 307 = .ok (.iconst 0, 1) := by decide +kernel
theorem dL_holds_308 : decode cL_holds 308 = .ok (.iconst 0, 1) := by decide +kernel
theorem dL_holds_309 : decode cL_holds 309 = .ok (.invokestatic 150, 3) := by decide +kernel
theorem dL_holds_312 : decode cL_holds 312 = .ok (.if_icmp .ne 7, 3) := by decide +kernel
theorem dL_holds_315 : decode cL_holds 315 = .ok (.iconst 1, 1) := by decide +kernel
theorem dL_holds_316 : decode cL_holds 316 = .ok (.goto 4, 3) := by decide +kernel
theorem dL_holds_319 : decode cL_holds 319 = .ok (.iconst 0, 1) := by decide +kernel
theorem dL_holds_320 : decode cL_holds 320 = .ok (.istore 4, 2) := by decide +kernel
theorem dL_holds_322 : decode cL_holds 322 = .ok (.iload_n 2, 1) := by decide +kernel
theorem dL_holds_323 : decode cL_holds 323 = .ok (.ifCond .le 311, 3) := by decide +kernel
theorem dL_holds_326 : decode cL_holds 326 = .ok (.iload 4, 2) := by decide +kernel
theorem dL_holds_328 : decode cL_holds 328 = .ok (.ifCond .eq 306, 3) := by decide +kernel
theorem dL_holds_331 : decode cL_holds 331 = .ok (.iload_n 1, 1) := by decide +kernel
theorem dL_holds_332 : decode cL_holds 332 = .ok (.iload_n 2, 1) := by decide +kernel
theorem dL_holds_333 : decode cL_holds 333 = .ok (.irem, 1) := by decide +kernel
theorem dL_holds_334 : decode cL_holds 334 = .ok (.istore 10, 2) := by decide +kernel
theorem dL_holds_336 : decode cL_holds 336 = .ok (.iload_n 1, 1) := by decide +kernel
theorem dL_holds_337 : decode cL_holds 337 = .ok (.bipush 16, 2) := by decide +kernel
theorem dL_holds_339 : decode cL_holds 339 = .ok (.idiv, 1) := by decide +kernel
theorem dL_holds_340 : decode cL_holds 340 = .ok (.iload_n 2, 1) := by decide +kernel
theorem dL_holds_341 : decode cL_holds 341 = .ok (.irem, 1) := by decide +kernel
theorem dL_holds_342 : decode cL_holds 342 = .ok (.istore 11, 2) := by decide +kernel
theorem dL_holds_344 : decode cL_holds 344 = .ok (.iload_n 1, 1) := by decide +kernel
theorem dL_holds_345 : decode cL_holds 345 = .ok (.sipush 256, 3) := by decide +kernel
theorem dL_holds_348 : decode cL_holds 348 = .ok (.idiv, 1) := by decide +kernel
theorem dL_holds_349 : decode cL_holds 349 = .ok (.iload_n 2, 1) := by decide +kernel
theorem dL_holds_350 : decode cL_holds 350 = .ok (.irem, 1) := by decide +kernel
theorem dL_holds_351 : decode cL_holds 351 = .ok (.istore 12, 2) := by decide +kernel
theorem dL_holds_353 : decode cL_holds 353 = .ok (.aload_n 0, 1) := by decide +kernel
theorem dL_holds_354 : decode cL_holds 354 = .ok (.bipush 16, 2) := by decide +kernel
theorem dL_holds_356 : decode cL_holds 356 = .ok (.iload 10, 2) := by decide +kernel
theorem dL_holds_358 : decode cL_holds 358 = .ok (.iload 11, 2) := by decide +kernel
theorem dL_holds_360 : decode cL_holds 360 = .ok (.iconst 0, 1) := by decide +kernel
theorem dL_holds_361 : decode cL_holds 361 = .ok (.invokestatic 150, 3) := by decide +kernel
theorem dL_holds_364 : decode cL_holds 364 = .ok (.istore 13, 2) := by decide +kernel
theorem dL_holds_366 : decode cL_holds 366 = .ok (.iload 13, 2) := by decide +kernel
theorem dL_holds_368 : decode cL_holds 368 = .ok (.aload_n 0, 1) := by decide +kernel
theorem dL_holds_369 : decode cL_holds 369 = .ok (.bipush 16, 2) := by decide +kernel
theorem dL_holds_371 : decode cL_holds 371 = .ok (.iload 11, 2) := by decide +kernel
theorem dL_holds_373 : decode cL_holds 373 = .ok (.iload 10, 2) := by decide +kernel
theorem dL_holds_375 : decode cL_holds 375 = .ok (.iconst 0, 1) := by decide +kernel
theorem dL_holds_376 : decode cL_holds 376 = .ok (.invokestatic 150, 3) := by decide +kernel
theorem dL_holds_379 : decode cL_holds 379 = .ok (.if_icmp .ne 49, 3) := by decide +kernel
theorem dL_holds_382 : decode cL_holds 382 = .ok (.aload_n 0, 1) := by decide +kernel
theorem dL_holds_383 : decode cL_holds 383 = .ok (.bipush 16, 2) := by decide +kernel
theorem dL_holds_385 : decode cL_holds 385 = .ok (.iload 10, 2) := by decide +kernel
theorem dL_holds_387 : decode cL_holds 387 = .ok (.iload 10, 2) := by decide +kernel
theorem dL_holds_389 : decode cL_holds 389 = .ok (.iconst 0, 1) := by decide +kernel
theorem dL_holds_390 : decode cL_holds 390 = .ok (.invokestatic 150, 3) := by decide +kernel
theorem dL_holds_393 : decode cL_holds 393 = .ok (.ifCond .ne 35, 3) := by decide +kernel
theorem dL_holds_396 : decode cL_holds 396 = .ok (.iload 13, 2) := by decide +kernel
theorem dL_holds_398 : decode cL_holds 398 = .ok (.aload_n 0, 1) := by decide +kernel
theorem dL_holds_399 : decode cL_holds 399 = .ok (.bipush 16, 2) := by decide +kernel
theorem dL_holds_401 : decode cL_holds 401 = .ok (.iload 10, 2) := by decide +kernel
theorem dL_holds_403 : decode cL_holds 403 = .ok (.iload 12, 2) := by decide +kernel
theorem dL_holds_405 : decode cL_holds 405 = .ok (.iconst 0, 1) := by decide +kernel
theorem dL_holds_406 : decode cL_holds 406 = .ok (.invokestatic 150, 3) := by decide +kernel
theorem dL_holds_409 : decode cL_holds 409 = .ok (.aload_n 0, 1) := by decide +kernel
theorem dL_holds_410 : decode cL_holds 410 = .ok (.bipush 16, 2) := by decide +kernel
theorem dL_holds_412 : decode cL_holds 412 = .ok (.iload 12, 2) := by decide +kernel
theorem dL_holds_414 : decode cL_holds 414 = .ok (.iload 11, 2) := by decide +kernel
theorem dL_holds_416 : decode cL_holds 416 = .ok (.iconst 0, 1) := by decide +kernel
theorem dL_holds_417 : decode cL_holds 417 = .ok (.invokestatic 150, 3) := by decide +kernel
theorem dL_holds_420 : decode cL_holds 420 = .ok (.iadd, 1) := by decide +kernel
theorem dL_holds_421 : decode cL_holds 421 = .ok (.if_icmp .gt 7, 3) := by decide +kernel
theorem dL_holds_424 : decode cL_holds 424 = .ok (.iconst 1, 1) := by decide +kernel
theorem dL_holds_425 : decode cL_holds 425 = .ok (.goto 4, 3) := by decide +kernel
theorem dL_holds_428 : decode cL_holds 428 = .ok (.iconst 0, 1) := by decide +kernel
theorem dL_holds_429 : decode cL_holds 429 = .ok (.istore 4, 2) := by decide +kernel
theorem dL_holds_431 : decode cL_holds 431 = .ok (.aload_n 0, 1) := by decide +kernel
theorem dL_holds_432 : decode cL_holds 432 = .ok (.iconst 3, 1) := by decide +kernel
theorem dL_holds_433 : decode cL_holds 433 = .ok (.iload 10, 2) := by decide +kernel
theorem dL_holds_435 : decode cL_holds 435 = .ok (.iconst 3, 1) := by decide +kernel
theorem dL_holds_436 : decode cL_holds 436 = .ok (.iconst 0, 1) := by decide +kernel
theorem dL_holds_437 : decode cL_holds 437 = .ok (.invokestatic 150, 3) := by decide +kernel
theorem dL_holds_440 : decode cL_holds 440 = .ok (.aload_n 0, 1) := by decide +kernel
theorem dL_holds_441 : decode cL_holds 441 = .ok (.iconst 3, 1) := by decide +kernel
theorem dL_holds_442 : decode cL_holds 442 = .ok (.iload 11, 2) := by decide +kernel
theorem dL_holds_444 : decode cL_holds 444 = .ok (.iconst 3, 1) := by decide +kernel
theorem dL_holds_445 : decode cL_holds 445 = .ok (.iconst 0, 1) := by decide +kernel
theorem dL_holds_446 : decode cL_holds 446 = .ok (.invokestatic 150, 3) := by decide +kernel
theorem dL_holds_449 : decode cL_holds 449 = .ok (.isub, 1) := by decide +kernel
theorem dL_holds_450 : decode cL_holds 450 = .ok (.istore 14, 2) := by decide +kernel
theorem dL_holds_452 : decode cL_holds 452 = .ok (.iload 4, 2) := by decide +kernel
theorem dL_holds_454 : decode cL_holds 454 = .ok (.ifCond .eq 27, 3) := by decide +kernel
theorem dL_holds_457 : decode cL_holds 457 = .ok (.iload 13, 2) := by decide +kernel
theorem dL_holds_459 : decode cL_holds 459 = .ok (.iconst 2, 1) := by decide +kernel
theorem dL_holds_460 : decode cL_holds 460 = .ok (.iload 14, 2) := by decide +kernel
theorem dL_holds_462 : decode cL_holds 462 = .ok (.ifCond .ge 9, 3) := by decide +kernel
theorem dL_holds_465 : decode cL_holds 465 = .ok (.iload 14, 2) := by decide +kernel
theorem dL_holds_467 : decode cL_holds 467 = .ok (.ineg, 1) := by decide +kernel
theorem dL_holds_468 : decode cL_holds 468 = .ok (.goto 5, 3) := by decide +kernel
theorem dL_holds_471 : decode cL_holds 471 = .ok (.iload 14, 2) := by decide +kernel
theorem dL_holds_473 : decode cL_holds 473 = .ok (.imul, 1) := by decide +kernel
theorem dL_holds_474 : decode cL_holds 474 = .ok (.if_icmp .lt 7, 3) := by decide +kernel
theorem dL_holds_477 : decode cL_holds 477 = .ok (.iconst 1, 1) := by decide +kernel
theorem dL_holds_478 : decode cL_holds 478 = .ok (.goto 4, 3) := by decide +kernel
theorem dL_holds_481 : decode cL_holds 481 = .ok (.iconst 0, 1) := by decide +kernel
theorem dL_holds_482 : decode cL_holds 482 = .ok (.istore 4, 2) := by decide +kernel
theorem dL_holds_484 : decode cL_holds 484 = .ok (.aload_n 0, 1) := by decide +kernel
theorem dL_holds_485 : decode cL_holds 485 = .ok (.invokevirtual 169, 3) := by decide +kernel
theorem dL_holds_488 : decode cL_holds 488 = .ok (.istore 15, 2) := by decide +kernel
theorem dL_holds_490 : decode cL_holds 490 = .ok (.aload_n 0, 1) := by decide +kernel
theorem dL_holds_491 : decode cL_holds 491 = .ok (.iconst 3, 1) := by decide +kernel
theorem dL_holds_492 : decode cL_holds 492 = .ok (.iload 10, 2) := by decide +kernel
theorem dL_holds_494 : decode cL_holds 494 = .ok (.iconst 0, 1) := by decide +kernel
theorem dL_holds_495 : decode cL_holds 495 = .ok (.iconst 0, 1) := by decide +kernel
theorem dL_holds_496 : decode cL_holds 496 = .ok (.invokestatic 150, 3) := by decide +kernel
theorem dL_holds_499 : decode cL_holds 499 = .ok (.istore 16, 2) := by decide +kernel
theorem dL_holds_501 : decode cL_holds 501 = .ok (.iload 4, 2) := by decide +kernel
theorem dL_holds_503 : decode cL_holds 503 = .ok (.ifCond .eq 128, 3) := by decide +kernel
theorem dL_holds_506 : decode cL_holds 506 = .ok (.iload 15, 2) := by decide +kernel
theorem dL_holds_508 : decode cL_holds 508 = .ok (.iconst (-1), 1) := by decide +kernel
theorem dL_holds_509 : decode cL_holds 509 = .ok (.if_icmp .ne 20, 3) := by decide +kernel
theorem dL_holds_512 : decode cL_holds 512 = .ok (.iload 16, 2) := by decide +kernel
theorem dL_holds_514 : decode cL_holds 514 = .ok (.aload_n 0, 1) := by decide +kernel
theorem dL_holds_515 : decode cL_holds 515 = .ok (.iconst 3, 1) := by decide +kernel
theorem dL_holds_516 : decode cL_holds 516 = .ok (.iload 11, 2) := by decide +kernel
theorem dL_holds_518 : decode cL_holds 518 = .ok (.iconst 0, 1) := by decide +kernel
theorem dL_holds_519 : decode cL_holds 519 = .ok (.iconst 0, 1) := by decide +kernel
theorem dL_holds_520 : decode cL_holds 520 = .ok (.invokestatic 150, 3) := by decide +kernel
theorem dL_holds_523 : decode cL_holds 523 = .ok (.if_icmp .ne 108, 3) := by decide +kernel
theorem dL_holds_526 : decode cL_holds 526 = .ok (.goto 66, 3) := by decide +kernel
theorem dL_holds_529 : decode cL_holds 529 = .ok (.aload_n 0, 1) := by decide +kernel
theorem dL_holds_530 : decode cL_holds 530 = .ok (.iconst 3, 1) := by decide +kernel
theorem dL_holds_531 : decode cL_holds 531 = .ok (.iload 15, 2) := by decide +kernel
theorem dL_holds_533 : decode cL_holds 533 = .ok (.bipush 100, 2) := by decide +kernel
theorem dL_holds_535 : decode cL_holds 535 = .ok (.idiv, 1) := by decide +kernel
theorem dL_holds_536 : decode cL_holds 536 = .ok (.iconst 0, 1) := by decide +kernel
theorem dL_holds_537 : decode cL_holds 537 = .ok (.iconst 0, 1) := by decide +kernel
theorem dL_holds_538 : decode cL_holds 538 = .ok (.invokestatic 150, 3) := by decide +kernel
theorem dL_holds_541 : decode cL_holds 541 = .ok (.aload_n 0, 1) := by decide +kernel
theorem dL_holds_542 : decode cL_holds 542 = .ok (.iconst 3, 1) := by decide +kernel
theorem dL_holds_543 : decode cL_holds 543 = .ok (.iload 15, 2) := by decide +kernel
theorem dL_holds_545 : decode cL_holds 545 = .ok (.bipush 100, 2) := by decide +kernel
theorem dL_holds_547 : decode cL_holds 547 = .ok (.irem, 1) := by decide +kernel
theorem dL_holds_548 : decode cL_holds 548 = .ok (.iconst 0, 1) := by decide +kernel
theorem dL_holds_549 : decode cL_holds 549 = .ok (.iconst 0, 1) := by decide +kernel
theorem dL_holds_550 : decode cL_holds 550 = .ok (.invokestatic 150, 3) := by decide +kernel
theorem dL_holds_553 : decode cL_holds 553 = .ok (.if_icmp .eq 78, 3) := by decide +kernel
theorem dL_holds_556 : decode cL_holds 556 = .ok (.iload 16, 2) := by decide +kernel
theorem dL_holds_558 : decode cL_holds 558 = .ok (.aload_n 0, 1) := by decide +kernel
theorem dL_holds_559 : decode cL_holds 559 = .ok (.iconst 3, 1) := by decide +kernel
theorem dL_holds_560 : decode cL_holds 560 = .ok (.iload 11, 2) := by decide +kernel
theorem dL_holds_562 : decode cL_holds 562 = .ok (.iconst 0, 1) := by decide +kernel
theorem dL_holds_563 : decode cL_holds 563 = .ok (.iconst 0, 1) := by decide +kernel
theorem dL_holds_564 : decode cL_holds 564 = .ok (.invokestatic 150, 3) := by decide +kernel
theorem dL_holds_567 : decode cL_holds 567 = .ok (.if_icmp .eq 25, 3) := by decide +kernel
theorem dL_holds_570 : decode cL_holds 570 = .ok (.aload_n 0, 1) := by decide +kernel
theorem dL_holds_571 : decode cL_holds 571 = .ok (.bipush 16, 2) := by decide +kernel
theorem dL_holds_573 : decode cL_holds 573 = .ok (.iload 15, 2) := by decide +kernel
theorem dL_holds_575 : decode cL_holds 575 = .ok (.bipush 100, 2) := by decide +kernel
theorem dL_holds_577 : decode cL_holds 577 = .ok (.idiv, 1) := by decide +kernel
theorem dL_holds_578 : decode cL_holds 578 = .ok (.iload 15, 2) := by decide +kernel
theorem dL_holds_580 : decode cL_holds 580 = .ok (.bipush 100, 2) := by decide +kernel
theorem dL_holds_582 : decode cL_holds 582 = .ok (.irem, 1) := by decide +kernel
theorem dL_holds_583 : decode cL_holds 583 = .ok (.iconst 0, 1) := by decide +kernel
theorem dL_holds_584 : decode cL_holds 584 = .ok (.invokestatic 150, 3) := by decide +kernel
theorem dL_holds_587 : decode cL_holds 587 = .ok (.iload 13, 2) := by decide +kernel
theorem dL_holds_589 : decode cL_holds 589 = .ok (.if_icmp .gt 42, 3) := by decide +kernel
theorem dL_holds_592 : decode cL_holds 592 = .ok (.iload 15, 2) := by decide +kernel
theorem dL_holds_594 : decode cL_holds 594 = .ok (.iconst (-1), 1) := by decide +kernel
theorem dL_holds_595 : decode cL_holds 595 = .ok (.if_icmp .ne 7, 3) := by decide +kernel
theorem dL_holds_598 : decode cL_holds 598 = .ok (.iconst 1, 1) := by decide +kernel
theorem dL_holds_599 : decode cL_holds 599 = .ok (.goto 4, 3) := by decide +kernel
theorem dL_holds_602 : decode cL_holds 602 = .ok (.iconst 0, 1) := by decide +kernel
theorem dL_holds_603 : decode cL_holds 603 = .ok (.aload_n 0, 1) := by decide +kernel
theorem dL_holds_604 : decode cL_holds 604 = .ok (.invokevirtual 178, 3) := by decide +kernel
theorem dL_holds_607 : decode cL_holds 607 = .ok (.iconst (-1), 1) := by decide +kernel
theorem dL_holds_608 : decode cL_holds 608 = .ok (.if_icmp .ne 7, 3) := by decide +kernel
theorem dL_holds_611 : decode cL_holds 611 = .ok (.iconst 1, 1) := by decide +kernel
theorem dL_holds_612 : decode cL_holds 612 = .ok (.goto 4, 3) := by decide +kernel
theorem dL_holds_615 : decode cL_holds 615 = .ok (.iconst 0, 1) := by decide +kernel
theorem dL_holds_616 : decode cL_holds 616 = .ok (.if_icmp .ne 15, 3) := by decide +kernel
theorem dL_holds_619 : decode cL_holds 619 = .ok (.aload_n 0, 1) := by decide +kernel
theorem dL_holds_620 : decode cL_holds 620 = .ok (.invokevirtual 172, 3) := by decide +kernel
theorem dL_holds_623 : decode cL_holds 623 = .ok (.iload_n 2, 1) := by decide +kernel
theorem dL_holds_624 : decode cL_holds 624 = .ok (.if_icmp .gt 7, 3) := by decide +kernel
theorem dL_holds_627 : decode cL_holds 627 = .ok (.iconst 1, 1) := by decide +kernel
theorem dL_holds_628 : decode cL_holds 628 = .ok (.goto 4, 3) := by decide +kernel
theorem dL_holds_631 : decode cL_holds 631 = .ok (.iconst 0, 1) := by decide +kernel
theorem dL_holds_632 : decode cL_holds 632 = .ok (.istore 4, 2) := by decide +kernel
theorem dL_holds_634 : decode cL_holds 634 = .ok (.iload_n 1, 1) := by decide +kernel
theorem dL_holds_635 : decode cL_holds 635 = .ok (.sipush 4096, 3) := by decide +kernel
theorem dL_holds_638 : decode cL_holds 638 = .ok (.idiv, 1) := by decide +kernel
theorem dL_holds_639 : decode cL_holds 639 = .ok (.bipush 10, 2) := by decide +kernel
theorem dL_holds_641 : decode cL_holds 641 = .ok (.irem, 1) := by decide +kernel
theorem dL_holds_642 : decode cL_holds 642 = .ok (.istore 10, 2) := by decide +kernel
theorem dL_holds_644 : decode cL_holds 644 = .ok (.aload_n 0, 1) := by decide +kernel
theorem dL_holds_645 : decode cL_holds 645 = .ok (.iconst 5, 1) := by decide +kernel
theorem dL_holds_646 : decode cL_holds 646 = .ok (.iload 10, 2) := by decide +kernel
theorem dL_holds_648 : decode cL_holds 648 = .ok (.iconst 0, 1) := by decide +kernel
theorem dL_holds_649 : decode cL_holds 649 = .ok (.iconst 0, 1) := by decide +kernel
theorem dL_holds_650 : decode cL_holds 650 = .ok (.invokestatic 150, 3) := by decide +kernel
theorem dL_holds_653 : decode cL_holds 653 = .ok (.istore 11, 2) := by decide +kernel
theorem dL_holds_655 : decode cL_holds 655 = .ok (.aload_n 0, 1) := by decide +kernel
theorem dL_holds_656 : decode cL_holds 656 = .ok (.iconst 1, 1) := by decide +kernel
theorem dL_holds_657 : decode cL_holds 657 = .ok (.iconst 5, 1) := by decide +kernel
theorem dL_holds_658 : decode cL_holds 658 = .ok (.iconst 0, 1) := by decide +kernel
theorem dL_holds_659 : decode cL_holds 659 = .ok (.iconst 0, 1) := by decide +kernel
theorem dL_holds_660 : decode cL_holds 660 = .ok (.invokestatic 150, 3) := by decide +kernel
theorem dL_holds_663 : decode cL_holds 663 = .ok (.istore 12, 2) := by decide +kernel
theorem dL_holds_665 : decode cL_holds 665 = .ok (.iload 6, 2) := by decide +kernel
theorem dL_holds_667 : decode cL_holds 667 = .ok (.ifCond .le 264, 3) := by decide +kernel
theorem dL_holds_670 : decode cL_holds 670 = .ok (.iload 4, 2) := by decide +kernel
theorem dL_holds_672 : decode cL_holds 672 = .ok (.ifCond .eq 259, 3) := by decide +kernel
theorem dL_holds_675 : decode cL_holds 675 = .ok (.aload_n 0, 1) := by decide +kernel
theorem dL_holds_676 : decode cL_holds 676 = .ok (.bipush 11, 2) := by decide +kernel
theorem dL_holds_678 : decode cL_holds 678 = .ok (.iload 10, 2) := by decide +kernel
theorem dL_holds_680 : decode cL_holds 680 = .ok (.iconst 0, 1) := by decide +kernel
theorem dL_holds_681 : decode cL_holds 681 = .ok (.iconst 0, 1) := by decide +kernel
theorem dL_holds_682 : decode cL_holds 682 = .ok (.invokestatic 150, 3) := by decide +kernel
theorem dL_holds_685 : decode cL_holds 685 = .ok (.istore 13, 2) := by decide +kernel
theorem dL_holds_687 : decode cL_holds 687 = .ok (.iload 13, 2) := by decide +kernel
theorem dL_holds_689 : decode cL_holds 689 = .ok (.ifCond .ne 7, 3) := by decide +kernel
theorem dL_holds_692 : decode cL_holds 692 = .ok (.iconst 1, 1) := by decide +kernel
theorem dL_holds_693 : decode cL_holds 693 = .ok (.goto 4, 3) := by decide +kernel
theorem dL_holds_696 : decode cL_holds 696 = .ok (.iconst 0, 1) := by decide +kernel
theorem dL_holds_697 : decode cL_holds 697 = .ok (.iload 7, 2) := by decide +kernel
theorem dL_holds_699 : decode cL_holds 699 = .ok (.ifCond .ne 30, 3) := by decide +kernel
theorem dL_holds_702 : decode cL_holds 702 = .ok (.aload_n 0, 1) := by decide +kernel
theorem dL_holds_703 : decode cL_holds 703 = .ok (.iconst 3, 1) := by decide +kernel
theorem dL_holds_704 : decode cL_holds 704 = .ok (.iload 9, 2) := by decide +kernel
theorem dL_holds_706 : decode cL_holds 706 = .ok (.ifCond .ge 7, 3) := by decide +kernel
theorem dL_holds_709 : decode cL_holds 709 = .ok (.iconst 0, 1) := by decide +kernel
theorem dL_holds_710 : decode cL_holds 710 = .ok (.goto 5, 3) := by decide +kernel
theorem dL_holds_713 : decode cL_holds 713 = .ok (.iload 9, 2) := by decide +kernel
