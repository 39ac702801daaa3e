theorem dL_refused_143 : decode cL_refused 143 = .ok (.if_icmp .ne 83, 3) := by decide +kernel
theorem dL_refused_146 : decode cL_refused 146 = .ok (.aload_n 0, 1) := by decide +kernel
theorem dL_refused_147 : decode cL_refused 147 = .ok (.iconst 0, 1) := by decide +kernel
theorem dL_refused_148 : decode cL_refused 148 = .ok (.iconst 3, 1) := by decide +kernel
theorem dL_refused_149 : decode cL_refused 149 = .ok (.invokevirtual 129, 3) := by decide +kernel
theorem dL_refused_152 : decode cL_refused 152 = .ok (.bipush (-12), 2) := by decide +kernel
theorem dL_refused_154 : decode cL_refused 154 = .ok (.if_icmp .ne 72, 3) := by decide +kernel
theorem dL_refused_157 : decode cL_refused 157 = .ok (.aload_n 0, 1) := by decide +kernel
theorem dL_refused_158 : decode cL_refused 158 = .ok (.iload_n 3, 1) := by decide +kernel
theorem dL_refused_159 : decode cL_refused 159 = .ok (.iconst 1, 1) := by decide +kernel
theorem dL_refused_160 : decode cL_refused 160 = .ok (.invokevirtual 50, 3) := by decide +kernel
theorem dL_refused_163 : decode cL_refused 163 = .ok (.bipush (-11), 2) := by decide +kernel
theorem dL_refused_165 : decode cL_refused 165 = .ok (.if_icmp .ne 61, 3) := by decide +kernel
theorem dL_refused_168 : decode cL_refused 168 = .ok (.aload_n 0, 1) := by decide +kernel
theorem dL_refused_169 : decode cL_refused 169 = .ok (.iconst (-1), 1) := by decide +kernel
theorem dL_refused_170 : decode cL_refused 170 = .ok (.iconst 0, 1) := by decide +kernel
theorem dL_refused_171 : decode cL_refused 171 = .ok (.invokevirtual 50, 3) := by decide +kernel
theorem dL_refused_174 : decode cL_refused 174 = .ok (.bipush (-11), 2) := by decide +kernel
theorem dL_refused_176 : decode cL_refused 176 = .ok (.if_icmp .ne 50, 3) := by decide +kernel
theorem dL_refused_179 : decode cL_refused 179 = .ok (.aload_n 0, 1) := by decide +kernel
theorem dL_refused_180 : decode cL_refused 180 = .ok (.iconst 0, 1) := by decide +kernel
theorem dL_refused_181 : decode cL_refused 181 = .ok (.invokevirtual 53, 3) := by decide +kernel
theorem dL_refused_184 : decode cL_refused 184 = .ok (.bipush (-12), 2) := by decide +kernel
theorem dL_refused_186 : decode cL_refused 186 = .ok (.if_icmp .ne 40, 3) := by decide +kernel
theorem dL_refused_189 : decode cL_refused 189 = .ok (.aload_n 0, 1) := by decide +kernel
theorem dL_refused_190 : decode cL_refused 190 = .ok (.bipush 100, 2) := by decide +kernel
theorem dL_refused_192 : decode cL_refused 192 = .ok (.invokevirtual 53, 3) := by decide +kernel
theorem dL_refused_195 : decode cL_refused 195 = .ok (.bipush (-12), 2) := by decide +kernel
theorem dL_refused_197 : decode cL_refused 197 = .ok (.if_icmp .ne 29, 3) := by decide +kernel
theorem dL_refused_200 : decode cL_refused 200 = .ok (.aload_n 0, 1) := by decide +kernel
theorem dL_refused_201 : decode cL_refused 201 = .ok (.iconst 0, 1) := by decide +kernel
theorem dL_refused_202 : decode cL_refused 202 = .ok (.iconst 0, 1) := by decide +kernel
theorem dL_refused_203 : decode cL_refused 203 = .ok (.invokevirtual 26, 3) := by decide +kernel
theorem dL_refused_206 : decode cL_refused 206 = .ok (.iload 4, 2) := by decide +kernel
theorem dL_refused_208 : decode cL_refused 208 = .ok (.if_icmp .ne 18, 3) := by decide +kernel
theorem dL_refused_211 : decode cL_refused 211 = .ok (.aload_n 0, 1) := by decide +kernel
theorem dL_refused_212 : decode cL_refused 212 = .ok (.iconst 0, 1) := by decide +kernel
theorem dL_refused_213 : decode cL_refused 213 = .ok (.iconst 1, 1) := by decide +kernel
theorem dL_refused_214 : decode cL_refused 214 = .ok (.invokevirtual 26, 3) := by decide +kernel
theorem dL_refused_217 : decode cL_refused 217 = .ok (.iload 5, 2) := by decide +kernel
theorem dL_refused_219 : decode cL_refused 219 = .ok (.if_icmp .ne 7, 3) := by decide +kernel
theorem dL_refused_222 : decode cL_refused 222 = .ok (.iconst 1, 1) := by decide +kernel
theorem dL_refused_223 : decode cL_refused 223 = .ok (.goto 4, 3) := by decide +kernel
theorem dL_refused_226 : decode cL_refused 226 = .ok (.iconst 0, 1) := by decide +kernel
theorem dL_refused_227 : decode cL_refused 227 = .ok (.istore 6, 2) := by decide +kernel
theorem dL_refused_229 : decode cL_refused 229 = .ok (.iload 6, 2) := by decide +kernel
theorem dL_refused_231 : decode cL_refused 231 = .ok (.ifCond .eq 295, 3) := by decide +kernel
theorem dL_refused_234 : decode cL_refused 234 = .ok (.aload_n 0, 1) := by decide +kernel
theorem dL_refused_235 : decode cL_refused 235 = .ok (.iload_n 3, 1) := by decide +kernel
theorem dL_refused_236 : decode cL_refused 236 = .ok (.bipush 9, 2) := by decide +kernel
theorem dL_refused_238 : decode cL_refused 238 = .ok (.invokevirtual 81, 3) := by decide +kernel
theorem dL_refused_241 : decode cL_refused 241 = .ok (.bipush (-11), 2) := by decide +kernel
theorem dL_refused_243 : decode cL_refused 243 = .ok (.if_icmp .ne 283, 3) := by decide +kernel
theorem dL_refused_246 : decode cL_refused 246 = .ok (.aload_n 0, 1) := by decide +kernel
theorem dL_refused_247 : decode cL_refused 247 = .ok (.iconst 0, 1) := by decide +kernel
theorem dL_refused_248 : decode cL_refused 248 = .ok (.bipush 8, 2) := by decide +kernel
theorem dL_refused_250 : decode cL_refused 250 = .ok (.invokevirtual 81, 3) := by decide +kernel
theorem dL_refused_253 : decode cL_refused 253 = .ok (.bipush (-12), 2) := by decide +kernel
theorem dL_refused_255 : decode cL_refused 255 = .ok (.if_icmp .ne 271, 3) := by decide +kernel
theorem dL_refused_258 : decode cL_refused 258 = .ok (.aload_n 0, 1) := by decide +kernel
theorem dL_refused_259 : decode cL_refused 259 = .ok (.iconst 0, 1) := by decide +kernel
theorem dL_refused_260 : decode cL_refused 260 = .ok (.iconst (-1), 1) := by decide +kernel
theorem dL_refused_261 : decode cL_refused 261 = .ok (.invokevirtual 81, 3) := by decide +kernel
theorem dL_refused_264 : decode cL_refused 264 = .ok (.bipush (-12), 2) := by decide +kernel
theorem dL_refused_266 : decode cL_refused 266 = .ok (.if_icmp .ne 260, 3) := by decide +kernel
theorem dL_refused_269 : decode cL_refused 269 = .ok (.aload_n 0, 1) := by decide +kernel
theorem dL_refused_270 : decode cL_refused 270 = .ok (.iload_n 3, 1) := by decide +kernel
theorem dL_refused_271 : decode cL_refused 271 = .ok (.bipush 9, 2) := by decide +kernel
theorem dL_refused_273 : decode cL_refused 273 = .ok (.invokevirtual 84, 3) := by decide +kernel
theorem dL_refused_276 : decode cL_refused 276 = .ok (.bipush (-11), 2) := by decide +kernel
theorem dL_refused_278 : decode cL_refused 278 = .ok (.if_icmp .ne 248, 3) := by decide +kernel
theorem dL_refused_281 : decode cL_refused 281 = .ok (.aload_n 0, 1) := by decide +kernel
theorem dL_refused_282 : decode cL_refused 282 = .ok (.iconst 0, 1) := by decide +kernel
theorem dL_refused_283 : decode cL_refused 283 = .ok (.iconst 3, 1) := by decide +kernel
theorem dL_refused_284 : decode cL_refused 284 = .ok (.invokevirtual 84, 3) := by decide +kernel
theorem dL_refused_287 : decode cL_refused 287 = .ok (.bipush (-12), 2) := by decide +kernel
theorem dL_refused_289 : decode cL_refused 289 = .ok (.if_icmp .ne 237, 3) := by decide +kernel
theorem dL_refused_292 : decode cL_refused 292 = .ok (.aload_n 0, 1) := by decide +kernel
theorem dL_refused_293 : decode cL_refused 293 = .ok (.iconst 0, 1) := by decide +kernel
theorem dL_refused_294 : decode cL_refused 294 = .ok (.iconst 0, 1) := by decide +kernel
theorem dL_refused_295 : decode cL_refused 295 = .ok (.invokevirtual 84, 3) := by decide +kernel
theorem dL_refused_298 : decode cL_refused 298 = .ok (.bipush (-15), 2) := by decide +kernel
theorem dL_refused_300 : decode cL_refused 300 = .ok (.if_icmp .ne 226, 3) := by decide +kernel
theorem dL_refused_303 : decode cL_refused 303 = .ok (.aload_n 0, 1) := by decide +kernel
theorem dL_refused_304 : decode cL_refused 304 = .ok (.iload_n 3, 1) := by decide +kernel
theorem dL_refused_305 : decode cL_refused 305 = .ok (.invokevirtual 87, 3) := by decide +kernel
theorem dL_refused_308 : decode cL_refused 308 = .ok (.bipush (-11), 2) := by decide +kernel
theorem dL_refused_310 : decode cL_refused 310 = .ok (.if_icmp .ne 216, 3) := by decide +kernel
theorem dL_refused_313 : decode cL_refused 313 = .ok (.aload_n 0, 1) := by decide +kernel
theorem dL_refused_314 : decode cL_refused 314 = .ok (.iconst (-1), 1) := by decide +kernel
theorem dL_refused_315 : decode cL_refused 315 = .ok (.invokevirtual 87, 3) := by decide +kernel
theorem dL_refused_318 : decode cL_refused 318 = .ok (.bipush (-11), 2) := by decide +kernel
theorem dL_refused_320 : decode cL_refused 320 = .ok (.if_icmp .ne 206, 3) := by decide +kernel
theorem dL_refused_323 : decode cL_refused 323 = .ok (.aload_n 0, 1) := by decide +kernel
theorem dL_refused_324 : decode cL_refused 324 = .ok (.iload_n 3, 1) := by decide +kernel
theorem dL_refused_325 : decode cL_refused 325 = .ok (.invokevirtual 90, 3) := by decide +kernel
theorem dL_refused_328 : decode cL_refused 328 = .ok (.bipush (-11), 2) := by decide +kernel
theorem dL_refused_330 : decode cL_refused 330 = .ok (.if_icmp .ne 196, 3) := by decide +kernel
theorem dL_refused_333 : decode cL_refused 333 = .ok (.aload_n 0, 1) := by decide +kernel
theorem dL_refused_334 : decode cL_refused 334 = .ok (.iconst (-1), 1) := by decide +kernel
theorem dL_refused_335 : decode cL_refused 335 = .ok (.invokevirtual 93, 3) := by decide +kernel
theorem dL_refused_338 : decode cL_refused 338 = .ok (.bipush (-11), 2) := by decide +kernel
theorem dL_refused_340 : decode cL_refused 340 = .ok (.if_icmp .ne 186, 3) := by decide +kernel
theorem dL_refused_343 : decode cL_refused 343 = .ok (.aload_n 0, 1) := by decide +kernel
theorem dL_refused_344 : decode cL_refused 344 = .ok (.iload_n 3, 1) := by decide +kernel
theorem dL_refused_345 : decode cL_refused 345 = .ok (.iconst 0, 1) := by decide +kernel
theorem dL_refused_346 : decode cL_refused 346 = .ok (.invokevirtual 99, 3) := by decide +kernel
theorem dL_refused_349 : decode cL_refused 349 = .ok (.bipush (-11), 2) := by decide +kernel
theorem dL_refused_351 : decode cL_refused 351 = .ok (.if_icmp .ne 175, 3) := by decide +kernel
theorem dL_refused_354 : decode cL_refused 354 = .ok (.aload_n 0, 1) := by decide +kernel
theorem dL_refused_355 : decode cL_refused 355 = .ok (.iconst 0, 1) := by decide +kernel
theorem dL_refused_356 : decode cL_refused 356 = .ok (.iload_n 3, 1) := by decide +kernel
theorem dL_refused_357 : decode cL_refused 357 = .ok (.invokevirtual 99, 3) := by decide +kernel
theorem dL_refused_360 : decode cL_refused 360 = .ok (.bipush (-11), 2) := by decide +kernel
theorem dL_refused_362 : decode cL_refused 362 = .ok (.if_icmp .ne 164, 3) := by decide +kernel
theorem dL_refused_365 : decode cL_refused 365 = .ok (.aload_n 0, 1) := by decide +kernel
theorem dL_refused_366 : decode cL_refused 366 = .ok (.iconst 0, 1) := by decide +kernel
theorem dL_refused_367 : decode cL_refused 367 = .ok (.iconst 0, 1) := by decide +kernel
theorem dL_refused_368 : decode cL_refused 368 = .ok (.invokevirtual 99, 3) := by decide +kernel
theorem dL_refused_371 : decode cL_refused 371 = .ok (.bipush (-12), 2) := by decide +kernel
theorem dL_refused_373 : decode cL_refused 373 = .ok (.if_icmp .ne 153, 3) := by decide +kernel
theorem dL_refused_376 : decode cL_refused 376 = .ok (.aload_n 0, 1) := by decide +kernel
theorem dL_refused_377 : decode cL_refused 377 = .ok (.iload_n 3, 1) := by decide +kernel
theorem dL_refused_378 : decode cL_refused 378 = .ok (.invokevirtual 96, 3) := by decide +kernel
theorem dL_refused_381 : decode cL_refused 381 = .ok (.bipush (-11), 2) := by decide +kernel
theorem dL_refused_383 : decode cL_refused 383 = .ok (.if_icmp .ne 143, 3) := by decide +kernel
theorem dL_refused_386 : decode cL_refused 386 = .ok (.aload_n 0, 1) := by decide +kernel
theorem dL_refused_387 : decode cL_refused 387 = .ok (.iload_n 3, 1) := by decide +kernel
theorem dL_refused_388 : decode cL_refused 388 = .ok (.invokevirtual 102, 3) := by decide +kernel
theorem dL_refused_391 : decode cL_refused 391 = .ok (.bipush (-11), 2) := by decide +kernel
theorem dL_refused_393 : decode cL_refused 393 = .ok (.if_icmp .ne 133, 3) := by decide +kernel
theorem dL_refused_396 : decode cL_refused 396 = .ok (.aload_n 0, 1) := by decide +kernel
theorem dL_refused_397 : decode cL_refused 397 = .ok (.iconst (-1), 1) := by decide +kernel
theorem dL_refused_398 : decode cL_refused 398 = .ok (.invokevirtual 105, 3) := by decide +kernel
theorem dL_refused_401 : decode cL_refused 401 = .ok (.bipush (-11), 2) := by decide +kernel
theorem dL_refused_403 : decode cL_refused 403 = .ok (.if_icmp .ne 123, 3) := by decide +kernel
theorem dL_refused_406 : decode cL_refused 406 = .ok (.aload_n 0, 1) := by decide +kernel
theorem dL_refused_407 : decode cL_refused 407 = .ok (.iconst 0, 1) := by decide +kernel
theorem dL_refused_408 : decode cL_refused 408 = .ok (.invokevirtual 102, 3) := by decide +kernel
theorem dL_refused_411 : decode cL_refused 411 = .ok (.bipush (-15), 2) := by decide +kernel
theorem dL_refused_413 : decode cL_refused 413 = .ok (.if_icmp .ne 113, 3) := by decide +kernel
theorem dL_refused_416 : decode cL_refused 416 = .ok (.aload_n 0, 1) := by decide +kernel
theorem dL_refused_417 : decode cL_refused 417 = .ok (.iconst 0, 1) := by decide +kernel
theorem dL_refused_418 : decode cL_refused 418 = .ok (.invokevirtual 105, 3) := by decide +kernel
theorem dL_refused_421 : decode cL_refused 421 = .ok (.bipush (-15), 2) := by decide +kernel
theorem dL_refused_423 : decode cL_refused 423 = .ok (.if_icmp .ne 103, 3) := by decide +kernel
theorem dL_refused_426 : decode cL_refused 426 = .ok (.aload_n 0, 1) := by decide +kernel
theorem dL_refused_427 : decode cL_refused 427 = .ok (.bipush 31, 2) := by decide +kernel
theorem dL_refused_429 : decode cL_refused 429 = .ok (.invokevirtual 17, 3) := by decide +kernel
theorem dL_refused_432 : decode cL_refused 432 = .ok (.bipush (-12), 2) := by decide +kernel
theorem dL_refused_434 : decode cL_refused 434 = .ok (.if_icmp .ne 92, 3) := by decide +kernel
theorem dL_refused_437 : decode cL_refused 437 = .ok (.aload_n 0, 1) := by decide +kernel
theorem dL_refused_438 : decode cL_refused 438 = .ok (.bipush 127, 2) := by decide +kernel
theorem dL_refused_440 : decode cL_refused 440 = .ok (.invokevirtual 17, 3) := by decide +kernel
theorem dL_refused_443 : decode cL_refused 443 = .ok (.bipush (-12), 2) := by decide +kernel
theorem dL_refused_445 : decode cL_refused 445 = .ok (.if_icmp .ne 81, 3) := by decide +kernel
theorem dL_refused_448 : decode cL_refused 448 = .ok (.aload_n 0, 1) := by decide +kernel
theorem dL_refused_449 : decode cL_refused 449 = .ok (.iload_n 3, 1) := by decide +kernel
theorem dL_refused_450 : decode cL_refused 450 = .ok (.invokevirtual 108, 3) := by decide +kernel
theorem dL_refused_453 : decode cL_refused 453 = .ok (.bipush (-11), 2) := by decide +kernel
theorem dL_refused_455 : decode cL_refused 455 = .ok (.if_icmp .ne 71, 3) := by decide +kernel
theorem dL_refused_458 : decode cL_refused 458 = .ok (.aload_n 0, 1) := by decide +kernel
theorem dL_refused_459 : decode cL_refused 459 = .ok (.iconst (-1), 1) := by decide +kernel
theorem dL_refused_460 : decode cL_refused 460 = .ok (.invokevirtual 30, 3) := by decide +kernel
theorem dL_refused_463 : decode cL_refused 463 = .ok (.bipush (-11), 2) := by decide +kernel
theorem dL_refused_465 : decode cL_refused 465 = .ok (.if_icmp .ne 61, 3) := by decide +kernel
theorem dL_refused_468 : decode cL_refused 468 = .ok (.aload_n 0, 1) := by decide +kernel
theorem dL_refused_469 : decode cL_refused 469 = .ok (.bipush 40, 2) := by decide +kernel
theorem dL_refused_471 : decode cL_refused 471 = .ok (.invokevirtual 30, 3) := by decide +kernel
theorem dL_refused_474 : decode cL_refused 474 = .ok (.bipush (-11), 2) := by decide +kernel
theorem dL_refused_476 : decode cL_refused 476 = .ok (.if_icmp .ne 50, 3) := by decide +kernel
theorem dL_refused_479 : decode cL_refused 479 = .ok (.aload_n 0, 1) := by decide +kernel
theorem dL_refused_480 : decode cL_refused 480 = .ok (.iconst 3, 1) := by decide +kernel
theorem dL_refused_481 : decode cL_refused 481 = .ok (.iconst 0, 1) := by decide +kernel
theorem dL_refused_482 : decode cL_refused 482 = .ok (.invokevirtual 26, 3) := by decide +kernel
theorem dL_refused_485 : decode cL_refused 485 = .ok (.bipush (-15), 2) := by decide +kernel
theorem dL_refused_487 : decode cL_refused 487 = .ok (.if_icmp .ne 39, 3) := by decide +kernel
theorem dL_refused_490 : decode cL_refused 490 = .ok (.aload_n 0, 1) := by decide +kernel
theorem dL_refused_491 : decode cL_refused 491 = .ok (.iconst (-1), 1) := by decide +kernel
theorem dL_refused_492 : decode cL_refused 492 = .ok (.iconst 1, 1) := by decide +kernel
theorem dL_refused_493 : decode cL_refused 493 = .ok (.invokevirtual 26, 3) := by decide +kernel
theorem dL_refused_496 : decode cL_refused 496 = .ok (.bipush (-15), 2) := by decide +kernel
theorem dL_refused_498 : decode cL_refused 498 = .ok (.if_icmp .ne 28, 3) := by decide +kernel
theorem dL_refused_501 : decode cL_refused 501 = .ok (.aload_n 0, 1) := by decide +kernel
theorem dL_refused_502 : decode cL_refused 502 = .ok (.bipush 13, 2) := by decide +kernel
theorem dL_refused_504 : decode cL_refused 504 = .ok (.invokevirtual 78, 3) := by decide +kernel
theorem dL_refused_507 : decode cL_refused 507 = .ok (.bipush (-12), 2) := by decide +kernel
theorem dL_refused_509 : decode cL_refused 509 = .ok (.if_icmp .ne 17, 3) := by decide +kernel
theorem dL_refused_512 : decode cL_refused 512 = .ok (.aload_n 0, 1) := by decide +kernel
theorem dL_refused_513 : decode cL_refused 513 = .ok (.iconst (-1), 1) := by decide +kernel
theorem dL_refused_514 : decode cL_refused 514 = .ok (.invokevirtual 78, 3) := by decide +kernel
theorem dL_refused_517 : decode cL_refused 517 = .ok (.bipush (-12), 2) := by decide +kernel
theorem dL_refused_519 : decode cL_refused 519 = .ok (.if_icmp .ne 7, 3) := by decide +kernel
theorem dL_refused_522 : decode cL_refused 522 = .ok (.iconst 1, 1) := by decide +kernel
theorem dL_refused_523 : decode cL_refused 523 = .ok (.goto 4, 3) := by decide +kernel
theorem dL_refused_526 : decode cL_refused 526 = .ok (.iconst 0, 1) := by decide +kernel
theorem dL_refused_527 : decode cL_refused 527 = .ok (.istore 6, 2) := by decide +kernel
theorem dL_refused_529 : decode cL_refused 529 = .ok (.iload 6, 2) := by decide +kernel
theorem dL_refused_531 : decode cL_refused 531 = .ok (.ifCond .eq 85, 3) := by decide +kernel
theorem dL_refused_534 : decode cL_refused 534 = .ok (.aload_n 0, 1) := by decide +kernel
theorem dL_refused_535 : decode cL_refused 535 = .ok (.ldc 171, 2) := by decide +kernel
theorem dL_refused_537 : decode cL_refused 537 = .ok (.invokestatic 163, 3) := by decide +kernel
theorem dL_refused_540 : decode cL_refused 540 = .ok (.sipush (-1000), 3) := by decide +kernel
theorem dL_refused_543 : decode cL_refused 543 = .ok (.if_icmp .ne 73, 3) := by decide +kernel
theorem dL_refused_546 : decode cL_refused 546 = .ok (.aload_n 0, 1) := by decide +kernel
theorem dL_refused_547 : decode cL_refused 547 = .ok (.iconst 0, 1) := by decide +kernel
theorem dL_refused_548 : decode cL_refused 548 = .ok (.iconst 0, 1) := by decide +kernel
theorem dL_refused_549 : decode cL_refused 549 = .ok (.invokevirtual 26, 3) := by decide +kernel
theorem dL_refused_552 : decode cL_refused 552 = .ok (.iload 4, 2) := by decide +kernel
theorem dL_refused_554 : decode cL_refused 554 = .ok (.if_icmp .ne 62, 3) := by decide +kernel
theorem dL_refused_557 : decode cL_refused 557 = .ok (.aload_n 0, 1) := by decide +kernel
theorem dL_refused_558 : decode cL_refused 558 = .ok (.ldc 173, 2) := by decide +kernel
theorem dL_refused_560 : decode cL_refused 560 = .ok (.invokestatic 163, 3) := by decide +kernel
theorem dL_refused_563 : decode cL_refused 563 = .ok (.bipush (-14), 2) := by decide +kernel
theorem dL_refused_565 : decode cL_refused 565 = .ok (.if_icmp .ne 51, 3) := by decide +kernel
theorem dL_refused_568 : decode cL_refused 568 = .ok (.aload_n 0, 1) := by decide +kernel
theorem dL_refused_569 : decode cL_refused 569 = .ok (.bipush 10, 2) := by decide +kernel
theorem dL_refused_571 : decode cL_refused 571 = .ok (.iconst 1, 1) := by decide +kernel
theorem dL_refused_572 : decode cL_refused 572 = .ok (.bipush 13, 2) := by decide +kernel
theorem dL_refused_574 : decode cL_refused 574 = .ok (.bipush (-12), 2) := by decide +kernel
theorem dL_refused_576 : decode cL_refused 576 = .ok (.invokestatic 175, 3) := by decide +kernel
theorem dL_refused_579 : decode cL_refused 579 = .ok (.ifCond .eq 37, 3) := by decide +kernel
theorem dL_refused_582 : decode cL_refused 582 = .ok (.aload_n 0, 1) := by decide +kernel
theorem dL_refused_583 : decode cL_refused 583 = .ok (.iconst 0, 1) := by decide +kernel
theorem dL_refused_584 : decode cL_refused 584 = .ok (.iconst 0, 1) := by decide +kernel
theorem dL_refused_585 : decode cL_refused 585 = .ok (.iconst 0, 1) := by decide +kernel
theorem dL_refused_586 : decode cL_refused 586 = .ok (.invokevirtual 46, 3) := by decide +kernel
theorem dL_refused_589 : decode cL_refused 589 = .ok (.bipush (-14), 2) := by decide +kernel
theorem dL_refused_591 : decode cL_refused 591 = .ok (.if_icmp .ne 25, 3) := by decide +kernel
theorem dL_refused_594 : decode cL_refused 594 = .ok (.aload_n 0, 1) := by decide +kernel
theorem dL_refused_595 : decode cL_refused 595 = .ok (.iconst 2, 1) := by decide +kernel
theorem dL_refused_596 : decode cL_refused 596 = .ok (.iconst 0, 1) := by decide +kernel
theorem dL_refused_597 : decode cL_refused 597 = .ok (.invokestatic 179, 3) := by decide +kernel
theorem dL_refused_600 : decode cL_refused 600 = .ok (.ifCond .eq 16, 3) := by decide +kernel
theorem dL_refused_603 : decode cL_refused 603 = .ok (.aload_n 0, 1) := by decide +kernel
theorem dL_refused_604 : decode cL_refused 604 = .ok (.invokestatic 167, 3) := by decide +kernel
theorem dL_refused_607 : decode cL_refused 607 = .ok (.lload_n 1, 1) := by decide +kernel
theorem dL_refused_608 : decode cL_refused 608 = .ok (.lcmp, 1) := by decide +kernel
theorem dL_refused_609 : decode cL_refused 609 = .ok (.ifCond .ne 7, 3) := by decide +kernel
theorem dL_refused_612 : decode cL_refused 612 = .ok (.iconst 1, 1) := by decide +kernel
theorem dL_refused_613 : decode cL_refused 613 = .ok (.goto 4, 3) := by decide +kernel
theorem dL_refused_616 : decode cL_refused 616 = .ok (.iconst 0, 1) := by decide +kernel
theorem dL_refused_617 : decode cL_refused 617 = .ok (.ireturn, 1) := by decide +kernel
theorem dL_law_0 : decode cL_law 0 = .ok (.new 18, 3) := by decide +kernel
theorem dL_law_3 : decode cL_law 3 = .ok (.dup, 1) := by decide +kernel
theorem dL_law_4 : decode cL_law 4 = .ok (.invokespecial 182, 3) := by decide +kernel
theorem dL_law_7 : decode cL_law 7 = .ok (.astore_n 1, 1) := by decide +kernel
theorem dL_law_8 : decode cL_law 8 = .ok (.aload_n 1, 1) := by decide +kernel
theorem dL_law_9 : decode cL_law 9 = .ok (.invokevirtual 183, 3) := by decide +kernel
theorem dL_law_12 : decode cL_law 12 = .ok (.bipush (-15), 2) := by decide +kernel
theorem dL_law_14 : decode cL_law 14 = .ok (.if_icmp .ne 38, 3) := by decide +kernel
theorem dL_law_17 : decode cL_law 17 = .ok (.aload_n 1, 1) := by decide +kernel
theorem dL_law_18 : decode cL_law 18 = .ok (.invokevirtual 186, 3) := by decide +kernel
theorem dL_law_21 : decode cL_law 21 = .ok (.bipush (-15), 2) := by decide +kernel
theorem dL_law_23 : decode cL_law 23 = .ok (.if_icmp .ne 29, 3) := by decide +kernel
theorem dL_law_26 : decode cL_law 26 = .ok (.aload_n 1, 1) := by decide +kernel
theorem dL_law_27 : decode cL_law 27 = .ok (.invokevirtual 189, 3) := by decide +kernel
theorem dL_law_30 : decode cL_law 30 = .ok (.ifCond .ne 22, 3) := by decide +kernel
theorem dL_law_33 : decode cL_law 33 = .ok (.aload_n 1, 1) := by decide +kernel
theorem dL_law_34 : decode cL_law 34 = .ok (.bipush 99, 2) := by decide +kernel
theorem dL_law_36 : decode cL_law 36 = .ok (.invokevirtual 53, 3) := by decide +kernel
theorem dL_law_39 : decode cL_law 39 = .ok (.ifCond .ne 13, 3) := by decide +kernel
theorem dL_law_42 : decode cL_law 42 = .ok (.aload_n 1, 1) := by decide +kernel
theorem dL_law_43 : decode cL_law 43 = .ok (.iconst 0, 1) := by decide +kernel
theorem dL_law_44 : decode cL_law 44 = .ok (.invokevirtual 78, 3) := by decide +kernel
theorem dL_law_47 : decode cL_law 47 = .ok (.bipush 99, 2) := by decide +kernel
theorem dL_law_49 : decode cL_law 49 = .ok (.if_icmp .eq 5, 3) := by decide +kernel
theorem dL_law_52 : decode cL_law 52 = .ok (.iconst 0, 1) := by decide +kernel
theorem dL_law_53 : decode cL_law 53 = .ok (.ireturn, 1) := by decide +kernel
theorem dL_law_54 : decode cL_law 54 = .ok (.iconst 0, 1) := by decide +kernel
theorem dL_law_55 : decode cL_law 55 = .ok (.istore_n 2, 1) := by decide +kernel
theorem dL_law_56 : decode cL_law 56 = .ok (.iload_n 2, 1) := by decide +kernel
theorem dL_law_57 : decode cL_law 57 = .ok (.bipush 60, 2) := by decide +kernel
theorem dL_law_59 : decode cL_law 59 = .ok (.if_icmp .ge 25, 3) := by decide +kernel
theorem dL_law_62 : decode cL_law 62 = .ok (.aload_n 1, 1) := by decide +kernel
theorem dL_law_63 : decode cL_law 63 = .ok (.bipush 65, 2) := by decide +kernel
theorem dL_law_65 : decode cL_law 65 = .ok (.iload_n 2, 1) := by decide +kernel
theorem dL_law_66 : decode cL_law 66 = .ok (.iadd, 1) := by decide +kernel
theorem dL_law_67 : decode cL_law 67 = .ok (.invokevirtual 17, 3) := by decide +kernel
theorem dL_law_70 : decode cL_law 70 = .ok (.iload_n 2, 1) := by decide +kernel
theorem dL_law_71 : decode cL_law 71 = .ok (.iconst 1, 1) := by decide +kernel
theorem dL_law_72 : decode cL_law 72 = .ok (.iadd, 1) := by decide +kernel
theorem dL_law_73 : decode cL_law 73 = .ok (.if_icmp .eq 5, 3) := by decide +kernel
theorem dL_law_76 : decode cL_law 76 = .ok (.iconst 0, 1) := by decide +kernel
theorem dL_law_77 : decode cL_law 77 = .ok (.ireturn, 1) := by decide +kernel
theorem dL_law_78 : decode cL_law 78 = .ok (.iinc 2 1, 3) := by decide +kernel
theorem dL_law_81 : decode cL_law 81 = .ok (.goto (-25), 3) := by decide +kernel
theorem dL_law_84 : decode cL_law 84 = .ok (.aload_n 1, 1) := by decide +kernel
theorem dL_law_85 : decode cL_law 85 = .ok (.bipush 31, 2) := by decide +kernel
theorem dL_law_87 : decode cL_law 87 = .ok (.invokevirtual 17, 3) := by decide +kernel
theorem dL_law_90 : decode cL_law 90 = .ok (.bipush (-12), 2) := by decide +kernel
theorem dL_law_92 : decode cL_law 92 = .ok (.if_icmp .ne 44, 3) := by decide +kernel
theorem dL_law_95 : decode cL_law 95 = .ok (.aload_n 1, 1) := by decide +kernel
theorem dL_law_96 : decode cL_law 96 = .ok (.bipush 119, 2) := by decide +kernel
theorem dL_law_98 : decode cL_law 98 = .ok (.invokevirtual 17, 3) := by decide +kernel
theorem dL_law_101 : decode cL_law 101 = .ok (.bipush (-13), 2) := by decide +kernel
theorem dL_law_103 : decode cL_law 103 = .ok (.if_icmp .ne 33, 3) := by decide +kernel
theorem dL_law_106 : decode cL_law 106 = .ok (.aload_n 1, 1) := by decide +kernel
theorem dL_law_107 : decode cL_law 107 = .ok (.bipush 11, 2) := by decide +kernel
theorem dL_law_109 : decode cL_law 109 = .ok (.invokevirtual 78, 3) := by decide +kernel
theorem dL_law_112 : decode cL_law 112 = .ok (.bipush 60, 2) := by decide +kernel
theorem dL_law_114 : decode cL_law 114 = .ok (.if_icmp .ne 22, 3) := by decide +kernel
theorem dL_law_117 : decode cL_law 117 = .ok (.aload_n 1, 1) := by decide +kernel
theorem dL_law_118 : decode cL_law 118 = .ok (.invokevirtual 23, 3) := by decide +kernel
theorem dL_law_121 : decode cL_law 121 = .ok (.sipush (-1000), 3) := by decide +kernel
theorem dL_law_124 : decode cL_law 124 = .ok (.if_icmp .ne 12, 3) := by decide +kernel
theorem dL_law_127 : decode cL_law 127 = .ok (.aload_n 1, 1) := by decide +kernel
theorem dL_law_128 : decode cL_law 128 = .ok (.bipush 11, 2) := by decide +kernel
theorem dL_law_130 : decode cL_law 130 = .ok (.invokevirtual 78, 3) := by decide +kernel
theorem dL_law_133 : decode cL_law 133 = .ok (.ifCond .eq 5, 3) := by decide +kernel
theorem dL_law_136 : decode cL_law 136 = .ok (.iconst 0, 1) := by decide +kernel
theorem dL_law_137 : decode cL_law 137 = .ok (.ireturn, 1) := by decide +kernel
theorem dL_law_138 : decode cL_law 138 = .ok (.aload_n 1, 1) := by decide +kernel
theorem dL_law_139 : decode cL_law 139 = .ok (.iconst 0, 1) := by decide +kernel
theorem dL_law_140 : decode cL_law 140 = .ok (.iconst 4, 1) := by decide +kernel
theorem dL_law_141 : decode cL_law 141 = .ok (.invokevirtual 33, 3) := by decide +kernel
theorem dL_law_144 : decode cL_law 144 = .ok (.ifCond .ne 13, 3) := by decide +kernel
theorem dL_law_147 : decode cL_law 147 = .ok (.aload_n 1, 1) := by decide +kernel
theorem dL_law_148 : decode cL_law 148 = .ok (.iconst 1, 1) := by decide +kernel
theorem dL_law_149 : decode cL_law 149 = .ok (.iconst 1, 1) := by decide +kernel
theorem dL_law_150 : decode cL_law 150 = .ok (.invokevirtual 33, 3) := by decide +kernel
theorem dL_law_153 : decode cL_law 153 = .ok (.iconst 1, 1) := by decide +kernel
theorem dL_law_154 : decode cL_law 154 = .ok (.if_icmp .eq 5, 3) := by decide +kernel
theorem dL_law_157 : decode cL_law 157 = .ok (.iconst 0, 1) := by decide +kernel
theorem dL_law_158 : decode cL_law 158 = .ok (.ireturn, 1) := by decide +kernel
theorem dL_law_159 : decode cL_law 159 = .ok (.iconst 2, 1) := by decide +kernel
theorem dL_law_160 : decode cL_law 160 = .ok (.istore_n 2, 1) := by decide +kernel
theorem dL_law_161 : decode cL_law 161 = .ok (.iload_n 2, 1) := by decide +kernel
theorem dL_law_162 : decode cL_law 162 = .ok (.bipush 16, 2) := by decide +kernel
theorem dL_law_164 : decode cL_law 164 = .ok (.if_icmp .ge 35, 3) := by decide +kernel
theorem dL_law_167 : decode cL_law 167 = .ok (.aload_n 1, 1) := by decide +kernel
theorem dL_law_168 : decode cL_law 168 = .ok (.bipush 6, 2) := by decide +kernel
theorem dL_law_170 : decode cL_law 170 = .ok (.iconst 1, 1) := by decide +kernel
theorem dL_law_171 : decode cL_law 171 = .ok (.invokevirtual 33, 3) := by decide +kernel
theorem dL_law_174 : decode cL_law 174 = .ok (.iload_n 2, 1) := by decide +kernel
theorem dL_law_175 : decode cL_law 175 = .ok (.if_icmp .ne 16, 3) := by decide +kernel
theorem dL_law_178 : decode cL_law 178 = .ok (.aload_n 1, 1) := by decide +kernel
theorem dL_law_179 : decode cL_law 179 = .ok (.iload_n 2, 1) := by decide +kernel
theorem dL_law_180 : decode cL_law 180 = .ok (.iconst 0, 1) := by decide +kernel
theorem dL_law_181 : decode cL_law 181 = .ok (.iload_n 2, 1) := by decide +kernel
theorem dL_law_182 : decode cL_law 182 = .ok (.iconst 1, 1) := by decide +kernel
theorem dL_law_183 : decode cL_law 183 = .ok (.isub, 1) := by decide +kernel
theorem dL_law_184 : decode cL_law 184 = .ok (.invokevirtual 46, 3) := by decide +kernel
theorem dL_law_187 : decode cL_law 187 = .ok (.iconst 1, 1) := by decide +kernel
theorem dL_law_188 : decode cL_law 188 = .ok (.if_icmp .eq 5, 3) := by decide +kernel
theorem dL_law_191 : decode cL_law 191 = .ok (.iconst 0, 1) := by decide +kernel
theorem dL_law_192 : decode cL_law 192 = .ok (.ireturn, 1) := by decide +kernel
