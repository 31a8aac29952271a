theorem dL_law_136 : decode cL_law 136 = .ok (.aload_n 1, 1) := by decide +kernel
theorem dL_law_137 : decode cL_law 137 = .ok (.aload_n 0, 1) := by decide +kernel
theorem dL_law_138 : decode cL_law 138 = .ok (.iload 4, 2) := by decide +kernel
theorem dL_law_140 : decode cL_law 140 = .ok (.iconst 1, 1) := by decide +kernel
theorem dL_law_141 : decode cL_law 141 = .ok (.iadd, 1) := by decide +kernel
theorem dL_law_142 : decode cL_law 142 = .ok (.iaload, 1) := by decide +kernel
theorem dL_law_143 : decode cL_law 143 = .ok (.aload_n 0, 1) := by decide +kernel
theorem dL_law_144 : decode cL_law 144 = .ok (.iload 4, 2) := by decide +kernel
theorem dL_law_146 : decode cL_law 146 = .ok (.iconst 2, 1) := by decide +kernel
theorem dL_law_147 : decode cL_law 147 = .ok (.iadd, 1) := by decide +kernel
theorem dL_law_148 : decode cL_law 148 = .ok (.iaload, 1) := by decide +kernel
theorem dL_law_149 : decode cL_law 149 = .ok (.aload_n 0, 1) := by decide +kernel
theorem dL_law_150 : decode cL_law 150 = .ok (.iload 4, 2) := by decide +kernel
theorem dL_law_152 : decode cL_law 152 = .ok (.iconst 3, 1) := by decide +kernel
theorem dL_law_153 : decode cL_law 153 = .ok (.iadd, 1) := by decide +kernel
theorem dL_law_154 : decode cL_law 154 = .ok (.iaload, 1) := by decide +kernel
theorem dL_law_155 : decode cL_law 155 = .ok (.aload_n 0, 1) := by decide +kernel
theorem dL_law_156 : decode cL_law 156 = .ok (.iload 4, 2) := by decide +kernel
theorem dL_law_158 : decode cL_law 158 = .ok (.iconst 4, 1) := by decide +kernel
theorem dL_law_159 : decode cL_law 159 = .ok (.iadd, 1) := by decide +kernel
theorem dL_law_160 : decode cL_law 160 = .ok (.iaload, 1) := by decide +kernel
theorem dL_law_161 : decode cL_law 161 = .ok (.aload_n 0, 1) := by decide +kernel
theorem dL_law_162 : decode cL_law 162 = .ok (.iload 4, 2) := by decide +kernel
theorem dL_law_164 : decode cL_law 164 = .ok (.iconst 5, 1) := by decide +kernel
theorem dL_law_165 : decode cL_law 165 = .ok (.iadd, 1) := by decide +kernel
theorem dL_law_166 : decode cL_law 166 = .ok (.iaload, 1) := by decide +kernel
theorem dL_law_167 : decode cL_law 167 = .ok (.aload_n 3, 1) := by decide +kernel
theorem dL_law_168 : decode cL_law 168 = .ok (.invokestatic 71, 3) := by decide +kernel
theorem dL_law_171 : decode cL_law 171 = .ok (.istore 5, 2) := by decide +kernel
theorem dL_law_173 : decode cL_law 173 = .ok (.aload_n 2, 1) := by decide +kernel
theorem dL_law_174 : decode cL_law 174 = .ok (.aload_n 0, 1) := by decide +kernel
theorem dL_law_175 : decode cL_law 175 = .ok (.iload 4, 2) := by decide +kernel
theorem dL_law_177 : decode cL_law 177 = .ok (.iconst 1, 1) := by decide +kernel
theorem dL_law_178 : decode cL_law 178 = .ok (.iadd, 1) := by decide +kernel
theorem dL_law_179 : decode cL_law 179 = .ok (.iaload, 1) := by decide +kernel
theorem dL_law_180 : decode cL_law 180 = .ok (.aload_n 0, 1) := by decide +kernel
theorem dL_law_181 : decode cL_law 181 = .ok (.iload 4, 2) := by decide +kernel
theorem dL_law_183 : decode cL_law 183 = .ok (.iconst 2, 1) := by decide +kernel
theorem dL_law_184 : decode cL_law 184 = .ok (.iadd, 1) := by decide +kernel
theorem dL_law_185 : decode cL_law 185 = .ok (.iaload, 1) := by decide +kernel
theorem dL_law_186 : decode cL_law 186 = .ok (.aload_n 0, 1) := by decide +kernel
theorem dL_law_187 : decode cL_law 187 = .ok (.iload 4, 2) := by decide +kernel
theorem dL_law_189 : decode cL_law 189 = .ok (.iconst 3, 1) := by decide +kernel
theorem dL_law_190 : decode cL_law 190 = .ok (.iadd, 1) := by decide +kernel
theorem dL_law_191 : decode cL_law 191 = .ok (.iaload, 1) := by decide +kernel
theorem dL_law_192 : decode cL_law 192 = .ok (.aload_n 0, 1) := by decide +kernel
theorem dL_law_193 : decode cL_law 193 = .ok (.iload 4, 2) := by decide +kernel
theorem dL_law_195 : decode cL_law 195 = .ok (.iconst 4, 1) := by decide +kernel
theorem dL_law_196 : decode cL_law 196 = .ok (.iadd, 1) := by decide +kernel
theorem dL_law_197 : decode cL_law 197 = .ok (.iaload, 1) := by decide +kernel
theorem dL_law_198 : decode cL_law 198 = .ok (.aload_n 0, 1) := by decide +kernel
theorem dL_law_199 : decode cL_law 199 = .ok (.iload 4, 2) := by decide +kernel
theorem dL_law_201 : decode cL_law 201 = .ok (.iconst 5, 1) := by decide +kernel
theorem dL_law_202 : decode cL_law 202 = .ok (.iadd, 1) := by decide +kernel
theorem dL_law_203 : decode cL_law 203 = .ok (.iaload, 1) := by decide +kernel
theorem dL_law_204 : decode cL_law 204 = .ok (.invokevirtual 76, 3) := by decide +kernel
theorem dL_law_207 : decode cL_law 207 = .ok (.istore 6, 2) := by decide +kernel
theorem dL_law_209 : decode cL_law 209 = .ok (.aload_n 2, 1) := by decide +kernel
theorem dL_law_210 : decode cL_law 210 = .ok (.invokevirtual 77, 3) := by decide +kernel
theorem dL_law_213 : decode cL_law 213 = .ok (.iload 5, 2) := by decide +kernel
theorem dL_law_215 : decode cL_law 215 = .ok (.if_icmp .eq 5, 3) := by decide +kernel
theorem dL_law_220 : decode cL_law 220 = .ok (.iload 5, 2) := by decide +kernel
theorem dL_law_222 : decode cL_law 222 = .ok (.ifCond .ne 15, 3) := by decide +kernel
theorem dL_law_225 : decode cL_law 225 = .ok (.aload_n 3, 1) := by decide +kernel
theorem dL_law_226 : decode cL_law 226 = .ok (.iconst 0, 1) := by decide +kernel
theorem dL_law_227 : decode cL_law 227 = .ok (.laload, 1) := by decide +kernel
theorem dL_law_228 : decode cL_law 228 = .ok (.iload 6, 2) := by decide +kernel
theorem dL_law_230 : decode cL_law 230 = .ok (.i2l, 1) := by decide +kernel
theorem dL_law_231 : decode cL_law 231 = .ok (.lcmp, 1) := by decide +kernel
theorem dL_law_232 : decode cL_law 232 = .ok (.ifCond .eq 5, 3) := by decide +kernel
theorem dL_law_237 : decode cL_law 237 = .ok (.goto 1080, 3) := by decide +kernel
theorem dL_law_240 : decode cL_law 240 = .ok (.aload_n 1, 1) := by decide +kernel
theorem dL_law_241 : decode cL_law 241 = .ok (.aload_n 0, 1) := by decide +kernel
theorem dL_law_242 : decode cL_law 242 = .ok (.iload 4, 2) := by decide +kernel
theorem dL_law_244 : decode cL_law 244 = .ok (.iconst 1, 1) := by decide +kernel
theorem dL_law_245 : decode cL_law 245 = .ok (.iadd, 1) := by decide +kernel
theorem dL_law_246 : decode cL_law 246 = .ok (.iaload, 1) := by decide +kernel
theorem dL_law_247 : decode cL_law 247 = .ok (.aload_n 3, 1) := by decide +kernel
theorem dL_law_248 : decode cL_law 248 = .ok (.invokestatic 81, 3) := by decide +kernel
theorem dL_law_251 : decode cL_law 251 = .ok (.istore 5, 2) := by decide +kernel
theorem dL_law_253 : decode cL_law 253 = .ok (.aload_n 2, 1) := by decide +kernel
theorem dL_law_254 : decode cL_law 254 = .ok (.aload_n 0, 1) := by decide +kernel
theorem dL_law_255 : decode cL_law 255 = .ok (.iload 4, 2) := by decide +kernel
theorem dL_law_257 : decode cL_law 257 = .ok (.iconst 1, 1) := by decide +kernel
theorem dL_law_258 : decode cL_law 258 = .ok (.iadd, 1) := by decide +kernel
theorem dL_law_259 : decode cL_law 259 = .ok (.iaload, 1) := by decide +kernel
theorem dL_law_260 : decode cL_law 260 = .ok (.invokevirtual 84, 3) := by decide +kernel
theorem dL_law_263 : decode cL_law 263 = .ok (.istore 6, 2) := by decide +kernel
theorem dL_law_265 : decode cL_law 265 = .ok (.aload_n 2, 1) := by decide +kernel
theorem dL_law_266 : decode cL_law 266 = .ok (.invokevirtual 77, 3) := by decide +kernel
theorem dL_law_269 : decode cL_law 269 = .ok (.iload 5, 2) := by decide +kernel
theorem dL_law_271 : decode cL_law 271 = .ok (.if_icmp .eq 5, 3) := by decide +kernel
theorem dL_law_276 : decode cL_law 276 = .ok (.iload 5, 2) := by decide +kernel
theorem dL_law_278 : decode cL_law 278 = .ok (.ifCond .ne 15, 3) := by decide +kernel
theorem dL_law_281 : decode cL_law 281 = .ok (.aload_n 3, 1) := by decide +kernel
theorem dL_law_282 : decode cL_law 282 = .ok (.iconst 0, 1) := by decide +kernel
theorem dL_law_283 : decode cL_law 283 = .ok (.laload, 1) := by decide +kernel
theorem dL_law_284 : decode cL_law 284 = .ok (.iload 6, 2) := by decide +kernel
theorem dL_law_286 : decode cL_law 286 = .ok (.i2l, 1) := by decide +kernel
theorem dL_law_287 : decode cL_law 287 = .ok (.lcmp, 1) := by decide +kernel
theorem dL_law_288 : decode cL_law 288 = .ok (.ifCond .eq 5, 3) := by decide +kernel
theorem dL_law_293 : decode cL_law 293 = .ok (.goto 1024, 3) := by decide +kernel
theorem dL_law_378 : decode cL_law 378 = .ok (.aload_n 1, 1) := by decide +kernel
theorem dL_law_379 : decode cL_law 379 = .ok (.aload_n 0, 1) := by decide +kernel
theorem dL_law_380 : decode cL_law 380 = .ok (.iload 4, 2) := by decide +kernel
theorem dL_law_382 : decode cL_law 382 = .ok (.iconst 1, 1) := by decide +kernel
theorem dL_law_383 : decode cL_law 383 = .ok (.iadd, 1) := by decide +kernel
theorem dL_law_384 : decode cL_law 384 = .ok (.iaload, 1) := by decide +kernel
theorem dL_law_385 : decode cL_law 385 = .ok (.aload_n 0, 1) := by decide +kernel
theorem dL_law_386 : decode cL_law 386 = .ok (.iload 4, 2) := by decide +kernel
theorem dL_law_388 : decode cL_law 388 = .ok (.iconst 2, 1) := by decide +kernel
theorem dL_law_389 : decode cL_law 389 = .ok (.iadd, 1) := by decide +kernel
theorem dL_law_390 : decode cL_law 390 = .ok (.iaload, 1) := by decide +kernel
theorem dL_law_391 : decode cL_law 391 = .ok (.aload_n 3, 1) := by decide +kernel
theorem dL_law_392 : decode cL_law 392 = .ok (.invokestatic 96, 3) := by decide +kernel
theorem dL_law_395 : decode cL_law 395 = .ok (.istore 5, 2) := by decide +kernel
theorem dL_law_397 : decode cL_law 397 = .ok (.aload_n 2, 1) := by decide +kernel
theorem dL_law_398 : decode cL_law 398 = .ok (.aload_n 0, 1) := by decide +kernel
theorem dL_law_399 : decode cL_law 399 = .ok (.iload 4, 2) := by decide +kernel
theorem dL_law_401 : decode cL_law 401 = .ok (.iconst 1, 1) := by decide +kernel
theorem dL_law_402 : decode cL_law 402 = .ok (.iadd, 1) := by decide +kernel
theorem dL_law_403 : decode cL_law 403 = .ok (.iaload, 1) := by decide +kernel
theorem dL_law_404 : decode cL_law 404 = .ok (.aload_n 0, 1) := by decide +kernel
theorem dL_law_405 : decode cL_law 405 = .ok (.iload 4, 2) := by decide +kernel
theorem dL_law_407 : decode cL_law 407 = .ok (.iconst 2, 1) := by decide +kernel
theorem dL_law_408 : decode cL_law 408 = .ok (.iadd, 1) := by decide +kernel
theorem dL_law_409 : decode cL_law 409 = .ok (.iaload, 1) := by decide +kernel
theorem dL_law_410 : decode cL_law 410 = .ok (.invokevirtual 99, 3) := by decide +kernel
theorem dL_law_413 : decode cL_law 413 = .ok (.istore 6, 2) := by decide +kernel
theorem dL_law_415 : decode cL_law 415 = .ok (.aload_n 2, 1) := by decide +kernel
theorem dL_law_416 : decode cL_law 416 = .ok (.invokevirtual 77, 3) := by decide +kernel
theorem dL_law_419 : decode cL_law 419 = .ok (.iload 5, 2) := by decide +kernel
theorem dL_law_421 : decode cL_law 421 = .ok (.if_icmp .eq 5, 3) := by decide +kernel
theorem dL_law_426 : decode cL_law 426 = .ok (.iload 5, 2) := by decide +kernel
theorem dL_law_428 : decode cL_law 428 = .ok (.ifCond .ne 15, 3) := by decide +kernel
theorem dL_law_431 : decode cL_law 431 = .ok (.aload_n 3, 1) := by decide +kernel
theorem dL_law_432 : decode cL_law 432 = .ok (.iconst 0, 1) := by decide +kernel
theorem dL_law_433 : decode cL_law 433 = .ok (.laload, 1) := by decide +kernel
theorem dL_law_434 : decode cL_law 434 = .ok (.iload 6, 2) := by decide +kernel
theorem dL_law_436 : decode cL_law 436 = .ok (.i2l, 1) := by decide +kernel
theorem dL_law_437 : decode cL_law 437 = .ok (.lcmp, 1) := by decide +kernel
theorem dL_law_438 : decode cL_law 438 = .ok (.ifCond .eq 5, 3) := by decide +kernel
theorem dL_law_443 : decode cL_law 443 = .ok (.goto 874, 3) := by decide +kernel
theorem dL_law_446 : decode cL_law 446 = .ok (.aload_n 1, 1) := by decide +kernel
theorem dL_law_447 : decode cL_law 447 = .ok (.aload_n 0, 1) := by decide +kernel
theorem dL_law_448 : decode cL_law 448 = .ok (.iload 4, 2) := by decide +kernel
theorem dL_law_450 : decode cL_law 450 = .ok (.iconst 1, 1) := by decide +kernel
theorem dL_law_451 : decode cL_law 451 = .ok (.iadd, 1) := by decide +kernel
theorem dL_law_452 : decode cL_law 452 = .ok (.iaload, 1) := by decide +kernel
theorem dL_law_453 : decode cL_law 453 = .ok (.aload_n 0, 1) := by decide +kernel
theorem dL_law_454 : decode cL_law 454 = .ok (.iload 4, 2) := by decide +kernel
theorem dL_law_456 : decode cL_law 456 = .ok (.iconst 2, 1) := by decide +kernel
theorem dL_law_457 : decode cL_law 457 = .ok (.iadd, 1) := by decide +kernel
theorem dL_law_458 : decode cL_law 458 = .ok (.iaload, 1) := by decide +kernel
theorem dL_law_459 : decode cL_law 459 = .ok (.aload_n 3, 1) := by decide +kernel
theorem dL_law_460 : decode cL_law 460 = .ok (.invokestatic 100, 3) := by decide +kernel
theorem dL_law_463 : decode cL_law 463 = .ok (.istore 5, 2) := by decide +kernel
theorem dL_law_465 : decode cL_law 465 = .ok (.aload_n 2, 1) := by decide +kernel
theorem dL_law_466 : decode cL_law 466 = .ok (.aload_n 0, 1) := by decide +kernel
theorem dL_law_467 : decode cL_law 467 = .ok (.iload 4, 2) := by decide +kernel
theorem dL_law_469 : decode cL_law 469 = .ok (.iconst 1, 1) := by decide +kernel
theorem dL_law_470 : decode cL_law 470 = .ok (.iadd, 1) := by decide +kernel
theorem dL_law_471 : decode cL_law 471 = .ok (.iaload, 1) := by decide +kernel
theorem dL_law_472 : decode cL_law 472 = .ok (.aload_n 0, 1) := by decide +kernel
theorem dL_law_473 : decode cL_law 473 = .ok (.iload 4, 2) := by decide +kernel
theorem dL_law_475 : decode cL_law 475 = .ok (.iconst 2, 1) := by decide +kernel
theorem dL_law_476 : decode cL_law 476 = .ok (.iadd, 1) := by decide +kernel
theorem dL_law_477 : decode cL_law 477 = .ok (.iaload, 1) := by decide +kernel
theorem dL_law_478 : decode cL_law 478 = .ok (.invokevirtual 102, 3) := by decide +kernel
theorem dL_law_481 : decode cL_law 481 = .ok (.istore 6, 2) := by decide +kernel
theorem dL_law_483 : decode cL_law 483 = .ok (.aload_n 2, 1) := by decide +kernel
theorem dL_law_484 : decode cL_law 484 = .ok (.invokevirtual 77, 3) := by decide +kernel
theorem dL_law_487 : decode cL_law 487 = .ok (.iload 5, 2) := by decide +kernel
theorem dL_law_489 : decode cL_law 489 = .ok (.if_icmp .eq 5, 3) := by decide +kernel
theorem dL_law_494 : decode cL_law 494 = .ok (.iload 5, 2) := by decide +kernel
theorem dL_law_496 : decode cL_law 496 = .ok (.ifCond .ne 15, 3) := by decide +kernel
theorem dL_law_499 : decode cL_law 499 = .ok (.aload_n 3, 1) := by decide +kernel
theorem dL_law_500 : decode cL_law 500 = .ok (.iconst 0, 1) := by decide +kernel
theorem dL_law_501 : decode cL_law 501 = .ok (.laload, 1) := by decide +kernel
theorem dL_law_502 : decode cL_law 502 = .ok (.iload 6, 2) := by decide +kernel
theorem dL_law_504 : decode cL_law 504 = .ok (.i2l, 1) := by decide +kernel
theorem dL_law_505 : decode cL_law 505 = .ok (.lcmp, 1) := by decide +kernel
theorem dL_law_506 : decode cL_law 506 = .ok (.ifCond .eq 5, 3) := by decide +kernel
theorem dL_law_511 : decode cL_law 511 = .ok (.goto 806, 3) := by decide +kernel
theorem dL_law_514 : decode cL_law 514 = .ok (.aload_n 1, 1) := by decide +kernel
theorem dL_law_515 : decode cL_law 515 = .ok (.aload_n 0, 1) := by decide +kernel
theorem dL_law_516 : decode cL_law 516 = .ok (.iload 4, 2) := by decide +kernel
theorem dL_law_518 : decode cL_law 518 = .ok (.iconst 1, 1) := by decide +kernel
theorem dL_law_519 : decode cL_law 519 = .ok (.iadd, 1) := by decide +kernel
theorem dL_law_520 : decode cL_law 520 = .ok (.iaload, 1) := by decide +kernel
theorem dL_law_521 : decode cL_law 521 = .ok (.aload_n 0, 1) := by decide +kernel
theorem dL_law_522 : decode cL_law 522 = .ok (.iload 4, 2) := by decide +kernel
theorem dL_law_524 : decode cL_law 524 = .ok (.iconst 2, 1) := by decide +kernel
theorem dL_law_525 : decode cL_law 525 = .ok (.iadd, 1) := by decide +kernel
theorem dL_law_526 : decode cL_law 526 = .ok (.iaload, 1) := by decide +kernel
theorem dL_law_527 : decode cL_law 527 = .ok (.aload_n 3, 1) := by decide +kernel
theorem dL_law_528 : decode cL_law 528 = .ok (.invokestatic 103, 3) := by decide +kernel
theorem dL_law_531 : decode cL_law 531 = .ok (.istore 5, 2) := by decide +kernel
theorem dL_law_533 : decode cL_law 533 = .ok (.aload_n 2, 1) := by decide +kernel
theorem dL_law_534 : decode cL_law 534 = .ok (.aload_n 0, 1) := by decide +kernel
theorem dL_law_535 : decode cL_law 535 = .ok (.iload 4, 2) := by decide +kernel
theorem dL_law_537 : decode cL_law 537 = .ok (.iconst 1, 1) := by decide +kernel
theorem dL_law_538 : decode cL_law 538 = .ok (.iadd, 1) := by decide +kernel
theorem dL_law_539 : decode cL_law 539 = .ok (.iaload, 1) := by decide +kernel
theorem dL_law_540 : decode cL_law 540 = .ok (.aload_n 0, 1) := by decide +kernel
theorem dL_law_541 : decode cL_law 541 = .ok (.iload 4, 2) := by decide +kernel
theorem dL_law_543 : decode cL_law 543 = .ok (.iconst 2, 1) := by decide +kernel
theorem dL_law_544 : decode cL_law 544 = .ok (.iadd, 1) := by decide +kernel
theorem dL_law_545 : decode cL_law 545 = .ok (.iaload, 1) := by decide +kernel
theorem dL_law_546 : decode cL_law 546 = .ok (.invokevirtual 105, 3) := by decide +kernel
theorem dL_law_549 : decode cL_law 549 = .ok (.istore 6, 2) := by decide +kernel
theorem dL_law_551 : decode cL_law 551 = .ok (.aload_n 2, 1) := by decide +kernel
theorem dL_law_552 : decode cL_law 552 = .ok (.invokevirtual 77, 3) := by decide +kernel
theorem dL_law_555 : decode cL_law 555 = .ok (.iload 5, 2) := by decide +kernel
theorem dL_law_557 : decode cL_law 557 = .ok (.if_icmp .eq 5, 3) := by decide +kernel
theorem dL_law_562 : decode cL_law 562 = .ok (.iload 5, 2) := by decide +kernel
theorem dL_law_564 : decode cL_law 564 = .ok (.ifCond .ne 15, 3) := by decide +kernel
theorem dL_law_567 : decode cL_law 567 = .ok (.aload_n 3, 1) := by decide +kernel
theorem dL_law_568 : decode cL_law 568 = .ok (.iconst 0, 1) := by decide +kernel
theorem dL_law_569 : decode cL_law 569 = .ok (.laload, 1) := by decide +kernel
theorem dL_law_570 : decode cL_law 570 = .ok (.iload 6, 2) := by decide +kernel
theorem dL_law_572 : decode cL_law 572 = .ok (.i2l, 1) := by decide +kernel
theorem dL_law_573 : decode cL_law 573 = .ok (.lcmp, 1) := by decide +kernel
theorem dL_law_574 : decode cL_law 574 = .ok (.ifCond .eq 5, 3) := by decide +kernel
theorem dL_law_579 : decode cL_law 579 = .ok (.goto 738, 3) := by decide +kernel
theorem dL_law_582 : decode cL_law 582 = .ok (.aload_n 1, 1) := by decide +kernel
theorem dL_law_583 : decode cL_law 583 = .ok (.aload_n 0, 1) := by decide +kernel
theorem dL_law_584 : decode cL_law 584 = .ok (.iload 4, 2) := by decide +kernel
theorem dL_law_586 : decode cL_law 586 = .ok (.iconst 1, 1) := by decide +kernel
theorem dL_law_587 : decode cL_law 587 = .ok (.iadd, 1) := by decide +kernel
theorem dL_law_588 : decode cL_law 588 = .ok (.iaload, 1) := by decide +kernel
theorem dL_law_589 : decode cL_law 589 = .ok (.aload_n 0, 1) := by decide +kernel
theorem dL_law_590 : decode cL_law 590 = .ok (.iload 4, 2) := by decide +kernel
theorem dL_law_592 : decode cL_law 592 = .ok (.iconst 2, 1) := by decide +kernel
theorem dL_law_593 : decode cL_law 593 = .ok (.iadd, 1) := by decide +kernel
theorem dL_law_594 : decode cL_law 594 = .ok (.iaload, 1) := by decide +kernel
theorem dL_law_595 : decode cL_law 595 = .ok (.aload_n 3, 1) := by decide +kernel
theorem dL_law_596 : decode cL_law 596 = .ok (.invokestatic 106, 3) := by decide +kernel
theorem dL_law_599 : decode cL_law 599 = .ok (.istore 5, 2) := by decide +kernel
theorem dL_law_601 : decode cL_law 601 = .ok (.aload_n 2, 1) := by decide +kernel
theorem dL_law_602 : decode cL_law 602 = .ok (.aload_n 0, 1) := by decide +kernel
theorem dL_law_603 : decode cL_law 603 = .ok (.iload 4, 2) := by decide +kernel
theorem dL_law_605 : decode cL_law 605 = .ok (.iconst 1, 1) := by decide +kernel
theorem dL_law_606 : decode cL_law 606 = .ok (.iadd, 1) := by decide +kernel
theorem dL_law_607 : decode cL_law 607 = .ok (.iaload, 1) := by decide +kernel
theorem dL_law_608 : decode cL_law 608 = .ok (.aload_n 0, 1) := by decide +kernel
theorem dL_law_609 : decode cL_law 609 = .ok (.iload 4, 2) := by decide +kernel
theorem dL_law_611 : decode cL_law 611 = .ok (.iconst 2, 1) := by decide +kernel
theorem dL_law_612 : decode cL_law 612 = .ok (.iadd, 1) := by decide +kernel
theorem dL_law_613 : decode cL_law 613 = .ok (.iaload, 1) := by decide +kernel
theorem dL_law_614 : decode cL_law 614 = .ok (.invokevirtual 108, 3) := by decide +kernel
theorem dL_law_617 : decode cL_law 617 = .ok (.istore 6, 2) := by decide +kernel
theorem dL_law_619 : decode cL_law 619 = .ok (.aload_n 2, 1) := by decide +kernel
theorem dL_law_620 : decode cL_law 620 = .ok (.invokevirtual 77, 3) := by decide +kernel
theorem dL_law_623 : decode cL_law 623 = .ok (.iload 5, 2) := by decide +kernel
theorem dL_law_625 : decode cL_law 625 = .ok (.if_icmp .eq 5, 3) := by decide +kernel
theorem dL_law_630 : decode cL_law 630 = .ok (.iload 5, 2) := by decide +kernel
theorem dL_law_632 : decode cL_law 632 = .ok (.ifCond .ne 15, 3) := by decide +kernel
theorem dL_law_635 : decode cL_law 635 = .ok (.aload_n 3, 1) := by decide +kernel
theorem dL_law_636 : decode cL_law 636 = .ok (.iconst 0, 1) := by decide +kernel
theorem dL_law_637 : decode cL_law 637 = .ok (.laload, 1) := by decide +kernel
theorem dL_law_638 : decode cL_law 638 = .ok (.iload 6, 2) := by decide +kernel
theorem dL_law_640 : decode cL_law 640 = .ok (.i2l, 1) := by decide +kernel
theorem dL_law_641 : decode cL_law 641 = .ok (.lcmp, 1) := by decide +kernel
theorem dL_law_642 : decode cL_law 642 = .ok (.ifCond .eq 5, 3) := by decide +kernel
theorem dL_law_647 : decode cL_law 647 = .ok (.goto 670, 3) := by decide +kernel
theorem dL_law_650 : decode cL_law 650 = .ok (.aload_n 1, 1) := by decide +kernel
theorem dL_law_651 : decode cL_law 651 = .ok (.aload_n 0, 1) := by decide +kernel
theorem dL_law_652 : decode cL_law 652 = .ok (.iload 4, 2) := by decide +kernel
theorem dL_law_654 : decode cL_law 654 = .ok (.iconst 1, 1) := by decide +kernel
theorem dL_law_655 : decode cL_law 655 = .ok (.iadd, 1) := by decide +kernel
theorem dL_law_656 : decode cL_law 656 = .ok (.iaload, 1) := by decide +kernel
theorem dL_law_657 : decode cL_law 657 = .ok (.aload_n 3, 1) := by decide +kernel
theorem dL_law_658 : decode cL_law 658 = .ok (.invokestatic 109, 3) := by decide +kernel
theorem dL_law_661 : decode cL_law 661 = .ok (.istore 5, 2) := by decide +kernel
theorem dL_law_663 : decode cL_law 663 = .ok (.aload_n 2, 1) := by decide +kernel
theorem dL_law_664 : decode cL_law 664 = .ok (.aload_n 0, 1) := by decide +kernel
theorem dL_law_665 : decode cL_law 665 = .ok (.iload 4, 2) := by decide +kernel
theorem dL_law_667 : decode cL_law 667 = .ok (.iconst 1, 1) := by decide +kernel
theorem dL_law_668 : decode cL_law 668 = .ok (.iadd, 1) := by decide +kernel
theorem dL_law_669 : decode cL_law 669 = .ok (.iaload, 1) := by decide +kernel
theorem dL_law_670 : decode cL_law 670 = .ok (.invokevirtual 111, 3) := by decide +kernel
theorem dL_law_673 : decode cL_law 673 = .ok (.istore 6, 2) := by decide +kernel
theorem dL_law_675 : decode cL_law 675 = .ok (.aload_n 2, 1) := by decide +kernel
theorem dL_law_676 : decode cL_law 676 = .ok (.invokevirtual 77, 3) := by decide +kernel
theorem dL_law_679 : decode cL_law 679 = .ok (.iload 5, 2) := by decide +kernel
theorem dL_law_681 : decode cL_law 681 = .ok (.if_icmp .eq 5, 3) := by decide +kernel
theorem dL_law_686 : decode cL_law 686 = .ok (.iload 5, 2) := by decide +kernel
theorem dL_law_688 : decode cL_law 688 = .ok (.ifCond .ne 15, 3) := by decide +kernel
theorem dL_law_691 : decode cL_law 691 = .ok (.aload_n 3, 1) := by decide +kernel
theorem dL_law_692 : decode cL_law 692 = .ok (.iconst 0, 1) := by decide +kernel
theorem dL_law_693 : decode cL_law 693 = .ok (.laload, 1) := by decide +kernel
theorem dL_law_694 : decode cL_law 694 = .ok (.iload 6, 2) := by decide +kernel
theorem dL_law_696 : decode cL_law 696 = .ok (.i2l, 1) := by decide +kernel
theorem dL_law_697 : decode cL_law 697 = .ok (.lcmp, 1) := by decide +kernel
theorem dL_law_698 : decode cL_law 698 = .ok (.ifCond .eq 5, 3) := by decide +kernel
theorem dL_law_703 : decode cL_law 703 = .ok (.goto 614, 3) := by decide +kernel
theorem dL_law_706 : decode cL_law 706 = .ok (.aload_n 1, 1) := by decide +kernel
theorem dL_law_707 : decode cL_law 707 = .ok (.aload_n 0, 1) := by decide +kernel
theorem dL_law_708 : decode cL_law 708 = .ok (.iload 4, 2) := by decide +kernel
theorem dL_law_710 : decode cL_law 710 = .ok (.iconst 1, 1) := by decide +kernel
theorem dL_law_711 : decode cL_law 711 = .ok (.iadd, 1) := by decide +kernel
theorem dL_law_712 : decode cL_law 712 = .ok (.iaload, 1) := by decide +kernel
theorem dL_law_713 : decode cL_law 713 = .ok (.aload_n 0, 1) := by decide +kernel
theorem dL_law_714 : decode cL_law 714 = .ok (.iload 4, 2) := by decide +kernel
theorem dL_law_716 : decode cL_law 716 = .ok (.iconst 2, 1) := by decide +kernel
theorem dL_law_717 : decode cL_law 717 = .ok (.iadd, 1) := by decide +kernel
theorem dL_law_718 : decode cL_law 718 = .ok (.iaload, 1) := by decide +kernel
theorem dL_law_719 : decode cL_law 719 = .ok (.aload_n 3, 1) := by decide +kernel
theorem dL_law_720 : decode cL_law 720 = .ok (.invokestatic 112, 3) := by decide +kernel
theorem dL_law_723 : decode cL_law 723 = .ok (.istore 5, 2) := by decide +kernel
theorem dL_law_725 : decode cL_law 725 = .ok (.aload_n 2, 1) := by decide +kernel
theorem dL_law_726 : decode cL_law 726 = .ok (.aload_n 0, 1) := by decide +kernel
theorem dL_law_727 : decode cL_law 727 = .ok (.iload 4, 2) := by decide +kernel
theorem dL_law_729 : decode cL_law 729 = .ok (.iconst 1, 1) := by decide +kernel
theorem dL_law_730 : decode cL_law 730 = .ok (.iadd, 1) := by decide +kernel
theorem dL_law_731 : decode cL_law 731 = .ok (.iaload, 1) := by decide +kernel
theorem dL_law_732 : decode cL_law 732 = .ok (.aload_n 0, 1) := by decide +kernel
theorem dL_law_733 : decode cL_law 733 = .ok (.iload 4, 2) := by decide +kernel
theorem dL_law_735 : decode cL_law 735 = .ok (.iconst 2, 1) := by decide +kernel
theorem dL_law_736 : decode cL_law 736 = .ok (.iadd, 1) := by decide +kernel
theorem dL_law_737 : decode cL_law 737 = .ok (.iaload, 1) := by decide +kernel
theorem dL_law_738 : decode cL_law 738 = .ok (.invokevirtual 114, 3) := by decide +kernel
theorem dL_law_741 : decode cL_law 741 = .ok (.istore 6, 2) := by decide +kernel
theorem dL_law_743 : decode cL_law 743 = .ok (.aload_n 2, 1) := by decide +kernel
theorem dL_law_744 : decode cL_law 744 = .ok (.invokevirtual 77, 3) := by decide +kernel
theorem dL_law_747 : decode cL_law 747 = .ok (.iload 5, 2) := by decide +kernel
theorem dL_law_749 : decode cL_law 749 = .ok (.if_icmp .eq 5, 3) := by decide +kernel
theorem dL_law_754 : decode cL_law 754 = .ok (.iload 5, 2) := by decide +kernel
theorem dL_law_756 : decode cL_law 756 = .ok (.ifCond .ne 15, 3) := by decide +kernel
theorem dL_law_759 : decode cL_law 759 = .ok (.aload_n 3, 1) := by decide +kernel
theorem dL_law_760 : decode cL_law 760 = .ok (.iconst 0, 1) := by decide +kernel
theorem dL_law_761 : decode cL_law 761 = .ok (.laload, 1) := by decide +kernel
theorem dL_law_762 : decode cL_law 762 = .ok (.iload 6, 2) := by decide +kernel
theorem dL_law_764 : decode cL_law 764 = .ok (.i2l, 1) := by decide +kernel
theorem dL_law_765 : decode cL_law 765 = .ok (.lcmp, 1) := by decide +kernel
theorem dL_law_766 : decode cL_law 766 = .ok (.ifCond .eq 5, 3) := by decide +kernel
theorem dL_law_771 : decode cL_law 771 = .ok (.goto 546, 3) := by decide +kernel
theorem dL_law_774 : decode cL_law 774 = .ok (.aload_n 1, 1) := by decide +kernel
theorem dL_law_775 : decode cL_law 775 = .ok (.aload_n 0, 1) := by decide +kernel
theorem dL_law_776 : decode cL_law 776 = .ok (.iload 4, 2) := by decide +kernel
theorem dL_law_778 : decode cL_law 778 = .ok (.iconst 1, 1) := by decide +kernel
theorem dL_law_779 : decode cL_law 779 = .ok (.iadd, 1) := by decide +kernel
theorem dL_law_780 : decode cL_law 780 = .ok (.iaload, 1) := by decide +kernel
theorem dL_law_781 : decode cL_law 781 = .ok (.aload_n 0, 1) := by decide +kernel
theorem dL_law_782 : decode cL_law 782 = .ok (.iload 4, 2) := by decide +kernel
theorem dL_law_784 : decode cL_law 784 = .ok (.iconst 2, 1) := by decide +kernel
theorem dL_law_785 : decode cL_law 785 = .ok (.iadd, 1) := by decide +kernel
theorem dL_law_786 : decode cL_law 786 = .ok (.iaload, 1) := by decide +kernel
theorem dL_law_787 : decode cL_law 787 = .ok (.aload_n 3, 1) := by decide +kernel
theorem dL_law_788 : decode cL_law 788 = .ok (.invokestatic 115, 3) := by decide +kernel
theorem dL_law_791 : decode cL_law 791 = .ok (.istore 5, 2) := by decide +kernel
theorem dL_law_793 : decode cL_law 793 = .ok (.aload_n 2, 1) := by decide +kernel
theorem dL_law_794 : decode cL_law 794 = .ok (.aload_n 0, 1) := by decide +kernel
theorem dL_law_795 : decode cL_law 795 = .ok (.iload 4, 2) := by decide +kernel
theorem dL_law_797 : decode cL_law 797 = .ok (.iconst 1, 1) := by decide +kernel
theorem dL_law_798 : decode cL_law 798 = .ok (.iadd, 1) := by decide +kernel
theorem dL_law_799 : decode cL_law 799 = .ok (.iaload, 1) := by decide +kernel
theorem dL_law_800 : decode cL_law 800 = .ok (.aload_n 0, 1) := by decide +kernel
theorem dL_law_801 : decode cL_law 801 = .ok (.iload 4, 2) := by decide +kernel
theorem dL_law_803 : decode cL_law 803 = .ok (.iconst 2, 1) := by decide +kernel
theorem dL_law_804 : decode cL_law 804 = .ok (.iadd, 1) := by decide +kernel
theorem dL_law_805 : decode cL_law 805 = .ok (.iaload, 1) := by decide +kernel
theorem dL_law_806 : decode cL_law 806 = .ok (.invokevirtual 117, 3) := by decide +kernel
theorem dL_law_809 : decode cL_law 809 = .ok (.istore 6, 2) := by decide +kernel
theorem dL_law_811 : decode cL_law 811 = .ok (.aload_n 2, 1) := by decide +kernel
theorem dL_law_812 : decode cL_law 812 = .ok (.invokevirtual 77, 3) := by decide +kernel
theorem dL_law_815 : decode cL_law 815 = .ok (.iload 5, 2) := by decide +kernel
theorem dL_law_817 : decode cL_law 817 = .ok (.if_icmp .eq 5, 3) := by decide +kernel
theorem dL_law_822 : decode cL_law 822 = .ok (.iload 5, 2) := by decide +kernel
theorem dL_law_824 : decode cL_law 824 = .ok (.ifCond .ne 15, 3) := by decide +kernel
theorem dL_law_827 : decode cL_law 827 = .ok (.aload_n 3, 1) := by decide +kernel
theorem dL_law_828 : decode cL_law 828 = .ok (.iconst 0, 1) := by decide +kernel
theorem dL_law_829 : decode cL_law 829 = .ok (.laload, 1) := by decide +kernel
theorem dL_law_830 : decode cL_law 830 = .ok (.iload 6, 2) := by decide +kernel
theorem dL_law_832 : decode cL_law 832 = .ok (.i2l, 1) := by decide +kernel
theorem dL_law_833 : decode cL_law 833 = .ok (.lcmp, 1) := by decide +kernel
theorem dL_law_834 : decode cL_law 834 = .ok (.ifCond .eq 5, 3) := by decide +kernel
theorem dL_law_839 : decode cL_law 839 = .ok (.goto 478, 3) := by decide +kernel
theorem dL_law_842 : decode cL_law 842 = .ok (.aload_n 1, 1) := by decide +kernel
theorem dL_law_843 : decode cL_law 843 = .ok (.aload_n 0, 1) := by decide +kernel
theorem dL_law_844 : decode cL_law 844 = .ok (.iload 4, 2) := by decide +kernel
theorem dL_law_846 : decode cL_law 846 = .ok (.iconst 1, 1) := by decide +kernel
theorem dL_law_847 : decode cL_law 847 = .ok (.iadd, 1) := by decide +kernel
theorem dL_law_848 : decode cL_law 848 = .ok (.iaload, 1) := by decide +kernel
theorem dL_law_849 : decode cL_law 849 = .ok (.aload_n 3, 1) := by decide +kernel
theorem dL_law_850 : decode cL_law 850 = .ok (.invokestatic 118, 3) := by decide +kernel
theorem dL_law_853 : decode cL_law 853 = .ok (.istore 5, 2) := by decide +kernel
theorem dL_law_855 : decode cL_law 855 = .ok (.aload_n 2, 1) := by decide +kernel
theorem dL_law_856 : decode cL_law 856 = .ok (.aload_n 0, 1) := by decide +kernel
theorem dL_law_857 : decode cL_law 857 = .ok (.iload 4, 2) := by decide +kernel
theorem dL_law_859 : decode cL_law 859 = .ok (.iconst 1, 1) := by decide +kernel
theorem dL_law_860 : decode cL_law 860 = .ok (.iadd, 1) := by decide +kernel
theorem dL_law_861 : decode cL_law 861 = .ok (.iaload, 1) := by decide +kernel
theorem dL_law_862 : decode cL_law 862 = .ok (.invokevirtual 120, 3) := by decide +kernel
theorem dL_law_865 : decode cL_law 865 = .ok (.istore 6, 2) := by decide +kernel
theorem dL_law_867 : decode cL_law 867 = .ok (.aload_n 2, 1) := by decide +kernel
theorem dL_law_868 : decode cL_law 868 = .ok (.invokevirtual 77, 3) := by decide +kernel
theorem dL_law_871 : decode cL_law 871 = .ok (.iload 5, 2) := by decide +kernel
theorem dL_law_873 : decode cL_law 873 = .ok (.if_icmp .eq 5, 3) := by decide +kernel
theorem dL_law_878 : decode cL_law 878 = .ok (.iload 5, 2) := by decide +kernel
theorem dL_law_880 : decode cL_law 880 = .ok (.ifCond .ne 15, 3) := by decide +kernel
theorem dL_law_883 : decode cL_law 883 = .ok (.aload_n 3, 1) := by decide +kernel
theorem dL_law_884 : decode cL_law 884 = .ok (.iconst 0, 1) := by decide +kernel
theorem dL_law_885 : decode cL_law 885 = .ok (.laload, 1) := by decide +kernel
theorem dL_law_886 : decode cL_law 886 = .ok (.iload 6, 2) := by decide +kernel
theorem dL_law_888 : decode cL_law 888 = .ok (.i2l, 1) := by decide +kernel
theorem dL_law_889 : decode cL_law 889 = .ok (.lcmp, 1) := by decide +kernel
theorem dL_law_890 : decode cL_law 890 = .ok (.ifCond .eq 5, 3) := by decide +kernel
theorem dL_law_895 : decode cL_law 895 = .ok (.goto 422, 3) := by decide +kernel
theorem dL_law_898 : decode cL_law 898 = .ok (.aload_n 1, 1) := by decide +kernel
theorem dL_law_899 : decode cL_law 899 = .ok (.aload_n 0, 1) := by decide +kernel
theorem dL_law_900 : decode cL_law 900 = .ok (.iload 4, 2) := by decide +kernel
theorem dL_law_902 : decode cL_law 902 = .ok (.iconst 1, 1) := by decide +kernel
theorem dL_law_903 : decode cL_law 903 = .ok (.iadd, 1) := by decide +kernel
theorem dL_law_904 : decode cL_law 904 = .ok (.iaload, 1) := by decide +kernel
theorem dL_law_905 : decode cL_law 905 = .ok (.aload_n 0, 1) := by decide +kernel
theorem dL_law_906 : decode cL_law 906 = .ok (.iload 4, 2) := by decide +kernel
theorem dL_law_908 : decode cL_law 908 = .ok (.iconst 2, 1) := by decide +kernel
theorem dL_law_909 : decode cL_law 909 = .ok (.iadd, 1) := by decide +kernel
theorem dL_law_910 : decode cL_law 910 = .ok (.iaload, 1) := by decide +kernel
theorem dL_law_911 : decode cL_law 911 = .ok (.aload_n 0, 1) := by decide +kernel
theorem dL_law_912 : decode cL_law 912 = .ok (.iload 4, 2) := by decide +kernel
theorem dL_law_914 : decode cL_law 914 = .ok (.iconst 3, 1) := by decide +kernel
theorem dL_law_915 : decode cL_law 915 = .ok (.iadd, 1) := by decide +kernel
theorem dL_law_916 : decode cL_law 916 = .ok (.iaload, 1) := by decide +kernel
theorem dL_law_917 : decode cL_law 917 = .ok (.aload_n 3, 1) := by decide +kernel
theorem dL_law_918 : decode cL_law 918 = .ok (.invokestatic 121, 3) := by decide +kernel
theorem dL_law_921 : decode cL_law 921 = .ok (.istore 5, 2) := by decide +kernel
theorem dL_law_923 : decode cL_law 923 = .ok (.aload_n 2, 1) := by decide +kernel
theorem dL_law_924 : decode cL_law 924 = .ok (.aload_n 0, 1) := by decide +kernel
theorem dL_law_925 : decode cL_law 925 = .ok (.iload 4, 2) := by decide +kernel
theorem dL_law_927 : decode cL_law 927 = .ok (.iconst 1, 1) := by decide +kernel
theorem dL_law_928 : decode cL_law 928 = .ok (.iadd, 1) := by decide +kernel
theorem dL_law_929 : decode cL_law 929 = .ok (.iaload, 1) := by decide +kernel
theorem dL_law_930 : decode cL_law 930 = .ok (.aload_n 0, 1) := by decide +kernel
theorem dL_law_931 : decode cL_law 931 = .ok (.iload 4, 2) := by decide +kernel
theorem dL_law_933 : decode cL_law 933 = .ok (.iconst 2, 1) := by decide +kernel
theorem dL_law_934 : decode cL_law 934 = .ok (.iadd, 1) := by decide +kernel
theorem dL_law_935 : decode cL_law 935 = .ok (.iaload, 1) := by decide +kernel
theorem dL_law_936 : decode cL_law 936 = .ok (.aload_n 0, 1) := by decide +kernel
theorem dL_law_937 : decode cL_law 937 = .ok (.iload 4, 2) := by decide +kernel
theorem dL_law_939 : decode cL_law 939 = .ok (.iconst 3, 1) := by decide +kernel
theorem dL_law_940 : decode cL_law 940 = .ok (.iadd, 1) := by decide +kernel
theorem dL_law_941 : decode cL_law 941 = .ok (.iaload, 1) := by decide +kernel
theorem dL_law_942 : decode cL_law 942 = .ok (.invokevirtual 124, 3) := by decide +kernel
theorem dL_law_945 : decode cL_law 945 = .ok (.istore 6, 2) := by decide +kernel
theorem dL_law_947 : decode cL_law 947 = .ok (.aload_n 2, 1) := by decide +kernel
theorem dL_law_948 : decode cL_law 948 = .ok (.invokevirtual 77, 3) := by decide +kernel
theorem dL_law_951 : decode cL_law 951 = .ok (.iload 5, 2) := by decide +kernel
theorem dL_law_953 : decode cL_law 953 = .ok (.if_icmp .eq 5, 3) := by decide +kernel
theorem dL_law_958 : decode cL_law 958 = .ok (.iload 5, 2) := by decide +kernel
theorem dL_law_960 : decode cL_law 960 = .ok (.ifCond .ne 15, 3) := by decide +kernel
theorem dL_law_963 : decode cL_law 963 = .ok (.aload_n 3, 1) := by decide +kernel
theorem dL_law_964 : decode cL_law 964 = .ok (.iconst 0, 1) := by decide +kernel
theorem dL_law_965 : decode cL_law 965 = .ok (.laload, 1) := by decide +kernel
theorem dL_law_966 : decode cL_law 966 = .ok (.iload 6, 2) := by decide +kernel
theorem dL_law_968 : decode cL_law 968 = .ok (.i2l, 1) := by decide +kernel
theorem dL_law_969 : decode cL_law 969 = .ok (.lcmp, 1) := by decide +kernel
theorem dL_law_970 : decode cL_law 970 = .ok (.ifCond .eq 5, 3) := by decide +kernel
theorem dL_law_975 : decode cL_law 975 = .ok (.goto 342, 3) := by decide +kernel
theorem dL_law_978 : decode cL_law 978 = .ok (.aload_n 1, 1) := by decide +kernel
theorem dL_law_979 : decode cL_law 979 = .ok (.aload_n 0, 1) := by decide +kernel
theorem dL_law_980 : decode cL_law 980 = .ok (.iload 4, 2) := by decide +kernel
theorem dL_law_982 : decode cL_law 982 = .ok (.iconst 1, 1) := by decide +kernel
theorem dL_law_983 : decode cL_law 983 = .ok (.iadd, 1) := by decide +kernel
theorem dL_law_984 : decode cL_law 984 = .ok (.iaload, 1) := by decide +kernel
theorem dL_law_985 : decode cL_law 985 = .ok (.aload_n 0, 1) := by decide +kernel
theorem dL_law_986 : decode cL_law 986 = .ok (.iload 4, 2) := by decide +kernel
theorem dL_law_988 : decode cL_law 988 = .ok (.iconst 2, 1) := by decide +kernel
theorem dL_law_989 : decode cL_law 989 = .ok (.iadd, 1) := by decide +kernel
theorem dL_law_990 : decode cL_law 990 = .ok (.iaload, 1) := by decide +kernel
theorem dL_law_991 : decode cL_law 991 = .ok (.aload_n 0, 1) := by decide +kernel
theorem dL_law_992 : decode cL_law 992 = .ok (.iload 4, 2) := by decide +kernel
theorem dL_law_994 : decode cL_law 994 = .ok (.iconst 3, 1) := by decide +kernel
theorem dL_law_995 : decode cL_law 995 = .ok (.iadd, 1) := by decide +kernel
theorem dL_law_996 : decode cL_law 996 = .ok (.iaload, 1) := by decide +kernel
theorem dL_law_997 : decode cL_law 997 = .ok (.aload_n 3, 1) := by decide +kernel
theorem dL_law_998 : decode cL_law 998 = .ok (.invokestatic 125, 3) := by decide +kernel
theorem dL_law_1001 : decode cL_law 1001 = .ok (.istore 5, 2) := by decide +kernel
theorem dL_law_1003 : decode cL_law 1003 = .ok (.aload_n 2, 1) := by decide +kernel
theorem dL_law_1004 : decode cL_law 1004 = .ok (.aload_n 0, 1) := by decide +kernel
theorem dL_law_1005 : decode cL_law 1005 = .ok (.iload 4, 2) := by decide +kernel
theorem dL_law_1007 : decode cL_law 1007 = .ok (.iconst 1, 1) := by decide +kernel
theorem dL_law_1008 : decode cL_law 1008 = .ok (.iadd, 1) := by decide +kernel
theorem dL_law_1009 : decode cL_law 1009 = .ok (.iaload, 1) := by decide +kernel
theorem dL_law_1010 : decode cL_law 1010 = .ok (.aload_n 0, 1) := by decide +kernel
theorem dL_law_1011 : decode cL_law 1011 = .ok (.iload 4, 2) := by decide +kernel
theorem dL_law_1013 : decode cL_law 1013 = .ok (.iconst 2, 1) := by decide +kernel
theorem dL_law_1014 : decode cL_law 1014 = .ok (.iadd, 1) := by decide +kernel
theorem dL_law_1015 : decode cL_law 1015 = .ok (.iaload, 1) := by decide +kernel
theorem dL_law_1016 : decode cL_law 1016 = .ok (.aload_n 0, 1) := by decide +kernel
theorem dL_law_1017 : decode cL_law 1017 = .ok (.iload 4, 2) := by decide +kernel
theorem dL_law_1019 : decode cL_law 1019 = .ok (.iconst 3, 1) := by decide +kernel
theorem dL_law_1020 : decode cL_law 1020 = .ok (.iadd, 1) := by decide +kernel
theorem dL_law_1021 : decode cL_law 1021 = .ok (.iaload, 1) := by decide +kernel
theorem dL_law_1022 : decode cL_law 1022 = .ok (.invokevirtual 127, 3) := by decide +kernel
theorem dL_law_1025 : decode cL_law 1025 = .ok (.istore 6, 2) := by decide +kernel
theorem dL_law_1027 : decode cL_law 1027 = .ok (.aload_n 2, 1) := by decide +kernel
theorem dL_law_1028 : decode cL_law 1028 = .ok (.invokevirtual 77, 3) := by decide +kernel
theorem dL_law_1031 : decode cL_law 1031 = .ok (.iload 5, 2) := by decide +kernel
theorem dL_law_1033 : decode cL_law 1033 = .ok (.if_icmp .eq 5, 3) := by decide +kernel
theorem dL_law_1038 : decode cL_law 1038 = .ok (.iload 5, 2) := by decide +kernel
theorem dL_law_1040 : decode cL_law 1040 = .ok (.ifCond .ne 15, 3) := by decide +kernel
theorem dL_law_1043 : decode cL_law 1043 = .ok (.aload_n 3, 1) := by decide +kernel
theorem dL_law_1044 : decode cL_law 1044 = .ok (.iconst 0, 1) := by decide +kernel
theorem dL_law_1045 : decode cL_law 1045 = .ok (.laload, 1) := by decide +kernel
theorem dL_law_1046 : decode cL_law 1046 = .ok (.iload 6, 2) := by decide +kernel
theorem dL_law_1048 : decode cL_law 1048 = .ok (.i2l, 1) := by decide +kernel
theorem dL_law_1049 : decode cL_law 1049 = .ok (.lcmp, 1) := by decide +kernel
theorem dL_law_1050 : decode cL_law 1050 = .ok (.ifCond .eq 5, 3) := by decide +kernel
theorem dL_law_1055 : decode cL_law 1055 = .ok (.goto 262, 3) := by decide +kernel
theorem dL_law_1058 : decode cL_law 1058 = .ok (.aload_n 1, 1) := by decide +kernel
theorem dL_law_1059 : decode cL_law 1059 = .ok (.aload_n 0, 1) := by decide +kernel
theorem dL_law_1060 : decode cL_law 1060 = .ok (.iload 4, 2) := by decide +kernel
theorem dL_law_1062 : decode cL_law 1062 = .ok (.iconst 1, 1) := by decide +kernel
theorem dL_law_1063 : decode cL_law 1063 = .ok (.iadd, 1) := by decide +kernel
theorem dL_law_1064 : decode cL_law 1064 = .ok (.iaload, 1) := by decide +kernel
theorem dL_law_1065 : decode cL_law 1065 = .ok (.aload_n 0, 1) := by decide +kernel
theorem dL_law_1066 : decode cL_law 1066 = .ok (.iload 4, 2) := by decide +kernel
theorem dL_law_1068 : decode cL_law 1068 = .ok (.iconst 2, 1) := by decide +kernel
theorem dL_law_1069 : decode cL_law 1069 = .ok (.iadd, 1) := by decide +kernel
theorem dL_law_1070 : decode cL_law 1070 = .ok (.iaload, 1) := by decide +kernel
theorem dL_law_1071 : decode cL_law 1071 = .ok (.aload_n 3, 1) := by decide +kernel
theorem dL_law_1072 : decode cL_law 1072 = .ok (.invokestatic 128, 3) := by decide +kernel
theorem dL_law_1075 : decode cL_law 1075 = .ok (.istore 5, 2) := by decide +kernel
theorem dL_law_1077 : decode cL_law 1077 = .ok (.aload_n 2, 1) := by decide +kernel
theorem dL_law_1078 : decode cL_law 1078 = .ok (.aload_n 0, 1) := by decide +kernel
theorem dL_law_1079 : decode cL_law 1079 = .ok (.iload 4, 2) := by decide +kernel
theorem dL_law_1081 : decode cL_law 1081 = .ok (.iconst 1, 1) := by decide +kernel
theorem dL_law_1082 : decode cL_law 1082 = .ok (.iadd, 1) := by decide +kernel
theorem dL_law_1083 : decode cL_law 1083 = .ok (.iaload, 1) := by decide +kernel
theorem dL_law_1084 : decode cL_law 1084 = .ok (.aload_n 0, 1) := by decide +kernel
theorem dL_law_1085 : decode cL_law 1085 = .ok (.iload 4, 2) := by decide +kernel
theorem dL_law_1087 : decode cL_law 1087 = .ok (.iconst 2, 1) := by decide +kernel
theorem dL_law_1088 : decode cL_law 1088 = .ok (.iadd, 1) := by decide +kernel
theorem dL_law_1089 : decode cL_law 1089 = .ok (.iaload, 1) := by decide +kernel
theorem dL_law_1090 : decode cL_law 1090 = .ok (.invokevirtual 130, 3) := by decide +kernel
theorem dL_law_1093 : decode cL_law 1093 = .ok (.istore 6, 2) := by decide +kernel
theorem dL_law_1095 : decode cL_law 1095 = .ok (.aload_n 2, 1) := by decide +kernel
theorem dL_law_1096 : decode cL_law 1096 = .ok (.invokevirtual 77, 3) := by decide +kernel
theorem dL_law_1099 : decode cL_law 1099 = .ok (.iload 5, 2) := by decide +kernel
theorem dL_law_1101 : decode cL_law 1101 = .ok (.if_icmp .eq 5, 3) := by decide +kernel
theorem dL_law_1106 : decode cL_law 1106 = .ok (.iload 5, 2) := by decide +kernel
theorem dL_law_1108 : decode cL_law 1108 = .ok (.ifCond .ne 15, 3) := by decide +kernel
theorem dL_law_1111 : decode cL_law 1111 = .ok (.aload_n 3, 1) := by decide +kernel
theorem dL_law_1112 : decode cL_law 1112 = .ok (.iconst 0, 1) := by decide +kernel
theorem dL_law_1113 : decode cL_law 1113 = .ok (.laload, 1) := by decide +kernel
theorem dL_law_1114 : decode cL_law 1114 = .ok (.iload 6, 2) := by decide +kernel
theorem dL_law_1116 : decode cL_law 1116 = .ok (.i2l, 1) := by decide +kernel
theorem dL_law_1117 : decode cL_law 1117 = .ok (.lcmp, 1) := by decide +kernel
theorem dL_law_1118 : decode cL_law 1118 = .ok (.ifCond .eq 5, 3) := by decide +kernel
theorem dL_law_1123 : decode cL_law 1123 = .ok (.goto 194, 3) := by decide +kernel
theorem dL_law_1126 : decode cL_law 1126 = .ok (.aload_n 1, 1) := by decide +kernel
theorem dL_law_1127 : decode cL_law 1127 = .ok (.aload_n 0, 1) := by decide +kernel
theorem dL_law_1128 : decode cL_law 1128 = .ok (.iload 4, 2) := by decide +kernel
theorem dL_law_1130 : decode cL_law 1130 = .ok (.iconst 1, 1) := by decide +kernel
theorem dL_law_1131 : decode cL_law 1131 = .ok (.iadd, 1) := by decide +kernel
theorem dL_law_1132 : decode cL_law 1132 = .ok (.iaload, 1) := by decide +kernel
theorem dL_law_1133 : decode cL_law 1133 = .ok (.aload_n 0, 1) := by decide +kernel
theorem dL_law_1134 : decode cL_law 1134 = .ok (.iload 4, 2) := by decide +kernel
theorem dL_law_1136 : decode cL_law 1136 = .ok (.iconst 2, 1) := by decide +kernel
theorem dL_law_1137 : decode cL_law 1137 = .ok (.iadd, 1) := by decide +kernel
theorem dL_law_1138 : decode cL_law 1138 = .ok (.iaload, 1) := by decide +kernel
theorem dL_law_1139 : decode cL_law 1139 = .ok (.aload_n 3, 1) := by decide +kernel
theorem dL_law_1140 : decode cL_law 1140 = .ok (.invokestatic 131, 3) := by decide +kernel
theorem dL_law_1143 : decode cL_law 1143 = .ok (.istore 5, 2) := by decide +kernel
theorem dL_law_1145 : decode cL_law 1145 = .ok (.aload_n 2, 1) := by decide +kernel
theorem dL_law_1146 : decode cL_law 1146 = .ok (.aload_n 0, 1) := by decide +kernel
theorem dL_law_1147 : decode cL_law 1147 = .ok (.iload 4, 2) := by decide +kernel
theorem dL_law_1149 : decode cL_law 1149 = .ok (.iconst 1, 1) := by decide +kernel
theorem dL_law_1150 : decode cL_law 1150 = .ok (.iadd, 1) := by decide +kernel
theorem dL_law_1151 : decode cL_law 1151 = .ok (.iaload, 1) := by decide +kernel
theorem dL_law_1152 : decode cL_law 1152 = .ok (.aload_n 0, 1) := by decide +kernel
theorem dL_law_1153 : decode cL_law 1153 = .ok (.iload 4, 2) := by decide +kernel
theorem dL_law_1155 : decode cL_law 1155 = .ok (.iconst 2, 1) := by decide +kernel
theorem dL_law_1156 : decode cL_law 1156 = .ok (.iadd, 1) := by decide +kernel
theorem dL_law_1157 : decode cL_law 1157 = .ok (.iaload, 1) := by decide +kernel
theorem dL_law_1158 : decode cL_law 1158 = .ok (.invokevirtual 133, 3) := by decide +kernel
theorem dL_law_1161 : decode cL_law 1161 = .ok (.istore 6, 2) := by decide +kernel
theorem dL_law_1163 : decode cL_law 1163 = .ok (.aload_n 2, 1) := by decide +kernel
theorem dL_law_1164 : decode cL_law 1164 = .ok (.invokevirtual 77, 3) := by decide +kernel
theorem dL_law_1167 : decode cL_law 1167 = .ok (.iload 5, 2) := by decide +kernel
theorem dL_law_1169 : decode cL_law 1169 = .ok (.if_icmp .eq 5, 3) := by decide +kernel
theorem dL_law_1174 : decode cL_law 1174 = .ok (.iload 5, 2) := by decide +kernel
theorem dL_law_1176 : decode cL_law 1176 = .ok (.ifCond .ne 15, 3) := by decide +kernel
theorem dL_law_1179 : decode cL_law 1179 = .ok (.aload_n 3, 1) := by decide +kernel
theorem dL_law_1180 : decode cL_law 1180 = .ok (.iconst 0, 1) := by decide +kernel
theorem dL_law_1181 : decode cL_law 1181 = .ok (.laload, 1) := by decide +kernel
theorem dL_law_1182 : decode cL_law 1182 = .ok (.iload 6, 2) := by decide +kernel
theorem dL_law_1184 : decode cL_law 1184 = .ok (.i2l, 1) := by decide +kernel
theorem dL_law_1185 : decode cL_law 1185 = .ok (.lcmp, 1) := by decide +kernel
theorem dL_law_1186 : decode cL_law 1186 = .ok (.ifCond .eq 5, 3) := by decide +kernel
theorem dL_law_1191 : decode cL_law 1191 = .ok (.goto 126, 3) := by decide +kernel
theorem dL_law_1194 : decode cL_law 1194 = .ok (.aload_n 1, 1) := by decide +kernel
theorem dL_law_1195 : decode cL_law 1195 = .ok (.aload_n 0, 1) := by decide +kernel
theorem dL_law_1196 : decode cL_law 1196 = .ok (.iload 4, 2) := by decide +kernel
theorem dL_law_1198 : decode cL_law 1198 = .ok (.iconst 1, 1) := by decide +kernel
theorem dL_law_1199 : decode cL_law 1199 = .ok (.iadd, 1) := by decide +kernel
theorem dL_law_1200 : decode cL_law 1200 = .ok (.iaload, 1) := by decide +kernel
theorem dL_law_1201 : decode cL_law 1201 = .ok (.aload_n 0, 1) := by decide +kernel
theorem dL_law_1202 : decode cL_law 1202 = .ok (.iload 4, 2) := by decide +kernel
theorem dL_law_1204 : decode cL_law 1204 = .ok (.iconst 2, 1) := by decide +kernel
theorem dL_law_1205 : decode cL_law 1205 = .ok (.iadd, 1) := by decide +kernel
theorem dL_law_1206 : decode cL_law 1206 = .ok (.iaload, 1) := by decide +kernel
theorem dL_law_1207 : decode cL_law 1207 = .ok (.aload_n 3, 1) := by decide +kernel
theorem dL_law_1208 : decode cL_law 1208 = .ok (.invokestatic 134, 3) := by decide +kernel
theorem dL_law_1211 : decode cL_law 1211 = .ok (.istore 5, 2) := by decide +kernel
theorem dL_law_1213 : decode cL_law 1213 = .ok (.aload_n 2, 1) := by decide +kernel
theorem dL_law_1214 : decode cL_law 1214 = .ok (.aload_n 0, 1) := by decide +kernel
theorem dL_law_1215 : decode cL_law 1215 = .ok (.iload 4, 2) := by decide +kernel
theorem dL_law_1217 : decode cL_law 1217 = .ok (.iconst 1, 1) := by decide +kernel
theorem dL_law_1218 : decode cL_law 1218 = .ok (.iadd, 1) := by decide +kernel
theorem dL_law_1219 : decode cL_law 1219 = .ok (.iaload, 1) := by decide +kernel
theorem dL_law_1220 : decode cL_law 1220 = .ok (.aload_n 0, 1) := by decide +kernel
theorem dL_law_1221 : decode cL_law 1221 = .ok (.iload 4, 2) := by decide +kernel
theorem dL_law_1223 : decode cL_law 1223 = .ok (.iconst 2, 1) := by decide +kernel
theorem dL_law_1224 : decode cL_law 1224 = .ok (.iadd, 1) := by decide +kernel
theorem dL_law_1225 : decode cL_law 1225 = .ok (.iaload, 1) := by decide +kernel
theorem dL_law_1226 : decode cL_law 1226 = .ok (.invokevirtual 136, 3) := by decide +kernel
theorem dL_law_1229 : decode cL_law 1229 = .ok (.istore 6, 2) := by decide +kernel
theorem dL_law_1231 : decode cL_law 1231 = .ok (.aload_n 2, 1) := by decide +kernel
theorem dL_law_1232 : decode cL_law 1232 = .ok (.invokevirtual 77, 3) := by decide +kernel
theorem dL_law_1235 : decode cL_law 1235 = .ok (.iload 5, 2) := by decide +kernel
theorem dL_law_1237 : decode cL_law 1237 = .ok (.if_icmp .eq 5, 3) := by decide +kernel
theorem dL_law_1242 : decode cL_law 1242 = .ok (.iload 5, 2) := by decide +kernel
theorem dL_law_1244 : decode cL_law 1244 = .ok (.ifCond .ne 15, 3) := by decide +kernel
theorem dL_law_1247 : decode cL_law 1247 = .ok (.aload_n 3, 1) := by decide +kernel
theorem dL_law_1248 : decode cL_law 1248 = .ok (.iconst 0, 1) := by decide +kernel
theorem dL_law_1249 : decode cL_law 1249 = .ok (.laload, 1) := by decide +kernel
theorem dL_law_1250 : decode cL_law 1250 = .ok (.iload 6, 2) := by decide +kernel
theorem dL_law_1252 : decode cL_law 1252 = .ok (.i2l, 1) := by decide +kernel
theorem dL_law_1253 : decode cL_law 1253 = .ok (.lcmp, 1) := by decide +kernel
theorem dL_law_1254 : decode cL_law 1254 = .ok (.ifCond .eq 5, 3) := by decide +kernel
theorem dL_law_1259 : decode cL_law 1259 = .ok (.goto 58, 3) := by decide +kernel
/-! the law's cases: the helper's answer and the reference's -/
theorem lc_self {v : Int64} : lg_cmp v v = 0 := by
  unfold lg_cmp
  rw [if_neg Int64.lt_irrefl, if_pos rfl]
theorem lc_up {J : Nat → Nat → Int64} {o : Nat} {w : Int64} : lg_cmp (up2 J o 0 w o (Int32.toNatClampNeg 0)) w = 0 := by
  rw [show Int32.toNatClampNeg 0 = 0 from rfl, up2_s]
  exact lc_self
theorem LL_le {b x y o : Nat} {v : Int32} {f g h k : Option AV} : (LL b x y o v).length = [some (vR b), some (vR x), some (vR y), some (vR o), some (vI v), f, g, h, k].length ∧ ∀ (i : Nat) (w : AV), (LL b x y o v)[i]? = some (some w) → [some (vR b), some (vR x), some (vR y), some (vR o), some (vI v), f, g, h, k][i]? = some (some w) := by
  refine ⟨rfl, fun i w hw => ?_⟩
  rcases i with _ | _ | _ | _ | _ | _ | _ | _ | _ | i
  · exact hw
  · exact hw
  · exact hw
  · exact hw
  · exact hw
  · cases hw
  · cases hw
  · cases hw
  · cases hw
  · cases hw
section Lc
variable {G : Gp} {S : AMem} {I : Nat → Nat → Int32} {J : Nat → Nat → Int64} {R : Nat → Nat → Option Nat} {x y o b i L : Nat} {xs : Nat → Int32} {s : XS} {Z : StA} {Q : (Option AV ⊕ Nat) → AMem → Prop}
theorem Inv.hy (h : Inv S I J R x y o s) {I1 : Nat → Nat → Int32} {J1 : Nat → Nat → Int64} {R1 : Nat → Nat → Option Nat} (q : OffW x I J R I1 J1 R1) : YW S y s I1 R1 := by
  obtain ⟨hx, hy, ko, lo, ey, eo, hhs⟩ := h
  exact hy.ex fun a u v => ⟨rfl, rfl, fun j _ => by rw [(q a (by omega)).1], (q a (by omega)).2.2⟩
theorem Inv.to (h : Inv S I J R x y o s) {I1 I2 : Nat → Nat → Int32} {J1 : Nat → Nat → Int64} {R1 R2 : Nat → Nat → Option Nat} {s1 : XS} {w : Int64} (h1 : XW kwK S x s1 I1 J1 R1) (h2 : YW S y s1 I2 R2) (q : OffY y I1 R1 I2 R2) : Inv S I2 (up2 J1 o 0 w) R2 x y o s1 := by
  obtain ⟨hx, hy, ko, lo, ey, eo, hhs⟩ := h
  exact ⟨h1.ex fun a u v => ⟨rfl, rfl, fun j => by rw [(q a (by omega)).1], funext fun j => up2_a (by omega), (q a (by omega)).2⟩, h2, ko, lo, ey, eo, hhs⟩
theorem Inv.tx (h : Inv S I J R x y o s) {I1 I2 : Nat → Nat → Int32} {J1 : Nat → Nat → Int64} {R1 R2 : Nat → Nat → Option Nat} {s1 : XS} (h1 : XW kwK S x s1 I1 J1 R1) (h2 : YW S y s1 I2 R2) (q : OffY y I1 R1 I2 R2) : Inv S I2 J1 R2 x y o s1 := by
  obtain ⟨hx, hy, ko, lo, ey, eo, hhs⟩ := h
  exact ⟨h1.ex fun a u v => ⟨rfl, rfl, fun j => by rw [(q a (by omega)).1], rfl, (q a (by omega)).2⟩, h2, ko, lo, ey, eo, hhs⟩
theorem Inv.yg (h : Inv S I J R x y o s) : YW S.gp y s I R := h.2.1.ex fun a u v => ⟨rfl, rfl, fun _ _ => rfl, rfl⟩
theorem Inv.tg (h : Inv S I J R x y o s) {I2 : Nat → Nat → Int32} {R2 : Nat → Nat → Option Nat} (h2 : YW S.gp y s I2 R2) (q : OffY y I R I2 R2) : Inv S.gp I2 J R2 x y o s := by
  obtain ⟨hx, hy, ko, lo, ey, eo, hhs⟩ := h
  exact ⟨hx.ex fun a u v => ⟨rfl, rfl, fun j => by rw [(q a (by omega)).1], rfl, (q a (by omega)).2⟩, h2, ko, lo, ey, eo, Nat.le_succ_of_le hhs⟩
theorem XW.kx {K : Nat → Int64} (h : XW K S x s I J R) : S.K x = 12 := by
  obtain ⟨c, o, hC, -⟩ := h
  exact hC.1
theorem YW.ky (h : YW S y s I R) : S.K y = 15 := by
  obtain ⟨bl, nx, hC, -⟩ := h
  exact hC.1.1
theorem kl_feed (hG : okG G) (hZ : KS G Z) (hX : KX G) (hst : G.l.stackTraces = false) (hsc : Sc G b L xs) (hi : i + 6 ≤ L) (hL : L ≤ 3072) (h : Inv S I J R x y o s) (K : ∀ S1 I1 J1 R1 s1, Inv S1 I1 J1 R1 x y o s1 → S1.hs ≤ S.hs + 20 → S1.sl ≤ S.sl + 200 → MW G mL_law 2046 1317 (LL b x y o (nI i)) [] (mw S1 I1 J1 R1) Q) : MW G mL_law 2046 136 (LL b x y o (nI i)) [] (mw S I J R) Q := by
  have kx := h.1.kx
  have ko := h.2.2.1
  have ky := h.2.1.ky
  have hp0 : vp_in 0 (S.ln o) := by
    rw [h.2.2.2.1]
    unfold vp_in
    decide
  have p1 := sc_in (v := 1) (k := 1) (L := L) (i := i) rfl (by decide) hi hL
  have p2 := sc_in (v := 2) (k := 2) (L := L) (i := i) rfl (by decide) hi hL
  have p3 := sc_in (v := 3) (k := 3) (L := L) (i := i) rfl (by decide) hi hL
  have p4 := sc_in (v := 4) (k := 4) (L := L) (i := i) rfl (by decide) hi hL
  have p5 := sc_in (v := 5) (k := 5) (L := L) (i := i) rfl (by decide) hi hL
  refine am_aload_n (q := 137) dL_law_136 rfl rfl ?_
  refine am_aload_n (q := 138) dL_law_137 rfl rfl ?_
  refine am_iload (q := 140) dL_law_138 rfl rfl ?_
  refine am_iconst (q := 141) (v := 1) dL_law_140 kc_i1 rfl ?_
  refine am_iadd (q := 142) dL_law_141 rfl ?_
  refine am_tint (q := 143) dL_law_142 (hsc) p1.1 (sc_va p1) rfl ?_
  refine am_aload_n (q := 144) dL_law_143 rfl rfl ?_
  refine am_iload (q := 146) dL_law_144 rfl rfl ?_
  refine am_iconst (q := 147) (v := 2) dL_law_146 kc_i2 rfl ?_
  refine am_iadd (q := 148) dL_law_147 rfl ?_
  refine am_tint (q := 149) dL_law_148 (hsc) p2.1 (sc_va p2) rfl ?_
  refine am_aload_n (q := 150) dL_law_149 rfl rfl ?_
  refine am_iload (q := 152) dL_law_150 rfl rfl ?_
  refine am_iconst (q := 153) (v := 3) dL_law_152 kc_i3 rfl ?_
  refine am_iadd (q := 154) dL_law_153 rfl ?_
  refine am_tint (q := 155) dL_law_154 (hsc) p3.1 (sc_va p3) rfl ?_
  refine am_aload_n (q := 156) dL_law_155 rfl rfl ?_
  refine am_iload (q := 158) dL_law_156 rfl rfl ?_
  refine am_iconst (q := 159) (v := 4) dL_law_158 kc_i4 rfl ?_
  refine am_iadd (q := 160) dL_law_159 rfl ?_
  refine am_tint (q := 161) dL_law_160 (hsc) p4.1 (sc_va p4) rfl ?_
  refine am_aload_n (q := 162) dL_law_161 rfl rfl ?_
  refine am_iload (q := 164) dL_law_162 rfl rfl ?_
  refine am_iconst (q := 165) (v := 5) dL_law_164 kc_i5 rfl ?_
  refine am_iadd (q := 166) dL_law_165 rfl ?_
  refine am_tint (q := 167) dL_law_166 (hsc) p5.1 (sc_va p5) rfl ?_
  refine am_aload_n (q := 168) dL_law_167 rfl rfl ?_
  obtain ⟨rv, M1, hm, hq⟩ := kh_feed (p := xs (i + 1)) (q := xs (i + 2)) (r := xs (i + 3)) (u := xs (i + 4)) (v := xs (i + 5)) hG hZ hX hst h.1 ko h.2.2.2.1
  refine am_callH (Yc := mL_feed) (n := 7) (As := [vR x, vI (xs (i + 1)), vI (xs (i + 2)), vI (xs (i + 3)), vI (xs (i + 4)), vI (xs (i + 5)), vR o]) (q := 171) hG dL_law_168 hwL_feed (tbc1 0 rfl rfl) ⟨by decide, by decide⟩ (by decide +kernel) (tbc4 100 rfl rfl) (tbc4 101 rfl rfl) (by decide) rfl (Nat.le_of_ble_eq_true rfl) (Nat.le_of_ble_eq_true rfl) hm rfl ?_
  by_cases hc : s.E.1 + 20 ≤ 2000
  · rw [if_pos hc] at hq
    obtain ⟨er, wv, I1, J1, R1, ew, eM, hx1, ho1⟩ := hq
    subst er
    subst eM
    have hb := k_X14_feed (G := G) (J := up2 J1 o 0 wv.toInt64) (p := xs (i + 1)) (q := xs (i + 2)) (r := xs (i + 3)) (u := xs (i + 4)) (v := xs (i + 5)) hG (h.hy ho1)
    have e9 := Sum.inl.inj ew
    subst e9
    rw [if_pos hc] at hb
    refine am_istore (q := 173) (ls1 := [_, _, _, _, _, _, _, _, _]) dL_law_171 (Nat.le_of_ble_eq_true rfl) rfl rfl ?_
    refine am_aload_n (q := 174) dL_law_173 rfl rfl ?_
    refine am_aload_n (q := 175) dL_law_174 rfl rfl ?_
    refine am_iload (q := 177) dL_law_175 rfl rfl ?_
    refine am_iconst (q := 178) (v := 1) dL_law_177 kc_i1 rfl ?_
    refine am_iadd (q := 179) dL_law_178 rfl ?_
    refine am_tint (q := 180) dL_law_179 (hsc) p1.1 (sc_va p1) rfl ?_
    refine am_aload_n (q := 181) dL_law_180 rfl rfl ?_
    refine am_iload (q := 183) dL_law_181 rfl rfl ?_
    refine am_iconst (q := 184) (v := 2) dL_law_183 kc_i2 rfl ?_
    refine am_iadd (q := 185) dL_law_184 rfl ?_
    refine am_tint (q := 186) dL_law_185 (hsc) p2.1 (sc_va p2) rfl ?_
    refine am_aload_n (q := 187) dL_law_186 rfl rfl ?_
    refine am_iload (q := 189) dL_law_187 rfl rfl ?_
    refine am_iconst (q := 190) (v := 3) dL_law_189 kc_i3 rfl ?_
    refine am_iadd (q := 191) dL_law_190 rfl ?_
    refine am_tint (q := 192) dL_law_191 (hsc) p3.1 (sc_va p3) rfl ?_
    refine am_aload_n (q := 193) dL_law_192 rfl rfl ?_
    refine am_iload (q := 195) dL_law_193 rfl rfl ?_
    refine am_iconst (q := 196) (v := 4) dL_law_195 kc_i4 rfl ?_
    refine am_iadd (q := 197) dL_law_196 rfl ?_
    refine am_tint (q := 198) dL_law_197 (hsc) p4.1 (sc_va p4) rfl ?_
    refine am_aload_n (q := 199) dL_law_198 rfl rfl ?_
    refine am_iload (q := 201) dL_law_199 rfl rfl ?_
    refine am_iconst (q := 202) (v := 5) dL_law_201 kc_i5 rfl ?_
    refine am_iadd (q := 203) dL_law_202 rfl ?_
    refine am_tint (q := 204) dL_law_203 (hsc) p5.1 (sc_va p5) rfl ?_
    refine cm_call0 (q := 207) (As := [_, _, _, _, _]) hG dL_law_204 mlL_76 rfl (by assumption) ⟨_, _, rfl⟩ (Nat.le_of_ble_eq_true rfl) (Nat.le_of_ble_eq_true rfl) (Nat.le_of_ble_eq_true rfl) (Nat.le_of_ble_eq_true rfl) hb rfl ?_
    rintro _ _ ⟨rfl, I2, R2, rfl, hy2, ht2, ho2⟩
    refine am_istore (q := 209) (ls1 := [_, _, _, _, _, _, _, _, _]) dL_law_207 (Nat.le_of_ble_eq_true rfl) rfl rfl ?_
    refine am_aload_n (q := 210) dL_law_209 rfl rfl ?_
    refine cm_call0 (q := 213) (As := []) hG dL_law_210 mlL_77 rfl (by assumption) ⟨_, _, rfl⟩ (Nat.le_of_ble_eq_true rfl) (Nat.le_of_ble_eq_true rfl) (Nat.le_of_ble_eq_true rfl) (Nat.le_of_ble_eq_true rfl) (k_X14_thrown ky) rfl ?_
    rintro _ _ ⟨rfl, rfl⟩
    rw [ht2]
    refine am_iload (q := 215) dL_law_213 rfl rfl ?_
    refine am_icmp_eq (tgt := 220) (q := 218) dL_law_215 rfl rfl (fun _ => ?_) (fun hz => absurd rfl hz)
    refine am_iload (q := 222) dL_law_220 rfl rfl ?_
    refine am_if_ne (tgt := 237) (q := 225) dL_law_222 rfl rfl (fun hz => absurd rfl hz) (fun _ => ?_)
    refine am_aload_n (q := 226) dL_law_225 rfl rfl ?_
    refine am_iconst (q := 227) (v := 0) dL_law_226 kc_i0 rfl ?_
    refine cm_laload (q := 228) dL_law_227 (by assumption) hp0 rfl ?_
    refine am_iload (q := 230) dL_law_228 rfl rfl ?_
    refine am_i2l (q := 231) dL_law_230 rfl ?_
    refine am_lcmp (q := 232) dL_law_231 rfl ?_
    refine am_if_eq (tgt := 237) (q := 235) dL_law_232 rfl rfl (fun _ => ?_) (fun hz => absurd lc_up hz)
    refine am_goto (tgt := 1317) dL_law_237 rfl ?_
    exact MW.forget LL_le (K _ _ _ _ _ (h.to hx1 hy2 ho2) (Nat.le_add_right _ _) (Nat.le_add_right _ _))
  · rw [if_neg hc] at hq
    have er : rv = 1 := hq.1
    have eM := hq.2
    subst er
    subst eM
    have hb := k_X14_feed (G := G) (J := J) (p := xs (i + 1)) (q := xs (i + 2)) (r := xs (i + 3)) (u := xs (i + 4)) (v := xs (i + 5)) hG h.yg
    rw [if_neg hc] at hb
    refine am_istore (q := 173) (ls1 := [_, _, _, _, _, _, _, _, _]) dL_law_171 (Nat.le_of_ble_eq_true rfl) rfl rfl ?_
    refine am_aload_n (q := 174) dL_law_173 rfl rfl ?_
    refine am_aload_n (q := 175) dL_law_174 rfl rfl ?_
    refine am_iload (q := 177) dL_law_175 rfl rfl ?_
    refine am_iconst (q := 178) (v := 1) dL_law_177 kc_i1 rfl ?_
    refine am_iadd (q := 179) dL_law_178 rfl ?_
    refine am_tint (q := 180) dL_law_179 (hsc) p1.1 (sc_va p1) rfl ?_
    refine am_aload_n (q := 181) dL_law_180 rfl rfl ?_
    refine am_iload (q := 183) dL_law_181 rfl rfl ?_
    refine am_iconst (q := 184) (v := 2) dL_law_183 kc_i2 rfl ?_
    refine am_iadd (q := 185) dL_law_184 rfl ?_
    refine am_tint (q := 186) dL_law_185 (hsc) p2.1 (sc_va p2) rfl ?_
    refine am_aload_n (q := 187) dL_law_186 rfl rfl ?_
    refine am_iload (q := 189) dL_law_187 rfl rfl ?_
    refine am_iconst (q := 190) (v := 3) dL_law_189 kc_i3 rfl ?_
    refine am_iadd (q := 191) dL_law_190 rfl ?_
    refine am_tint (q := 192) dL_law_191 (hsc) p3.1 (sc_va p3) rfl ?_
    refine am_aload_n (q := 193) dL_law_192 rfl rfl ?_
    refine am_iload (q := 195) dL_law_193 rfl rfl ?_
    refine am_iconst (q := 196) (v := 4) dL_law_195 kc_i4 rfl ?_
    refine am_iadd (q := 197) dL_law_196 rfl ?_
    refine am_tint (q := 198) dL_law_197 (hsc) p4.1 (sc_va p4) rfl ?_
    refine am_aload_n (q := 199) dL_law_198 rfl rfl ?_
    refine am_iload (q := 201) dL_law_199 rfl rfl ?_
    refine am_iconst (q := 202) (v := 5) dL_law_201 kc_i5 rfl ?_
    refine am_iadd (q := 203) dL_law_202 rfl ?_
    refine am_tint (q := 204) dL_law_203 (hsc) p5.1 (sc_va p5) rfl ?_
    refine cm_call0 (q := 207) (As := [_, _, _, _, _]) hG dL_law_204 mlL_76 rfl (by assumption) ⟨_, _, rfl⟩ (Nat.le_of_ble_eq_true rfl) (Nat.le_of_ble_eq_true rfl) (Nat.le_of_ble_eq_true rfl) (Nat.le_of_ble_eq_true rfl) hb rfl ?_
    rintro _ _ ⟨rfl, I2, R2, rfl, hy2, ht2, ho2⟩
    refine am_istore (q := 209) (ls1 := [_, _, _, _, _, _, _, _, _]) dL_law_207 (Nat.le_of_ble_eq_true rfl) rfl rfl ?_
    refine am_aload_n (q := 210) dL_law_209 rfl rfl ?_
    refine cm_call0 (q := 213) (As := []) hG dL_law_210 mlL_77 rfl (by assumption) ⟨_, _, rfl⟩ (Nat.le_of_ble_eq_true rfl) (Nat.le_of_ble_eq_true rfl) (Nat.le_of_ble_eq_true rfl) (Nat.le_of_ble_eq_true rfl) (k_X14_thrown ky) rfl ?_
    rintro _ _ ⟨rfl, rfl⟩
    rw [ht2]
    refine am_iload (q := 215) dL_law_213 rfl rfl ?_
    refine am_icmp_eq (tgt := 220) (q := 218) dL_law_215 rfl rfl (fun _ => ?_) (fun hz => absurd rfl hz)
    refine am_iload (q := 222) dL_law_220 rfl rfl ?_
    refine am_if_ne (tgt := 237) (q := 225) dL_law_222 rfl rfl (fun _ => ?_) (fun hz => absurd hz (by decide))
    refine am_goto (tgt := 1317) dL_law_237 rfl ?_
    exact MW.forget LL_le (K _ _ _ _ _ (h.tg hy2 ho2) (Nat.add_le_add_left (by decide : 1 ≤ 20) _) (Nat.add_le_add_left (by decide : 6 ≤ 200) _))
theorem kl_trim (hG : okG G) (hZ : KS G Z) (hX : KX G) (hst : G.l.stackTraces = false) (hsc : Sc G b L xs) (hi : i + 6 ≤ L) (hL : L ≤ 3072) (h : Inv S I J R x y o s) (K : ∀ S1 I1 J1 R1 s1, Inv S1 I1 J1 R1 x y o s1 → S1.hs ≤ S.hs + 20 → S1.sl ≤ S.sl + 200 → MW G mL_law 2046 1317 (LL b x y o (nI i)) [] (mw S1 I1 J1 R1) Q) : MW G mL_law 2046 240 (LL b x y o (nI i)) [] (mw S I J R) Q := by
  have kx := h.1.kx
  have ko := h.2.2.1
  have ky := h.2.1.ky
  have hp0 : vp_in 0 (S.ln o) := by
    rw [h.2.2.2.1]
    unfold vp_in
    decide
  have p1 := sc_in (v := 1) (k := 1) (L := L) (i := i) rfl (by decide) hi hL
  refine am_aload_n (q := 241) dL_law_240 rfl rfl ?_
  refine am_aload_n (q := 242) dL_law_241 rfl rfl ?_
  refine am_iload (q := 244) dL_law_242 rfl rfl ?_
  refine am_iconst (q := 245) (v := 1) dL_law_244 kc_i1 rfl ?_
  refine am_iadd (q := 246) dL_law_245 rfl ?_
  refine am_tint (q := 247) dL_law_246 (hsc) p1.1 (sc_va p1) rfl ?_
  refine am_aload_n (q := 248) dL_law_247 rfl rfl ?_
  obtain ⟨rv, M1, hm, hq⟩ := kh_trim (n := xs (i + 1)) hG hZ hX hst h.1 ko h.2.2.2.1
  refine am_callH (Yc := mL_trim) (n := 3) (As := [vR x, vI (xs (i + 1)), vR o]) (q := 251) hG dL_law_248 hwL_trim (tbc1 0 rfl rfl) ⟨by decide, by decide⟩ (by decide +kernel) (tbc4 183 rfl rfl) (tbc4 184 rfl rfl) (by decide) rfl (Nat.le_of_ble_eq_true rfl) (Nat.le_of_ble_eq_true rfl) hm rfl ?_
  by_cases hc : 0 ≤ (xs (i + 1)) ∧ (xs (i + 1)) ≤ nI s.E.1
  · rw [if_pos hc] at hq
    obtain ⟨er, wv, I1, J1, R1, ew, eM, hx1, ho1⟩ := hq
    subst er
    subst eM
    have hb := k_X14_trim (G := G) (J := up2 J1 o 0 wv.toInt64) (n := xs (i + 1)) hG (h.hy ho1)
    have e9 := Sum.inl.inj ew
    subst e9
    rw [if_pos hc] at hb
    refine am_istore (q := 253) (ls1 := [_, _, _, _, _, _, _, _, _]) dL_law_251 (Nat.le_of_ble_eq_true rfl) rfl rfl ?_
    refine am_aload_n (q := 254) dL_law_253 rfl rfl ?_
    refine am_aload_n (q := 255) dL_law_254 rfl rfl ?_
    refine am_iload (q := 257) dL_law_255 rfl rfl ?_
    refine am_iconst (q := 258) (v := 1) dL_law_257 kc_i1 rfl ?_
    refine am_iadd (q := 259) dL_law_258 rfl ?_
    refine am_tint (q := 260) dL_law_259 (hsc) p1.1 (sc_va p1) rfl ?_
    refine cm_call0 (q := 263) (As := [_]) hG dL_law_260 mlL_84 rfl (by assumption) ⟨_, _, rfl⟩ (Nat.le_of_ble_eq_true rfl) (Nat.le_of_ble_eq_true rfl) (Nat.le_of_ble_eq_true rfl) (Nat.le_of_ble_eq_true rfl) hb rfl ?_
    rintro _ _ ⟨rfl, I2, R2, rfl, hy2, ht2, ho2⟩
    refine am_istore (q := 265) (ls1 := [_, _, _, _, _, _, _, _, _]) dL_law_263 (Nat.le_of_ble_eq_true rfl) rfl rfl ?_
    refine am_aload_n (q := 266) dL_law_265 rfl rfl ?_
    refine cm_call0 (q := 269) (As := []) hG dL_law_266 mlL_77 rfl (by assumption) ⟨_, _, rfl⟩ (Nat.le_of_ble_eq_true rfl) (Nat.le_of_ble_eq_true rfl) (Nat.le_of_ble_eq_true rfl) (Nat.le_of_ble_eq_true rfl) (k_X14_thrown ky) rfl ?_
    rintro _ _ ⟨rfl, rfl⟩
    rw [ht2]
    refine am_iload (q := 271) dL_law_269 rfl rfl ?_
    refine am_icmp_eq (tgt := 276) (q := 274) dL_law_271 rfl rfl (fun _ => ?_) (fun hz => absurd rfl hz)
    refine am_iload (q := 278) dL_law_276 rfl rfl ?_
    refine am_if_ne (tgt := 293) (q := 281) dL_law_278 rfl rfl (fun hz => absurd rfl hz) (fun _ => ?_)
    refine am_aload_n (q := 282) dL_law_281 rfl rfl ?_
    refine am_iconst (q := 283) (v := 0) dL_law_282 kc_i0 rfl ?_
    refine cm_laload (q := 284) dL_law_283 (by assumption) hp0 rfl ?_
    refine am_iload (q := 286) dL_law_284 rfl rfl ?_
    refine am_i2l (q := 287) dL_law_286 rfl ?_
    refine am_lcmp (q := 288) dL_law_287 rfl ?_
    refine am_if_eq (tgt := 293) (q := 291) dL_law_288 rfl rfl (fun _ => ?_) (fun hz => absurd lc_up hz)
    refine am_goto (tgt := 1317) dL_law_293 rfl ?_
    exact MW.forget LL_le (K _ _ _ _ _ (h.to hx1 hy2 ho2) (Nat.le_add_right _ _) (Nat.le_add_right _ _))
  · rw [if_neg hc] at hq
    have er : rv = 1 := hq.1
    have eM := hq.2
    subst er
    subst eM
    have hb := k_X14_trim (G := G) (J := J) (n := xs (i + 1)) hG h.yg
    rw [if_neg hc] at hb
    refine am_istore (q := 253) (ls1 := [_, _, _, _, _, _, _, _, _]) dL_law_251 (Nat.le_of_ble_eq_true rfl) rfl rfl ?_
    refine am_aload_n (q := 254) dL_law_253 rfl rfl ?_
    refine am_aload_n (q := 255) dL_law_254 rfl rfl ?_
    refine am_iload (q := 257) dL_law_255 rfl rfl ?_
    refine am_iconst (q := 258) (v := 1) dL_law_257 kc_i1 rfl ?_
    refine am_iadd (q := 259) dL_law_258 rfl ?_
    refine am_tint (q := 260) dL_law_259 (hsc) p1.1 (sc_va p1) rfl ?_
    refine cm_call0 (q := 263) (As := [_]) hG dL_law_260 mlL_84 rfl (by assumption) ⟨_, _, rfl⟩ (Nat.le_of_ble_eq_true rfl) (Nat.le_of_ble_eq_true rfl) (Nat.le_of_ble_eq_true rfl) (Nat.le_of_ble_eq_true rfl) hb rfl ?_
    rintro _ _ ⟨rfl, I2, R2, rfl, hy2, ht2, ho2⟩
    refine am_istore (q := 265) (ls1 := [_, _, _, _, _, _, _, _, _]) dL_law_263 (Nat.le_of_ble_eq_true rfl) rfl rfl ?_
    refine am_aload_n (q := 266) dL_law_265 rfl rfl ?_
    refine cm_call0 (q := 269) (As := []) hG dL_law_266 mlL_77 rfl (by assumption) ⟨_, _, rfl⟩ (Nat.le_of_ble_eq_true rfl) (Nat.le_of_ble_eq_true rfl) (Nat.le_of_ble_eq_true rfl) (Nat.le_of_ble_eq_true rfl) (k_X14_thrown ky) rfl ?_
    rintro _ _ ⟨rfl, rfl⟩
    rw [ht2]
    refine am_iload (q := 271) dL_law_269 rfl rfl ?_
    refine am_icmp_eq (tgt := 276) (q := 274) dL_law_271 rfl rfl (fun _ => ?_) (fun hz => absurd rfl hz)
    refine am_iload (q := 278) dL_law_276 rfl rfl ?_
    refine am_if_ne (tgt := 293) (q := 281) dL_law_278 rfl rfl (fun _ => ?_) (fun hz => absurd hz (by decide))
    refine am_goto (tgt := 1317) dL_law_293 rfl ?_
    exact MW.forget LL_le (K _ _ _ _ _ (h.tg hy2 ho2) (Nat.add_le_add_left (by decide : 1 ≤ 20) _) (Nat.add_le_add_left (by decide : 6 ≤ 200) _))
theorem kl_rail (hG : okG G) (hZ : KS G Z) (hX : KX G) (hst : G.l.stackTraces = false) (hsc : Sc G b L xs) (hi : i + 6 ≤ L) (hL : L ≤ 3072) (h : Inv S I J R x y o s) (K : ∀ S1 I1 J1 R1 s1, Inv S1 I1 J1 R1 x y o s1 → S1.hs ≤ S.hs + 20 → S1.sl ≤ S.sl + 200 → MW G mL_law 2046 1317 (LL b x y o (nI i)) [] (mw S1 I1 J1 R1) Q) : MW G mL_law 2046 378 (LL b x y o (nI i)) [] (mw S I J R) Q := by
  have kx := h.1.kx
  have ko := h.2.2.1
  have ky := h.2.1.ky
  have hp0 : vp_in 0 (S.ln o) := by
    rw [h.2.2.2.1]
    unfold vp_in
    decide
  have p1 := sc_in (v := 1) (k := 1) (L := L) (i := i) rfl (by decide) hi hL
  have p2 := sc_in (v := 2) (k := 2) (L := L) (i := i) rfl (by decide) hi hL
  refine am_aload_n (q := 379) dL_law_378 rfl rfl ?_
  refine am_aload_n (q := 380) dL_law_379 rfl rfl ?_
  refine am_iload (q := 382) dL_law_380 rfl rfl ?_
  refine am_iconst (q := 383) (v := 1) dL_law_382 kc_i1 rfl ?_
  refine am_iadd (q := 384) dL_law_383 rfl ?_
  refine am_tint (q := 385) dL_law_384 (hsc) p1.1 (sc_va p1) rfl ?_
  refine am_aload_n (q := 386) dL_law_385 rfl rfl ?_
  refine am_iload (q := 388) dL_law_386 rfl rfl ?_
  refine am_iconst (q := 389) (v := 2) dL_law_388 kc_i2 rfl ?_
  refine am_iadd (q := 390) dL_law_389 rfl ?_
  refine am_tint (q := 391) dL_law_390 (hsc) p2.1 (sc_va p2) rfl ?_
  refine am_aload_n (q := 392) dL_law_391 rfl rfl ?_
  obtain ⟨rv, M1, hm, hq⟩ := kh_rail (i := xs (i + 1)) (w := xs (i + 2)) hG hZ hX hst h.1 ko h.2.2.2.1
  refine am_callH (Yc := mL_rail) (n := 4) (As := [vR x, vI (xs (i + 1)), vI (xs (i + 2)), vR o]) (q := 395) hG dL_law_392 hwL_rail (tbc1 0 rfl rfl) ⟨by decide, by decide⟩ (by decide +kernel) (tbc4 231 rfl rfl) (tbc4 232 rfl rfl) (by decide) rfl (Nat.le_of_ble_eq_true rfl) (Nat.le_of_ble_eq_true rfl) hm rfl ?_
  by_cases hc : (0 ≤ (xs (i + 1)) ∧ (xs (i + 1)) < nI s.B.nR) ∧ 0 ≤ (xs (i + 2)) ∧ (xs (i + 2)) ≤ 4
  · rw [if_pos hc] at hq
    obtain ⟨er, wv, I1, J1, R1, ew, eM, hx1, ho1⟩ := hq
    subst er
    subst eM
    have hb := k_X14_rail (G := G) (J := up2 J1 o 0 wv.toInt64) (i := xs (i + 1)) (w := xs (i + 2)) hG (h.hy ho1)
    have e9 := Sum.inl.inj ew
    subst e9
    rw [if_pos hc] at hb
    refine am_istore (q := 397) (ls1 := [_, _, _, _, _, _, _, _, _]) dL_law_395 (Nat.le_of_ble_eq_true rfl) rfl rfl ?_
    refine am_aload_n (q := 398) dL_law_397 rfl rfl ?_
    refine am_aload_n (q := 399) dL_law_398 rfl rfl ?_
    refine am_iload (q := 401) dL_law_399 rfl rfl ?_
    refine am_iconst (q := 402) (v := 1) dL_law_401 kc_i1 rfl ?_
    refine am_iadd (q := 403) dL_law_402 rfl ?_
    refine am_tint (q := 404) dL_law_403 (hsc) p1.1 (sc_va p1) rfl ?_
    refine am_aload_n (q := 405) dL_law_404 rfl rfl ?_
    refine am_iload (q := 407) dL_law_405 rfl rfl ?_
    refine am_iconst (q := 408) (v := 2) dL_law_407 kc_i2 rfl ?_
    refine am_iadd (q := 409) dL_law_408 rfl ?_
    refine am_tint (q := 410) dL_law_409 (hsc) p2.1 (sc_va p2) rfl ?_
    refine cm_call0 (q := 413) (As := [_, _]) hG dL_law_410 mlL_99 rfl (by assumption) ⟨_, _, rfl⟩ (Nat.le_of_ble_eq_true rfl) (Nat.le_of_ble_eq_true rfl) (Nat.le_of_ble_eq_true rfl) (Nat.le_of_ble_eq_true rfl) hb rfl ?_
    rintro _ _ ⟨rfl, I2, R2, rfl, hy2, ht2, ho2⟩
    refine am_istore (q := 415) (ls1 := [_, _, _, _, _, _, _, _, _]) dL_law_413 (Nat.le_of_ble_eq_true rfl) rfl rfl ?_
    refine am_aload_n (q := 416) dL_law_415 rfl rfl ?_
    refine cm_call0 (q := 419) (As := []) hG dL_law_416 mlL_77 rfl (by assumption) ⟨_, _, rfl⟩ (Nat.le_of_ble_eq_true rfl) (Nat.le_of_ble_eq_true rfl) (Nat.le_of_ble_eq_true rfl) (Nat.le_of_ble_eq_true rfl) (k_X14_thrown ky) rfl ?_
    rintro _ _ ⟨rfl, rfl⟩
    rw [ht2]
    refine am_iload (q := 421) dL_law_419 rfl rfl ?_
    refine am_icmp_eq (tgt := 426) (q := 424) dL_law_421 rfl rfl (fun _ => ?_) (fun hz => absurd rfl hz)
    refine am_iload (q := 428) dL_law_426 rfl rfl ?_
    refine am_if_ne (tgt := 443) (q := 431) dL_law_428 rfl rfl (fun hz => absurd rfl hz) (fun _ => ?_)
    refine am_aload_n (q := 432) dL_law_431 rfl rfl ?_
    refine am_iconst (q := 433) (v := 0) dL_law_432 kc_i0 rfl ?_
    refine cm_laload (q := 434) dL_law_433 (by assumption) hp0 rfl ?_
    refine am_iload (q := 436) dL_law_434 rfl rfl ?_
    refine am_i2l (q := 437) dL_law_436 rfl ?_
    refine am_lcmp (q := 438) dL_law_437 rfl ?_
    refine am_if_eq (tgt := 443) (q := 441) dL_law_438 rfl rfl (fun _ => ?_) (fun hz => absurd lc_up hz)
    refine am_goto (tgt := 1317) dL_law_443 rfl ?_
    exact MW.forget LL_le (K _ _ _ _ _ (h.to hx1 hy2 ho2) (Nat.le_add_right _ _) (Nat.le_add_right _ _))
  · rw [if_neg hc] at hq
    have er : rv = 1 := hq.1
    have eM := hq.2
    subst er
    subst eM
    have hb := k_X14_rail (G := G) (J := J) (i := xs (i + 1)) (w := xs (i + 2)) hG h.yg
    rw [if_neg hc] at hb
    refine am_istore (q := 397) (ls1 := [_, _, _, _, _, _, _, _, _]) dL_law_395 (Nat.le_of_ble_eq_true rfl) rfl rfl ?_
    refine am_aload_n (q := 398) dL_law_397 rfl rfl ?_
    refine am_aload_n (q := 399) dL_law_398 rfl rfl ?_
    refine am_iload (q := 401) dL_law_399 rfl rfl ?_
    refine am_iconst (q := 402) (v := 1) dL_law_401 kc_i1 rfl ?_
    refine am_iadd (q := 403) dL_law_402 rfl ?_
    refine am_tint (q := 404) dL_law_403 (hsc) p1.1 (sc_va p1) rfl ?_
    refine am_aload_n (q := 405) dL_law_404 rfl rfl ?_
    refine am_iload (q := 407) dL_law_405 rfl rfl ?_
    refine am_iconst (q := 408) (v := 2) dL_law_407 kc_i2 rfl ?_
    refine am_iadd (q := 409) dL_law_408 rfl ?_
    refine am_tint (q := 410) dL_law_409 (hsc) p2.1 (sc_va p2) rfl ?_
    refine cm_call0 (q := 413) (As := [_, _]) hG dL_law_410 mlL_99 rfl (by assumption) ⟨_, _, rfl⟩ (Nat.le_of_ble_eq_true rfl) (Nat.le_of_ble_eq_true rfl) (Nat.le_of_ble_eq_true rfl) (Nat.le_of_ble_eq_true rfl) hb rfl ?_
    rintro _ _ ⟨rfl, I2, R2, rfl, hy2, ht2, ho2⟩
    refine am_istore (q := 415) (ls1 := [_, _, _, _, _, _, _, _, _]) dL_law_413 (Nat.le_of_ble_eq_true rfl) rfl rfl ?_
    refine am_aload_n (q := 416) dL_law_415 rfl rfl ?_
    refine cm_call0 (q := 419) (As := []) hG dL_law_416 mlL_77 rfl (by assumption) ⟨_, _, rfl⟩ (Nat.le_of_ble_eq_true rfl) (Nat.le_of_ble_eq_true rfl) (Nat.le_of_ble_eq_true rfl) (Nat.le_of_ble_eq_true rfl) (k_X14_thrown ky) rfl ?_
    rintro _ _ ⟨rfl, rfl⟩
    rw [ht2]
    refine am_iload (q := 421) dL_law_419 rfl rfl ?_
    refine am_icmp_eq (tgt := 426) (q := 424) dL_law_421 rfl rfl (fun _ => ?_) (fun hz => absurd rfl hz)
    refine am_iload (q := 428) dL_law_426 rfl rfl ?_
    refine am_if_ne (tgt := 443) (q := 431) dL_law_428 rfl rfl (fun _ => ?_) (fun hz => absurd hz (by decide))
    refine am_goto (tgt := 1317) dL_law_443 rfl ?_
    exact MW.forget LL_le (K _ _ _ _ _ (h.tg hy2 ho2) (Nat.add_le_add_left (by decide : 1 ≤ 20) _) (Nat.add_le_add_left (by decide : 6 ≤ 200) _))
theorem kl_fist (hG : okG G) (hZ : KS G Z) (hX : KX G) (hst : G.l.stackTraces = false) (hsc : Sc G b L xs) (hi : i + 6 ≤ L) (hL : L ≤ 3072) (h : Inv S I J R x y o s) (K : ∀ S1 I1 J1 R1 s1, Inv S1 I1 J1 R1 x y o s1 → S1.hs ≤ S.hs + 20 → S1.sl ≤ S.sl + 200 → MW G mL_law 2046 1317 (LL b x y o (nI i)) [] (mw S1 I1 J1 R1) Q) : MW G mL_law 2046 446 (LL b x y o (nI i)) [] (mw S I J R) Q := by
  have kx := h.1.kx
  have ko := h.2.2.1
  have ky := h.2.1.ky
  have hp0 : vp_in 0 (S.ln o) := by
    rw [h.2.2.2.1]
    unfold vp_in
    decide
  have p1 := sc_in (v := 1) (k := 1) (L := L) (i := i) rfl (by decide) hi hL
  have p2 := sc_in (v := 2) (k := 2) (L := L) (i := i) rfl (by decide) hi hL
  refine am_aload_n (q := 447) dL_law_446 rfl rfl ?_
  refine am_aload_n (q := 448) dL_law_447 rfl rfl ?_
  refine am_iload (q := 450) dL_law_448 rfl rfl ?_
  refine am_iconst (q := 451) (v := 1) dL_law_450 kc_i1 rfl ?_
  refine am_iadd (q := 452) dL_law_451 rfl ?_
  refine am_tint (q := 453) dL_law_452 (hsc) p1.1 (sc_va p1) rfl ?_
  refine am_aload_n (q := 454) dL_law_453 rfl rfl ?_
  refine am_iload (q := 456) dL_law_454 rfl rfl ?_
  refine am_iconst (q := 457) (v := 2) dL_law_456 kc_i2 rfl ?_
  refine am_iadd (q := 458) dL_law_457 rfl ?_
  refine am_tint (q := 459) dL_law_458 (hsc) p2.1 (sc_va p2) rfl ?_
  refine am_aload_n (q := 460) dL_law_459 rfl rfl ?_
  obtain ⟨rv, M1, hm, hq⟩ := kh_fist (i := xs (i + 1)) (w := xs (i + 2)) hG hZ hX hst h.1 ko h.2.2.2.1
  refine am_callH (Yc := mL_fist) (n := 4) (As := [vR x, vI (xs (i + 1)), vI (xs (i + 2)), vR o]) (q := 463) hG dL_law_460 hwL_fist (tbc1 0 rfl rfl) ⟨by decide, by decide⟩ (by decide +kernel) (tbc5 1 rfl rfl) (tbc5 2 rfl rfl) (by decide) rfl (Nat.le_of_ble_eq_true rfl) (Nat.le_of_ble_eq_true rfl) hm rfl ?_
  by_cases hc : (0 ≤ (xs (i + 1)) ∧ (xs (i + 1)) < nI s.B.nF) ∧ 0 ≤ (xs (i + 2)) ∧ (xs (i + 2)) ≤ 8
  · rw [if_pos hc] at hq
    obtain ⟨er, wv, I1, J1, R1, ew, eM, hx1, ho1⟩ := hq
    subst er
    subst eM
    have hb := k_X14_fist (G := G) (J := up2 J1 o 0 wv.toInt64) (i := xs (i + 1)) (w := xs (i + 2)) hG (h.hy ho1)
    have e9 := Sum.inl.inj ew
    subst e9
    rw [if_pos hc] at hb
    refine am_istore (q := 465) (ls1 := [_, _, _, _, _, _, _, _, _]) dL_law_463 (Nat.le_of_ble_eq_true rfl) rfl rfl ?_
    refine am_aload_n (q := 466) dL_law_465 rfl rfl ?_
    refine am_aload_n (q := 467) dL_law_466 rfl rfl ?_
    refine am_iload (q := 469) dL_law_467 rfl rfl ?_
    refine am_iconst (q := 470) (v := 1) dL_law_469 kc_i1 rfl ?_
    refine am_iadd (q := 471) dL_law_470 rfl ?_
    refine am_tint (q := 472) dL_law_471 (hsc) p1.1 (sc_va p1) rfl ?_
    refine am_aload_n (q := 473) dL_law_472 rfl rfl ?_
    refine am_iload (q := 475) dL_law_473 rfl rfl ?_
    refine am_iconst (q := 476) (v := 2) dL_law_475 kc_i2 rfl ?_
    refine am_iadd (q := 477) dL_law_476 rfl ?_
    refine am_tint (q := 478) dL_law_477 (hsc) p2.1 (sc_va p2) rfl ?_
    refine cm_call0 (q := 481) (As := [_, _]) hG dL_law_478 mlL_102 rfl (by assumption) ⟨_, _, rfl⟩ (Nat.le_of_ble_eq_true rfl) (Nat.le_of_ble_eq_true rfl) (Nat.le_of_ble_eq_true rfl) (Nat.le_of_ble_eq_true rfl) hb rfl ?_
    rintro _ _ ⟨rfl, I2, R2, rfl, hy2, ht2, ho2⟩
    refine am_istore (q := 483) (ls1 := [_, _, _, _, _, _, _, _, _]) dL_law_481 (Nat.le_of_ble_eq_true rfl) rfl rfl ?_
    refine am_aload_n (q := 484) dL_law_483 rfl rfl ?_
    refine cm_call0 (q := 487) (As := []) hG dL_law_484 mlL_77 rfl (by assumption) ⟨_, _, rfl⟩ (Nat.le_of_ble_eq_true rfl) (Nat.le_of_ble_eq_true rfl) (Nat.le_of_ble_eq_true rfl) (Nat.le_of_ble_eq_true rfl) (k_X14_thrown ky) rfl ?_
    rintro _ _ ⟨rfl, rfl⟩
    rw [ht2]
    refine am_iload (q := 489) dL_law_487 rfl rfl ?_
    refine am_icmp_eq (tgt := 494) (q := 492) dL_law_489 rfl rfl (fun _ => ?_) (fun hz => absurd rfl hz)
    refine am_iload (q := 496) dL_law_494 rfl rfl ?_
    refine am_if_ne (tgt := 511) (q := 499) dL_law_496 rfl rfl (fun hz => absurd rfl hz) (fun _ => ?_)
    refine am_aload_n (q := 500) dL_law_499 rfl rfl ?_
    refine am_iconst (q := 501) (v := 0) dL_law_500 kc_i0 rfl ?_
    refine cm_laload (q := 502) dL_law_501 (by assumption) hp0 rfl ?_
    refine am_iload (q := 504) dL_law_502 rfl rfl ?_
    refine am_i2l (q := 505) dL_law_504 rfl ?_
    refine am_lcmp (q := 506) dL_law_505 rfl ?_
    refine am_if_eq (tgt := 511) (q := 509) dL_law_506 rfl rfl (fun _ => ?_) (fun hz => absurd lc_up hz)
    refine am_goto (tgt := 1317) dL_law_511 rfl ?_
    exact MW.forget LL_le (K _ _ _ _ _ (h.to hx1 hy2 ho2) (Nat.le_add_right _ _) (Nat.le_add_right _ _))
  · rw [if_neg hc] at hq
    have er : rv = 1 := hq.1
    have eM := hq.2
    subst er
    subst eM
    have hb := k_X14_fist (G := G) (J := J) (i := xs (i + 1)) (w := xs (i + 2)) hG h.yg
    rw [if_neg hc] at hb
    refine am_istore (q := 465) (ls1 := [_, _, _, _, _, _, _, _, _]) dL_law_463 (Nat.le_of_ble_eq_true rfl) rfl rfl ?_
    refine am_aload_n (q := 466) dL_law_465 rfl rfl ?_
    refine am_aload_n (q := 467) dL_law_466 rfl rfl ?_
    refine am_iload (q := 469) dL_law_467 rfl rfl ?_
    refine am_iconst (q := 470) (v := 1) dL_law_469 kc_i1 rfl ?_
    refine am_iadd (q := 471) dL_law_470 rfl ?_
    refine am_tint (q := 472) dL_law_471 (hsc) p1.1 (sc_va p1) rfl ?_
    refine am_aload_n (q := 473) dL_law_472 rfl rfl ?_
    refine am_iload (q := 475) dL_law_473 rfl rfl ?_
    refine am_iconst (q := 476) (v := 2) dL_law_475 kc_i2 rfl ?_
    refine am_iadd (q := 477) dL_law_476 rfl ?_
    refine am_tint (q := 478) dL_law_477 (hsc) p2.1 (sc_va p2) rfl ?_
    refine cm_call0 (q := 481) (As := [_, _]) hG dL_law_478 mlL_102 rfl (by assumption) ⟨_, _, rfl⟩ (Nat.le_of_ble_eq_true rfl) (Nat.le_of_ble_eq_true rfl) (Nat.le_of_ble_eq_true rfl) (Nat.le_of_ble_eq_true rfl) hb rfl ?_
    rintro _ _ ⟨rfl, I2, R2, rfl, hy2, ht2, ho2⟩
    refine am_istore (q := 483) (ls1 := [_, _, _, _, _, _, _, _, _]) dL_law_481 (Nat.le_of_ble_eq_true rfl) rfl rfl ?_
    refine am_aload_n (q := 484) dL_law_483 rfl rfl ?_
    refine cm_call0 (q := 487) (As := []) hG dL_law_484 mlL_77 rfl (by assumption) ⟨_, _, rfl⟩ (Nat.le_of_ble_eq_true rfl) (Nat.le_of_ble_eq_true rfl) (Nat.le_of_ble_eq_true rfl) (Nat.le_of_ble_eq_true rfl) (k_X14_thrown ky) rfl ?_
    rintro _ _ ⟨rfl, rfl⟩
    rw [ht2]
    refine am_iload (q := 489) dL_law_487 rfl rfl ?_
    refine am_icmp_eq (tgt := 494) (q := 492) dL_law_489 rfl rfl (fun _ => ?_) (fun hz => absurd rfl hz)
    refine am_iload (q := 496) dL_law_494 rfl rfl ?_
    refine am_if_ne (tgt := 511) (q := 499) dL_law_496 rfl rfl (fun _ => ?_) (fun hz => absurd hz (by decide))
    refine am_goto (tgt := 1317) dL_law_511 rfl ?_
    exact MW.forget LL_le (K _ _ _ _ _ (h.tg hy2 ho2) (Nat.add_le_add_left (by decide : 1 ≤ 20) _) (Nat.add_le_add_left (by decide : 6 ≤ 200) _))
theorem kl_prize (hG : okG G) (hZ : KS G Z) (hX : KX G) (hst : G.l.stackTraces = false) (hsc : Sc G b L xs) (hi : i + 6 ≤ L) (hL : L ≤ 3072) (h : Inv S I J R x y o s) (K : ∀ S1 I1 J1 R1 s1, Inv S1 I1 J1 R1 x y o s1 → S1.hs ≤ S.hs + 20 → S1.sl ≤ S.sl + 200 → MW G mL_law 2046 1317 (LL b x y o (nI i)) [] (mw S1 I1 J1 R1) Q) : MW G mL_law 2046 514 (LL b x y o (nI i)) [] (mw S I J R) Q := by
  have kx := h.1.kx
  have ko := h.2.2.1
  have ky := h.2.1.ky
  have hp0 : vp_in 0 (S.ln o) := by
    rw [h.2.2.2.1]
    unfold vp_in
    decide
  have p1 := sc_in (v := 1) (k := 1) (L := L) (i := i) rfl (by decide) hi hL
  have p2 := sc_in (v := 2) (k := 2) (L := L) (i := i) rfl (by decide) hi hL
  refine am_aload_n (q := 515) dL_law_514 rfl rfl ?_
  refine am_aload_n (q := 516) dL_law_515 rfl rfl ?_
  refine am_iload (q := 518) dL_law_516 rfl rfl ?_
  refine am_iconst (q := 519) (v := 1) dL_law_518 kc_i1 rfl ?_
  refine am_iadd (q := 520) dL_law_519 rfl ?_
  refine am_tint (q := 521) dL_law_520 (hsc) p1.1 (sc_va p1) rfl ?_
  refine am_aload_n (q := 522) dL_law_521 rfl rfl ?_
  refine am_iload (q := 524) dL_law_522 rfl rfl ?_
  refine am_iconst (q := 525) (v := 2) dL_law_524 kc_i2 rfl ?_
  refine am_iadd (q := 526) dL_law_525 rfl ?_
  refine am_tint (q := 527) dL_law_526 (hsc) p2.1 (sc_va p2) rfl ?_
  refine am_aload_n (q := 528) dL_law_527 rfl rfl ?_
  obtain ⟨rv, M1, hm, hq⟩ := kh_prize (i := xs (i + 1)) (w := xs (i + 2)) hG hZ hX hst h.1 ko h.2.2.2.1
  refine am_callH (Yc := mL_prize) (n := 4) (As := [vR x, vI (xs (i + 1)), vI (xs (i + 2)), vR o]) (q := 531) hG dL_law_528 hwL_prize (tbc1 0 rfl rfl) ⟨by decide, by decide⟩ (by decide +kernel) (tbc5 11 rfl rfl) (tbc5 12 rfl rfl) (by decide) rfl (Nat.le_of_ble_eq_true rfl) (Nat.le_of_ble_eq_true rfl) hm rfl ?_
  by_cases hc : (0 ≤ (xs (i + 1)) ∧ (xs (i + 1)) < nI s.B.nP) ∧ 0 ≤ (xs (i + 2)) ∧ (xs (i + 2)) ≤ 3
  · rw [if_pos hc] at hq
    obtain ⟨er, wv, I1, J1, R1, ew, eM, hx1, ho1⟩ := hq
    subst er
    subst eM
    have hb := k_X14_prize (G := G) (J := up2 J1 o 0 wv.toInt64) (i := xs (i + 1)) (w := xs (i + 2)) hG (h.hy ho1)
    have e9 := Sum.inl.inj ew
    subst e9
    rw [if_pos hc] at hb
    refine am_istore (q := 533) (ls1 := [_, _, _, _, _, _, _, _, _]) dL_law_531 (Nat.le_of_ble_eq_true rfl) rfl rfl ?_
    refine am_aload_n (q := 534) dL_law_533 rfl rfl ?_
    refine am_aload_n (q := 535) dL_law_534 rfl rfl ?_
    refine am_iload (q := 537) dL_law_535 rfl rfl ?_
    refine am_iconst (q := 538) (v := 1) dL_law_537 kc_i1 rfl ?_
    refine am_iadd (q := 539) dL_law_538 rfl ?_
    refine am_tint (q := 540) dL_law_539 (hsc) p1.1 (sc_va p1) rfl ?_
    refine am_aload_n (q := 541) dL_law_540 rfl rfl ?_
    refine am_iload (q := 543) dL_law_541 rfl rfl ?_
    refine am_iconst (q := 544) (v := 2) dL_law_543 kc_i2 rfl ?_
    refine am_iadd (q := 545) dL_law_544 rfl ?_
    refine am_tint (q := 546) dL_law_545 (hsc) p2.1 (sc_va p2) rfl ?_
    refine cm_call0 (q := 549) (As := [_, _]) hG dL_law_546 mlL_105 rfl (by assumption) ⟨_, _, rfl⟩ (Nat.le_of_ble_eq_true rfl) (Nat.le_of_ble_eq_true rfl) (Nat.le_of_ble_eq_true rfl) (Nat.le_of_ble_eq_true rfl) hb rfl ?_
    rintro _ _ ⟨rfl, I2, R2, rfl, hy2, ht2, ho2⟩
    refine am_istore (q := 551) (ls1 := [_, _, _, _, _, _, _, _, _]) dL_law_549 (Nat.le_of_ble_eq_true rfl) rfl rfl ?_
    refine am_aload_n (q := 552) dL_law_551 rfl rfl ?_
    refine cm_call0 (q := 555) (As := []) hG dL_law_552 mlL_77 rfl (by assumption) ⟨_, _, rfl⟩ (Nat.le_of_ble_eq_true rfl) (Nat.le_of_ble_eq_true rfl) (Nat.le_of_ble_eq_true rfl) (Nat.le_of_ble_eq_true rfl) (k_X14_thrown ky) rfl ?_
    rintro _ _ ⟨rfl, rfl⟩
    rw [ht2]
    refine am_iload (q := 557) dL_law_555 rfl rfl ?_
    refine am_icmp_eq (tgt := 562) (q := 560) dL_law_557 rfl rfl (fun _ => ?_) (fun hz => absurd rfl hz)
    refine am_iload (q := 564) dL_law_562 rfl rfl ?_
    refine am_if_ne (tgt := 579) (q := 567) dL_law_564 rfl rfl (fun hz => absurd rfl hz) (fun _ => ?_)
    refine am_aload_n (q := 568) dL_law_567 rfl rfl ?_
    refine am_iconst (q := 569) (v := 0) dL_law_568 kc_i0 rfl ?_
    refine cm_laload (q := 570) dL_law_569 (by assumption) hp0 rfl ?_
    refine am_iload (q := 572) dL_law_570 rfl rfl ?_
    refine am_i2l (q := 573) dL_law_572 rfl ?_
    refine am_lcmp (q := 574) dL_law_573 rfl ?_
    refine am_if_eq (tgt := 579) (q := 577) dL_law_574 rfl rfl (fun _ => ?_) (fun hz => absurd lc_up hz)
    refine am_goto (tgt := 1317) dL_law_579 rfl ?_
    exact MW.forget LL_le (K _ _ _ _ _ (h.to hx1 hy2 ho2) (Nat.le_add_right _ _) (Nat.le_add_right _ _))
  · rw [if_neg hc] at hq
    have er : rv = 1 := hq.1
    have eM := hq.2
    subst er
    subst eM
    have hb := k_X14_prize (G := G) (J := J) (i := xs (i + 1)) (w := xs (i + 2)) hG h.yg
    rw [if_neg hc] at hb
    refine am_istore (q := 533) (ls1 := [_, _, _, _, _, _, _, _, _]) dL_law_531 (Nat.le_of_ble_eq_true rfl) rfl rfl ?_
    refine am_aload_n (q := 534) dL_law_533 rfl rfl ?_
    refine am_aload_n (q := 535) dL_law_534 rfl rfl ?_
    refine am_iload (q := 537) dL_law_535 rfl rfl ?_
    refine am_iconst (q := 538) (v := 1) dL_law_537 kc_i1 rfl ?_
    refine am_iadd (q := 539) dL_law_538 rfl ?_
    refine am_tint (q := 540) dL_law_539 (hsc) p1.1 (sc_va p1) rfl ?_
    refine am_aload_n (q := 541) dL_law_540 rfl rfl ?_
    refine am_iload (q := 543) dL_law_541 rfl rfl ?_
    refine am_iconst (q := 544) (v := 2) dL_law_543 kc_i2 rfl ?_
    refine am_iadd (q := 545) dL_law_544 rfl ?_
    refine am_tint (q := 546) dL_law_545 (hsc) p2.1 (sc_va p2) rfl ?_
    refine cm_call0 (q := 549) (As := [_, _]) hG dL_law_546 mlL_105 rfl (by assumption) ⟨_, _, rfl⟩ (Nat.le_of_ble_eq_true rfl) (Nat.le_of_ble_eq_true rfl) (Nat.le_of_ble_eq_true rfl) (Nat.le_of_ble_eq_true rfl) hb rfl ?_
    rintro _ _ ⟨rfl, I2, R2, rfl, hy2, ht2, ho2⟩
    refine am_istore (q := 551) (ls1 := [_, _, _, _, _, _, _, _, _]) dL_law_549 (Nat.le_of_ble_eq_true rfl) rfl rfl ?_
    refine am_aload_n (q := 552) dL_law_551 rfl rfl ?_
    refine cm_call0 (q := 555) (As := []) hG dL_law_552 mlL_77 rfl (by assumption) ⟨_, _, rfl⟩ (Nat.le_of_ble_eq_true rfl) (Nat.le_of_ble_eq_true rfl) (Nat.le_of_ble_eq_true rfl) (Nat.le_of_ble_eq_true rfl) (k_X14_thrown ky) rfl ?_
    rintro _ _ ⟨rfl, rfl⟩
    rw [ht2]
    refine am_iload (q := 557) dL_law_555 rfl rfl ?_
    refine am_icmp_eq (tgt := 562) (q := 560) dL_law_557 rfl rfl (fun _ => ?_) (fun hz => absurd rfl hz)
    refine am_iload (q := 564) dL_law_562 rfl rfl ?_
    refine am_if_ne (tgt := 579) (q := 567) dL_law_564 rfl rfl (fun _ => ?_) (fun hz => absurd hz (by decide))
    refine am_goto (tgt := 1317) dL_law_579 rfl ?_
    exact MW.forget LL_le (K _ _ _ _ _ (h.tg hy2 ho2) (Nat.add_le_add_left (by decide : 1 ≤ 20) _) (Nat.add_le_add_left (by decide : 6 ≤ 200) _))
theorem kl_turn (hG : okG G) (hZ : KS G Z) (hX : KX G) (hst : G.l.stackTraces = false) (hsc : Sc G b L xs) (hi : i + 6 ≤ L) (hL : L ≤ 3072) (h : Inv S I J R x y o s) (K : ∀ S1 I1 J1 R1 s1, Inv S1 I1 J1 R1 x y o s1 → S1.hs ≤ S.hs + 20 → S1.sl ≤ S.sl + 200 → MW G mL_law 2046 1317 (LL b x y o (nI i)) [] (mw S1 I1 J1 R1) Q) : MW G mL_law 2046 582 (LL b x y o (nI i)) [] (mw S I J R) Q := by
  have kx := h.1.kx
  have ko := h.2.2.1
  have ky := h.2.1.ky
  have hp0 : vp_in 0 (S.ln o) := by
    rw [h.2.2.2.1]
    unfold vp_in
    decide
  have p1 := sc_in (v := 1) (k := 1) (L := L) (i := i) rfl (by decide) hi hL
  have p2 := sc_in (v := 2) (k := 2) (L := L) (i := i) rfl (by decide) hi hL
  refine am_aload_n (q := 583) dL_law_582 rfl rfl ?_
  refine am_aload_n (q := 584) dL_law_583 rfl rfl ?_
  refine am_iload (q := 586) dL_law_584 rfl rfl ?_
  refine am_iconst (q := 587) (v := 1) dL_law_586 kc_i1 rfl ?_
  refine am_iadd (q := 588) dL_law_587 rfl ?_
  refine am_tint (q := 589) dL_law_588 (hsc) p1.1 (sc_va p1) rfl ?_
  refine am_aload_n (q := 590) dL_law_589 rfl rfl ?_
  refine am_iload (q := 592) dL_law_590 rfl rfl ?_
  refine am_iconst (q := 593) (v := 2) dL_law_592 kc_i2 rfl ?_
  refine am_iadd (q := 594) dL_law_593 rfl ?_
  refine am_tint (q := 595) dL_law_594 (hsc) p2.1 (sc_va p2) rfl ?_
  refine am_aload_n (q := 596) dL_law_595 rfl rfl ?_
  obtain ⟨rv, M1, hm, hq⟩ := kh_turn (i := xs (i + 1)) (w := xs (i + 2)) hG hZ hX hst h.1 ko h.2.2.2.1
  refine am_callH (Yc := mL_turn) (n := 4) (As := [vR x, vI (xs (i + 1)), vI (xs (i + 2)), vR o]) (q := 599) hG dL_law_596 hwL_turn (tbc1 0 rfl rfl) ⟨by decide, by decide⟩ (by decide +kernel) (tbc5 21 rfl rfl) (tbc5 22 rfl rfl) (by decide) rfl (Nat.le_of_ble_eq_true rfl) (Nat.le_of_ble_eq_true rfl) hm rfl ?_
  by_cases hc : (0 ≤ (xs (i + 1)) ∧ (xs (i + 1)) < nI s.B.nT) ∧ 0 ≤ (xs (i + 2)) ∧ (xs (i + 2)) ≤ 3
  · rw [if_pos hc] at hq
    obtain ⟨er, wv, I1, J1, R1, ew, eM, hx1, ho1⟩ := hq
    subst er
    subst eM
    have hb := k_X14_turn (G := G) (J := up2 J1 o 0 wv.toInt64) (i := xs (i + 1)) (w := xs (i + 2)) hG (h.hy ho1)
    have e9 := Sum.inl.inj ew
    subst e9
    rw [if_pos hc] at hb
    refine am_istore (q := 601) (ls1 := [_, _, _, _, _, _, _, _, _]) dL_law_599 (Nat.le_of_ble_eq_true rfl) rfl rfl ?_
    refine am_aload_n (q := 602) dL_law_601 rfl rfl ?_
    refine am_aload_n (q := 603) dL_law_602 rfl rfl ?_
    refine am_iload (q := 605) dL_law_603 rfl rfl ?_
    refine am_iconst (q := 606) (v := 1) dL_law_605 kc_i1 rfl ?_
    refine am_iadd (q := 607) dL_law_606 rfl ?_
    refine am_tint (q := 608) dL_law_607 (hsc) p1.1 (sc_va p1) rfl ?_
    refine am_aload_n (q := 609) dL_law_608 rfl rfl ?_
    refine am_iload (q := 611) dL_law_609 rfl rfl ?_
    refine am_iconst (q := 612) (v := 2) dL_law_611 kc_i2 rfl ?_
    refine am_iadd (q := 613) dL_law_612 rfl ?_
    refine am_tint (q := 614) dL_law_613 (hsc) p2.1 (sc_va p2) rfl ?_
    refine cm_call0 (q := 617) (As := [_, _]) hG dL_law_614 mlL_108 rfl (by assumption) ⟨_, _, rfl⟩ (Nat.le_of_ble_eq_true rfl) (Nat.le_of_ble_eq_true rfl) (Nat.le_of_ble_eq_true rfl) (Nat.le_of_ble_eq_true rfl) hb rfl ?_
    rintro _ _ ⟨rfl, I2, R2, rfl, hy2, ht2, ho2⟩
    refine am_istore (q := 619) (ls1 := [_, _, _, _, _, _, _, _, _]) dL_law_617 (Nat.le_of_ble_eq_true rfl) rfl rfl ?_
    refine am_aload_n (q := 620) dL_law_619 rfl rfl ?_
    refine cm_call0 (q := 623) (As := []) hG dL_law_620 mlL_77 rfl (by assumption) ⟨_, _, rfl⟩ (Nat.le_of_ble_eq_true rfl) (Nat.le_of_ble_eq_true rfl) (Nat.le_of_ble_eq_true rfl) (Nat.le_of_ble_eq_true rfl) (k_X14_thrown ky) rfl ?_
    rintro _ _ ⟨rfl, rfl⟩
    rw [ht2]
    refine am_iload (q := 625) dL_law_623 rfl rfl ?_
    refine am_icmp_eq (tgt := 630) (q := 628) dL_law_625 rfl rfl (fun _ => ?_) (fun hz => absurd rfl hz)
    refine am_iload (q := 632) dL_law_630 rfl rfl ?_
    refine am_if_ne (tgt := 647) (q := 635) dL_law_632 rfl rfl (fun hz => absurd rfl hz) (fun _ => ?_)
    refine am_aload_n (q := 636) dL_law_635 rfl rfl ?_
    refine am_iconst (q := 637) (v := 0) dL_law_636 kc_i0 rfl ?_
    refine cm_laload (q := 638) dL_law_637 (by assumption) hp0 rfl ?_
    refine am_iload (q := 640) dL_law_638 rfl rfl ?_
    refine am_i2l (q := 641) dL_law_640 rfl ?_
    refine am_lcmp (q := 642) dL_law_641 rfl ?_
    refine am_if_eq (tgt := 647) (q := 645) dL_law_642 rfl rfl (fun _ => ?_) (fun hz => absurd lc_up hz)
    refine am_goto (tgt := 1317) dL_law_647 rfl ?_
    exact MW.forget LL_le (K _ _ _ _ _ (h.to hx1 hy2 ho2) (Nat.le_add_right _ _) (Nat.le_add_right _ _))
  · rw [if_neg hc] at hq
    have er : rv = 1 := hq.1
    have eM := hq.2
    subst er
    subst eM
    have hb := k_X14_turn (G := G) (J := J) (i := xs (i + 1)) (w := xs (i + 2)) hG h.yg
    rw [if_neg hc] at hb
    refine am_istore (q := 601) (ls1 := [_, _, _, _, _, _, _, _, _]) dL_law_599 (Nat.le_of_ble_eq_true rfl) rfl rfl ?_
    refine am_aload_n (q := 602) dL_law_601 rfl rfl ?_
    refine am_aload_n (q := 603) dL_law_602 rfl rfl ?_
    refine am_iload (q := 605) dL_law_603 rfl rfl ?_
    refine am_iconst (q := 606) (v := 1) dL_law_605 kc_i1 rfl ?_
    refine am_iadd (q := 607) dL_law_606 rfl ?_
    refine am_tint (q := 608) dL_law_607 (hsc) p1.1 (sc_va p1) rfl ?_
    refine am_aload_n (q := 609) dL_law_608 rfl rfl ?_
    refine am_iload (q := 611) dL_law_609 rfl rfl ?_
    refine am_iconst (q := 612) (v := 2) dL_law_611 kc_i2 rfl ?_
    refine am_iadd (q := 613) dL_law_612 rfl ?_
    refine am_tint (q := 614) dL_law_613 (hsc) p2.1 (sc_va p2) rfl ?_
    refine cm_call0 (q := 617) (As := [_, _]) hG dL_law_614 mlL_108 rfl (by assumption) ⟨_, _, rfl⟩ (Nat.le_of_ble_eq_true rfl) (Nat.le_of_ble_eq_true rfl) (Nat.le_of_ble_eq_true rfl) (Nat.le_of_ble_eq_true rfl) hb rfl ?_
    rintro _ _ ⟨rfl, I2, R2, rfl, hy2, ht2, ho2⟩
    refine am_istore (q := 619) (ls1 := [_, _, _, _, _, _, _, _, _]) dL_law_617 (Nat.le_of_ble_eq_true rfl) rfl rfl ?_
    refine am_aload_n (q := 620) dL_law_619 rfl rfl ?_
    refine cm_call0 (q := 623) (As := []) hG dL_law_620 mlL_77 rfl (by assumption) ⟨_, _, rfl⟩ (Nat.le_of_ble_eq_true rfl) (Nat.le_of_ble_eq_true rfl) (Nat.le_of_ble_eq_true rfl) (Nat.le_of_ble_eq_true rfl) (k_X14_thrown ky) rfl ?_
    rintro _ _ ⟨rfl, rfl⟩
    rw [ht2]
    refine am_iload (q := 625) dL_law_623 rfl rfl ?_
    refine am_icmp_eq (tgt := 630) (q := 628) dL_law_625 rfl rfl (fun _ => ?_) (fun hz => absurd rfl hz)
    refine am_iload (q := 632) dL_law_630 rfl rfl ?_
    refine am_if_ne (tgt := 647) (q := 635) dL_law_632 rfl rfl (fun _ => ?_) (fun hz => absurd hz (by decide))
    refine am_goto (tgt := 1317) dL_law_647 rfl ?_
    exact MW.forget LL_le (K _ _ _ _ _ (h.tg hy2 ho2) (Nat.add_le_add_left (by decide : 1 ≤ 20) _) (Nat.add_le_add_left (by decide : 6 ≤ 200) _))
theorem kl_board (hG : okG G) (hZ : KS G Z) (hX : KX G) (hst : G.l.stackTraces = false) (hsc : Sc G b L xs) (hi : i + 6 ≤ L) (hL : L ≤ 3072) (h : Inv S I J R x y o s) (K : ∀ S1 I1 J1 R1 s1, Inv S1 I1 J1 R1 x y o s1 → S1.hs ≤ S.hs + 20 → S1.sl ≤ S.sl + 200 → MW G mL_law 2046 1317 (LL b x y o (nI i)) [] (mw S1 I1 J1 R1) Q) : MW G mL_law 2046 650 (LL b x y o (nI i)) [] (mw S I J R) Q := by
  have kx := h.1.kx
  have ko := h.2.2.1
  have ky := h.2.1.ky
  have hp0 : vp_in 0 (S.ln o) := by
    rw [h.2.2.2.1]
    unfold vp_in
    decide
  have p1 := sc_in (v := 1) (k := 1) (L := L) (i := i) rfl (by decide) hi hL
  refine am_aload_n (q := 651) dL_law_650 rfl rfl ?_
  refine am_aload_n (q := 652) dL_law_651 rfl rfl ?_
  refine am_iload (q := 654) dL_law_652 rfl rfl ?_
  refine am_iconst (q := 655) (v := 1) dL_law_654 kc_i1 rfl ?_
  refine am_iadd (q := 656) dL_law_655 rfl ?_
  refine am_tint (q := 657) dL_law_656 (hsc) p1.1 (sc_va p1) rfl ?_
  refine am_aload_n (q := 658) dL_law_657 rfl rfl ?_
  obtain ⟨rv, M1, hm, hq⟩ := kh_board (i := xs (i + 1)) hG hZ hX hst h.1 ko h.2.2.2.1
  refine am_callH (Yc := mL_board) (n := 3) (As := [vR x, vI (xs (i + 1)), vR o]) (q := 661) hG dL_law_658 hwL_board (tbc1 0 rfl rfl) ⟨by decide, by decide⟩ (by decide +kernel) (tbc5 31 rfl rfl) (tbc5 32 rfl rfl) (by decide) rfl (Nat.le_of_ble_eq_true rfl) (Nat.le_of_ble_eq_true rfl) hm rfl ?_
  by_cases hc : 0 ≤ (xs (i + 1)) ∧ (xs (i + 1)) < nI s.m.nb
  · rw [if_pos hc] at hq
    obtain ⟨er, wv, I1, J1, R1, ew, eM, hx1, ho1⟩ := hq
    subst er
    subst eM
    have hb := k_X14_board (G := G) (J := up2 J1 o 0 wv.toInt64) (i := xs (i + 1)) hG (h.hy ho1)
    have e9 := Sum.inl.inj ew
    subst e9
    rw [if_pos hc] at hb
    refine am_istore (q := 663) (ls1 := [_, _, _, _, _, _, _, _, _]) dL_law_661 (Nat.le_of_ble_eq_true rfl) rfl rfl ?_
    refine am_aload_n (q := 664) dL_law_663 rfl rfl ?_
    refine am_aload_n (q := 665) dL_law_664 rfl rfl ?_
    refine am_iload (q := 667) dL_law_665 rfl rfl ?_
    refine am_iconst (q := 668) (v := 1) dL_law_667 kc_i1 rfl ?_
    refine am_iadd (q := 669) dL_law_668 rfl ?_
    refine am_tint (q := 670) dL_law_669 (hsc) p1.1 (sc_va p1) rfl ?_
    refine cm_call0 (q := 673) (As := [_]) hG dL_law_670 mlL_111 rfl (by assumption) ⟨_, _, rfl⟩ (Nat.le_of_ble_eq_true rfl) (Nat.le_of_ble_eq_true rfl) (Nat.le_of_ble_eq_true rfl) (Nat.le_of_ble_eq_true rfl) hb rfl ?_
    rintro _ _ ⟨rfl, I2, R2, rfl, hy2, ht2, ho2⟩
    refine am_istore (q := 675) (ls1 := [_, _, _, _, _, _, _, _, _]) dL_law_673 (Nat.le_of_ble_eq_true rfl) rfl rfl ?_
    refine am_aload_n (q := 676) dL_law_675 rfl rfl ?_
    refine cm_call0 (q := 679) (As := []) hG dL_law_676 mlL_77 rfl (by assumption) ⟨_, _, rfl⟩ (Nat.le_of_ble_eq_true rfl) (Nat.le_of_ble_eq_true rfl) (Nat.le_of_ble_eq_true rfl) (Nat.le_of_ble_eq_true rfl) (k_X14_thrown ky) rfl ?_
    rintro _ _ ⟨rfl, rfl⟩
    rw [ht2]
    refine am_iload (q := 681) dL_law_679 rfl rfl ?_
    refine am_icmp_eq (tgt := 686) (q := 684) dL_law_681 rfl rfl (fun _ => ?_) (fun hz => absurd rfl hz)
    refine am_iload (q := 688) dL_law_686 rfl rfl ?_
    refine am_if_ne (tgt := 703) (q := 691) dL_law_688 rfl rfl (fun hz => absurd rfl hz) (fun _ => ?_)
    refine am_aload_n (q := 692) dL_law_691 rfl rfl ?_
    refine am_iconst (q := 693) (v := 0) dL_law_692 kc_i0 rfl ?_
    refine cm_laload (q := 694) dL_law_693 (by assumption) hp0 rfl ?_
    refine am_iload (q := 696) dL_law_694 rfl rfl ?_
    refine am_i2l (q := 697) dL_law_696 rfl ?_
    refine am_lcmp (q := 698) dL_law_697 rfl ?_
    refine am_if_eq (tgt := 703) (q := 701) dL_law_698 rfl rfl (fun _ => ?_) (fun hz => absurd lc_up hz)
    refine am_goto (tgt := 1317) dL_law_703 rfl ?_
    exact MW.forget LL_le (K _ _ _ _ _ (h.to hx1 hy2 ho2) (Nat.le_add_right _ _) (Nat.le_add_right _ _))
  · rw [if_neg hc] at hq
    have er : rv = 1 := hq.1
    have eM := hq.2
    subst er
    subst eM
    have hb := k_X14_board (G := G) (J := J) (i := xs (i + 1)) hG h.yg
    rw [if_neg hc] at hb
    refine am_istore (q := 663) (ls1 := [_, _, _, _, _, _, _, _, _]) dL_law_661 (Nat.le_of_ble_eq_true rfl) rfl rfl ?_
    refine am_aload_n (q := 664) dL_law_663 rfl rfl ?_
    refine am_aload_n (q := 665) dL_law_664 rfl rfl ?_
    refine am_iload (q := 667) dL_law_665 rfl rfl ?_
    refine am_iconst (q := 668) (v := 1) dL_law_667 kc_i1 rfl ?_
    refine am_iadd (q := 669) dL_law_668 rfl ?_
    refine am_tint (q := 670) dL_law_669 (hsc) p1.1 (sc_va p1) rfl ?_
    refine cm_call0 (q := 673) (As := [_]) hG dL_law_670 mlL_111 rfl (by assumption) ⟨_, _, rfl⟩ (Nat.le_of_ble_eq_true rfl) (Nat.le_of_ble_eq_true rfl) (Nat.le_of_ble_eq_true rfl) (Nat.le_of_ble_eq_true rfl) hb rfl ?_
    rintro _ _ ⟨rfl, I2, R2, rfl, hy2, ht2, ho2⟩
    refine am_istore (q := 675) (ls1 := [_, _, _, _, _, _, _, _, _]) dL_law_673 (Nat.le_of_ble_eq_true rfl) rfl rfl ?_
    refine am_aload_n (q := 676) dL_law_675 rfl rfl ?_
    refine cm_call0 (q := 679) (As := []) hG dL_law_676 mlL_77 rfl (by assumption) ⟨_, _, rfl⟩ (Nat.le_of_ble_eq_true rfl) (Nat.le_of_ble_eq_true rfl) (Nat.le_of_ble_eq_true rfl) (Nat.le_of_ble_eq_true rfl) (k_X14_thrown ky) rfl ?_
    rintro _ _ ⟨rfl, rfl⟩
    rw [ht2]
    refine am_iload (q := 681) dL_law_679 rfl rfl ?_
    refine am_icmp_eq (tgt := 686) (q := 684) dL_law_681 rfl rfl (fun _ => ?_) (fun hz => absurd rfl hz)
    refine am_iload (q := 688) dL_law_686 rfl rfl ?_
    refine am_if_ne (tgt := 703) (q := 691) dL_law_688 rfl rfl (fun _ => ?_) (fun hz => absurd hz (by decide))
    refine am_goto (tgt := 1317) dL_law_703 rfl ?_
    exact MW.forget LL_le (K _ _ _ _ _ (h.tg hy2 ho2) (Nat.add_le_add_left (by decide : 1 ≤ 20) _) (Nat.add_le_add_left (by decide : 6 ≤ 200) _))
theorem kl_strike (hG : okG G) (hZ : KS G Z) (hX : KX G) (hst : G.l.stackTraces = false) (hsc : Sc G b L xs) (hi : i + 6 ≤ L) (hL : L ≤ 3072) (h : Inv S I J R x y o s) (K : ∀ S1 I1 J1 R1 s1, Inv S1 I1 J1 R1 x y o s1 → S1.hs ≤ S.hs + 20 → S1.sl ≤ S.sl + 200 → MW G mL_law 2046 1317 (LL b x y o (nI i)) [] (mw S1 I1 J1 R1) Q) : MW G mL_law 2046 706 (LL b x y o (nI i)) [] (mw S I J R) Q := by
  have kx := h.1.kx
  have ko := h.2.2.1
  have ky := h.2.1.ky
  have hp0 : vp_in 0 (S.ln o) := by
    rw [h.2.2.2.1]
    unfold vp_in
    decide
  have p1 := sc_in (v := 1) (k := 1) (L := L) (i := i) rfl (by decide) hi hL
  have p2 := sc_in (v := 2) (k := 2) (L := L) (i := i) rfl (by decide) hi hL
  refine am_aload_n (q := 707) dL_law_706 rfl rfl ?_
  refine am_aload_n (q := 708) dL_law_707 rfl rfl ?_
  refine am_iload (q := 710) dL_law_708 rfl rfl ?_
  refine am_iconst (q := 711) (v := 1) dL_law_710 kc_i1 rfl ?_
  refine am_iadd (q := 712) dL_law_711 rfl ?_
  refine am_tint (q := 713) dL_law_712 (hsc) p1.1 (sc_va p1) rfl ?_
  refine am_aload_n (q := 714) dL_law_713 rfl rfl ?_
  refine am_iload (q := 716) dL_law_714 rfl rfl ?_
  refine am_iconst (q := 717) (v := 2) dL_law_716 kc_i2 rfl ?_
  refine am_iadd (q := 718) dL_law_717 rfl ?_
  refine am_tint (q := 719) dL_law_718 (hsc) p2.1 (sc_va p2) rfl ?_
  refine am_aload_n (q := 720) dL_law_719 rfl rfl ?_
  obtain ⟨rv, M1, hm, hq⟩ := kh_strike (i := xs (i + 1)) (k := xs (i + 2)) hG hZ hX hst h.1 ko h.2.2.2.1
  refine am_callH (Yc := mL_strike) (n := 4) (As := [vR x, vI (xs (i + 1)), vI (xs (i + 2)), vR o]) (q := 723) hG dL_law_720 hwL_strike (tbc1 0 rfl rfl) ⟨by decide, by decide⟩ (by decide +kernel) (tbc5 41 rfl rfl) (tbc5 42 rfl rfl) (by decide) rfl (Nat.le_of_ble_eq_true rfl) (Nat.le_of_ble_eq_true rfl) hm rfl ?_
  by_cases hc : (0 ≤ (xs (i + 1)) ∧ (xs (i + 1)) < nI s.B.nF) ∧ 0 ≤ (xs (i + 2)) ∧ (xs (i + 2)) < nI s.B.nR
  · rw [if_pos hc] at hq
    obtain ⟨er, wv, I1, J1, R1, ew, eM, hx1, ho1⟩ := hq
    subst er
    subst eM
    have hb := k_X14_strike_ (G := G) (J := up2 J1 o 0 wv.toInt64) (i := xs (i + 1)) (k := xs (i + 2)) hG (h.hy ho1)
    have e9 := Sum.inl.inj ew
    subst e9
    rw [if_pos hc] at hb
    refine am_istore (q := 725) (ls1 := [_, _, _, _, _, _, _, _, _]) dL_law_723 (Nat.le_of_ble_eq_true rfl) rfl rfl ?_
    refine am_aload_n (q := 726) dL_law_725 rfl rfl ?_
    refine am_aload_n (q := 727) dL_law_726 rfl rfl ?_
    refine am_iload (q := 729) dL_law_727 rfl rfl ?_
    refine am_iconst (q := 730) (v := 1) dL_law_729 kc_i1 rfl ?_
    refine am_iadd (q := 731) dL_law_730 rfl ?_
    refine am_tint (q := 732) dL_law_731 (hsc) p1.1 (sc_va p1) rfl ?_
    refine am_aload_n (q := 733) dL_law_732 rfl rfl ?_
    refine am_iload (q := 735) dL_law_733 rfl rfl ?_
    refine am_iconst (q := 736) (v := 2) dL_law_735 kc_i2 rfl ?_
    refine am_iadd (q := 737) dL_law_736 rfl ?_
    refine am_tint (q := 738) dL_law_737 (hsc) p2.1 (sc_va p2) rfl ?_
    refine cm_call0 (q := 741) (As := [_, _]) hG dL_law_738 mlL_114 rfl (by assumption) ⟨_, _, rfl⟩ (Nat.le_of_ble_eq_true rfl) (Nat.le_of_ble_eq_true rfl) (Nat.le_of_ble_eq_true rfl) (Nat.le_of_ble_eq_true rfl) hb rfl ?_
    rintro _ _ ⟨rfl, I2, R2, rfl, hy2, ht2, ho2⟩
    refine am_istore (q := 743) (ls1 := [_, _, _, _, _, _, _, _, _]) dL_law_741 (Nat.le_of_ble_eq_true rfl) rfl rfl ?_
    refine am_aload_n (q := 744) dL_law_743 rfl rfl ?_
    refine cm_call0 (q := 747) (As := []) hG dL_law_744 mlL_77 rfl (by assumption) ⟨_, _, rfl⟩ (Nat.le_of_ble_eq_true rfl) (Nat.le_of_ble_eq_true rfl) (Nat.le_of_ble_eq_true rfl) (Nat.le_of_ble_eq_true rfl) (k_X14_thrown ky) rfl ?_
    rintro _ _ ⟨rfl, rfl⟩
    rw [ht2]
    refine am_iload (q := 749) dL_law_747 rfl rfl ?_
    refine am_icmp_eq (tgt := 754) (q := 752) dL_law_749 rfl rfl (fun _ => ?_) (fun hz => absurd rfl hz)
    refine am_iload (q := 756) dL_law_754 rfl rfl ?_
    refine am_if_ne (tgt := 771) (q := 759) dL_law_756 rfl rfl (fun hz => absurd rfl hz) (fun _ => ?_)
    refine am_aload_n (q := 760) dL_law_759 rfl rfl ?_
    refine am_iconst (q := 761) (v := 0) dL_law_760 kc_i0 rfl ?_
    refine cm_laload (q := 762) dL_law_761 (by assumption) hp0 rfl ?_
    refine am_iload (q := 764) dL_law_762 rfl rfl ?_
    refine am_i2l (q := 765) dL_law_764 rfl ?_
    refine am_lcmp (q := 766) dL_law_765 rfl ?_
    refine am_if_eq (tgt := 771) (q := 769) dL_law_766 rfl rfl (fun _ => ?_) (fun hz => absurd lc_up hz)
    refine am_goto (tgt := 1317) dL_law_771 rfl ?_
    exact MW.forget LL_le (K _ _ _ _ _ (h.to hx1 hy2 ho2) (Nat.le_add_right _ _) (Nat.le_add_right _ _))
  · rw [if_neg hc] at hq
    have er : rv = 1 := hq.1
    have eM := hq.2
    subst er
    subst eM
    have hb := k_X14_strike_ (G := G) (J := J) (i := xs (i + 1)) (k := xs (i + 2)) hG h.yg
    rw [if_neg hc] at hb
    refine am_istore (q := 725) (ls1 := [_, _, _, _, _, _, _, _, _]) dL_law_723 (Nat.le_of_ble_eq_true rfl) rfl rfl ?_
    refine am_aload_n (q := 726) dL_law_725 rfl rfl ?_
    refine am_aload_n (q := 727) dL_law_726 rfl rfl ?_
    refine am_iload (q := 729) dL_law_727 rfl rfl ?_
    refine am_iconst (q := 730) (v := 1) dL_law_729 kc_i1 rfl ?_
    refine am_iadd (q := 731) dL_law_730 rfl ?_
    refine am_tint (q := 732) dL_law_731 (hsc) p1.1 (sc_va p1) rfl ?_
    refine am_aload_n (q := 733) dL_law_732 rfl rfl ?_
    refine am_iload (q := 735) dL_law_733 rfl rfl ?_
    refine am_iconst (q := 736) (v := 2) dL_law_735 kc_i2 rfl ?_
    refine am_iadd (q := 737) dL_law_736 rfl ?_
    refine am_tint (q := 738) dL_law_737 (hsc) p2.1 (sc_va p2) rfl ?_
    refine cm_call0 (q := 741) (As := [_, _]) hG dL_law_738 mlL_114 rfl (by assumption) ⟨_, _, rfl⟩ (Nat.le_of_ble_eq_true rfl) (Nat.le_of_ble_eq_true rfl) (Nat.le_of_ble_eq_true rfl) (Nat.le_of_ble_eq_true rfl) hb rfl ?_
    rintro _ _ ⟨rfl, I2, R2, rfl, hy2, ht2, ho2⟩
    refine am_istore (q := 743) (ls1 := [_, _, _, _, _, _, _, _, _]) dL_law_741 (Nat.le_of_ble_eq_true rfl) rfl rfl ?_
    refine am_aload_n (q := 744) dL_law_743 rfl rfl ?_
    refine cm_call0 (q := 747) (As := []) hG dL_law_744 mlL_77 rfl (by assumption) ⟨_, _, rfl⟩ (Nat.le_of_ble_eq_true rfl) (Nat.le_of_ble_eq_true rfl) (Nat.le_of_ble_eq_true rfl) (Nat.le_of_ble_eq_true rfl) (k_X14_thrown ky) rfl ?_
    rintro _ _ ⟨rfl, rfl⟩
    rw [ht2]
    refine am_iload (q := 749) dL_law_747 rfl rfl ?_
    refine am_icmp_eq (tgt := 754) (q := 752) dL_law_749 rfl rfl (fun _ => ?_) (fun hz => absurd rfl hz)
    refine am_iload (q := 756) dL_law_754 rfl rfl ?_
    refine am_if_ne (tgt := 771) (q := 759) dL_law_756 rfl rfl (fun _ => ?_) (fun hz => absurd hz (by decide))
    refine am_goto (tgt := 1317) dL_law_771 rfl ?_
    exact MW.forget LL_le (K _ _ _ _ _ (h.tg hy2 ho2) (Nat.add_le_add_left (by decide : 1 ≤ 20) _) (Nat.add_le_add_left (by decide : 6 ≤ 200) _))
theorem kl_wind (hG : okG G) (hZ : KS G Z) (hX : KX G) (hst : G.l.stackTraces = false) (hsc : Sc G b L xs) (hi : i + 6 ≤ L) (hL : L ≤ 3072) (h : Inv S I J R x y o s) (K : ∀ S1 I1 J1 R1 s1, Inv S1 I1 J1 R1 x y o s1 → S1.hs ≤ S.hs + 20 → S1.sl ≤ S.sl + 200 → MW G mL_law 2046 1317 (LL b x y o (nI i)) [] (mw S1 I1 J1 R1) Q) : MW G mL_law 2046 774 (LL b x y o (nI i)) [] (mw S I J R) Q := by
  have kx := h.1.kx
  have ko := h.2.2.1
  have ky := h.2.1.ky
  have hp0 : vp_in 0 (S.ln o) := by
    rw [h.2.2.2.1]
    unfold vp_in
    decide
  have p1 := sc_in (v := 1) (k := 1) (L := L) (i := i) rfl (by decide) hi hL
  have p2 := sc_in (v := 2) (k := 2) (L := L) (i := i) rfl (by decide) hi hL
  refine am_aload_n (q := 775) dL_law_774 rfl rfl ?_
  refine am_aload_n (q := 776) dL_law_775 rfl rfl ?_
  refine am_iload (q := 778) dL_law_776 rfl rfl ?_
  refine am_iconst (q := 779) (v := 1) dL_law_778 kc_i1 rfl ?_
  refine am_iadd (q := 780) dL_law_779 rfl ?_
  refine am_tint (q := 781) dL_law_780 (hsc) p1.1 (sc_va p1) rfl ?_
  refine am_aload_n (q := 782) dL_law_781 rfl rfl ?_
  refine am_iload (q := 784) dL_law_782 rfl rfl ?_
  refine am_iconst (q := 785) (v := 2) dL_law_784 kc_i2 rfl ?_
  refine am_iadd (q := 786) dL_law_785 rfl ?_
  refine am_tint (q := 787) dL_law_786 (hsc) p2.1 (sc_va p2) rfl ?_
  refine am_aload_n (q := 788) dL_law_787 rfl rfl ?_
  obtain ⟨rv, M1, hm, hq⟩ := kh_wind (k := xs (i + 1)) (v := xs (i + 2)) hG hZ hX hst h.1 ko h.2.2.2.1
  refine am_callH (Yc := mL_wind) (n := 4) (As := [vR x, vI (xs (i + 1)), vI (xs (i + 2)), vR o]) (q := 791) hG dL_law_788 hwL_wind (tbc1 0 rfl rfl) ⟨by decide, by decide⟩ (by decide +kernel) (tbc5 77 rfl rfl) (tbc5 78 rfl rfl) (by decide) rfl (Nat.le_of_ble_eq_true rfl) (Nat.le_of_ble_eq_true rfl) hm rfl ?_
  by_cases hc : 0 ≤ (xs (i + 1)) ∧ (xs (i + 1)) < nI s.B.nR
  · rw [if_pos hc] at hq
    by_cases hd : 0 ≤ (xs (i + 2)) ∧ (xs (i + 2)) ≤ 20
    · rw [if_pos hd] at hq
      obtain ⟨er, wv, I1, J1, R1, ew, eM, hx1, ho1⟩ := hq
      subst er
      subst eM
      have hb := k_X14_wind (G := G) (J := up2 J1 o 0 wv.toInt64) (k := xs (i + 1)) (v := xs (i + 2)) hG (h.hy ho1)
      have e9 := Sum.inl.inj ew
      subst e9
      rw [if_pos hc, if_pos hd] at hb
      refine am_istore (q := 793) (ls1 := [_, _, _, _, _, _, _, _, _]) dL_law_791 (Nat.le_of_ble_eq_true rfl) rfl rfl ?_
      refine am_aload_n (q := 794) dL_law_793 rfl rfl ?_
      refine am_aload_n (q := 795) dL_law_794 rfl rfl ?_
      refine am_iload (q := 797) dL_law_795 rfl rfl ?_
      refine am_iconst (q := 798) (v := 1) dL_law_797 kc_i1 rfl ?_
      refine am_iadd (q := 799) dL_law_798 rfl ?_
      refine am_tint (q := 800) dL_law_799 (hsc) p1.1 (sc_va p1) rfl ?_
      refine am_aload_n (q := 801) dL_law_800 rfl rfl ?_
      refine am_iload (q := 803) dL_law_801 rfl rfl ?_
      refine am_iconst (q := 804) (v := 2) dL_law_803 kc_i2 rfl ?_
      refine am_iadd (q := 805) dL_law_804 rfl ?_
      refine am_tint (q := 806) dL_law_805 (hsc) p2.1 (sc_va p2) rfl ?_
      refine cm_call0 (q := 809) (As := [_, _]) hG dL_law_806 mlL_117 rfl (by assumption) ⟨_, _, rfl⟩ (Nat.le_of_ble_eq_true rfl) (Nat.le_of_ble_eq_true rfl) (Nat.le_of_ble_eq_true rfl) (Nat.le_of_ble_eq_true rfl) hb rfl ?_
      rintro _ _ ⟨rfl, I2, R2, rfl, hy2, ht2, ho2⟩
      refine am_istore (q := 811) (ls1 := [_, _, _, _, _, _, _, _, _]) dL_law_809 (Nat.le_of_ble_eq_true rfl) rfl rfl ?_
      refine am_aload_n (q := 812) dL_law_811 rfl rfl ?_
      refine cm_call0 (q := 815) (As := []) hG dL_law_812 mlL_77 rfl (by assumption) ⟨_, _, rfl⟩ (Nat.le_of_ble_eq_true rfl) (Nat.le_of_ble_eq_true rfl) (Nat.le_of_ble_eq_true rfl) (Nat.le_of_ble_eq_true rfl) (k_X14_thrown ky) rfl ?_
      rintro _ _ ⟨rfl, rfl⟩
      rw [ht2]
      refine am_iload (q := 817) dL_law_815 rfl rfl ?_
      refine am_icmp_eq (tgt := 822) (q := 820) dL_law_817 rfl rfl (fun _ => ?_) (fun hz => absurd rfl hz)
      refine am_iload (q := 824) dL_law_822 rfl rfl ?_
      refine am_if_ne (tgt := 839) (q := 827) dL_law_824 rfl rfl (fun hz => absurd rfl hz) (fun _ => ?_)
      refine am_aload_n (q := 828) dL_law_827 rfl rfl ?_
      refine am_iconst (q := 829) (v := 0) dL_law_828 kc_i0 rfl ?_
      refine cm_laload (q := 830) dL_law_829 (by assumption) hp0 rfl ?_
      refine am_iload (q := 832) dL_law_830 rfl rfl ?_
      refine am_i2l (q := 833) dL_law_832 rfl ?_
      refine am_lcmp (q := 834) dL_law_833 rfl ?_
      refine am_if_eq (tgt := 839) (q := 837) dL_law_834 rfl rfl (fun _ => ?_) (fun hz => absurd lc_up hz)
      refine am_goto (tgt := 1317) dL_law_839 rfl ?_
      exact MW.forget LL_le (K _ _ _ _ _ (h.to hx1 hy2 ho2) (Nat.le_add_right _ _) (Nat.le_add_right _ _))
    · rw [if_neg hd] at hq
      have er : rv = 2 := hq.1
      have eM := hq.2
      subst er
      subst eM
      have hb := k_X14_wind (G := G) (J := J) (k := xs (i + 1)) (v := xs (i + 2)) hG h.yg
      rw [if_pos hc, if_neg hd] at hb
      refine am_istore (q := 793) (ls1 := [_, _, _, _, _, _, _, _, _]) dL_law_791 (Nat.le_of_ble_eq_true rfl) rfl rfl ?_
      refine am_aload_n (q := 794) dL_law_793 rfl rfl ?_
      refine am_aload_n (q := 795) dL_law_794 rfl rfl ?_
      refine am_iload (q := 797) dL_law_795 rfl rfl ?_
      refine am_iconst (q := 798) (v := 1) dL_law_797 kc_i1 rfl ?_
      refine am_iadd (q := 799) dL_law_798 rfl ?_
      refine am_tint (q := 800) dL_law_799 (hsc) p1.1 (sc_va p1) rfl ?_
      refine am_aload_n (q := 801) dL_law_800 rfl rfl ?_
      refine am_iload (q := 803) dL_law_801 rfl rfl ?_
      refine am_iconst (q := 804) (v := 2) dL_law_803 kc_i2 rfl ?_
      refine am_iadd (q := 805) dL_law_804 rfl ?_
      refine am_tint (q := 806) dL_law_805 (hsc) p2.1 (sc_va p2) rfl ?_
      refine cm_call0 (q := 809) (As := [_, _]) hG dL_law_806 mlL_117 rfl (by assumption) ⟨_, _, rfl⟩ (Nat.le_of_ble_eq_true rfl) (Nat.le_of_ble_eq_true rfl) (Nat.le_of_ble_eq_true rfl) (Nat.le_of_ble_eq_true rfl) hb rfl ?_
      rintro _ _ ⟨rfl, I2, R2, rfl, hy2, ht2, ho2⟩
      refine am_istore (q := 811) (ls1 := [_, _, _, _, _, _, _, _, _]) dL_law_809 (Nat.le_of_ble_eq_true rfl) rfl rfl ?_
      refine am_aload_n (q := 812) dL_law_811 rfl rfl ?_
      refine cm_call0 (q := 815) (As := []) hG dL_law_812 mlL_77 rfl (by assumption) ⟨_, _, rfl⟩ (Nat.le_of_ble_eq_true rfl) (Nat.le_of_ble_eq_true rfl) (Nat.le_of_ble_eq_true rfl) (Nat.le_of_ble_eq_true rfl) (k_X14_thrown ky) rfl ?_
      rintro _ _ ⟨rfl, rfl⟩
      rw [ht2]
      refine am_iload (q := 817) dL_law_815 rfl rfl ?_
      refine am_icmp_eq (tgt := 822) (q := 820) dL_law_817 rfl rfl (fun _ => ?_) (fun hz => absurd rfl hz)
      refine am_iload (q := 824) dL_law_822 rfl rfl ?_
      refine am_if_ne (tgt := 839) (q := 827) dL_law_824 rfl rfl (fun _ => ?_) (fun hz => absurd hz (by decide))
      refine am_goto (tgt := 1317) dL_law_839 rfl ?_
      exact MW.forget LL_le (K _ _ _ _ _ (h.tg hy2 ho2) (Nat.add_le_add_left (by decide : 1 ≤ 20) _) (Nat.add_le_add_left (by decide : 6 ≤ 200) _))
  · rw [if_neg hc] at hq
    have er : rv = 1 := hq.1
    have eM := hq.2
    subst er
    subst eM
    have hb := k_X14_wind (G := G) (J := J) (k := xs (i + 1)) (v := xs (i + 2)) hG h.yg
    rw [if_neg hc] at hb
    refine am_istore (q := 793) (ls1 := [_, _, _, _, _, _, _, _, _]) dL_law_791 (Nat.le_of_ble_eq_true rfl) rfl rfl ?_
    refine am_aload_n (q := 794) dL_law_793 rfl rfl ?_
    refine am_aload_n (q := 795) dL_law_794 rfl rfl ?_
    refine am_iload (q := 797) dL_law_795 rfl rfl ?_
    refine am_iconst (q := 798) (v := 1) dL_law_797 kc_i1 rfl ?_
    refine am_iadd (q := 799) dL_law_798 rfl ?_
    refine am_tint (q := 800) dL_law_799 (hsc) p1.1 (sc_va p1) rfl ?_
    refine am_aload_n (q := 801) dL_law_800 rfl rfl ?_
    refine am_iload (q := 803) dL_law_801 rfl rfl ?_
    refine am_iconst (q := 804) (v := 2) dL_law_803 kc_i2 rfl ?_
    refine am_iadd (q := 805) dL_law_804 rfl ?_
    refine am_tint (q := 806) dL_law_805 (hsc) p2.1 (sc_va p2) rfl ?_
    refine cm_call0 (q := 809) (As := [_, _]) hG dL_law_806 mlL_117 rfl (by assumption) ⟨_, _, rfl⟩ (Nat.le_of_ble_eq_true rfl) (Nat.le_of_ble_eq_true rfl) (Nat.le_of_ble_eq_true rfl) (Nat.le_of_ble_eq_true rfl) hb rfl ?_
    rintro _ _ ⟨rfl, I2, R2, rfl, hy2, ht2, ho2⟩
    refine am_istore (q := 811) (ls1 := [_, _, _, _, _, _, _, _, _]) dL_law_809 (Nat.le_of_ble_eq_true rfl) rfl rfl ?_
    refine am_aload_n (q := 812) dL_law_811 rfl rfl ?_
    refine cm_call0 (q := 815) (As := []) hG dL_law_812 mlL_77 rfl (by assumption) ⟨_, _, rfl⟩ (Nat.le_of_ble_eq_true rfl) (Nat.le_of_ble_eq_true rfl) (Nat.le_of_ble_eq_true rfl) (Nat.le_of_ble_eq_true rfl) (k_X14_thrown ky) rfl ?_
    rintro _ _ ⟨rfl, rfl⟩
    rw [ht2]
    refine am_iload (q := 817) dL_law_815 rfl rfl ?_
    refine am_icmp_eq (tgt := 822) (q := 820) dL_law_817 rfl rfl (fun _ => ?_) (fun hz => absurd rfl hz)
    refine am_iload (q := 824) dL_law_822 rfl rfl ?_
    refine am_if_ne (tgt := 839) (q := 827) dL_law_824 rfl rfl (fun _ => ?_) (fun hz => absurd hz (by decide))
    refine am_goto (tgt := 1317) dL_law_839 rfl ?_
    exact MW.forget LL_le (K _ _ _ _ _ (h.tg hy2 ho2) (Nat.add_le_add_left (by decide : 1 ≤ 20) _) (Nat.add_le_add_left (by decide : 6 ≤ 200) _))
theorem kl_pass (hG : okG G) (hZ : KS G Z) (hX : KX G) (hst : G.l.stackTraces = false) (hsc : Sc G b L xs) (hi : i + 6 ≤ L) (hL : L ≤ 3072) (h : Inv S I J R x y o s) (K : ∀ S1 I1 J1 R1 s1, Inv S1 I1 J1 R1 x y o s1 → S1.hs ≤ S.hs + 20 → S1.sl ≤ S.sl + 200 → MW G mL_law 2046 1317 (LL b x y o (nI i)) [] (mw S1 I1 J1 R1) Q) : MW G mL_law 2046 842 (LL b x y o (nI i)) [] (mw S I J R) Q := by
  have kx := h.1.kx
  have ko := h.2.2.1
  have ky := h.2.1.ky
  have hp0 : vp_in 0 (S.ln o) := by
    rw [h.2.2.2.1]
    unfold vp_in
    decide
  have p1 := sc_in (v := 1) (k := 1) (L := L) (i := i) rfl (by decide) hi hL
  refine am_aload_n (q := 843) dL_law_842 rfl rfl ?_
  refine am_aload_n (q := 844) dL_law_843 rfl rfl ?_
  refine am_iload (q := 846) dL_law_844 rfl rfl ?_
  refine am_iconst (q := 847) (v := 1) dL_law_846 kc_i1 rfl ?_
  refine am_iadd (q := 848) dL_law_847 rfl ?_
  refine am_tint (q := 849) dL_law_848 (hsc) p1.1 (sc_va p1) rfl ?_
  refine am_aload_n (q := 850) dL_law_849 rfl rfl ?_
  obtain ⟨rv, M1, hm, hq⟩ := kh_pass (n := xs (i + 1)) hG hZ hX hst h.1 ko h.2.2.2.1
  refine am_callH (Yc := mL_pass) (n := 3) (As := [vR x, vI (xs (i + 1)), vR o]) (q := 853) hG dL_law_850 hwL_pass (tbc1 0 rfl rfl) ⟨by decide, by decide⟩ (by decide +kernel) (tbc5 90 rfl rfl) (tbc5 91 rfl rfl) (by decide) rfl (Nat.le_of_ble_eq_true rfl) (Nat.le_of_ble_eq_true rfl) hm rfl ?_
  by_cases hc : 1 ≤ (xs (i + 1)) ∧ (xs (i + 1)) ≤ 30
  · rw [if_pos hc] at hq
    obtain ⟨er, wv, I1, J1, R1, ew, eM, hx1, ho1⟩ := hq
    subst er
    subst eM
    have hb := k_X14_pass (G := G) (J := up2 J1 o 0 wv.toInt64) (n := xs (i + 1)) hG (h.hy ho1)
    have e9 := Sum.inl.inj ew
    subst e9
    rw [if_pos hc] at hb
    refine am_istore (q := 855) (ls1 := [_, _, _, _, _, _, _, _, _]) dL_law_853 (Nat.le_of_ble_eq_true rfl) rfl rfl ?_
    refine am_aload_n (q := 856) dL_law_855 rfl rfl ?_
    refine am_aload_n (q := 857) dL_law_856 rfl rfl ?_
    refine am_iload (q := 859) dL_law_857 rfl rfl ?_
    refine am_iconst (q := 860) (v := 1) dL_law_859 kc_i1 rfl ?_
    refine am_iadd (q := 861) dL_law_860 rfl ?_
    refine am_tint (q := 862) dL_law_861 (hsc) p1.1 (sc_va p1) rfl ?_
    refine cm_call0 (q := 865) (As := [_]) hG dL_law_862 mlL_120 rfl (by assumption) ⟨_, _, rfl⟩ (Nat.le_of_ble_eq_true rfl) (Nat.le_of_ble_eq_true rfl) (Nat.le_of_ble_eq_true rfl) (Nat.le_of_ble_eq_true rfl) hb rfl ?_
    rintro _ _ ⟨rfl, I2, R2, rfl, hy2, ht2, ho2⟩
    refine am_istore (q := 867) (ls1 := [_, _, _, _, _, _, _, _, _]) dL_law_865 (Nat.le_of_ble_eq_true rfl) rfl rfl ?_
    refine am_aload_n (q := 868) dL_law_867 rfl rfl ?_
    refine cm_call0 (q := 871) (As := []) hG dL_law_868 mlL_77 rfl (by assumption) ⟨_, _, rfl⟩ (Nat.le_of_ble_eq_true rfl) (Nat.le_of_ble_eq_true rfl) (Nat.le_of_ble_eq_true rfl) (Nat.le_of_ble_eq_true rfl) (k_X14_thrown ky) rfl ?_
    rintro _ _ ⟨rfl, rfl⟩
    rw [ht2]
    refine am_iload (q := 873) dL_law_871 rfl rfl ?_
    refine am_icmp_eq (tgt := 878) (q := 876) dL_law_873 rfl rfl (fun _ => ?_) (fun hz => absurd rfl hz)
    refine am_iload (q := 880) dL_law_878 rfl rfl ?_
    refine am_if_ne (tgt := 895) (q := 883) dL_law_880 rfl rfl (fun hz => absurd rfl hz) (fun _ => ?_)
    refine am_aload_n (q := 884) dL_law_883 rfl rfl ?_
    refine am_iconst (q := 885) (v := 0) dL_law_884 kc_i0 rfl ?_
    refine cm_laload (q := 886) dL_law_885 (by assumption) hp0 rfl ?_
    refine am_iload (q := 888) dL_law_886 rfl rfl ?_
    refine am_i2l (q := 889) dL_law_888 rfl ?_
    refine am_lcmp (q := 890) dL_law_889 rfl ?_
    refine am_if_eq (tgt := 895) (q := 893) dL_law_890 rfl rfl (fun _ => ?_) (fun hz => absurd lc_up hz)
    refine am_goto (tgt := 1317) dL_law_895 rfl ?_
    exact MW.forget LL_le (K _ _ _ _ _ (h.to hx1 hy2 ho2) (Nat.le_add_right _ _) (Nat.le_add_right _ _))
  · rw [if_neg hc] at hq
    have er : rv = 1 := hq.1
    have eM := hq.2
    subst er
    subst eM
    have hb := k_X14_pass (G := G) (J := J) (n := xs (i + 1)) hG h.yg
    rw [if_neg hc] at hb
    refine am_istore (q := 855) (ls1 := [_, _, _, _, _, _, _, _, _]) dL_law_853 (Nat.le_of_ble_eq_true rfl) rfl rfl ?_
    refine am_aload_n (q := 856) dL_law_855 rfl rfl ?_
    refine am_aload_n (q := 857) dL_law_856 rfl rfl ?_
    refine am_iload (q := 859) dL_law_857 rfl rfl ?_
    refine am_iconst (q := 860) (v := 1) dL_law_859 kc_i1 rfl ?_
    refine am_iadd (q := 861) dL_law_860 rfl ?_
    refine am_tint (q := 862) dL_law_861 (hsc) p1.1 (sc_va p1) rfl ?_
    refine cm_call0 (q := 865) (As := [_]) hG dL_law_862 mlL_120 rfl (by assumption) ⟨_, _, rfl⟩ (Nat.le_of_ble_eq_true rfl) (Nat.le_of_ble_eq_true rfl) (Nat.le_of_ble_eq_true rfl) (Nat.le_of_ble_eq_true rfl) hb rfl ?_
    rintro _ _ ⟨rfl, I2, R2, rfl, hy2, ht2, ho2⟩
    refine am_istore (q := 867) (ls1 := [_, _, _, _, _, _, _, _, _]) dL_law_865 (Nat.le_of_ble_eq_true rfl) rfl rfl ?_
    refine am_aload_n (q := 868) dL_law_867 rfl rfl ?_
    refine cm_call0 (q := 871) (As := []) hG dL_law_868 mlL_77 rfl (by assumption) ⟨_, _, rfl⟩ (Nat.le_of_ble_eq_true rfl) (Nat.le_of_ble_eq_true rfl) (Nat.le_of_ble_eq_true rfl) (Nat.le_of_ble_eq_true rfl) (k_X14_thrown ky) rfl ?_
    rintro _ _ ⟨rfl, rfl⟩
    rw [ht2]
    refine am_iload (q := 873) dL_law_871 rfl rfl ?_
    refine am_icmp_eq (tgt := 878) (q := 876) dL_law_873 rfl rfl (fun _ => ?_) (fun hz => absurd rfl hz)
    refine am_iload (q := 880) dL_law_878 rfl rfl ?_
    refine am_if_ne (tgt := 895) (q := 883) dL_law_880 rfl rfl (fun _ => ?_) (fun hz => absurd hz (by decide))
    refine am_goto (tgt := 1317) dL_law_895 rfl ?_
    exact MW.forget LL_le (K _ _ _ _ _ (h.tg hy2 ho2) (Nat.add_le_add_left (by decide : 1 ≤ 20) _) (Nat.add_le_add_left (by decide : 6 ≤ 200) _))
theorem kl_would (hG : okG G) (hZ : KS G Z) (hX : KX G) (hst : G.l.stackTraces = false) (hsc : Sc G b L xs) (hi : i + 6 ≤ L) (hL : L ≤ 3072) (h : Inv S I J R x y o s) (K : ∀ S1 I1 J1 R1 s1, Inv S1 I1 J1 R1 x y o s1 → S1.hs ≤ S.hs + 20 → S1.sl ≤ S.sl + 200 → MW G mL_law 2046 1317 (LL b x y o (nI i)) [] (mw S1 I1 J1 R1) Q) : MW G mL_law 2046 898 (LL b x y o (nI i)) [] (mw S I J R) Q := by
  have kx := h.1.kx
  have ko := h.2.2.1
  have ky := h.2.1.ky
  have hp0 : vp_in 0 (S.ln o) := by
    rw [h.2.2.2.1]
    unfold vp_in
    decide
  have p1 := sc_in (v := 1) (k := 1) (L := L) (i := i) rfl (by decide) hi hL
  have p2 := sc_in (v := 2) (k := 2) (L := L) (i := i) rfl (by decide) hi hL
  have p3 := sc_in (v := 3) (k := 3) (L := L) (i := i) rfl (by decide) hi hL
  refine am_aload_n (q := 899) dL_law_898 rfl rfl ?_
  refine am_aload_n (q := 900) dL_law_899 rfl rfl ?_
  refine am_iload (q := 902) dL_law_900 rfl rfl ?_
  refine am_iconst (q := 903) (v := 1) dL_law_902 kc_i1 rfl ?_
  refine am_iadd (q := 904) dL_law_903 rfl ?_
  refine am_tint (q := 905) dL_law_904 (hsc) p1.1 (sc_va p1) rfl ?_
  refine am_aload_n (q := 906) dL_law_905 rfl rfl ?_
  refine am_iload (q := 908) dL_law_906 rfl rfl ?_
  refine am_iconst (q := 909) (v := 2) dL_law_908 kc_i2 rfl ?_
  refine am_iadd (q := 910) dL_law_909 rfl ?_
  refine am_tint (q := 911) dL_law_910 (hsc) p2.1 (sc_va p2) rfl ?_
  refine am_aload_n (q := 912) dL_law_911 rfl rfl ?_
  refine am_iload (q := 914) dL_law_912 rfl rfl ?_
  refine am_iconst (q := 915) (v := 3) dL_law_914 kc_i3 rfl ?_
  refine am_iadd (q := 916) dL_law_915 rfl ?_
  refine am_tint (q := 917) dL_law_916 (hsc) p3.1 (sc_va p3) rfl ?_
  refine am_aload_n (q := 918) dL_law_917 rfl rfl ?_
  obtain ⟨rv, M1, hm, hq⟩ := kh_would (i := xs (i + 1)) (k := xs (i + 2)) (w := xs (i + 3)) hG hZ hX hst h.1 ko h.2.2.2.1
  refine am_callH (Yc := mL_would) (n := 5) (As := [vR x, vI (xs (i + 1)), vI (xs (i + 2)), vI (xs (i + 3)), vR o]) (q := 921) hG dL_law_918 hwL_would (tbc1 0 rfl rfl) ⟨by decide, by decide⟩ (by decide +kernel) (tbc5 119 rfl rfl) (tbc5 120 rfl rfl) (by decide) rfl (Nat.le_of_ble_eq_true rfl) (Nat.le_of_ble_eq_true rfl) hm rfl ?_
  by_cases hc : ((0 ≤ (xs (i + 1)) ∧ (xs (i + 1)) < nI s.B.nF) ∧ 0 ≤ (xs (i + 2)) ∧ (xs (i + 2)) < nI s.B.nR) ∧ 0 ≤ (xs (i + 3)) ∧ (xs (i + 3)) ≤ 2
  · rw [if_pos hc] at hq
    obtain ⟨er, wv, I1, J1, R1, ew, eM, hx1, ho1⟩ := hq
    subst er
    subst eM
    have hb := k_X14_would (G := G) (J := up2 J1 o 0 wv.toInt64) (i := xs (i + 1)) (k := xs (i + 2)) (w := xs (i + 3)) hG (h.hy ho1)
    have e9 := Sum.inl.inj ew
    subst e9
    rw [if_pos hc] at hb
    refine am_istore (q := 923) (ls1 := [_, _, _, _, _, _, _, _, _]) dL_law_921 (Nat.le_of_ble_eq_true rfl) rfl rfl ?_
    refine am_aload_n (q := 924) dL_law_923 rfl rfl ?_
    refine am_aload_n (q := 925) dL_law_924 rfl rfl ?_
    refine am_iload (q := 927) dL_law_925 rfl rfl ?_
    refine am_iconst (q := 928) (v := 1) dL_law_927 kc_i1 rfl ?_
    refine am_iadd (q := 929) dL_law_928 rfl ?_
    refine am_tint (q := 930) dL_law_929 (hsc) p1.1 (sc_va p1) rfl ?_
    refine am_aload_n (q := 931) dL_law_930 rfl rfl ?_
    refine am_iload (q := 933) dL_law_931 rfl rfl ?_
    refine am_iconst (q := 934) (v := 2) dL_law_933 kc_i2 rfl ?_
    refine am_iadd (q := 935) dL_law_934 rfl ?_
    refine am_tint (q := 936) dL_law_935 (hsc) p2.1 (sc_va p2) rfl ?_
    refine am_aload_n (q := 937) dL_law_936 rfl rfl ?_
    refine am_iload (q := 939) dL_law_937 rfl rfl ?_
    refine am_iconst (q := 940) (v := 3) dL_law_939 kc_i3 rfl ?_
    refine am_iadd (q := 941) dL_law_940 rfl ?_
    refine am_tint (q := 942) dL_law_941 (hsc) p3.1 (sc_va p3) rfl ?_
    refine cm_call0 (q := 945) (As := [_, _, _]) hG dL_law_942 mlL_124 rfl (by assumption) ⟨_, _, rfl⟩ (Nat.le_of_ble_eq_true rfl) (Nat.le_of_ble_eq_true rfl) (Nat.le_of_ble_eq_true rfl) (Nat.le_of_ble_eq_true rfl) hb rfl ?_
    rintro _ _ ⟨rfl, I2, R2, rfl, hy2, ht2, ho2⟩
    refine am_istore (q := 947) (ls1 := [_, _, _, _, _, _, _, _, _]) dL_law_945 (Nat.le_of_ble_eq_true rfl) rfl rfl ?_
    refine am_aload_n (q := 948) dL_law_947 rfl rfl ?_
    refine cm_call0 (q := 951) (As := []) hG dL_law_948 mlL_77 rfl (by assumption) ⟨_, _, rfl⟩ (Nat.le_of_ble_eq_true rfl) (Nat.le_of_ble_eq_true rfl) (Nat.le_of_ble_eq_true rfl) (Nat.le_of_ble_eq_true rfl) (k_X14_thrown ky) rfl ?_
    rintro _ _ ⟨rfl, rfl⟩
    rw [ht2]
    refine am_iload (q := 953) dL_law_951 rfl rfl ?_
    refine am_icmp_eq (tgt := 958) (q := 956) dL_law_953 rfl rfl (fun _ => ?_) (fun hz => absurd rfl hz)
    refine am_iload (q := 960) dL_law_958 rfl rfl ?_
    refine am_if_ne (tgt := 975) (q := 963) dL_law_960 rfl rfl (fun hz => absurd rfl hz) (fun _ => ?_)
    refine am_aload_n (q := 964) dL_law_963 rfl rfl ?_
    refine am_iconst (q := 965) (v := 0) dL_law_964 kc_i0 rfl ?_
    refine cm_laload (q := 966) dL_law_965 (by assumption) hp0 rfl ?_
    refine am_iload (q := 968) dL_law_966 rfl rfl ?_
    refine am_i2l (q := 969) dL_law_968 rfl ?_
    refine am_lcmp (q := 970) dL_law_969 rfl ?_
    refine am_if_eq (tgt := 975) (q := 973) dL_law_970 rfl rfl (fun _ => ?_) (fun hz => absurd lc_up hz)
    refine am_goto (tgt := 1317) dL_law_975 rfl ?_
    exact MW.forget LL_le (K _ _ _ _ _ (h.to hx1 hy2 ho2) (Nat.le_add_right _ _) (Nat.le_add_right _ _))
  · rw [if_neg hc] at hq
    have er : rv = 1 := hq.1
    have eM := hq.2
    subst er
    subst eM
    have hb := k_X14_would (G := G) (J := J) (i := xs (i + 1)) (k := xs (i + 2)) (w := xs (i + 3)) hG h.yg
    rw [if_neg hc] at hb
    refine am_istore (q := 923) (ls1 := [_, _, _, _, _, _, _, _, _]) dL_law_921 (Nat.le_of_ble_eq_true rfl) rfl rfl ?_
    refine am_aload_n (q := 924) dL_law_923 rfl rfl ?_
    refine am_aload_n (q := 925) dL_law_924 rfl rfl ?_
    refine am_iload (q := 927) dL_law_925 rfl rfl ?_
    refine am_iconst (q := 928) (v := 1) dL_law_927 kc_i1 rfl ?_
    refine am_iadd (q := 929) dL_law_928 rfl ?_
    refine am_tint (q := 930) dL_law_929 (hsc) p1.1 (sc_va p1) rfl ?_
    refine am_aload_n (q := 931) dL_law_930 rfl rfl ?_
    refine am_iload (q := 933) dL_law_931 rfl rfl ?_
    refine am_iconst (q := 934) (v := 2) dL_law_933 kc_i2 rfl ?_
    refine am_iadd (q := 935) dL_law_934 rfl ?_
    refine am_tint (q := 936) dL_law_935 (hsc) p2.1 (sc_va p2) rfl ?_
    refine am_aload_n (q := 937) dL_law_936 rfl rfl ?_
    refine am_iload (q := 939) dL_law_937 rfl rfl ?_
    refine am_iconst (q := 940) (v := 3) dL_law_939 kc_i3 rfl ?_
    refine am_iadd (q := 941) dL_law_940 rfl ?_
    refine am_tint (q := 942) dL_law_941 (hsc) p3.1 (sc_va p3) rfl ?_
    refine cm_call0 (q := 945) (As := [_, _, _]) hG dL_law_942 mlL_124 rfl (by assumption) ⟨_, _, rfl⟩ (Nat.le_of_ble_eq_true rfl) (Nat.le_of_ble_eq_true rfl) (Nat.le_of_ble_eq_true rfl) (Nat.le_of_ble_eq_true rfl) hb rfl ?_
    rintro _ _ ⟨rfl, I2, R2, rfl, hy2, ht2, ho2⟩
    refine am_istore (q := 947) (ls1 := [_, _, _, _, _, _, _, _, _]) dL_law_945 (Nat.le_of_ble_eq_true rfl) rfl rfl ?_
    refine am_aload_n (q := 948) dL_law_947 rfl rfl ?_
    refine cm_call0 (q := 951) (As := []) hG dL_law_948 mlL_77 rfl (by assumption) ⟨_, _, rfl⟩ (Nat.le_of_ble_eq_true rfl) (Nat.le_of_ble_eq_true rfl) (Nat.le_of_ble_eq_true rfl) (Nat.le_of_ble_eq_true rfl) (k_X14_thrown ky) rfl ?_
    rintro _ _ ⟨rfl, rfl⟩
    rw [ht2]
    refine am_iload (q := 953) dL_law_951 rfl rfl ?_
    refine am_icmp_eq (tgt := 958) (q := 956) dL_law_953 rfl rfl (fun _ => ?_) (fun hz => absurd rfl hz)
    refine am_iload (q := 960) dL_law_958 rfl rfl ?_
    refine am_if_ne (tgt := 975) (q := 963) dL_law_960 rfl rfl (fun _ => ?_) (fun hz => absurd hz (by decide))
    refine am_goto (tgt := 1317) dL_law_975 rfl ?_
    exact MW.forget LL_le (K _ _ _ _ _ (h.tg hy2 ho2) (Nat.add_le_add_left (by decide : 1 ≤ 20) _) (Nat.add_le_add_left (by decide : 6 ≤ 200) _))
theorem kl_path (hG : okG G) (hZ : KS G Z) (hX : KX G) (hst : G.l.stackTraces = false) (hsc : Sc G b L xs) (hi : i + 6 ≤ L) (hL : L ≤ 3072) (h : Inv S I J R x y o s) (K : ∀ S1 I1 J1 R1 s1, Inv S1 I1 J1 R1 x y o s1 → S1.hs ≤ S.hs + 20 → S1.sl ≤ S.sl + 200 → MW G mL_law 2046 1317 (LL b x y o (nI i)) [] (mw S1 I1 J1 R1) Q) : MW G mL_law 2046 978 (LL b x y o (nI i)) [] (mw S I J R) Q := by
  have kx := h.1.kx
  have ko := h.2.2.1
  have ky := h.2.1.ky
  have hp0 : vp_in 0 (S.ln o) := by
    rw [h.2.2.2.1]
    unfold vp_in
    decide
  have p1 := sc_in (v := 1) (k := 1) (L := L) (i := i) rfl (by decide) hi hL
  have p2 := sc_in (v := 2) (k := 2) (L := L) (i := i) rfl (by decide) hi hL
  have p3 := sc_in (v := 3) (k := 3) (L := L) (i := i) rfl (by decide) hi hL
  refine am_aload_n (q := 979) dL_law_978 rfl rfl ?_
  refine am_aload_n (q := 980) dL_law_979 rfl rfl ?_
  refine am_iload (q := 982) dL_law_980 rfl rfl ?_
  refine am_iconst (q := 983) (v := 1) dL_law_982 kc_i1 rfl ?_
  refine am_iadd (q := 984) dL_law_983 rfl ?_
  refine am_tint (q := 985) dL_law_984 (hsc) p1.1 (sc_va p1) rfl ?_
  refine am_aload_n (q := 986) dL_law_985 rfl rfl ?_
  refine am_iload (q := 988) dL_law_986 rfl rfl ?_
  refine am_iconst (q := 989) (v := 2) dL_law_988 kc_i2 rfl ?_
  refine am_iadd (q := 990) dL_law_989 rfl ?_
  refine am_tint (q := 991) dL_law_990 (hsc) p2.1 (sc_va p2) rfl ?_
  refine am_aload_n (q := 992) dL_law_991 rfl rfl ?_
  refine am_iload (q := 994) dL_law_992 rfl rfl ?_
  refine am_iconst (q := 995) (v := 3) dL_law_994 kc_i3 rfl ?_
  refine am_iadd (q := 996) dL_law_995 rfl ?_
  refine am_tint (q := 997) dL_law_996 (hsc) p3.1 (sc_va p3) rfl ?_
  refine am_aload_n (q := 998) dL_law_997 rfl rfl ?_
  obtain ⟨rv, M1, hm, hq⟩ := kh_path (i := xs (i + 1)) (k := xs (i + 2)) (w := xs (i + 3)) hG hZ hX hst h.1 ko h.2.2.2.1
  refine am_callH (Yc := mL_path) (n := 5) (As := [vR x, vI (xs (i + 1)), vI (xs (i + 2)), vI (xs (i + 3)), vR o]) (q := 1001) hG dL_law_998 hwL_path (tbc1 0 rfl rfl) ⟨by decide, by decide⟩ (by decide +kernel) (tbc5 135 rfl rfl) (tbc5 136 rfl rfl) (by decide) rfl (Nat.le_of_ble_eq_true rfl) (Nat.le_of_ble_eq_true rfl) hm rfl ?_
  by_cases hc : (0 ≤ (xs (i + 1)) ∧ (xs (i + 1)) < nI s.B.nF) ∧ 0 ≤ (xs (i + 2)) ∧ (xs (i + 2)) < nI s.B.nR
  · rw [if_pos hc] at hq
    by_cases hd : 0 ≤ (xs (i + 3)) ∧ (xs (i + 3)) ≤ 300
    · rw [if_pos hd] at hq
      obtain ⟨er, wv, I1, J1, R1, ew, eM, hx1, ho1⟩ := hq
      subst er
      subst eM
      have hb := k_X14_path (G := G) (J := up2 J1 o 0 wv.toInt64) (i := xs (i + 1)) (k := xs (i + 2)) (w := xs (i + 3)) hG (h.hy ho1)
      have e9 := Sum.inl.inj ew
      subst e9
      rw [if_pos hc, if_pos hd] at hb
      refine am_istore (q := 1003) (ls1 := [_, _, _, _, _, _, _, _, _]) dL_law_1001 (Nat.le_of_ble_eq_true rfl) rfl rfl ?_
      refine am_aload_n (q := 1004) dL_law_1003 rfl rfl ?_
      refine am_aload_n (q := 1005) dL_law_1004 rfl rfl ?_
      refine am_iload (q := 1007) dL_law_1005 rfl rfl ?_
      refine am_iconst (q := 1008) (v := 1) dL_law_1007 kc_i1 rfl ?_
      refine am_iadd (q := 1009) dL_law_1008 rfl ?_
      refine am_tint (q := 1010) dL_law_1009 (hsc) p1.1 (sc_va p1) rfl ?_
      refine am_aload_n (q := 1011) dL_law_1010 rfl rfl ?_
      refine am_iload (q := 1013) dL_law_1011 rfl rfl ?_
      refine am_iconst (q := 1014) (v := 2) dL_law_1013 kc_i2 rfl ?_
      refine am_iadd (q := 1015) dL_law_1014 rfl ?_
      refine am_tint (q := 1016) dL_law_1015 (hsc) p2.1 (sc_va p2) rfl ?_
      refine am_aload_n (q := 1017) dL_law_1016 rfl rfl ?_
      refine am_iload (q := 1019) dL_law_1017 rfl rfl ?_
      refine am_iconst (q := 1020) (v := 3) dL_law_1019 kc_i3 rfl ?_
      refine am_iadd (q := 1021) dL_law_1020 rfl ?_
      refine am_tint (q := 1022) dL_law_1021 (hsc) p3.1 (sc_va p3) rfl ?_
      refine cm_call0 (q := 1025) (As := [_, _, _]) hG dL_law_1022 mlL_127 rfl (by assumption) ⟨_, _, rfl⟩ (Nat.le_of_ble_eq_true rfl) (Nat.le_of_ble_eq_true rfl) (Nat.le_of_ble_eq_true rfl) (Nat.le_of_ble_eq_true rfl) hb rfl ?_
      rintro _ _ ⟨rfl, I2, R2, rfl, hy2, ht2, ho2⟩
      refine am_istore (q := 1027) (ls1 := [_, _, _, _, _, _, _, _, _]) dL_law_1025 (Nat.le_of_ble_eq_true rfl) rfl rfl ?_
      refine am_aload_n (q := 1028) dL_law_1027 rfl rfl ?_
      refine cm_call0 (q := 1031) (As := []) hG dL_law_1028 mlL_77 rfl (by assumption) ⟨_, _, rfl⟩ (Nat.le_of_ble_eq_true rfl) (Nat.le_of_ble_eq_true rfl) (Nat.le_of_ble_eq_true rfl) (Nat.le_of_ble_eq_true rfl) (k_X14_thrown ky) rfl ?_
      rintro _ _ ⟨rfl, rfl⟩
      rw [ht2]
      refine am_iload (q := 1033) dL_law_1031 rfl rfl ?_
      refine am_icmp_eq (tgt := 1038) (q := 1036) dL_law_1033 rfl rfl (fun _ => ?_) (fun hz => absurd rfl hz)
      refine am_iload (q := 1040) dL_law_1038 rfl rfl ?_
      refine am_if_ne (tgt := 1055) (q := 1043) dL_law_1040 rfl rfl (fun hz => absurd rfl hz) (fun _ => ?_)
      refine am_aload_n (q := 1044) dL_law_1043 rfl rfl ?_
      refine am_iconst (q := 1045) (v := 0) dL_law_1044 kc_i0 rfl ?_
      refine cm_laload (q := 1046) dL_law_1045 (by assumption) hp0 rfl ?_
      refine am_iload (q := 1048) dL_law_1046 rfl rfl ?_
      refine am_i2l (q := 1049) dL_law_1048 rfl ?_
      refine am_lcmp (q := 1050) dL_law_1049 rfl ?_
      refine am_if_eq (tgt := 1055) (q := 1053) dL_law_1050 rfl rfl (fun _ => ?_) (fun hz => absurd lc_up hz)
      refine am_goto (tgt := 1317) dL_law_1055 rfl ?_
      exact MW.forget LL_le (K _ _ _ _ _ (h.to hx1 hy2 ho2) (Nat.le_add_right _ _) (Nat.le_add_right _ _))
    · rw [if_neg hd] at hq
      have er : rv = 2 := hq.1
      have eM := hq.2
      subst er
      subst eM
      have hb := k_X14_path (G := G) (J := J) (i := xs (i + 1)) (k := xs (i + 2)) (w := xs (i + 3)) hG h.yg
      rw [if_pos hc, if_neg hd] at hb
      refine am_istore (q := 1003) (ls1 := [_, _, _, _, _, _, _, _, _]) dL_law_1001 (Nat.le_of_ble_eq_true rfl) rfl rfl ?_
      refine am_aload_n (q := 1004) dL_law_1003 rfl rfl ?_
      refine am_aload_n (q := 1005) dL_law_1004 rfl rfl ?_
      refine am_iload (q := 1007) dL_law_1005 rfl rfl ?_
      refine am_iconst (q := 1008) (v := 1) dL_law_1007 kc_i1 rfl ?_
      refine am_iadd (q := 1009) dL_law_1008 rfl ?_
      refine am_tint (q := 1010) dL_law_1009 (hsc) p1.1 (sc_va p1) rfl ?_
      refine am_aload_n (q := 1011) dL_law_1010 rfl rfl ?_
      refine am_iload (q := 1013) dL_law_1011 rfl rfl ?_
      refine am_iconst (q := 1014) (v := 2) dL_law_1013 kc_i2 rfl ?_
      refine am_iadd (q := 1015) dL_law_1014 rfl ?_
      refine am_tint (q := 1016) dL_law_1015 (hsc) p2.1 (sc_va p2) rfl ?_
      refine am_aload_n (q := 1017) dL_law_1016 rfl rfl ?_
      refine am_iload (q := 1019) dL_law_1017 rfl rfl ?_
      refine am_iconst (q := 1020) (v := 3) dL_law_1019 kc_i3 rfl ?_
      refine am_iadd (q := 1021) dL_law_1020 rfl ?_
      refine am_tint (q := 1022) dL_law_1021 (hsc) p3.1 (sc_va p3) rfl ?_
      refine cm_call0 (q := 1025) (As := [_, _, _]) hG dL_law_1022 mlL_127 rfl (by assumption) ⟨_, _, rfl⟩ (Nat.le_of_ble_eq_true rfl) (Nat.le_of_ble_eq_true rfl) (Nat.le_of_ble_eq_true rfl) (Nat.le_of_ble_eq_true rfl) hb rfl ?_
      rintro _ _ ⟨rfl, I2, R2, rfl, hy2, ht2, ho2⟩
      refine am_istore (q := 1027) (ls1 := [_, _, _, _, _, _, _, _, _]) dL_law_1025 (Nat.le_of_ble_eq_true rfl) rfl rfl ?_
      refine am_aload_n (q := 1028) dL_law_1027 rfl rfl ?_
      refine cm_call0 (q := 1031) (As := []) hG dL_law_1028 mlL_77 rfl (by assumption) ⟨_, _, rfl⟩ (Nat.le_of_ble_eq_true rfl) (Nat.le_of_ble_eq_true rfl) (Nat.le_of_ble_eq_true rfl) (Nat.le_of_ble_eq_true rfl) (k_X14_thrown ky) rfl ?_
      rintro _ _ ⟨rfl, rfl⟩
      rw [ht2]
      refine am_iload (q := 1033) dL_law_1031 rfl rfl ?_
      refine am_icmp_eq (tgt := 1038) (q := 1036) dL_law_1033 rfl rfl (fun _ => ?_) (fun hz => absurd rfl hz)
      refine am_iload (q := 1040) dL_law_1038 rfl rfl ?_
      refine am_if_ne (tgt := 1055) (q := 1043) dL_law_1040 rfl rfl (fun _ => ?_) (fun hz => absurd hz (by decide))
      refine am_goto (tgt := 1317) dL_law_1055 rfl ?_
      exact MW.forget LL_le (K _ _ _ _ _ (h.tg hy2 ho2) (Nat.add_le_add_left (by decide : 1 ≤ 20) _) (Nat.add_le_add_left (by decide : 6 ≤ 200) _))
  · rw [if_neg hc] at hq
    have er : rv = 1 := hq.1
    have eM := hq.2
    subst er
    subst eM
    have hb := k_X14_path (G := G) (J := J) (i := xs (i + 1)) (k := xs (i + 2)) (w := xs (i + 3)) hG h.yg
    rw [if_neg hc] at hb
    refine am_istore (q := 1003) (ls1 := [_, _, _, _, _, _, _, _, _]) dL_law_1001 (Nat.le_of_ble_eq_true rfl) rfl rfl ?_
    refine am_aload_n (q := 1004) dL_law_1003 rfl rfl ?_
    refine am_aload_n (q := 1005) dL_law_1004 rfl rfl ?_
    refine am_iload (q := 1007) dL_law_1005 rfl rfl ?_
    refine am_iconst (q := 1008) (v := 1) dL_law_1007 kc_i1 rfl ?_
    refine am_iadd (q := 1009) dL_law_1008 rfl ?_
    refine am_tint (q := 1010) dL_law_1009 (hsc) p1.1 (sc_va p1) rfl ?_
    refine am_aload_n (q := 1011) dL_law_1010 rfl rfl ?_
    refine am_iload (q := 1013) dL_law_1011 rfl rfl ?_
    refine am_iconst (q := 1014) (v := 2) dL_law_1013 kc_i2 rfl ?_
    refine am_iadd (q := 1015) dL_law_1014 rfl ?_
    refine am_tint (q := 1016) dL_law_1015 (hsc) p2.1 (sc_va p2) rfl ?_
    refine am_aload_n (q := 1017) dL_law_1016 rfl rfl ?_
    refine am_iload (q := 1019) dL_law_1017 rfl rfl ?_
    refine am_iconst (q := 1020) (v := 3) dL_law_1019 kc_i3 rfl ?_
    refine am_iadd (q := 1021) dL_law_1020 rfl ?_
    refine am_tint (q := 1022) dL_law_1021 (hsc) p3.1 (sc_va p3) rfl ?_
    refine cm_call0 (q := 1025) (As := [_, _, _]) hG dL_law_1022 mlL_127 rfl (by assumption) ⟨_, _, rfl⟩ (Nat.le_of_ble_eq_true rfl) (Nat.le_of_ble_eq_true rfl) (Nat.le_of_ble_eq_true rfl) (Nat.le_of_ble_eq_true rfl) hb rfl ?_
    rintro _ _ ⟨rfl, I2, R2, rfl, hy2, ht2, ho2⟩
    refine am_istore (q := 1027) (ls1 := [_, _, _, _, _, _, _, _, _]) dL_law_1025 (Nat.le_of_ble_eq_true rfl) rfl rfl ?_
    refine am_aload_n (q := 1028) dL_law_1027 rfl rfl ?_
    refine cm_call0 (q := 1031) (As := []) hG dL_law_1028 mlL_77 rfl (by assumption) ⟨_, _, rfl⟩ (Nat.le_of_ble_eq_true rfl) (Nat.le_of_ble_eq_true rfl) (Nat.le_of_ble_eq_true rfl) (Nat.le_of_ble_eq_true rfl) (k_X14_thrown ky) rfl ?_
    rintro _ _ ⟨rfl, rfl⟩
    rw [ht2]
    refine am_iload (q := 1033) dL_law_1031 rfl rfl ?_
    refine am_icmp_eq (tgt := 1038) (q := 1036) dL_law_1033 rfl rfl (fun _ => ?_) (fun hz => absurd rfl hz)
    refine am_iload (q := 1040) dL_law_1038 rfl rfl ?_
    refine am_if_ne (tgt := 1055) (q := 1043) dL_law_1040 rfl rfl (fun _ => ?_) (fun hz => absurd hz (by decide))
    refine am_goto (tgt := 1317) dL_law_1055 rfl ?_
    exact MW.forget LL_le (K _ _ _ _ _ (h.tg hy2 ho2) (Nat.add_le_add_left (by decide : 1 ≤ 20) _) (Nat.add_le_add_left (by decide : 6 ≤ 200) _))
theorem kl_needs (hG : okG G) (hZ : KS G Z) (hX : KX G) (hst : G.l.stackTraces = false) (hsc : Sc G b L xs) (hi : i + 6 ≤ L) (hL : L ≤ 3072) (h : Inv S I J R x y o s) (K : ∀ S1 I1 J1 R1 s1, Inv S1 I1 J1 R1 x y o s1 → S1.hs ≤ S.hs + 20 → S1.sl ≤ S.sl + 200 → MW G mL_law 2046 1317 (LL b x y o (nI i)) [] (mw S1 I1 J1 R1) Q) : MW G mL_law 2046 1058 (LL b x y o (nI i)) [] (mw S I J R) Q := by
  have kx := h.1.kx
  have ko := h.2.2.1
  have ky := h.2.1.ky
  have hp0 : vp_in 0 (S.ln o) := by
    rw [h.2.2.2.1]
    unfold vp_in
    decide
  have p1 := sc_in (v := 1) (k := 1) (L := L) (i := i) rfl (by decide) hi hL
  have p2 := sc_in (v := 2) (k := 2) (L := L) (i := i) rfl (by decide) hi hL
  refine am_aload_n (q := 1059) dL_law_1058 rfl rfl ?_
  refine am_aload_n (q := 1060) dL_law_1059 rfl rfl ?_
  refine am_iload (q := 1062) dL_law_1060 rfl rfl ?_
  refine am_iconst (q := 1063) (v := 1) dL_law_1062 kc_i1 rfl ?_
  refine am_iadd (q := 1064) dL_law_1063 rfl ?_
  refine am_tint (q := 1065) dL_law_1064 (hsc) p1.1 (sc_va p1) rfl ?_
  refine am_aload_n (q := 1066) dL_law_1065 rfl rfl ?_
  refine am_iload (q := 1068) dL_law_1066 rfl rfl ?_
  refine am_iconst (q := 1069) (v := 2) dL_law_1068 kc_i2 rfl ?_
  refine am_iadd (q := 1070) dL_law_1069 rfl ?_
  refine am_tint (q := 1071) dL_law_1070 (hsc) p2.1 (sc_va p2) rfl ?_
  refine am_aload_n (q := 1072) dL_law_1071 rfl rfl ?_
  obtain ⟨rv, M1, hm, hq⟩ := kh_needs (i := xs (i + 1)) (k := xs (i + 2)) hG hZ hX hst h.1 ko h.2.2.2.1
  refine am_callH (Yc := mL_needs) (n := 4) (As := [vR x, vI (xs (i + 1)), vI (xs (i + 2)), vR o]) (q := 1075) hG dL_law_1072 hwL_needs (tbc1 0 rfl rfl) ⟨by decide, by decide⟩ (by decide +kernel) (tbc5 147 rfl rfl) (tbc5 148 rfl rfl) (by decide) rfl (Nat.le_of_ble_eq_true rfl) (Nat.le_of_ble_eq_true rfl) hm rfl ?_
  by_cases hc : (0 ≤ (xs (i + 1)) ∧ (xs (i + 1)) < nI s.B.nF) ∧ 0 ≤ (xs (i + 2)) ∧ (xs (i + 2)) < nI s.B.nR
  · rw [if_pos hc] at hq
    obtain ⟨er, wv, I1, J1, R1, ew, eM, hx1, ho1⟩ := hq
    subst er
    subst eM
    have hb := k_X14_needs (G := G) (J := up2 J1 o 0 wv.toInt64) (i := xs (i + 1)) (k := xs (i + 2)) hG (h.hy ho1)
    have e9 := Sum.inl.inj ew
    subst e9
    rw [if_pos hc] at hb
    refine am_istore (q := 1077) (ls1 := [_, _, _, _, _, _, _, _, _]) dL_law_1075 (Nat.le_of_ble_eq_true rfl) rfl rfl ?_
    refine am_aload_n (q := 1078) dL_law_1077 rfl rfl ?_
    refine am_aload_n (q := 1079) dL_law_1078 rfl rfl ?_
    refine am_iload (q := 1081) dL_law_1079 rfl rfl ?_
    refine am_iconst (q := 1082) (v := 1) dL_law_1081 kc_i1 rfl ?_
    refine am_iadd (q := 1083) dL_law_1082 rfl ?_
    refine am_tint (q := 1084) dL_law_1083 (hsc) p1.1 (sc_va p1) rfl ?_
    refine am_aload_n (q := 1085) dL_law_1084 rfl rfl ?_
    refine am_iload (q := 1087) dL_law_1085 rfl rfl ?_
    refine am_iconst (q := 1088) (v := 2) dL_law_1087 kc_i2 rfl ?_
    refine am_iadd (q := 1089) dL_law_1088 rfl ?_
    refine am_tint (q := 1090) dL_law_1089 (hsc) p2.1 (sc_va p2) rfl ?_
    refine cm_call0 (q := 1093) (As := [_, _]) hG dL_law_1090 mlL_130 rfl (by assumption) ⟨_, _, rfl⟩ (Nat.le_of_ble_eq_true rfl) (Nat.le_of_ble_eq_true rfl) (Nat.le_of_ble_eq_true rfl) (Nat.le_of_ble_eq_true rfl) hb rfl ?_
    rintro _ _ ⟨rfl, I2, R2, rfl, hy2, ht2, ho2⟩
    refine am_istore (q := 1095) (ls1 := [_, _, _, _, _, _, _, _, _]) dL_law_1093 (Nat.le_of_ble_eq_true rfl) rfl rfl ?_
    refine am_aload_n (q := 1096) dL_law_1095 rfl rfl ?_
    refine cm_call0 (q := 1099) (As := []) hG dL_law_1096 mlL_77 rfl (by assumption) ⟨_, _, rfl⟩ (Nat.le_of_ble_eq_true rfl) (Nat.le_of_ble_eq_true rfl) (Nat.le_of_ble_eq_true rfl) (Nat.le_of_ble_eq_true rfl) (k_X14_thrown ky) rfl ?_
    rintro _ _ ⟨rfl, rfl⟩
    rw [ht2]
    refine am_iload (q := 1101) dL_law_1099 rfl rfl ?_
    refine am_icmp_eq (tgt := 1106) (q := 1104) dL_law_1101 rfl rfl (fun _ => ?_) (fun hz => absurd rfl hz)
    refine am_iload (q := 1108) dL_law_1106 rfl rfl ?_
    refine am_if_ne (tgt := 1123) (q := 1111) dL_law_1108 rfl rfl (fun hz => absurd rfl hz) (fun _ => ?_)
    refine am_aload_n (q := 1112) dL_law_1111 rfl rfl ?_
    refine am_iconst (q := 1113) (v := 0) dL_law_1112 kc_i0 rfl ?_
    refine cm_laload (q := 1114) dL_law_1113 (by assumption) hp0 rfl ?_
    refine am_iload (q := 1116) dL_law_1114 rfl rfl ?_
    refine am_i2l (q := 1117) dL_law_1116 rfl ?_
    refine am_lcmp (q := 1118) dL_law_1117 rfl ?_
    refine am_if_eq (tgt := 1123) (q := 1121) dL_law_1118 rfl rfl (fun _ => ?_) (fun hz => absurd lc_up hz)
    refine am_goto (tgt := 1317) dL_law_1123 rfl ?_
    exact MW.forget LL_le (K _ _ _ _ _ (h.to hx1 hy2 ho2) (Nat.le_add_right _ _) (Nat.le_add_right _ _))
  · rw [if_neg hc] at hq
    have er : rv = 1 := hq.1
    have eM := hq.2
    subst er
    subst eM
    have hb := k_X14_needs (G := G) (J := J) (i := xs (i + 1)) (k := xs (i + 2)) hG h.yg
    rw [if_neg hc] at hb
    refine am_istore (q := 1077) (ls1 := [_, _, _, _, _, _, _, _, _]) dL_law_1075 (Nat.le_of_ble_eq_true rfl) rfl rfl ?_
    refine am_aload_n (q := 1078) dL_law_1077 rfl rfl ?_
    refine am_aload_n (q := 1079) dL_law_1078 rfl rfl ?_
    refine am_iload (q := 1081) dL_law_1079 rfl rfl ?_
    refine am_iconst (q := 1082) (v := 1) dL_law_1081 kc_i1 rfl ?_
    refine am_iadd (q := 1083) dL_law_1082 rfl ?_
    refine am_tint (q := 1084) dL_law_1083 (hsc) p1.1 (sc_va p1) rfl ?_
    refine am_aload_n (q := 1085) dL_law_1084 rfl rfl ?_
    refine am_iload (q := 1087) dL_law_1085 rfl rfl ?_
    refine am_iconst (q := 1088) (v := 2) dL_law_1087 kc_i2 rfl ?_
    refine am_iadd (q := 1089) dL_law_1088 rfl ?_
    refine am_tint (q := 1090) dL_law_1089 (hsc) p2.1 (sc_va p2) rfl ?_
    refine cm_call0 (q := 1093) (As := [_, _]) hG dL_law_1090 mlL_130 rfl (by assumption) ⟨_, _, rfl⟩ (Nat.le_of_ble_eq_true rfl) (Nat.le_of_ble_eq_true rfl) (Nat.le_of_ble_eq_true rfl) (Nat.le_of_ble_eq_true rfl) hb rfl ?_
    rintro _ _ ⟨rfl, I2, R2, rfl, hy2, ht2, ho2⟩
    refine am_istore (q := 1095) (ls1 := [_, _, _, _, _, _, _, _, _]) dL_law_1093 (Nat.le_of_ble_eq_true rfl) rfl rfl ?_
    refine am_aload_n (q := 1096) dL_law_1095 rfl rfl ?_
    refine cm_call0 (q := 1099) (As := []) hG dL_law_1096 mlL_77 rfl (by assumption) ⟨_, _, rfl⟩ (Nat.le_of_ble_eq_true rfl) (Nat.le_of_ble_eq_true rfl) (Nat.le_of_ble_eq_true rfl) (Nat.le_of_ble_eq_true rfl) (k_X14_thrown ky) rfl ?_
    rintro _ _ ⟨rfl, rfl⟩
    rw [ht2]
    refine am_iload (q := 1101) dL_law_1099 rfl rfl ?_
    refine am_icmp_eq (tgt := 1106) (q := 1104) dL_law_1101 rfl rfl (fun _ => ?_) (fun hz => absurd rfl hz)
    refine am_iload (q := 1108) dL_law_1106 rfl rfl ?_
    refine am_if_ne (tgt := 1123) (q := 1111) dL_law_1108 rfl rfl (fun _ => ?_) (fun hz => absurd hz (by decide))
    refine am_goto (tgt := 1317) dL_law_1123 rfl ?_
    exact MW.forget LL_le (K _ _ _ _ _ (h.tg hy2 ho2) (Nat.add_le_add_left (by decide : 1 ≤ 20) _) (Nat.add_le_add_left (by decide : 6 ≤ 200) _))
theorem kl_foresee (hG : okG G) (hZ : KS G Z) (hX : KX G) (hst : G.l.stackTraces = false) (hsc : Sc G b L xs) (hi : i + 6 ≤ L) (hL : L ≤ 3072) (h : Inv S I J R x y o s) (K : ∀ S1 I1 J1 R1 s1, Inv S1 I1 J1 R1 x y o s1 → S1.hs ≤ S.hs + 20 → S1.sl ≤ S.sl + 200 → MW G mL_law 2046 1317 (LL b x y o (nI i)) [] (mw S1 I1 J1 R1) Q) : MW G mL_law 2046 1126 (LL b x y o (nI i)) [] (mw S I J R) Q := by
  have kx := h.1.kx
  have ko := h.2.2.1
  have ky := h.2.1.ky
  have hp0 : vp_in 0 (S.ln o) := by
    rw [h.2.2.2.1]
    unfold vp_in
    decide
  have p1 := sc_in (v := 1) (k := 1) (L := L) (i := i) rfl (by decide) hi hL
  have p2 := sc_in (v := 2) (k := 2) (L := L) (i := i) rfl (by decide) hi hL
  refine am_aload_n (q := 1127) dL_law_1126 rfl rfl ?_
  refine am_aload_n (q := 1128) dL_law_1127 rfl rfl ?_
  refine am_iload (q := 1130) dL_law_1128 rfl rfl ?_
  refine am_iconst (q := 1131) (v := 1) dL_law_1130 kc_i1 rfl ?_
  refine am_iadd (q := 1132) dL_law_1131 rfl ?_
  refine am_tint (q := 1133) dL_law_1132 (hsc) p1.1 (sc_va p1) rfl ?_
  refine am_aload_n (q := 1134) dL_law_1133 rfl rfl ?_
  refine am_iload (q := 1136) dL_law_1134 rfl rfl ?_
  refine am_iconst (q := 1137) (v := 2) dL_law_1136 kc_i2 rfl ?_
  refine am_iadd (q := 1138) dL_law_1137 rfl ?_
  refine am_tint (q := 1139) dL_law_1138 (hsc) p2.1 (sc_va p2) rfl ?_
  refine am_aload_n (q := 1140) dL_law_1139 rfl rfl ?_
  obtain ⟨rv, M1, hm, hq⟩ := kh_foresee (n := xs (i + 1)) (w := xs (i + 2)) hG hZ hX hst h.1 ko h.2.2.2.1
  refine am_callH (Yc := mL_foresee) (n := 4) (As := [vR x, vI (xs (i + 1)), vI (xs (i + 2)), vR o]) (q := 1143) hG dL_law_1140 hwL_foresee (tbc1 0 rfl rfl) ⟨by decide, by decide⟩ (by decide +kernel) (tbc5 155 rfl rfl) (tbc5 156 rfl rfl) (by decide) rfl (Nat.le_of_ble_eq_true rfl) (Nat.le_of_ble_eq_true rfl) hm rfl ?_
  by_cases hc : 1 ≤ (xs (i + 1)) ∧ (xs (i + 1)) ≤ 30
  · rw [if_pos hc] at hq
    by_cases hd : 0 ≤ (xs (i + 2)) ∧ (xs (i + 2)) ≤ 3
    · rw [if_pos hd] at hq
      obtain ⟨er, wv, I1, J1, R1, ew, eM, hx1, ho1⟩ := hq
      subst er
      subst eM
      have hb := k_X14_foresee (G := G) (J := up2 J1 o 0 wv.toInt64) (n := xs (i + 1)) (w := xs (i + 2)) hG (h.hy ho1)
      have e9 := Sum.inl.inj ew
      subst e9
      rw [if_pos hc, if_pos hd] at hb
      refine am_istore (q := 1145) (ls1 := [_, _, _, _, _, _, _, _, _]) dL_law_1143 (Nat.le_of_ble_eq_true rfl) rfl rfl ?_
      refine am_aload_n (q := 1146) dL_law_1145 rfl rfl ?_
      refine am_aload_n (q := 1147) dL_law_1146 rfl rfl ?_
      refine am_iload (q := 1149) dL_law_1147 rfl rfl ?_
      refine am_iconst (q := 1150) (v := 1) dL_law_1149 kc_i1 rfl ?_
      refine am_iadd (q := 1151) dL_law_1150 rfl ?_
      refine am_tint (q := 1152) dL_law_1151 (hsc) p1.1 (sc_va p1) rfl ?_
      refine am_aload_n (q := 1153) dL_law_1152 rfl rfl ?_
      refine am_iload (q := 1155) dL_law_1153 rfl rfl ?_
      refine am_iconst (q := 1156) (v := 2) dL_law_1155 kc_i2 rfl ?_
      refine am_iadd (q := 1157) dL_law_1156 rfl ?_
      refine am_tint (q := 1158) dL_law_1157 (hsc) p2.1 (sc_va p2) rfl ?_
      refine cm_call0 (q := 1161) (As := [_, _]) hG dL_law_1158 mlL_133 rfl (by assumption) ⟨_, _, rfl⟩ (Nat.le_of_ble_eq_true rfl) (Nat.le_of_ble_eq_true rfl) (Nat.le_of_ble_eq_true rfl) (Nat.le_of_ble_eq_true rfl) hb rfl ?_
      rintro _ _ ⟨rfl, I2, R2, rfl, hy2, ht2, ho2⟩
      refine am_istore (q := 1163) (ls1 := [_, _, _, _, _, _, _, _, _]) dL_law_1161 (Nat.le_of_ble_eq_true rfl) rfl rfl ?_
      refine am_aload_n (q := 1164) dL_law_1163 rfl rfl ?_
      refine cm_call0 (q := 1167) (As := []) hG dL_law_1164 mlL_77 rfl (by assumption) ⟨_, _, rfl⟩ (Nat.le_of_ble_eq_true rfl) (Nat.le_of_ble_eq_true rfl) (Nat.le_of_ble_eq_true rfl) (Nat.le_of_ble_eq_true rfl) (k_X14_thrown ky) rfl ?_
      rintro _ _ ⟨rfl, rfl⟩
      rw [ht2]
      refine am_iload (q := 1169) dL_law_1167 rfl rfl ?_
      refine am_icmp_eq (tgt := 1174) (q := 1172) dL_law_1169 rfl rfl (fun _ => ?_) (fun hz => absurd rfl hz)
      refine am_iload (q := 1176) dL_law_1174 rfl rfl ?_
      refine am_if_ne (tgt := 1191) (q := 1179) dL_law_1176 rfl rfl (fun hz => absurd rfl hz) (fun _ => ?_)
      refine am_aload_n (q := 1180) dL_law_1179 rfl rfl ?_
      refine am_iconst (q := 1181) (v := 0) dL_law_1180 kc_i0 rfl ?_
      refine cm_laload (q := 1182) dL_law_1181 (by assumption) hp0 rfl ?_
      refine am_iload (q := 1184) dL_law_1182 rfl rfl ?_
      refine am_i2l (q := 1185) dL_law_1184 rfl ?_
      refine am_lcmp (q := 1186) dL_law_1185 rfl ?_
      refine am_if_eq (tgt := 1191) (q := 1189) dL_law_1186 rfl rfl (fun _ => ?_) (fun hz => absurd lc_up hz)
      refine am_goto (tgt := 1317) dL_law_1191 rfl ?_
      exact MW.forget LL_le (K _ _ _ _ _ (h.to hx1 hy2 ho2) (Nat.le_add_right _ _) (Nat.le_add_right _ _))
    · rw [if_neg hd] at hq
      have er : rv = 2 := hq.1
      have eM := hq.2
      subst er
      subst eM
      have hb := k_X14_foresee (G := G) (J := J) (n := xs (i + 1)) (w := xs (i + 2)) hG h.yg
      rw [if_pos hc, if_neg hd] at hb
      refine am_istore (q := 1145) (ls1 := [_, _, _, _, _, _, _, _, _]) dL_law_1143 (Nat.le_of_ble_eq_true rfl) rfl rfl ?_
      refine am_aload_n (q := 1146) dL_law_1145 rfl rfl ?_
      refine am_aload_n (q := 1147) dL_law_1146 rfl rfl ?_
      refine am_iload (q := 1149) dL_law_1147 rfl rfl ?_
      refine am_iconst (q := 1150) (v := 1) dL_law_1149 kc_i1 rfl ?_
      refine am_iadd (q := 1151) dL_law_1150 rfl ?_
      refine am_tint (q := 1152) dL_law_1151 (hsc) p1.1 (sc_va p1) rfl ?_
      refine am_aload_n (q := 1153) dL_law_1152 rfl rfl ?_
      refine am_iload (q := 1155) dL_law_1153 rfl rfl ?_
      refine am_iconst (q := 1156) (v := 2) dL_law_1155 kc_i2 rfl ?_
      refine am_iadd (q := 1157) dL_law_1156 rfl ?_
      refine am_tint (q := 1158) dL_law_1157 (hsc) p2.1 (sc_va p2) rfl ?_
      refine cm_call0 (q := 1161) (As := [_, _]) hG dL_law_1158 mlL_133 rfl (by assumption) ⟨_, _, rfl⟩ (Nat.le_of_ble_eq_true rfl) (Nat.le_of_ble_eq_true rfl) (Nat.le_of_ble_eq_true rfl) (Nat.le_of_ble_eq_true rfl) hb rfl ?_
      rintro _ _ ⟨rfl, I2, R2, rfl, hy2, ht2, ho2⟩
      refine am_istore (q := 1163) (ls1 := [_, _, _, _, _, _, _, _, _]) dL_law_1161 (Nat.le_of_ble_eq_true rfl) rfl rfl ?_
      refine am_aload_n (q := 1164) dL_law_1163 rfl rfl ?_
      refine cm_call0 (q := 1167) (As := []) hG dL_law_1164 mlL_77 rfl (by assumption) ⟨_, _, rfl⟩ (Nat.le_of_ble_eq_true rfl) (Nat.le_of_ble_eq_true rfl) (Nat.le_of_ble_eq_true rfl) (Nat.le_of_ble_eq_true rfl) (k_X14_thrown ky) rfl ?_
      rintro _ _ ⟨rfl, rfl⟩
      rw [ht2]
      refine am_iload (q := 1169) dL_law_1167 rfl rfl ?_
      refine am_icmp_eq (tgt := 1174) (q := 1172) dL_law_1169 rfl rfl (fun _ => ?_) (fun hz => absurd rfl hz)
      refine am_iload (q := 1176) dL_law_1174 rfl rfl ?_
      refine am_if_ne (tgt := 1191) (q := 1179) dL_law_1176 rfl rfl (fun _ => ?_) (fun hz => absurd hz (by decide))
      refine am_goto (tgt := 1317) dL_law_1191 rfl ?_
      exact MW.forget LL_le (K _ _ _ _ _ (h.tg hy2 ho2) (Nat.add_le_add_left (by decide : 1 ≤ 20) _) (Nat.add_le_add_left (by decide : 6 ≤ 200) _))
  · rw [if_neg hc] at hq
    have er : rv = 1 := hq.1
    have eM := hq.2
    subst er
    subst eM
    have hb := k_X14_foresee (G := G) (J := J) (n := xs (i + 1)) (w := xs (i + 2)) hG h.yg
    rw [if_neg hc] at hb
    refine am_istore (q := 1145) (ls1 := [_, _, _, _, _, _, _, _, _]) dL_law_1143 (Nat.le_of_ble_eq_true rfl) rfl rfl ?_
    refine am_aload_n (q := 1146) dL_law_1145 rfl rfl ?_
    refine am_aload_n (q := 1147) dL_law_1146 rfl rfl ?_
    refine am_iload (q := 1149) dL_law_1147 rfl rfl ?_
    refine am_iconst (q := 1150) (v := 1) dL_law_1149 kc_i1 rfl ?_
    refine am_iadd (q := 1151) dL_law_1150 rfl ?_
    refine am_tint (q := 1152) dL_law_1151 (hsc) p1.1 (sc_va p1) rfl ?_
    refine am_aload_n (q := 1153) dL_law_1152 rfl rfl ?_
    refine am_iload (q := 1155) dL_law_1153 rfl rfl ?_
    refine am_iconst (q := 1156) (v := 2) dL_law_1155 kc_i2 rfl ?_
    refine am_iadd (q := 1157) dL_law_1156 rfl ?_
    refine am_tint (q := 1158) dL_law_1157 (hsc) p2.1 (sc_va p2) rfl ?_
    refine cm_call0 (q := 1161) (As := [_, _]) hG dL_law_1158 mlL_133 rfl (by assumption) ⟨_, _, rfl⟩ (Nat.le_of_ble_eq_true rfl) (Nat.le_of_ble_eq_true rfl) (Nat.le_of_ble_eq_true rfl) (Nat.le_of_ble_eq_true rfl) hb rfl ?_
    rintro _ _ ⟨rfl, I2, R2, rfl, hy2, ht2, ho2⟩
    refine am_istore (q := 1163) (ls1 := [_, _, _, _, _, _, _, _, _]) dL_law_1161 (Nat.le_of_ble_eq_true rfl) rfl rfl ?_
    refine am_aload_n (q := 1164) dL_law_1163 rfl rfl ?_
    refine cm_call0 (q := 1167) (As := []) hG dL_law_1164 mlL_77 rfl (by assumption) ⟨_, _, rfl⟩ (Nat.le_of_ble_eq_true rfl) (Nat.le_of_ble_eq_true rfl) (Nat.le_of_ble_eq_true rfl) (Nat.le_of_ble_eq_true rfl) (k_X14_thrown ky) rfl ?_
    rintro _ _ ⟨rfl, rfl⟩
    rw [ht2]
    refine am_iload (q := 1169) dL_law_1167 rfl rfl ?_
    refine am_icmp_eq (tgt := 1174) (q := 1172) dL_law_1169 rfl rfl (fun _ => ?_) (fun hz => absurd rfl hz)
    refine am_iload (q := 1176) dL_law_1174 rfl rfl ?_
    refine am_if_ne (tgt := 1191) (q := 1179) dL_law_1176 rfl rfl (fun _ => ?_) (fun hz => absurd hz (by decide))
    refine am_goto (tgt := 1317) dL_law_1191 rfl ?_
    exact MW.forget LL_le (K _ _ _ _ _ (h.tg hy2 ho2) (Nat.add_le_add_left (by decide : 1 ≤ 20) _) (Nat.add_le_add_left (by decide : 6 ≤ 200) _))
theorem kl_advise (hG : okG G) (hZ : KS G Z) (hX : KX G) (hst : G.l.stackTraces = false) (hsc : Sc G b L xs) (hi : i + 6 ≤ L) (hL : L ≤ 3072) (h : Inv S I J R x y o s) (K : ∀ S1 I1 J1 R1 s1, Inv S1 I1 J1 R1 x y o s1 → S1.hs ≤ S.hs + 20 → S1.sl ≤ S.sl + 200 → MW G mL_law 2046 1317 (LL b x y o (nI i)) [] (mw S1 I1 J1 R1) Q) : MW G mL_law 2046 1194 (LL b x y o (nI i)) [] (mw S I J R) Q := by
  have kx := h.1.kx
  have ko := h.2.2.1
  have ky := h.2.1.ky
  have hp0 : vp_in 0 (S.ln o) := by
    rw [h.2.2.2.1]
    unfold vp_in
    decide
  have p1 := sc_in (v := 1) (k := 1) (L := L) (i := i) rfl (by decide) hi hL
  have p2 := sc_in (v := 2) (k := 2) (L := L) (i := i) rfl (by decide) hi hL
  refine am_aload_n (q := 1195) dL_law_1194 rfl rfl ?_
  refine am_aload_n (q := 1196) dL_law_1195 rfl rfl ?_
  refine am_iload (q := 1198) dL_law_1196 rfl rfl ?_
  refine am_iconst (q := 1199) (v := 1) dL_law_1198 kc_i1 rfl ?_
  refine am_iadd (q := 1200) dL_law_1199 rfl ?_
  refine am_tint (q := 1201) dL_law_1200 (hsc) p1.1 (sc_va p1) rfl ?_
  refine am_aload_n (q := 1202) dL_law_1201 rfl rfl ?_
  refine am_iload (q := 1204) dL_law_1202 rfl rfl ?_
  refine am_iconst (q := 1205) (v := 2) dL_law_1204 kc_i2 rfl ?_
  refine am_iadd (q := 1206) dL_law_1205 rfl ?_
  refine am_tint (q := 1207) dL_law_1206 (hsc) p2.1 (sc_va p2) rfl ?_
  refine am_aload_n (q := 1208) dL_law_1207 rfl rfl ?_
  obtain ⟨rv, M1, hm, hq⟩ := kh_advise (k := xs (i + 1)) (n := xs (i + 2)) hG hZ hX hst h.1 ko h.2.2.2.1
  refine am_callH (Yc := mL_advise) (n := 4) (As := [vR x, vI (xs (i + 1)), vI (xs (i + 2)), vR o]) (q := 1211) hG dL_law_1208 hwL_advise (tbc1 0 rfl rfl) ⟨by decide, by decide⟩ (by decide +kernel) (tbc5 200 rfl rfl) (tbc5 201 rfl rfl) (by decide) rfl (Nat.le_of_ble_eq_true rfl) (Nat.le_of_ble_eq_true rfl) hm rfl ?_
  by_cases hc : 0 ≤ (xs (i + 1)) ∧ (xs (i + 1)) < nI s.B.nR
  · rw [if_pos hc] at hq
    by_cases hd : 1 ≤ (xs (i + 2)) ∧ (xs (i + 2)) ≤ 4
    · rw [if_pos hd] at hq
      obtain ⟨er, wv, I1, J1, R1, ew, eM, hx1, ho1⟩ := hq
      subst er
      subst eM
      have hb := k_X14_advise (G := G) (J := up2 J1 o 0 wv.toInt64) (k := xs (i + 1)) (n := xs (i + 2)) hG (h.hy ho1)
      have e9 := Sum.inl.inj ew
      subst e9
      rw [if_pos hc, if_pos hd] at hb
      refine am_istore (q := 1213) (ls1 := [_, _, _, _, _, _, _, _, _]) dL_law_1211 (Nat.le_of_ble_eq_true rfl) rfl rfl ?_
      refine am_aload_n (q := 1214) dL_law_1213 rfl rfl ?_
      refine am_aload_n (q := 1215) dL_law_1214 rfl rfl ?_
      refine am_iload (q := 1217) dL_law_1215 rfl rfl ?_
      refine am_iconst (q := 1218) (v := 1) dL_law_1217 kc_i1 rfl ?_
      refine am_iadd (q := 1219) dL_law_1218 rfl ?_
      refine am_tint (q := 1220) dL_law_1219 (hsc) p1.1 (sc_va p1) rfl ?_
      refine am_aload_n (q := 1221) dL_law_1220 rfl rfl ?_
      refine am_iload (q := 1223) dL_law_1221 rfl rfl ?_
      refine am_iconst (q := 1224) (v := 2) dL_law_1223 kc_i2 rfl ?_
      refine am_iadd (q := 1225) dL_law_1224 rfl ?_
      refine am_tint (q := 1226) dL_law_1225 (hsc) p2.1 (sc_va p2) rfl ?_
      refine cm_call0 (q := 1229) (As := [_, _]) hG dL_law_1226 mlL_136 rfl (by assumption) ⟨_, _, rfl⟩ (Nat.le_of_ble_eq_true rfl) (Nat.le_of_ble_eq_true rfl) (Nat.le_of_ble_eq_true rfl) (Nat.le_of_ble_eq_true rfl) hb rfl ?_
      rintro _ _ ⟨rfl, I2, R2, rfl, hy2, ht2, ho2⟩
      refine am_istore (q := 1231) (ls1 := [_, _, _, _, _, _, _, _, _]) dL_law_1229 (Nat.le_of_ble_eq_true rfl) rfl rfl ?_
      refine am_aload_n (q := 1232) dL_law_1231 rfl rfl ?_
      refine cm_call0 (q := 1235) (As := []) hG dL_law_1232 mlL_77 rfl (by assumption) ⟨_, _, rfl⟩ (Nat.le_of_ble_eq_true rfl) (Nat.le_of_ble_eq_true rfl) (Nat.le_of_ble_eq_true rfl) (Nat.le_of_ble_eq_true rfl) (k_X14_thrown ky) rfl ?_
      rintro _ _ ⟨rfl, rfl⟩
      rw [ht2]
      refine am_iload (q := 1237) dL_law_1235 rfl rfl ?_
      refine am_icmp_eq (tgt := 1242) (q := 1240) dL_law_1237 rfl rfl (fun _ => ?_) (fun hz => absurd rfl hz)
      refine am_iload (q := 1244) dL_law_1242 rfl rfl ?_
      refine am_if_ne (tgt := 1259) (q := 1247) dL_law_1244 rfl rfl (fun hz => absurd rfl hz) (fun _ => ?_)
      refine am_aload_n (q := 1248) dL_law_1247 rfl rfl ?_
      refine am_iconst (q := 1249) (v := 0) dL_law_1248 kc_i0 rfl ?_
      refine cm_laload (q := 1250) dL_law_1249 (by assumption) hp0 rfl ?_
      refine am_iload (q := 1252) dL_law_1250 rfl rfl ?_
      refine am_i2l (q := 1253) dL_law_1252 rfl ?_
      refine am_lcmp (q := 1254) dL_law_1253 rfl ?_
      refine am_if_eq (tgt := 1259) (q := 1257) dL_law_1254 rfl rfl (fun _ => ?_) (fun hz => absurd lc_up hz)
      refine am_goto (tgt := 1317) dL_law_1259 rfl ?_
      exact MW.forget LL_le (K _ _ _ _ _ (h.to hx1 hy2 ho2) (Nat.le_add_right _ _) (Nat.le_add_right _ _))
    · rw [if_neg hd] at hq
      have er : rv = 2 := hq.1
      have eM := hq.2
      subst er
      subst eM
      have hb := k_X14_advise (G := G) (J := J) (k := xs (i + 1)) (n := xs (i + 2)) hG h.yg
      rw [if_pos hc, if_neg hd] at hb
      refine am_istore (q := 1213) (ls1 := [_, _, _, _, _, _, _, _, _]) dL_law_1211 (Nat.le_of_ble_eq_true rfl) rfl rfl ?_
      refine am_aload_n (q := 1214) dL_law_1213 rfl rfl ?_
      refine am_aload_n (q := 1215) dL_law_1214 rfl rfl ?_
      refine am_iload (q := 1217) dL_law_1215 rfl rfl ?_
      refine am_iconst (q := 1218) (v := 1) dL_law_1217 kc_i1 rfl ?_
      refine am_iadd (q := 1219) dL_law_1218 rfl ?_
      refine am_tint (q := 1220) dL_law_1219 (hsc) p1.1 (sc_va p1) rfl ?_
      refine am_aload_n (q := 1221) dL_law_1220 rfl rfl ?_
      refine am_iload (q := 1223) dL_law_1221 rfl rfl ?_
      refine am_iconst (q := 1224) (v := 2) dL_law_1223 kc_i2 rfl ?_
      refine am_iadd (q := 1225) dL_law_1224 rfl ?_
      refine am_tint (q := 1226) dL_law_1225 (hsc) p2.1 (sc_va p2) rfl ?_
      refine cm_call0 (q := 1229) (As := [_, _]) hG dL_law_1226 mlL_136 rfl (by assumption) ⟨_, _, rfl⟩ (Nat.le_of_ble_eq_true rfl) (Nat.le_of_ble_eq_true rfl) (Nat.le_of_ble_eq_true rfl) (Nat.le_of_ble_eq_true rfl) hb rfl ?_
      rintro _ _ ⟨rfl, I2, R2, rfl, hy2, ht2, ho2⟩
      refine am_istore (q := 1231) (ls1 := [_, _, _, _, _, _, _, _, _]) dL_law_1229 (Nat.le_of_ble_eq_true rfl) rfl rfl ?_
      refine am_aload_n (q := 1232) dL_law_1231 rfl rfl ?_
      refine cm_call0 (q := 1235) (As := []) hG dL_law_1232 mlL_77 rfl (by assumption) ⟨_, _, rfl⟩ (Nat.le_of_ble_eq_true rfl) (Nat.le_of_ble_eq_true rfl) (Nat.le_of_ble_eq_true rfl) (Nat.le_of_ble_eq_true rfl) (k_X14_thrown ky) rfl ?_
      rintro _ _ ⟨rfl, rfl⟩
      rw [ht2]
      refine am_iload (q := 1237) dL_law_1235 rfl rfl ?_
      refine am_icmp_eq (tgt := 1242) (q := 1240) dL_law_1237 rfl rfl (fun _ => ?_) (fun hz => absurd rfl hz)
      refine am_iload (q := 1244) dL_law_1242 rfl rfl ?_
      refine am_if_ne (tgt := 1259) (q := 1247) dL_law_1244 rfl rfl (fun _ => ?_) (fun hz => absurd hz (by decide))
      refine am_goto (tgt := 1317) dL_law_1259 rfl ?_
      exact MW.forget LL_le (K _ _ _ _ _ (h.tg hy2 ho2) (Nat.add_le_add_left (by decide : 1 ≤ 20) _) (Nat.add_le_add_left (by decide : 6 ≤ 200) _))
  · rw [if_neg hc] at hq
    have er : rv = 1 := hq.1
    have eM := hq.2
    subst er
    subst eM
    have hb := k_X14_advise (G := G) (J := J) (k := xs (i + 1)) (n := xs (i + 2)) hG h.yg
    rw [if_neg hc] at hb
    refine am_istore (q := 1213) (ls1 := [_, _, _, _, _, _, _, _, _]) dL_law_1211 (Nat.le_of_ble_eq_true rfl) rfl rfl ?_
    refine am_aload_n (q := 1214) dL_law_1213 rfl rfl ?_
    refine am_aload_n (q := 1215) dL_law_1214 rfl rfl ?_
    refine am_iload (q := 1217) dL_law_1215 rfl rfl ?_
    refine am_iconst (q := 1218) (v := 1) dL_law_1217 kc_i1 rfl ?_
    refine am_iadd (q := 1219) dL_law_1218 rfl ?_
    refine am_tint (q := 1220) dL_law_1219 (hsc) p1.1 (sc_va p1) rfl ?_
    refine am_aload_n (q := 1221) dL_law_1220 rfl rfl ?_
    refine am_iload (q := 1223) dL_law_1221 rfl rfl ?_
    refine am_iconst (q := 1224) (v := 2) dL_law_1223 kc_i2 rfl ?_
    refine am_iadd (q := 1225) dL_law_1224 rfl ?_
    refine am_tint (q := 1226) dL_law_1225 (hsc) p2.1 (sc_va p2) rfl ?_
    refine cm_call0 (q := 1229) (As := [_, _]) hG dL_law_1226 mlL_136 rfl (by assumption) ⟨_, _, rfl⟩ (Nat.le_of_ble_eq_true rfl) (Nat.le_of_ble_eq_true rfl) (Nat.le_of_ble_eq_true rfl) (Nat.le_of_ble_eq_true rfl) hb rfl ?_
    rintro _ _ ⟨rfl, I2, R2, rfl, hy2, ht2, ho2⟩
    refine am_istore (q := 1231) (ls1 := [_, _, _, _, _, _, _, _, _]) dL_law_1229 (Nat.le_of_ble_eq_true rfl) rfl rfl ?_
    refine am_aload_n (q := 1232) dL_law_1231 rfl rfl ?_
    refine cm_call0 (q := 1235) (As := []) hG dL_law_1232 mlL_77 rfl (by assumption) ⟨_, _, rfl⟩ (Nat.le_of_ble_eq_true rfl) (Nat.le_of_ble_eq_true rfl) (Nat.le_of_ble_eq_true rfl) (Nat.le_of_ble_eq_true rfl) (k_X14_thrown ky) rfl ?_
    rintro _ _ ⟨rfl, rfl⟩
    rw [ht2]
    refine am_iload (q := 1237) dL_law_1235 rfl rfl ?_
    refine am_icmp_eq (tgt := 1242) (q := 1240) dL_law_1237 rfl rfl (fun _ => ?_) (fun hz => absurd rfl hz)
    refine am_iload (q := 1244) dL_law_1242 rfl rfl ?_
    refine am_if_ne (tgt := 1259) (q := 1247) dL_law_1244 rfl rfl (fun _ => ?_) (fun hz => absurd hz (by decide))
    refine am_goto (tgt := 1317) dL_law_1259 rfl ?_
    exact MW.forget LL_le (K _ _ _ _ _ (h.tg hy2 ho2) (Nat.add_le_add_left (by decide : 1 ≤ 20) _) (Nat.add_le_add_left (by decide : 6 ≤ 200) _))
end Lc

