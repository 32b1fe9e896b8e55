def mL_law : iM := (yL_law, cL_law, 7, some .boolean)
theorem eL_law_0 : ino mL_law 0 = some (.new 8, 3) := by decide +kernel
theorem eL_law_3 : ino mL_law 3 = some (.dup, 4) := by decide +kernel
theorem eL_law_4 : ino mL_law 4 = some (.invokespecial 15, 7) := by decide +kernel
theorem eL_law_7 : ino mL_law 7 = some (.astore_n 1, 8) := by decide +kernel
theorem eL_law_8 : ino mL_law 8 = some (.new 16, 11) := by decide +kernel
theorem eL_law_11 : ino mL_law 11 = some (.dup, 12) := by decide +kernel
theorem eL_law_12 : ino mL_law 12 = some (.invokespecial 18, 15) := by decide +kernel
theorem eL_law_15 : ino mL_law 15 = some (.astore_n 2, 16) := by decide +kernel
theorem eL_law_16 : ino mL_law 16 = some (.iconst 1, 17) := by decide +kernel
theorem eL_law_17 : ino mL_law 17 = some (.newarray .long, 19) := by decide +kernel
theorem eL_law_19 : ino mL_law 19 = some (.astore_n 3, 20) := by decide +kernel
theorem eL_law_20 : ino mL_law 20 = some (.iconst 0, 21) := by decide +kernel
theorem eL_law_21 : ino mL_law 21 = some (.istore 4, 23) := by decide +kernel
theorem eL_law_23 : ino mL_law 23 = some (.iload 4, 25) := by decide +kernel
theorem eL_law_25 : ino mL_law 25 = some (.aload_n 0, 26) := by decide +kernel
theorem eL_law_26 : ino mL_law 26 = some (.arraylength, 27) := by decide +kernel
theorem eL_law_27 : ino mL_law 27 = some (.bipush 6, 29) := by decide +kernel
theorem eL_law_29 : ino mL_law 29 = some (.isub, 30) := by decide +kernel
theorem eL_law_30 : ino mL_law 30 = some (.if_icmp .gt 1312, 1342) := by decide +kernel
theorem eL_law_33 : ino mL_law 33 = some (.aload_n 0, 34) := by decide +kernel
theorem eL_law_34 : ino mL_law 34 = some (.iload 4, 36) := by decide +kernel
theorem eL_law_36 : ino mL_law 36 = some (.iaload, 37) := by decide +kernel
theorem eL_law_37 : ino mL_law 37 = some (.bipush 63, 39) := by decide +kernel
theorem eL_law_39 : ino mL_law 39 = some (.iand, 40) := by decide +kernel
theorem eL_law_40 : decode mL_law.2.1 40 = .ok (.tableswitch 1296 0 40 #[180, 253, 278, 291, 304, 372, 409, 446, 483, 508, 533, 570, 595, 620, 645, 670, 695, 708, 733, 758, 783, 796, 821, 846, 859, 884, 897, 934, 959, 972, 997, 1022, 1047, 1084, 1133, 1158, 1183, 1196, 1221, 1246, 1271], 180) := by decide +kernel
theorem eL_law_220 : ino mL_law 220 = some (.aload_n 1, 221) := by decide +kernel
theorem eL_law_221 : ino mL_law 221 = some (.aload_n 0, 222) := by decide +kernel
theorem eL_law_222 : ino mL_law 222 = some (.iload 4, 224) := by decide +kernel
theorem eL_law_224 : ino mL_law 224 = some (.iconst 1, 225) := by decide +kernel
theorem eL_law_225 : ino mL_law 225 = some (.iadd, 226) := by decide +kernel
theorem eL_law_226 : ino mL_law 226 = some (.iaload, 227) := by decide +kernel
theorem eL_law_227 : ino mL_law 227 = some (.aload_n 0, 228) := by decide +kernel
theorem eL_law_228 : ino mL_law 228 = some (.iload 4, 230) := by decide +kernel
theorem eL_law_230 : ino mL_law 230 = some (.iconst 2, 231) := by decide +kernel
theorem eL_law_231 : ino mL_law 231 = some (.iadd, 232) := by decide +kernel
theorem eL_law_232 : ino mL_law 232 = some (.iaload, 233) := by decide +kernel
theorem eL_law_233 : ino mL_law 233 = some (.aload_n 0, 234) := by decide +kernel
theorem eL_law_234 : ino mL_law 234 = some (.iload 4, 236) := by decide +kernel
theorem eL_law_236 : ino mL_law 236 = some (.iconst 3, 237) := by decide +kernel
theorem eL_law_237 : ino mL_law 237 = some (.iadd, 238) := by decide +kernel
theorem eL_law_238 : ino mL_law 238 = some (.iaload, 239) := by decide +kernel
theorem eL_law_239 : ino mL_law 239 = some (.aload_n 0, 240) := by decide +kernel
theorem eL_law_240 : ino mL_law 240 = some (.iload 4, 242) := by decide +kernel
theorem eL_law_242 : ino mL_law 242 = some (.iconst 4, 243) := by decide +kernel
theorem eL_law_243 : ino mL_law 243 = some (.iadd, 244) := by decide +kernel
theorem eL_law_244 : ino mL_law 244 = some (.iaload, 245) := by decide +kernel
theorem eL_law_245 : ino mL_law 245 = some (.aload_n 0, 246) := by decide +kernel
theorem eL_law_246 : ino mL_law 246 = some (.iload 4, 248) := by decide +kernel
theorem eL_law_248 : ino mL_law 248 = some (.iconst 5, 249) := by decide +kernel
theorem eL_law_249 : ino mL_law 249 = some (.iadd, 250) := by decide +kernel
theorem eL_law_250 : ino mL_law 250 = some (.iaload, 251) := by decide +kernel
theorem eL_law_251 : ino mL_law 251 = some (.invokevirtual 19, 254) := by decide +kernel
theorem eL_law_254 : ino mL_law 254 = some (.aload_n 2, 255) := by decide +kernel
theorem eL_law_255 : ino mL_law 255 = some (.aload_n 0, 256) := by decide +kernel
theorem eL_law_256 : ino mL_law 256 = some (.iload 4, 258) := by decide +kernel
theorem eL_law_258 : ino mL_law 258 = some (.iconst 1, 259) := by decide +kernel
theorem eL_law_259 : ino mL_law 259 = some (.iadd, 260) := by decide +kernel
theorem eL_law_260 : ino mL_law 260 = some (.iaload, 261) := by decide +kernel
theorem eL_law_261 : ino mL_law 261 = some (.aload_n 0, 262) := by decide +kernel
theorem eL_law_262 : ino mL_law 262 = some (.iload 4, 264) := by decide +kernel
theorem eL_law_264 : ino mL_law 264 = some (.iconst 2, 265) := by decide +kernel
theorem eL_law_265 : ino mL_law 265 = some (.iadd, 266) := by decide +kernel
theorem eL_law_266 : ino mL_law 266 = some (.iaload, 267) := by decide +kernel
theorem eL_law_267 : ino mL_law 267 = some (.aload_n 0, 268) := by decide +kernel
theorem eL_law_268 : ino mL_law 268 = some (.iload 4, 270) := by decide +kernel
theorem eL_law_270 : ino mL_law 270 = some (.iconst 3, 271) := by decide +kernel
theorem eL_law_271 : ino mL_law 271 = some (.iadd, 272) := by decide +kernel
theorem eL_law_272 : ino mL_law 272 = some (.iaload, 273) := by decide +kernel
theorem eL_law_273 : ino mL_law 273 = some (.aload_n 0, 274) := by decide +kernel
theorem eL_law_274 : ino mL_law 274 = some (.iload 4, 276) := by decide +kernel
theorem eL_law_276 : ino mL_law 276 = some (.iconst 4, 277) := by decide +kernel
theorem eL_law_277 : ino mL_law 277 = some (.iadd, 278) := by decide +kernel
theorem eL_law_278 : ino mL_law 278 = some (.iaload, 279) := by decide +kernel
theorem eL_law_279 : ino mL_law 279 = some (.aload_n 0, 280) := by decide +kernel
theorem eL_law_280 : ino mL_law 280 = some (.iload 4, 282) := by decide +kernel
theorem eL_law_282 : ino mL_law 282 = some (.iconst 5, 283) := by decide +kernel
theorem eL_law_283 : ino mL_law 283 = some (.iadd, 284) := by decide +kernel
theorem eL_law_284 : ino mL_law 284 = some (.iaload, 285) := by decide +kernel
theorem eL_law_285 : ino mL_law 285 = some (.invokevirtual 23, 288) := by decide +kernel
theorem eL_law_288 : ino mL_law 288 = some (.if_icmp .eq 1048, 1336) := by decide +kernel
theorem eL_law_291 : ino mL_law 291 = some (.iconst 0, 292) := by decide +kernel
theorem eL_law_292 : ino mL_law 292 = some (.ireturn, 293) := by decide +kernel
theorem eL_law_293 : ino mL_law 293 = some (.aload_n 1, 294) := by decide +kernel
theorem eL_law_294 : ino mL_law 294 = some (.aload_n 0, 295) := by decide +kernel
theorem eL_law_295 : ino mL_law 295 = some (.iload 4, 297) := by decide +kernel
theorem eL_law_297 : ino mL_law 297 = some (.iconst 1, 298) := by decide +kernel
theorem eL_law_298 : ino mL_law 298 = some (.iadd, 299) := by decide +kernel
theorem eL_law_299 : ino mL_law 299 = some (.iaload, 300) := by decide +kernel
theorem eL_law_300 : ino mL_law 300 = some (.invokevirtual 24, 303) := by decide +kernel
theorem eL_law_303 : ino mL_law 303 = some (.aload_n 2, 304) := by decide +kernel
theorem eL_law_304 : ino mL_law 304 = some (.aload_n 0, 305) := by decide +kernel
theorem eL_law_305 : ino mL_law 305 = some (.iload 4, 307) := by decide +kernel
theorem eL_law_307 : ino mL_law 307 = some (.iconst 1, 308) := by decide +kernel
theorem eL_law_308 : ino mL_law 308 = some (.iadd, 309) := by decide +kernel
theorem eL_law_309 : ino mL_law 309 = some (.iaload, 310) := by decide +kernel
theorem eL_law_310 : ino mL_law 310 = some (.invokevirtual 28, 313) := by decide +kernel
theorem eL_law_313 : ino mL_law 313 = some (.if_icmp .eq 1023, 1336) := by decide +kernel
theorem eL_law_316 : ino mL_law 316 = some (.iconst 0, 317) := by decide +kernel
theorem eL_law_317 : ino mL_law 317 = some (.ireturn, 318) := by decide +kernel
theorem eL_law_318 : ino mL_law 318 = some (.aload_n 1, 319) := by decide +kernel
theorem eL_law_319 : ino mL_law 319 = some (.invokevirtual 29, 322) := by decide +kernel
theorem eL_law_322 : ino mL_law 322 = some (.aload_n 2, 323) := by decide +kernel
theorem eL_law_323 : ino mL_law 323 = some (.invokevirtual 33, 326) := by decide +kernel
theorem eL_law_326 : ino mL_law 326 = some (.if_icmp .eq 1010, 1336) := by decide +kernel
theorem eL_law_329 : ino mL_law 329 = some (.iconst 0, 330) := by decide +kernel
theorem eL_law_330 : ino mL_law 330 = some (.ireturn, 331) := by decide +kernel
theorem eL_law_331 : ino mL_law 331 = some (.aload_n 1, 332) := by decide +kernel
theorem eL_law_332 : ino mL_law 332 = some (.invokevirtual 34, 335) := by decide +kernel
theorem eL_law_335 : ino mL_law 335 = some (.aload_n 2, 336) := by decide +kernel
theorem eL_law_336 : ino mL_law 336 = some (.invokevirtual 37, 339) := by decide +kernel
theorem eL_law_339 : ino mL_law 339 = some (.if_icmp .eq 997, 1336) := by decide +kernel
theorem eL_law_342 : ino mL_law 342 = some (.iconst 0, 343) := by decide +kernel
theorem eL_law_343 : ino mL_law 343 = some (.ireturn, 344) := by decide +kernel
theorem eL_law_344 : ino mL_law 344 = some (.aload_n 1, 345) := by decide +kernel
theorem eL_law_345 : ino mL_law 345 = some (.aload_n 0, 346) := by decide +kernel
theorem eL_law_346 : ino mL_law 346 = some (.iload 4, 348) := by decide +kernel
theorem eL_law_348 : ino mL_law 348 = some (.iconst 1, 349) := by decide +kernel
theorem eL_law_349 : ino mL_law 349 = some (.iadd, 350) := by decide +kernel
theorem eL_law_350 : ino mL_law 350 = some (.iaload, 351) := by decide +kernel
theorem eL_law_351 : ino mL_law 351 = some (.aload_n 0, 352) := by decide +kernel
theorem eL_law_352 : ino mL_law 352 = some (.iload 4, 354) := by decide +kernel
theorem eL_law_354 : ino mL_law 354 = some (.iconst 2, 355) := by decide +kernel
theorem eL_law_355 : ino mL_law 355 = some (.iadd, 356) := by decide +kernel
theorem eL_law_356 : ino mL_law 356 = some (.iaload, 357) := by decide +kernel
theorem eL_law_357 : ino mL_law 357 = some (.aload_n 3, 358) := by decide +kernel
theorem eL_law_358 : ino mL_law 358 = some (.invokestatic 38, 361) := by decide +kernel
theorem eL_law_361 : ino mL_law 361 = some (.istore 5, 363) := by decide +kernel
theorem eL_law_363 : ino mL_law 363 = some (.aload_n 2, 364) := by decide +kernel
theorem eL_law_364 : ino mL_law 364 = some (.aload_n 0, 365) := by decide +kernel
theorem eL_law_365 : ino mL_law 365 = some (.iload 4, 367) := by decide +kernel
theorem eL_law_367 : ino mL_law 367 = some (.iconst 1, 368) := by decide +kernel
theorem eL_law_368 : ino mL_law 368 = some (.iadd, 369) := by decide +kernel
theorem eL_law_369 : ino mL_law 369 = some (.iaload, 370) := by decide +kernel
theorem eL_law_370 : ino mL_law 370 = some (.aload_n 0, 371) := by decide +kernel
theorem eL_law_371 : ino mL_law 371 = some (.iload 4, 373) := by decide +kernel
theorem eL_law_373 : ino mL_law 373 = some (.iconst 2, 374) := by decide +kernel
theorem eL_law_374 : ino mL_law 374 = some (.iadd, 375) := by decide +kernel
theorem eL_law_375 : ino mL_law 375 = some (.iaload, 376) := by decide +kernel
theorem eL_law_376 : ino mL_law 376 = some (.invokevirtual 43, 379) := by decide +kernel
theorem eL_law_379 : ino mL_law 379 = some (.istore 6, 381) := by decide +kernel
theorem eL_law_381 : ino mL_law 381 = some (.aload_n 2, 382) := by decide +kernel
theorem eL_law_382 : ino mL_law 382 = some (.invokevirtual 44, 385) := by decide +kernel
theorem eL_law_385 : ino mL_law 385 = some (.iload 5, 387) := by decide +kernel
theorem eL_law_387 : ino mL_law 387 = some (.if_icmp .eq 5, 392) := by decide +kernel
theorem eL_law_390 : ino mL_law 390 = some (.iconst 0, 391) := by decide +kernel
theorem eL_law_391 : ino mL_law 391 = some (.ireturn, 392) := by decide +kernel
theorem eL_law_392 : ino mL_law 392 = some (.iload 5, 394) := by decide +kernel
theorem eL_law_394 : ino mL_law 394 = some (.ifCond .ne 15, 409) := by decide +kernel
theorem eL_law_397 : ino mL_law 397 = some (.aload_n 3, 398) := by decide +kernel
theorem eL_law_398 : ino mL_law 398 = some (.iconst 0, 399) := by decide +kernel
theorem eL_law_399 : ino mL_law 399 = some (.laload, 400) := by decide +kernel
theorem eL_law_400 : ino mL_law 400 = some (.iload 6, 402) := by decide +kernel
theorem eL_law_402 : ino mL_law 402 = some (.i2l, 403) := by decide +kernel
theorem eL_law_403 : ino mL_law 403 = some (.lcmp, 404) := by decide +kernel
theorem eL_law_404 : ino mL_law 404 = some (.ifCond .eq 5, 409) := by decide +kernel
theorem eL_law_407 : ino mL_law 407 = some (.iconst 0, 408) := by decide +kernel
theorem eL_law_408 : ino mL_law 408 = some (.ireturn, 409) := by decide +kernel
theorem eL_law_409 : ino mL_law 409 = some (.goto 927, 1336) := by decide +kernel
theorem eL_law_412 : ino mL_law 412 = some (.aload_n 1, 413) := by decide +kernel
theorem eL_law_413 : ino mL_law 413 = some (.aload_n 0, 414) := by decide +kernel
theorem eL_law_414 : ino mL_law 414 = some (.iload 4, 416) := by decide +kernel
theorem eL_law_416 : ino mL_law 416 = some (.iconst 1, 417) := by decide +kernel
theorem eL_law_417 : ino mL_law 417 = some (.iadd, 418) := by decide +kernel
theorem eL_law_418 : ino mL_law 418 = some (.iaload, 419) := by decide +kernel
theorem eL_law_419 : ino mL_law 419 = some (.aload_n 0, 420) := by decide +kernel
theorem eL_law_420 : ino mL_law 420 = some (.iload 4, 422) := by decide +kernel
theorem eL_law_422 : ino mL_law 422 = some (.iconst 2, 423) := by decide +kernel
theorem eL_law_423 : ino mL_law 423 = some (.iadd, 424) := by decide +kernel
theorem eL_law_424 : ino mL_law 424 = some (.iaload, 425) := by decide +kernel
theorem eL_law_425 : ino mL_law 425 = some (.invokevirtual 47, 428) := by decide +kernel
theorem eL_law_428 : ino mL_law 428 = some (.aload_n 2, 429) := by decide +kernel
theorem eL_law_429 : ino mL_law 429 = some (.aload_n 0, 430) := by decide +kernel
theorem eL_law_430 : ino mL_law 430 = some (.iload 4, 432) := by decide +kernel
theorem eL_law_432 : ino mL_law 432 = some (.iconst 1, 433) := by decide +kernel
theorem eL_law_433 : ino mL_law 433 = some (.iadd, 434) := by decide +kernel
theorem eL_law_434 : ino mL_law 434 = some (.iaload, 435) := by decide +kernel
theorem eL_law_435 : ino mL_law 435 = some (.aload_n 0, 436) := by decide +kernel
theorem eL_law_436 : ino mL_law 436 = some (.iload 4, 438) := by decide +kernel
theorem eL_law_438 : ino mL_law 438 = some (.iconst 2, 439) := by decide +kernel
theorem eL_law_439 : ino mL_law 439 = some (.iadd, 440) := by decide +kernel
theorem eL_law_440 : ino mL_law 440 = some (.iaload, 441) := by decide +kernel
theorem eL_law_441 : ino mL_law 441 = some (.invokevirtual 50, 444) := by decide +kernel
theorem eL_law_444 : ino mL_law 444 = some (.if_icmp .eq 892, 1336) := by decide +kernel
theorem eL_law_447 : ino mL_law 447 = some (.iconst 0, 448) := by decide +kernel
theorem eL_law_448 : ino mL_law 448 = some (.ireturn, 449) := by decide +kernel
theorem eL_law_449 : ino mL_law 449 = some (.aload_n 1, 450) := by decide +kernel
theorem eL_law_450 : ino mL_law 450 = some (.aload_n 0, 451) := by decide +kernel
theorem eL_law_451 : ino mL_law 451 = some (.iload 4, 453) := by decide +kernel
theorem eL_law_453 : ino mL_law 453 = some (.iconst 1, 454) := by decide +kernel
theorem eL_law_454 : ino mL_law 454 = some (.iadd, 455) := by decide +kernel
theorem eL_law_455 : ino mL_law 455 = some (.iaload, 456) := by decide +kernel
theorem eL_law_456 : ino mL_law 456 = some (.aload_n 0, 457) := by decide +kernel
theorem eL_law_457 : ino mL_law 457 = some (.iload 4, 459) := by decide +kernel
theorem eL_law_459 : ino mL_law 459 = some (.iconst 2, 460) := by decide +kernel
theorem eL_law_460 : ino mL_law 460 = some (.iadd, 461) := by decide +kernel
theorem eL_law_461 : ino mL_law 461 = some (.iaload, 462) := by decide +kernel
theorem eL_law_462 : ino mL_law 462 = some (.invokevirtual 51, 465) := by decide +kernel
theorem eL_law_465 : ino mL_law 465 = some (.aload_n 2, 466) := by decide +kernel
theorem eL_law_466 : ino mL_law 466 = some (.aload_n 0, 467) := by decide +kernel
theorem eL_law_467 : ino mL_law 467 = some (.iload 4, 469) := by decide +kernel
theorem eL_law_469 : ino mL_law 469 = some (.iconst 1, 470) := by decide +kernel
theorem eL_law_470 : ino mL_law 470 = some (.iadd, 471) := by decide +kernel
theorem eL_law_471 : ino mL_law 471 = some (.iaload, 472) := by decide +kernel
theorem eL_law_472 : ino mL_law 472 = some (.aload_n 0, 473) := by decide +kernel
theorem eL_law_473 : ino mL_law 473 = some (.iload 4, 475) := by decide +kernel
theorem eL_law_475 : ino mL_law 475 = some (.iconst 2, 476) := by decide +kernel
theorem eL_law_476 : ino mL_law 476 = some (.iadd, 477) := by decide +kernel
theorem eL_law_477 : ino mL_law 477 = some (.iaload, 478) := by decide +kernel
theorem eL_law_478 : ino mL_law 478 = some (.invokevirtual 54, 481) := by decide +kernel
theorem eL_law_481 : ino mL_law 481 = some (.if_icmp .eq 855, 1336) := by decide +kernel
theorem eL_law_484 : ino mL_law 484 = some (.iconst 0, 485) := by decide +kernel
theorem eL_law_485 : ino mL_law 485 = some (.ireturn, 486) := by decide +kernel
theorem eL_law_486 : ino mL_law 486 = some (.aload_n 1, 487) := by decide +kernel
theorem eL_law_487 : ino mL_law 487 = some (.aload_n 0, 488) := by decide +kernel
theorem eL_law_488 : ino mL_law 488 = some (.iload 4, 490) := by decide +kernel
theorem eL_law_490 : ino mL_law 490 = some (.iconst 1, 491) := by decide +kernel
theorem eL_law_491 : ino mL_law 491 = some (.iadd, 492) := by decide +kernel
theorem eL_law_492 : ino mL_law 492 = some (.iaload, 493) := by decide +kernel
theorem eL_law_493 : ino mL_law 493 = some (.aload_n 0, 494) := by decide +kernel
theorem eL_law_494 : ino mL_law 494 = some (.iload 4, 496) := by decide +kernel
theorem eL_law_496 : ino mL_law 496 = some (.iconst 2, 497) := by decide +kernel
theorem eL_law_497 : ino mL_law 497 = some (.iadd, 498) := by decide +kernel
theorem eL_law_498 : ino mL_law 498 = some (.iaload, 499) := by decide +kernel
theorem eL_law_499 : ino mL_law 499 = some (.invokevirtual 55, 502) := by decide +kernel
theorem eL_law_502 : ino mL_law 502 = some (.aload_n 2, 503) := by decide +kernel
theorem eL_law_503 : ino mL_law 503 = some (.aload_n 0, 504) := by decide +kernel
theorem eL_law_504 : ino mL_law 504 = some (.iload 4, 506) := by decide +kernel
theorem eL_law_506 : ino mL_law 506 = some (.iconst 1, 507) := by decide +kernel
theorem eL_law_507 : ino mL_law 507 = some (.iadd, 508) := by decide +kernel
theorem eL_law_508 : ino mL_law 508 = some (.iaload, 509) := by decide +kernel
theorem eL_law_509 : ino mL_law 509 = some (.aload_n 0, 510) := by decide +kernel
theorem eL_law_510 : ino mL_law 510 = some (.iload 4, 512) := by decide +kernel
theorem eL_law_512 : ino mL_law 512 = some (.iconst 2, 513) := by decide +kernel
theorem eL_law_513 : ino mL_law 513 = some (.iadd, 514) := by decide +kernel
theorem eL_law_514 : ino mL_law 514 = some (.iaload, 515) := by decide +kernel
theorem eL_law_515 : ino mL_law 515 = some (.invokevirtual 58, 518) := by decide +kernel
theorem eL_law_518 : ino mL_law 518 = some (.if_icmp .eq 818, 1336) := by decide +kernel
theorem eL_law_521 : ino mL_law 521 = some (.iconst 0, 522) := by decide +kernel
theorem eL_law_522 : ino mL_law 522 = some (.ireturn, 523) := by decide +kernel
theorem eL_law_523 : ino mL_law 523 = some (.aload_n 1, 524) := by decide +kernel
theorem eL_law_524 : ino mL_law 524 = some (.aload_n 0, 525) := by decide +kernel
theorem eL_law_525 : ino mL_law 525 = some (.iload 4, 527) := by decide +kernel
theorem eL_law_527 : ino mL_law 527 = some (.iconst 1, 528) := by decide +kernel
theorem eL_law_528 : ino mL_law 528 = some (.iadd, 529) := by decide +kernel
theorem eL_law_529 : ino mL_law 529 = some (.iaload, 530) := by decide +kernel
theorem eL_law_530 : ino mL_law 530 = some (.invokevirtual 59, 533) := by decide +kernel
theorem eL_law_533 : ino mL_law 533 = some (.aload_n 2, 534) := by decide +kernel
theorem eL_law_534 : ino mL_law 534 = some (.aload_n 0, 535) := by decide +kernel
theorem eL_law_535 : ino mL_law 535 = some (.iload 4, 537) := by decide +kernel
theorem eL_law_537 : ino mL_law 537 = some (.iconst 1, 538) := by decide +kernel
theorem eL_law_538 : ino mL_law 538 = some (.iadd, 539) := by decide +kernel
theorem eL_law_539 : ino mL_law 539 = some (.iaload, 540) := by decide +kernel
theorem eL_law_540 : ino mL_law 540 = some (.invokevirtual 63, 543) := by decide +kernel
theorem eL_law_543 : ino mL_law 543 = some (.if_icmp .eq 793, 1336) := by decide +kernel
theorem eL_law_546 : ino mL_law 546 = some (.iconst 0, 547) := by decide +kernel
theorem eL_law_547 : ino mL_law 547 = some (.ireturn, 548) := by decide +kernel
theorem eL_law_548 : ino mL_law 548 = some (.aload_n 1, 549) := by decide +kernel
theorem eL_law_549 : ino mL_law 549 = some (.aload_n 0, 550) := by decide +kernel
theorem eL_law_550 : ino mL_law 550 = some (.iload 4, 552) := by decide +kernel
theorem eL_law_552 : ino mL_law 552 = some (.iconst 1, 553) := by decide +kernel
theorem eL_law_553 : ino mL_law 553 = some (.iadd, 554) := by decide +kernel
theorem eL_law_554 : ino mL_law 554 = some (.iaload, 555) := by decide +kernel
theorem eL_law_555 : ino mL_law 555 = some (.invokevirtual 64, 558) := by decide +kernel
theorem eL_law_558 : ino mL_law 558 = some (.aload_n 2, 559) := by decide +kernel
theorem eL_law_559 : ino mL_law 559 = some (.aload_n 0, 560) := by decide +kernel
theorem eL_law_560 : ino mL_law 560 = some (.iload 4, 562) := by decide +kernel
theorem eL_law_562 : ino mL_law 562 = some (.iconst 1, 563) := by decide +kernel
theorem eL_law_563 : ino mL_law 563 = some (.iadd, 564) := by decide +kernel
theorem eL_law_564 : ino mL_law 564 = some (.iaload, 565) := by decide +kernel
theorem eL_law_565 : ino mL_law 565 = some (.invokevirtual 67, 568) := by decide +kernel
theorem eL_law_568 : ino mL_law 568 = some (.if_icmp .eq 768, 1336) := by decide +kernel
theorem eL_law_571 : ino mL_law 571 = some (.iconst 0, 572) := by decide +kernel
theorem eL_law_572 : ino mL_law 572 = some (.ireturn, 573) := by decide +kernel
theorem eL_law_573 : ino mL_law 573 = some (.aload_n 1, 574) := by decide +kernel
theorem eL_law_574 : ino mL_law 574 = some (.aload_n 0, 575) := by decide +kernel
theorem eL_law_575 : ino mL_law 575 = some (.iload 4, 577) := by decide +kernel
theorem eL_law_577 : ino mL_law 577 = some (.iconst 1, 578) := by decide +kernel
theorem eL_law_578 : ino mL_law 578 = some (.iadd, 579) := by decide +kernel
theorem eL_law_579 : ino mL_law 579 = some (.iaload, 580) := by decide +kernel
theorem eL_law_580 : ino mL_law 580 = some (.aload_n 0, 581) := by decide +kernel
theorem eL_law_581 : ino mL_law 581 = some (.iload 4, 583) := by decide +kernel
theorem eL_law_583 : ino mL_law 583 = some (.iconst 2, 584) := by decide +kernel
theorem eL_law_584 : ino mL_law 584 = some (.iadd, 585) := by decide +kernel
theorem eL_law_585 : ino mL_law 585 = some (.iaload, 586) := by decide +kernel
theorem eL_law_586 : ino mL_law 586 = some (.invokevirtual 68, 589) := by decide +kernel
theorem eL_law_589 : ino mL_law 589 = some (.aload_n 2, 590) := by decide +kernel
theorem eL_law_590 : ino mL_law 590 = some (.aload_n 0, 591) := by decide +kernel
theorem eL_law_591 : ino mL_law 591 = some (.iload 4, 593) := by decide +kernel
theorem eL_law_593 : ino mL_law 593 = some (.iconst 1, 594) := by decide +kernel
theorem eL_law_594 : ino mL_law 594 = some (.iadd, 595) := by decide +kernel
theorem eL_law_595 : ino mL_law 595 = some (.iaload, 596) := by decide +kernel
theorem eL_law_596 : ino mL_law 596 = some (.aload_n 0, 597) := by decide +kernel
theorem eL_law_597 : ino mL_law 597 = some (.iload 4, 599) := by decide +kernel
theorem eL_law_599 : ino mL_law 599 = some (.iconst 2, 600) := by decide +kernel
theorem eL_law_600 : ino mL_law 600 = some (.iadd, 601) := by decide +kernel
theorem eL_law_601 : ino mL_law 601 = some (.iaload, 602) := by decide +kernel
theorem eL_law_602 : ino mL_law 602 = some (.invokevirtual 71, 605) := by decide +kernel
theorem eL_law_605 : ino mL_law 605 = some (.if_icmp .eq 731, 1336) := by decide +kernel
theorem eL_law_608 : ino mL_law 608 = some (.iconst 0, 609) := by decide +kernel
theorem eL_law_609 : ino mL_law 609 = some (.ireturn, 610) := by decide +kernel
theorem eL_law_610 : ino mL_law 610 = some (.aload_n 1, 611) := by decide +kernel
theorem eL_law_611 : ino mL_law 611 = some (.aload_n 0, 612) := by decide +kernel
theorem eL_law_612 : ino mL_law 612 = some (.iload 4, 614) := by decide +kernel
theorem eL_law_614 : ino mL_law 614 = some (.iconst 1, 615) := by decide +kernel
theorem eL_law_615 : ino mL_law 615 = some (.iadd, 616) := by decide +kernel
theorem eL_law_616 : ino mL_law 616 = some (.iaload, 617) := by decide +kernel
theorem eL_law_617 : ino mL_law 617 = some (.invokevirtual 72, 620) := by decide +kernel
theorem eL_law_620 : ino mL_law 620 = some (.aload_n 2, 621) := by decide +kernel
theorem eL_law_621 : ino mL_law 621 = some (.aload_n 0, 622) := by decide +kernel
theorem eL_law_622 : ino mL_law 622 = some (.iload 4, 624) := by decide +kernel
theorem eL_law_624 : ino mL_law 624 = some (.iconst 1, 625) := by decide +kernel
theorem eL_law_625 : ino mL_law 625 = some (.iadd, 626) := by decide +kernel
theorem eL_law_626 : ino mL_law 626 = some (.iaload, 627) := by decide +kernel
theorem eL_law_627 : ino mL_law 627 = some (.invokevirtual 75, 630) := by decide +kernel
theorem eL_law_630 : ino mL_law 630 = some (.if_icmp .eq 706, 1336) := by decide +kernel
theorem eL_law_633 : ino mL_law 633 = some (.iconst 0, 634) := by decide +kernel
theorem eL_law_634 : ino mL_law 634 = some (.ireturn, 635) := by decide +kernel
theorem eL_law_635 : ino mL_law 635 = some (.aload_n 1, 636) := by decide +kernel
theorem eL_law_636 : ino mL_law 636 = some (.aload_n 0, 637) := by decide +kernel
theorem eL_law_637 : ino mL_law 637 = some (.iload 4, 639) := by decide +kernel
theorem eL_law_639 : ino mL_law 639 = some (.iconst 1, 640) := by decide +kernel
theorem eL_law_640 : ino mL_law 640 = some (.iadd, 641) := by decide +kernel
theorem eL_law_641 : ino mL_law 641 = some (.iaload, 642) := by decide +kernel
theorem eL_law_642 : ino mL_law 642 = some (.invokevirtual 76, 645) := by decide +kernel
theorem eL_law_645 : ino mL_law 645 = some (.aload_n 2, 646) := by decide +kernel
theorem eL_law_646 : ino mL_law 646 = some (.aload_n 0, 647) := by decide +kernel
theorem eL_law_647 : ino mL_law 647 = some (.iload 4, 649) := by decide +kernel
theorem eL_law_649 : ino mL_law 649 = some (.iconst 1, 650) := by decide +kernel
theorem eL_law_650 : ino mL_law 650 = some (.iadd, 651) := by decide +kernel
theorem eL_law_651 : ino mL_law 651 = some (.iaload, 652) := by decide +kernel
theorem eL_law_652 : ino mL_law 652 = some (.invokevirtual 79, 655) := by decide +kernel
theorem eL_law_655 : ino mL_law 655 = some (.if_icmp .eq 681, 1336) := by decide +kernel
theorem eL_law_658 : ino mL_law 658 = some (.iconst 0, 659) := by decide +kernel
theorem eL_law_659 : ino mL_law 659 = some (.ireturn, 660) := by decide +kernel
theorem eL_law_660 : ino mL_law 660 = some (.aload_n 1, 661) := by decide +kernel
theorem eL_law_661 : ino mL_law 661 = some (.aload_n 0, 662) := by decide +kernel
theorem eL_law_662 : ino mL_law 662 = some (.iload 4, 664) := by decide +kernel
theorem eL_law_664 : ino mL_law 664 = some (.iconst 1, 665) := by decide +kernel
theorem eL_law_665 : ino mL_law 665 = some (.iadd, 666) := by decide +kernel
theorem eL_law_666 : ino mL_law 666 = some (.iaload, 667) := by decide +kernel
theorem eL_law_667 : ino mL_law 667 = some (.invokevirtual 80, 670) := by decide +kernel
theorem eL_law_670 : ino mL_law 670 = some (.aload_n 2, 671) := by decide +kernel
theorem eL_law_671 : ino mL_law 671 = some (.aload_n 0, 672) := by decide +kernel
theorem eL_law_672 : ino mL_law 672 = some (.iload 4, 674) := by decide +kernel
theorem eL_law_674 : ino mL_law 674 = some (.iconst 1, 675) := by decide +kernel
theorem eL_law_675 : ino mL_law 675 = some (.iadd, 676) := by decide +kernel
theorem eL_law_676 : ino mL_law 676 = some (.iaload, 677) := by decide +kernel
theorem eL_law_677 : ino mL_law 677 = some (.invokevirtual 83, 680) := by decide +kernel
theorem eL_law_680 : ino mL_law 680 = some (.if_icmp .eq 656, 1336) := by decide +kernel
theorem eL_law_683 : ino mL_law 683 = some (.iconst 0, 684) := by decide +kernel
theorem eL_law_684 : ino mL_law 684 = some (.ireturn, 685) := by decide +kernel
theorem eL_law_685 : ino mL_law 685 = some (.aload_n 1, 686) := by decide +kernel
theorem eL_law_686 : ino mL_law 686 = some (.aload_n 0, 687) := by decide +kernel
theorem eL_law_687 : ino mL_law 687 = some (.iload 4, 689) := by decide +kernel
theorem eL_law_689 : ino mL_law 689 = some (.iconst 1, 690) := by decide +kernel
theorem eL_law_690 : ino mL_law 690 = some (.iadd, 691) := by decide +kernel
theorem eL_law_691 : ino mL_law 691 = some (.iaload, 692) := by decide +kernel
theorem eL_law_692 : ino mL_law 692 = some (.invokevirtual 84, 695) := by decide +kernel
theorem eL_law_695 : ino mL_law 695 = some (.aload_n 2, 696) := by decide +kernel
theorem eL_law_696 : ino mL_law 696 = some (.aload_n 0, 697) := by decide +kernel
theorem eL_law_697 : ino mL_law 697 = some (.iload 4, 699) := by decide +kernel
theorem eL_law_699 : ino mL_law 699 = some (.iconst 1, 700) := by decide +kernel
theorem eL_law_700 : ino mL_law 700 = some (.iadd, 701) := by decide +kernel
theorem eL_law_701 : ino mL_law 701 = some (.iaload, 702) := by decide +kernel
theorem eL_law_702 : ino mL_law 702 = some (.invokevirtual 87, 705) := by decide +kernel
theorem eL_law_705 : ino mL_law 705 = some (.if_icmp .eq 631, 1336) := by decide +kernel
theorem eL_law_708 : ino mL_law 708 = some (.iconst 0, 709) := by decide +kernel
theorem eL_law_709 : ino mL_law 709 = some (.ireturn, 710) := by decide +kernel
theorem eL_law_710 : ino mL_law 710 = some (.aload_n 1, 711) := by decide +kernel
theorem eL_law_711 : ino mL_law 711 = some (.aload_n 0, 712) := by decide +kernel
theorem eL_law_712 : ino mL_law 712 = some (.iload 4, 714) := by decide +kernel
theorem eL_law_714 : ino mL_law 714 = some (.iconst 1, 715) := by decide +kernel
theorem eL_law_715 : ino mL_law 715 = some (.iadd, 716) := by decide +kernel
theorem eL_law_716 : ino mL_law 716 = some (.iaload, 717) := by decide +kernel
theorem eL_law_717 : ino mL_law 717 = some (.invokevirtual 88, 720) := by decide +kernel
theorem eL_law_720 : ino mL_law 720 = some (.aload_n 2, 721) := by decide +kernel
theorem eL_law_721 : ino mL_law 721 = some (.aload_n 0, 722) := by decide +kernel
theorem eL_law_722 : ino mL_law 722 = some (.iload 4, 724) := by decide +kernel
theorem eL_law_724 : ino mL_law 724 = some (.iconst 1, 725) := by decide +kernel
theorem eL_law_725 : ino mL_law 725 = some (.iadd, 726) := by decide +kernel
theorem eL_law_726 : ino mL_law 726 = some (.iaload, 727) := by decide +kernel
theorem eL_law_727 : ino mL_law 727 = some (.invokevirtual 91, 730) := by decide +kernel
theorem eL_law_730 : ino mL_law 730 = some (.if_icmp .eq 606, 1336) := by decide +kernel
theorem eL_law_733 : ino mL_law 733 = some (.iconst 0, 734) := by decide +kernel
theorem eL_law_734 : ino mL_law 734 = some (.ireturn, 735) := by decide +kernel
theorem eL_law_735 : ino mL_law 735 = some (.aload_n 1, 736) := by decide +kernel
theorem eL_law_736 : ino mL_law 736 = some (.invokevirtual 92, 739) := by decide +kernel
theorem eL_law_739 : ino mL_law 739 = some (.aload_n 2, 740) := by decide +kernel
theorem eL_law_740 : ino mL_law 740 = some (.invokevirtual 95, 743) := by decide +kernel
theorem eL_law_743 : ino mL_law 743 = some (.if_icmp .eq 593, 1336) := by decide +kernel
theorem eL_law_746 : ino mL_law 746 = some (.iconst 0, 747) := by decide +kernel
theorem eL_law_747 : ino mL_law 747 = some (.ireturn, 748) := by decide +kernel
theorem eL_law_748 : ino mL_law 748 = some (.aload_n 1, 749) := by decide +kernel
theorem eL_law_749 : ino mL_law 749 = some (.aload_n 0, 750) := by decide +kernel
theorem eL_law_750 : ino mL_law 750 = some (.iload 4, 752) := by decide +kernel
theorem eL_law_752 : ino mL_law 752 = some (.iconst 1, 753) := by decide +kernel
theorem eL_law_753 : ino mL_law 753 = some (.iadd, 754) := by decide +kernel
theorem eL_law_754 : ino mL_law 754 = some (.iaload, 755) := by decide +kernel
theorem eL_law_755 : ino mL_law 755 = some (.invokevirtual 96, 758) := by decide +kernel
theorem eL_law_758 : ino mL_law 758 = some (.aload_n 2, 759) := by decide +kernel
theorem eL_law_759 : ino mL_law 759 = some (.aload_n 0, 760) := by decide +kernel
theorem eL_law_760 : ino mL_law 760 = some (.iload 4, 762) := by decide +kernel
theorem eL_law_762 : ino mL_law 762 = some (.iconst 1, 763) := by decide +kernel
theorem eL_law_763 : ino mL_law 763 = some (.iadd, 764) := by decide +kernel
theorem eL_law_764 : ino mL_law 764 = some (.iaload, 765) := by decide +kernel
theorem eL_law_765 : ino mL_law 765 = some (.invokevirtual 99, 768) := by decide +kernel
theorem eL_law_768 : ino mL_law 768 = some (.if_icmp .eq 568, 1336) := by decide +kernel
theorem eL_law_771 : ino mL_law 771 = some (.iconst 0, 772) := by decide +kernel
theorem eL_law_772 : ino mL_law 772 = some (.ireturn, 773) := by decide +kernel
theorem eL_law_773 : ino mL_law 773 = some (.aload_n 1, 774) := by decide +kernel
theorem eL_law_774 : ino mL_law 774 = some (.aload_n 0, 775) := by decide +kernel
theorem eL_law_775 : ino mL_law 775 = some (.iload 4, 777) := by decide +kernel
theorem eL_law_777 : ino mL_law 777 = some (.iconst 1, 778) := by decide +kernel
theorem eL_law_778 : ino mL_law 778 = some (.iadd, 779) := by decide +kernel
theorem eL_law_779 : ino mL_law 779 = some (.iaload, 780) := by decide +kernel
theorem eL_law_780 : ino mL_law 780 = some (.invokevirtual 100, 783) := by decide +kernel
theorem eL_law_783 : ino mL_law 783 = some (.aload_n 2, 784) := by decide +kernel
theorem eL_law_784 : ino mL_law 784 = some (.aload_n 0, 785) := by decide +kernel
theorem eL_law_785 : ino mL_law 785 = some (.iload 4, 787) := by decide +kernel
theorem eL_law_787 : ino mL_law 787 = some (.iconst 1, 788) := by decide +kernel
theorem eL_law_788 : ino mL_law 788 = some (.iadd, 789) := by decide +kernel
theorem eL_law_789 : ino mL_law 789 = some (.iaload, 790) := by decide +kernel
theorem eL_law_790 : ino mL_law 790 = some (.invokevirtual 103, 793) := by decide +kernel
theorem eL_law_793 : ino mL_law 793 = some (.if_icmp .eq 543, 1336) := by decide +kernel
theorem eL_law_796 : ino mL_law 796 = some (.iconst 0, 797) := by decide +kernel
theorem eL_law_797 : ino mL_law 797 = some (.ireturn, 798) := by decide +kernel
theorem eL_law_798 : ino mL_law 798 = some (.aload_n 1, 799) := by decide +kernel
theorem eL_law_799 : ino mL_law 799 = some (.aload_n 0, 800) := by decide +kernel
theorem eL_law_800 : ino mL_law 800 = some (.iload 4, 802) := by decide +kernel
theorem eL_law_802 : ino mL_law 802 = some (.iconst 1, 803) := by decide +kernel
theorem eL_law_803 : ino mL_law 803 = some (.iadd, 804) := by decide +kernel
theorem eL_law_804 : ino mL_law 804 = some (.iaload, 805) := by decide +kernel
theorem eL_law_805 : ino mL_law 805 = some (.invokevirtual 104, 808) := by decide +kernel
theorem eL_law_808 : ino mL_law 808 = some (.aload_n 2, 809) := by decide +kernel
theorem eL_law_809 : ino mL_law 809 = some (.aload_n 0, 810) := by decide +kernel
theorem eL_law_810 : ino mL_law 810 = some (.iload 4, 812) := by decide +kernel
theorem eL_law_812 : ino mL_law 812 = some (.iconst 1, 813) := by decide +kernel
theorem eL_law_813 : ino mL_law 813 = some (.iadd, 814) := by decide +kernel
theorem eL_law_814 : ino mL_law 814 = some (.iaload, 815) := by decide +kernel
theorem eL_law_815 : ino mL_law 815 = some (.invokevirtual 107, 818) := by decide +kernel
theorem eL_law_818 : ino mL_law 818 = some (.if_icmp .eq 518, 1336) := by decide +kernel
theorem eL_law_821 : ino mL_law 821 = some (.iconst 0, 822) := by decide +kernel
theorem eL_law_822 : ino mL_law 822 = some (.ireturn, 823) := by decide +kernel
theorem eL_law_823 : ino mL_law 823 = some (.aload_n 1, 824) := by decide +kernel
theorem eL_law_824 : ino mL_law 824 = some (.invokevirtual 108, 827) := by decide +kernel
theorem eL_law_827 : ino mL_law 827 = some (.aload_n 2, 828) := by decide +kernel
theorem eL_law_828 : ino mL_law 828 = some (.invokevirtual 111, 831) := by decide +kernel
theorem eL_law_831 : ino mL_law 831 = some (.if_icmp .eq 505, 1336) := by decide +kernel
theorem eL_law_834 : ino mL_law 834 = some (.iconst 0, 835) := by decide +kernel
theorem eL_law_835 : ino mL_law 835 = some (.ireturn, 836) := by decide +kernel
theorem eL_law_836 : ino mL_law 836 = some (.aload_n 1, 837) := by decide +kernel
theorem eL_law_837 : ino mL_law 837 = some (.aload_n 0, 838) := by decide +kernel
theorem eL_law_838 : ino mL_law 838 = some (.iload 4, 840) := by decide +kernel
theorem eL_law_840 : ino mL_law 840 = some (.iconst 1, 841) := by decide +kernel
theorem eL_law_841 : ino mL_law 841 = some (.iadd, 842) := by decide +kernel
theorem eL_law_842 : ino mL_law 842 = some (.iaload, 843) := by decide +kernel
theorem eL_law_843 : ino mL_law 843 = some (.invokevirtual 112, 846) := by decide +kernel
theorem eL_law_846 : ino mL_law 846 = some (.aload_n 2, 847) := by decide +kernel
theorem eL_law_847 : ino mL_law 847 = some (.aload_n 0, 848) := by decide +kernel
theorem eL_law_848 : ino mL_law 848 = some (.iload 4, 850) := by decide +kernel
theorem eL_law_850 : ino mL_law 850 = some (.iconst 1, 851) := by decide +kernel
theorem eL_law_851 : ino mL_law 851 = some (.iadd, 852) := by decide +kernel
theorem eL_law_852 : ino mL_law 852 = some (.iaload, 853) := by decide +kernel
theorem eL_law_853 : ino mL_law 853 = some (.invokevirtual 115, 856) := by decide +kernel
theorem eL_law_856 : ino mL_law 856 = some (.if_icmp .eq 480, 1336) := by decide +kernel
theorem eL_law_859 : ino mL_law 859 = some (.iconst 0, 860) := by decide +kernel
theorem eL_law_860 : ino mL_law 860 = some (.ireturn, 861) := by decide +kernel
theorem eL_law_861 : ino mL_law 861 = some (.aload_n 1, 862) := by decide +kernel
theorem eL_law_862 : ino mL_law 862 = some (.aload_n 0, 863) := by decide +kernel
theorem eL_law_863 : ino mL_law 863 = some (.iload 4, 865) := by decide +kernel
theorem eL_law_865 : ino mL_law 865 = some (.iconst 1, 866) := by decide +kernel
theorem eL_law_866 : ino mL_law 866 = some (.iadd, 867) := by decide +kernel
theorem eL_law_867 : ino mL_law 867 = some (.iaload, 868) := by decide +kernel
theorem eL_law_868 : ino mL_law 868 = some (.invokevirtual 116, 871) := by decide +kernel
theorem eL_law_871 : ino mL_law 871 = some (.aload_n 2, 872) := by decide +kernel
theorem eL_law_872 : ino mL_law 872 = some (.aload_n 0, 873) := by decide +kernel
theorem eL_law_873 : ino mL_law 873 = some (.iload 4, 875) := by decide +kernel
theorem eL_law_875 : ino mL_law 875 = some (.iconst 1, 876) := by decide +kernel
theorem eL_law_876 : ino mL_law 876 = some (.iadd, 877) := by decide +kernel
theorem eL_law_877 : ino mL_law 877 = some (.iaload, 878) := by decide +kernel
theorem eL_law_878 : ino mL_law 878 = some (.invokevirtual 119, 881) := by decide +kernel
theorem eL_law_881 : ino mL_law 881 = some (.if_icmp .eq 455, 1336) := by decide +kernel
theorem eL_law_884 : ino mL_law 884 = some (.iconst 0, 885) := by decide +kernel
theorem eL_law_885 : ino mL_law 885 = some (.ireturn, 886) := by decide +kernel
theorem eL_law_886 : ino mL_law 886 = some (.aload_n 1, 887) := by decide +kernel
theorem eL_law_887 : ino mL_law 887 = some (.invokevirtual 120, 890) := by decide +kernel
theorem eL_law_890 : ino mL_law 890 = some (.aload_n 2, 891) := by decide +kernel
theorem eL_law_891 : ino mL_law 891 = some (.invokevirtual 123, 894) := by decide +kernel
theorem eL_law_894 : ino mL_law 894 = some (.if_icmp .eq 442, 1336) := by decide +kernel
theorem eL_law_897 : ino mL_law 897 = some (.iconst 0, 898) := by decide +kernel
theorem eL_law_898 : ino mL_law 898 = some (.ireturn, 899) := by decide +kernel
theorem eL_law_899 : ino mL_law 899 = some (.aload_n 1, 900) := by decide +kernel
theorem eL_law_900 : ino mL_law 900 = some (.aload_n 0, 901) := by decide +kernel
theorem eL_law_901 : ino mL_law 901 = some (.iload 4, 903) := by decide +kernel
theorem eL_law_903 : ino mL_law 903 = some (.iconst 1, 904) := by decide +kernel
theorem eL_law_904 : ino mL_law 904 = some (.iadd, 905) := by decide +kernel
theorem eL_law_905 : ino mL_law 905 = some (.iaload, 906) := by decide +kernel
theorem eL_law_906 : ino mL_law 906 = some (.invokevirtual 124, 909) := by decide +kernel
theorem eL_law_909 : ino mL_law 909 = some (.aload_n 2, 910) := by decide +kernel
theorem eL_law_910 : ino mL_law 910 = some (.aload_n 0, 911) := by decide +kernel
theorem eL_law_911 : ino mL_law 911 = some (.iload 4, 913) := by decide +kernel
theorem eL_law_913 : ino mL_law 913 = some (.iconst 1, 914) := by decide +kernel
theorem eL_law_914 : ino mL_law 914 = some (.iadd, 915) := by decide +kernel
theorem eL_law_915 : ino mL_law 915 = some (.iaload, 916) := by decide +kernel
theorem eL_law_916 : ino mL_law 916 = some (.invokevirtual 127, 919) := by decide +kernel
theorem eL_law_919 : ino mL_law 919 = some (.if_icmp .eq 417, 1336) := by decide +kernel
theorem eL_law_922 : ino mL_law 922 = some (.iconst 0, 923) := by decide +kernel
theorem eL_law_923 : ino mL_law 923 = some (.ireturn, 924) := by decide +kernel
theorem eL_law_924 : ino mL_law 924 = some (.aload_n 1, 925) := by decide +kernel
theorem eL_law_925 : ino mL_law 925 = some (.invokevirtual 128, 928) := by decide +kernel
theorem eL_law_928 : ino mL_law 928 = some (.aload_n 2, 929) := by decide +kernel
theorem eL_law_929 : ino mL_law 929 = some (.invokevirtual 131, 932) := by decide +kernel
theorem eL_law_932 : ino mL_law 932 = some (.if_icmp .eq 404, 1336) := by decide +kernel
theorem eL_law_935 : ino mL_law 935 = some (.iconst 0, 936) := by decide +kernel
theorem eL_law_936 : ino mL_law 936 = some (.ireturn, 937) := by decide +kernel
theorem eL_law_937 : ino mL_law 937 = some (.aload_n 1, 938) := by decide +kernel
theorem eL_law_938 : ino mL_law 938 = some (.aload_n 0, 939) := by decide +kernel
theorem eL_law_939 : ino mL_law 939 = some (.iload 4, 941) := by decide +kernel
theorem eL_law_941 : ino mL_law 941 = some (.iconst 1, 942) := by decide +kernel
theorem eL_law_942 : ino mL_law 942 = some (.iadd, 943) := by decide +kernel
theorem eL_law_943 : ino mL_law 943 = some (.iaload, 944) := by decide +kernel
theorem eL_law_944 : ino mL_law 944 = some (.aload_n 0, 945) := by decide +kernel
theorem eL_law_945 : ino mL_law 945 = some (.iload 4, 947) := by decide +kernel
theorem eL_law_947 : ino mL_law 947 = some (.iconst 2, 948) := by decide +kernel
theorem eL_law_948 : ino mL_law 948 = some (.iadd, 949) := by decide +kernel
theorem eL_law_949 : ino mL_law 949 = some (.iaload, 950) := by decide +kernel
theorem eL_law_950 : ino mL_law 950 = some (.invokevirtual 132, 953) := by decide +kernel
theorem eL_law_953 : ino mL_law 953 = some (.aload_n 2, 954) := by decide +kernel
theorem eL_law_954 : ino mL_law 954 = some (.aload_n 0, 955) := by decide +kernel
theorem eL_law_955 : ino mL_law 955 = some (.iload 4, 957) := by decide +kernel
theorem eL_law_957 : ino mL_law 957 = some (.iconst 1, 958) := by decide +kernel
theorem eL_law_958 : ino mL_law 958 = some (.iadd, 959) := by decide +kernel
theorem eL_law_959 : ino mL_law 959 = some (.iaload, 960) := by decide +kernel
theorem eL_law_960 : ino mL_law 960 = some (.aload_n 0, 961) := by decide +kernel
theorem eL_law_961 : ino mL_law 961 = some (.iload 4, 963) := by decide +kernel
theorem eL_law_963 : ino mL_law 963 = some (.iconst 2, 964) := by decide +kernel
theorem eL_law_964 : ino mL_law 964 = some (.iadd, 965) := by decide +kernel
theorem eL_law_965 : ino mL_law 965 = some (.iaload, 966) := by decide +kernel
theorem eL_law_966 : ino mL_law 966 = some (.invokevirtual 135, 969) := by decide +kernel
theorem eL_law_969 : ino mL_law 969 = some (.if_icmp .eq 367, 1336) := by decide +kernel
theorem eL_law_972 : ino mL_law 972 = some (.iconst 0, 973) := by decide +kernel
theorem eL_law_973 : ino mL_law 973 = some (.ireturn, 974) := by decide +kernel
theorem eL_law_974 : ino mL_law 974 = some (.aload_n 1, 975) := by decide +kernel
theorem eL_law_975 : ino mL_law 975 = some (.aload_n 0, 976) := by decide +kernel
theorem eL_law_976 : ino mL_law 976 = some (.iload 4, 978) := by decide +kernel
theorem eL_law_978 : ino mL_law 978 = some (.iconst 1, 979) := by decide +kernel
theorem eL_law_979 : ino mL_law 979 = some (.iadd, 980) := by decide +kernel
theorem eL_law_980 : ino mL_law 980 = some (.iaload, 981) := by decide +kernel
theorem eL_law_981 : ino mL_law 981 = some (.invokevirtual 136, 984) := by decide +kernel
theorem eL_law_984 : ino mL_law 984 = some (.aload_n 2, 985) := by decide +kernel
theorem eL_law_985 : ino mL_law 985 = some (.aload_n 0, 986) := by decide +kernel
theorem eL_law_986 : ino mL_law 986 = some (.iload 4, 988) := by decide +kernel
theorem eL_law_988 : ino mL_law 988 = some (.iconst 1, 989) := by decide +kernel
theorem eL_law_989 : ino mL_law 989 = some (.iadd, 990) := by decide +kernel
theorem eL_law_990 : ino mL_law 990 = some (.iaload, 991) := by decide +kernel
theorem eL_law_991 : ino mL_law 991 = some (.invokevirtual 139, 994) := by decide +kernel
theorem eL_law_994 : ino mL_law 994 = some (.if_icmp .eq 342, 1336) := by decide +kernel
theorem eL_law_997 : ino mL_law 997 = some (.iconst 0, 998) := by decide +kernel
theorem eL_law_998 : ino mL_law 998 = some (.ireturn, 999) := by decide +kernel
theorem eL_law_999 : ino mL_law 999 = some (.aload_n 1, 1000) := by decide +kernel
theorem eL_law_1000 : ino mL_law 1000 = some (.invokevirtual 140, 1003) := by decide +kernel
theorem eL_law_1003 : ino mL_law 1003 = some (.aload_n 2, 1004) := by decide +kernel
theorem eL_law_1004 : ino mL_law 1004 = some (.invokevirtual 143, 1007) := by decide +kernel
theorem eL_law_1007 : ino mL_law 1007 = some (.if_icmp .eq 329, 1336) := by decide +kernel
theorem eL_law_1010 : ino mL_law 1010 = some (.iconst 0, 1011) := by decide +kernel
theorem eL_law_1011 : ino mL_law 1011 = some (.ireturn, 1012) := by decide +kernel
theorem eL_law_1012 : ino mL_law 1012 = some (.aload_n 1, 1013) := by decide +kernel
theorem eL_law_1013 : ino mL_law 1013 = some (.aload_n 0, 1014) := by decide +kernel
theorem eL_law_1014 : ino mL_law 1014 = some (.iload 4, 1016) := by decide +kernel
theorem eL_law_1016 : ino mL_law 1016 = some (.iconst 1, 1017) := by decide +kernel
theorem eL_law_1017 : ino mL_law 1017 = some (.iadd, 1018) := by decide +kernel
theorem eL_law_1018 : ino mL_law 1018 = some (.iaload, 1019) := by decide +kernel
theorem eL_law_1019 : ino mL_law 1019 = some (.invokevirtual 144, 1022) := by decide +kernel
theorem eL_law_1022 : ino mL_law 1022 = some (.aload_n 2, 1023) := by decide +kernel
theorem eL_law_1023 : ino mL_law 1023 = some (.aload_n 0, 1024) := by decide +kernel
theorem eL_law_1024 : ino mL_law 1024 = some (.iload 4, 1026) := by decide +kernel
theorem eL_law_1026 : ino mL_law 1026 = some (.iconst 1, 1027) := by decide +kernel
theorem eL_law_1027 : ino mL_law 1027 = some (.iadd, 1028) := by decide +kernel
theorem eL_law_1028 : ino mL_law 1028 = some (.iaload, 1029) := by decide +kernel
theorem eL_law_1029 : ino mL_law 1029 = some (.invokevirtual 147, 1032) := by decide +kernel
theorem eL_law_1032 : ino mL_law 1032 = some (.if_icmp .eq 304, 1336) := by decide +kernel
theorem eL_law_1035 : ino mL_law 1035 = some (.iconst 0, 1036) := by decide +kernel
theorem eL_law_1036 : ino mL_law 1036 = some (.ireturn, 1037) := by decide +kernel
theorem eL_law_1037 : ino mL_law 1037 = some (.aload_n 1, 1038) := by decide +kernel
theorem eL_law_1038 : ino mL_law 1038 = some (.aload_n 0, 1039) := by decide +kernel
theorem eL_law_1039 : ino mL_law 1039 = some (.iload 4, 1041) := by decide +kernel
theorem eL_law_1041 : ino mL_law 1041 = some (.iconst 1, 1042) := by decide +kernel
theorem eL_law_1042 : ino mL_law 1042 = some (.iadd, 1043) := by decide +kernel
theorem eL_law_1043 : ino mL_law 1043 = some (.iaload, 1044) := by decide +kernel
theorem eL_law_1044 : ino mL_law 1044 = some (.invokevirtual 148, 1047) := by decide +kernel
theorem eL_law_1047 : ino mL_law 1047 = some (.aload_n 2, 1048) := by decide +kernel
theorem eL_law_1048 : ino mL_law 1048 = some (.aload_n 0, 1049) := by decide +kernel
theorem eL_law_1049 : ino mL_law 1049 = some (.iload 4, 1051) := by decide +kernel
theorem eL_law_1051 : ino mL_law 1051 = some (.iconst 1, 1052) := by decide +kernel
theorem eL_law_1052 : ino mL_law 1052 = some (.iadd, 1053) := by decide +kernel
theorem eL_law_1053 : ino mL_law 1053 = some (.iaload, 1054) := by decide +kernel
theorem eL_law_1054 : ino mL_law 1054 = some (.invokevirtual 151, 1057) := by decide +kernel
theorem eL_law_1057 : ino mL_law 1057 = some (.if_icmp .eq 279, 1336) := by decide +kernel
theorem eL_law_1060 : ino mL_law 1060 = some (.iconst 0, 1061) := by decide +kernel
theorem eL_law_1061 : ino mL_law 1061 = some (.ireturn, 1062) := by decide +kernel
theorem eL_law_1062 : ino mL_law 1062 = some (.aload_n 1, 1063) := by decide +kernel
theorem eL_law_1063 : ino mL_law 1063 = some (.aload_n 0, 1064) := by decide +kernel
theorem eL_law_1064 : ino mL_law 1064 = some (.iload 4, 1066) := by decide +kernel
theorem eL_law_1066 : ino mL_law 1066 = some (.iconst 1, 1067) := by decide +kernel
theorem eL_law_1067 : ino mL_law 1067 = some (.iadd, 1068) := by decide +kernel
theorem eL_law_1068 : ino mL_law 1068 = some (.iaload, 1069) := by decide +kernel
theorem eL_law_1069 : ino mL_law 1069 = some (.invokevirtual 152, 1072) := by decide +kernel
theorem eL_law_1072 : ino mL_law 1072 = some (.aload_n 2, 1073) := by decide +kernel
theorem eL_law_1073 : ino mL_law 1073 = some (.aload_n 0, 1074) := by decide +kernel
theorem eL_law_1074 : ino mL_law 1074 = some (.iload 4, 1076) := by decide +kernel
theorem eL_law_1076 : ino mL_law 1076 = some (.iconst 1, 1077) := by decide +kernel
theorem eL_law_1077 : ino mL_law 1077 = some (.iadd, 1078) := by decide +kernel
theorem eL_law_1078 : ino mL_law 1078 = some (.iaload, 1079) := by decide +kernel
theorem eL_law_1079 : ino mL_law 1079 = some (.invokevirtual 155, 1082) := by decide +kernel
theorem eL_law_1082 : ino mL_law 1082 = some (.if_icmp .eq 254, 1336) := by decide +kernel
theorem eL_law_1085 : ino mL_law 1085 = some (.iconst 0, 1086) := by decide +kernel
theorem eL_law_1086 : ino mL_law 1086 = some (.ireturn, 1087) := by decide +kernel
theorem eL_law_1087 : ino mL_law 1087 = some (.aload_n 1, 1088) := by decide +kernel
theorem eL_law_1088 : ino mL_law 1088 = some (.aload_n 0, 1089) := by decide +kernel
theorem eL_law_1089 : ino mL_law 1089 = some (.iload 4, 1091) := by decide +kernel
theorem eL_law_1091 : ino mL_law 1091 = some (.iconst 1, 1092) := by decide +kernel
theorem eL_law_1092 : ino mL_law 1092 = some (.iadd, 1093) := by decide +kernel
theorem eL_law_1093 : ino mL_law 1093 = some (.iaload, 1094) := by decide +kernel
theorem eL_law_1094 : ino mL_law 1094 = some (.aload_n 0, 1095) := by decide +kernel
theorem eL_law_1095 : ino mL_law 1095 = some (.iload 4, 1097) := by decide +kernel
theorem eL_law_1097 : ino mL_law 1097 = some (.iconst 2, 1098) := by decide +kernel
theorem eL_law_1098 : ino mL_law 1098 = some (.iadd, 1099) := by decide +kernel
theorem eL_law_1099 : ino mL_law 1099 = some (.iaload, 1100) := by decide +kernel
theorem eL_law_1100 : ino mL_law 1100 = some (.invokevirtual 156, 1103) := by decide +kernel
theorem eL_law_1103 : ino mL_law 1103 = some (.aload_n 2, 1104) := by decide +kernel
theorem eL_law_1104 : ino mL_law 1104 = some (.aload_n 0, 1105) := by decide +kernel
theorem eL_law_1105 : ino mL_law 1105 = some (.iload 4, 1107) := by decide +kernel
theorem eL_law_1107 : ino mL_law 1107 = some (.iconst 1, 1108) := by decide +kernel
theorem eL_law_1108 : ino mL_law 1108 = some (.iadd, 1109) := by decide +kernel
theorem eL_law_1109 : ino mL_law 1109 = some (.iaload, 1110) := by decide +kernel
theorem eL_law_1110 : ino mL_law 1110 = some (.aload_n 0, 1111) := by decide +kernel
theorem eL_law_1111 : ino mL_law 1111 = some (.iload 4, 1113) := by decide +kernel
theorem eL_law_1113 : ino mL_law 1113 = some (.iconst 2, 1114) := by decide +kernel
theorem eL_law_1114 : ino mL_law 1114 = some (.iadd, 1115) := by decide +kernel
theorem eL_law_1115 : ino mL_law 1115 = some (.iaload, 1116) := by decide +kernel
theorem eL_law_1116 : ino mL_law 1116 = some (.invokevirtual 159, 1119) := by decide +kernel
theorem eL_law_1119 : ino mL_law 1119 = some (.if_icmp .eq 217, 1336) := by decide +kernel
theorem eL_law_1122 : ino mL_law 1122 = some (.iconst 0, 1123) := by decide +kernel
theorem eL_law_1123 : ino mL_law 1123 = some (.ireturn, 1124) := by decide +kernel
theorem eL_law_1124 : ino mL_law 1124 = some (.aload_n 1, 1125) := by decide +kernel
theorem eL_law_1125 : ino mL_law 1125 = some (.aload_n 0, 1126) := by decide +kernel
theorem eL_law_1126 : ino mL_law 1126 = some (.iload 4, 1128) := by decide +kernel
theorem eL_law_1128 : ino mL_law 1128 = some (.iconst 1, 1129) := by decide +kernel
theorem eL_law_1129 : ino mL_law 1129 = some (.iadd, 1130) := by decide +kernel
theorem eL_law_1130 : ino mL_law 1130 = some (.iaload, 1131) := by decide +kernel
theorem eL_law_1131 : ino mL_law 1131 = some (.aload_n 0, 1132) := by decide +kernel
theorem eL_law_1132 : ino mL_law 1132 = some (.iload 4, 1134) := by decide +kernel
theorem eL_law_1134 : ino mL_law 1134 = some (.iconst 2, 1135) := by decide +kernel
theorem eL_law_1135 : ino mL_law 1135 = some (.iadd, 1136) := by decide +kernel
theorem eL_law_1136 : ino mL_law 1136 = some (.iaload, 1137) := by decide +kernel
theorem eL_law_1137 : ino mL_law 1137 = some (.aload_n 0, 1138) := by decide +kernel
theorem eL_law_1138 : ino mL_law 1138 = some (.iload 4, 1140) := by decide +kernel
theorem eL_law_1140 : ino mL_law 1140 = some (.iconst 3, 1141) := by decide +kernel
theorem eL_law_1141 : ino mL_law 1141 = some (.iadd, 1142) := by decide +kernel
theorem eL_law_1142 : ino mL_law 1142 = some (.iaload, 1143) := by decide +kernel
theorem eL_law_1143 : ino mL_law 1143 = some (.invokevirtual 160, 1146) := by decide +kernel
theorem eL_law_1146 : ino mL_law 1146 = some (.aload_n 2, 1147) := by decide +kernel
theorem eL_law_1147 : ino mL_law 1147 = some (.aload_n 0, 1148) := by decide +kernel
theorem eL_law_1148 : ino mL_law 1148 = some (.iload 4, 1150) := by decide +kernel
theorem eL_law_1150 : ino mL_law 1150 = some (.iconst 1, 1151) := by decide +kernel
theorem eL_law_1151 : ino mL_law 1151 = some (.iadd, 1152) := by decide +kernel
theorem eL_law_1152 : ino mL_law 1152 = some (.iaload, 1153) := by decide +kernel
theorem eL_law_1153 : ino mL_law 1153 = some (.aload_n 0, 1154) := by decide +kernel
theorem eL_law_1154 : ino mL_law 1154 = some (.iload 4, 1156) := by decide +kernel
theorem eL_law_1156 : ino mL_law 1156 = some (.iconst 2, 1157) := by decide +kernel
theorem eL_law_1157 : ino mL_law 1157 = some (.iadd, 1158) := by decide +kernel
theorem eL_law_1158 : ino mL_law 1158 = some (.iaload, 1159) := by decide +kernel
theorem eL_law_1159 : ino mL_law 1159 = some (.aload_n 0, 1160) := by decide +kernel
theorem eL_law_1160 : ino mL_law 1160 = some (.iload 4, 1162) := by decide +kernel
theorem eL_law_1162 : ino mL_law 1162 = some (.iconst 3, 1163) := by decide +kernel
theorem eL_law_1163 : ino mL_law 1163 = some (.iadd, 1164) := by decide +kernel
theorem eL_law_1164 : ino mL_law 1164 = some (.iaload, 1165) := by decide +kernel
theorem eL_law_1165 : ino mL_law 1165 = some (.invokevirtual 164, 1168) := by decide +kernel
theorem eL_law_1168 : ino mL_law 1168 = some (.if_icmp .eq 168, 1336) := by decide +kernel
theorem eL_law_1171 : ino mL_law 1171 = some (.iconst 0, 1172) := by decide +kernel
theorem eL_law_1172 : ino mL_law 1172 = some (.ireturn, 1173) := by decide +kernel
theorem eL_law_1173 : ino mL_law 1173 = some (.aload_n 1, 1174) := by decide +kernel
theorem eL_law_1174 : ino mL_law 1174 = some (.aload_n 0, 1175) := by decide +kernel
theorem eL_law_1175 : ino mL_law 1175 = some (.iload 4, 1177) := by decide +kernel
theorem eL_law_1177 : ino mL_law 1177 = some (.iconst 1, 1178) := by decide +kernel
theorem eL_law_1178 : ino mL_law 1178 = some (.iadd, 1179) := by decide +kernel
theorem eL_law_1179 : ino mL_law 1179 = some (.iaload, 1180) := by decide +kernel
theorem eL_law_1180 : ino mL_law 1180 = some (.invokevirtual 165, 1183) := by decide +kernel
theorem eL_law_1183 : ino mL_law 1183 = some (.aload_n 2, 1184) := by decide +kernel
theorem eL_law_1184 : ino mL_law 1184 = some (.aload_n 0, 1185) := by decide +kernel
theorem eL_law_1185 : ino mL_law 1185 = some (.iload 4, 1187) := by decide +kernel
theorem eL_law_1187 : ino mL_law 1187 = some (.iconst 1, 1188) := by decide +kernel
theorem eL_law_1188 : ino mL_law 1188 = some (.iadd, 1189) := by decide +kernel
theorem eL_law_1189 : ino mL_law 1189 = some (.iaload, 1190) := by decide +kernel
theorem eL_law_1190 : ino mL_law 1190 = some (.invokevirtual 168, 1193) := by decide +kernel
theorem eL_law_1193 : ino mL_law 1193 = some (.if_icmp .eq 143, 1336) := by decide +kernel
theorem eL_law_1196 : ino mL_law 1196 = some (.iconst 0, 1197) := by decide +kernel
theorem eL_law_1197 : ino mL_law 1197 = some (.ireturn, 1198) := by decide +kernel
theorem eL_law_1198 : ino mL_law 1198 = some (.aload_n 1, 1199) := by decide +kernel
theorem eL_law_1199 : ino mL_law 1199 = some (.aload_n 0, 1200) := by decide +kernel
theorem eL_law_1200 : ino mL_law 1200 = some (.iload 4, 1202) := by decide +kernel
theorem eL_law_1202 : ino mL_law 1202 = some (.iconst 1, 1203) := by decide +kernel
theorem eL_law_1203 : ino mL_law 1203 = some (.iadd, 1204) := by decide +kernel
theorem eL_law_1204 : ino mL_law 1204 = some (.iaload, 1205) := by decide +kernel
theorem eL_law_1205 : ino mL_law 1205 = some (.invokevirtual 169, 1208) := by decide +kernel
theorem eL_law_1208 : ino mL_law 1208 = some (.aload_n 2, 1209) := by decide +kernel
theorem eL_law_1209 : ino mL_law 1209 = some (.aload_n 0, 1210) := by decide +kernel
theorem eL_law_1210 : ino mL_law 1210 = some (.iload 4, 1212) := by decide +kernel
theorem eL_law_1212 : ino mL_law 1212 = some (.iconst 1, 1213) := by decide +kernel
theorem eL_law_1213 : ino mL_law 1213 = some (.iadd, 1214) := by decide +kernel
theorem eL_law_1214 : ino mL_law 1214 = some (.iaload, 1215) := by decide +kernel
theorem eL_law_1215 : ino mL_law 1215 = some (.invokevirtual 172, 1218) := by decide +kernel
theorem eL_law_1218 : ino mL_law 1218 = some (.if_icmp .eq 118, 1336) := by decide +kernel
theorem eL_law_1221 : ino mL_law 1221 = some (.iconst 0, 1222) := by decide +kernel
theorem eL_law_1222 : ino mL_law 1222 = some (.ireturn, 1223) := by decide +kernel
theorem eL_law_1223 : ino mL_law 1223 = some (.aload_n 1, 1224) := by decide +kernel
theorem eL_law_1224 : ino mL_law 1224 = some (.invokevirtual 173, 1227) := by decide +kernel
theorem eL_law_1227 : ino mL_law 1227 = some (.aload_n 2, 1228) := by decide +kernel
theorem eL_law_1228 : ino mL_law 1228 = some (.invokevirtual 176, 1231) := by decide +kernel
theorem eL_law_1231 : ino mL_law 1231 = some (.if_icmp .eq 105, 1336) := by decide +kernel
theorem eL_law_1234 : ino mL_law 1234 = some (.iconst 0, 1235) := by decide +kernel
theorem eL_law_1235 : ino mL_law 1235 = some (.ireturn, 1236) := by decide +kernel
theorem eL_law_1236 : ino mL_law 1236 = some (.aload_n 1, 1237) := by decide +kernel
theorem eL_law_1237 : ino mL_law 1237 = some (.aload_n 0, 1238) := by decide +kernel
theorem eL_law_1238 : ino mL_law 1238 = some (.iload 4, 1240) := by decide +kernel
theorem eL_law_1240 : ino mL_law 1240 = some (.iconst 1, 1241) := by decide +kernel
theorem eL_law_1241 : ino mL_law 1241 = some (.iadd, 1242) := by decide +kernel
theorem eL_law_1242 : ino mL_law 1242 = some (.iaload, 1243) := by decide +kernel
theorem eL_law_1243 : ino mL_law 1243 = some (.invokevirtual 177, 1246) := by decide +kernel
theorem eL_law_1246 : ino mL_law 1246 = some (.aload_n 2, 1247) := by decide +kernel
theorem eL_law_1247 : ino mL_law 1247 = some (.aload_n 0, 1248) := by decide +kernel
theorem eL_law_1248 : ino mL_law 1248 = some (.iload 4, 1250) := by decide +kernel
theorem eL_law_1250 : ino mL_law 1250 = some (.iconst 1, 1251) := by decide +kernel
theorem eL_law_1251 : ino mL_law 1251 = some (.iadd, 1252) := by decide +kernel
theorem eL_law_1252 : ino mL_law 1252 = some (.iaload, 1253) := by decide +kernel
theorem eL_law_1253 : ino mL_law 1253 = some (.invokevirtual 180, 1256) := by decide +kernel
theorem eL_law_1256 : ino mL_law 1256 = some (.if_icmp .eq 80, 1336) := by decide +kernel
theorem eL_law_1259 : ino mL_law 1259 = some (.iconst 0, 1260) := by decide +kernel
theorem eL_law_1260 : ino mL_law 1260 = some (.ireturn, 1261) := by decide +kernel
theorem eL_law_1261 : ino mL_law 1261 = some (.aload_n 1, 1262) := by decide +kernel
theorem eL_law_1262 : ino mL_law 1262 = some (.aload_n 0, 1263) := by decide +kernel
theorem eL_law_1263 : ino mL_law 1263 = some (.iload 4, 1265) := by decide +kernel
theorem eL_law_1265 : ino mL_law 1265 = some (.iconst 1, 1266) := by decide +kernel
theorem eL_law_1266 : ino mL_law 1266 = some (.iadd, 1267) := by decide +kernel
theorem eL_law_1267 : ino mL_law 1267 = some (.iaload, 1268) := by decide +kernel
theorem eL_law_1268 : ino mL_law 1268 = some (.invokevirtual 181, 1271) := by decide +kernel
theorem eL_law_1271 : ino mL_law 1271 = some (.aload_n 2, 1272) := by decide +kernel
theorem eL_law_1272 : ino mL_law 1272 = some (.aload_n 0, 1273) := by decide +kernel
theorem eL_law_1273 : ino mL_law 1273 = some (.iload 4, 1275) := by decide +kernel
theorem eL_law_1275 : ino mL_law 1275 = some (.iconst 1, 1276) := by decide +kernel
theorem eL_law_1276 : ino mL_law 1276 = some (.iadd, 1277) := by decide +kernel
theorem eL_law_1277 : ino mL_law 1277 = some (.iaload, 1278) := by decide +kernel
theorem eL_law_1278 : ino mL_law 1278 = some (.invokevirtual 184, 1281) := by decide +kernel
theorem eL_law_1281 : ino mL_law 1281 = some (.if_icmp .eq 55, 1336) := by decide +kernel
theorem eL_law_1284 : ino mL_law 1284 = some (.iconst 0, 1285) := by decide +kernel
theorem eL_law_1285 : ino mL_law 1285 = some (.ireturn, 1286) := by decide +kernel
theorem eL_law_1286 : ino mL_law 1286 = some (.aload_n 1, 1287) := by decide +kernel
theorem eL_law_1287 : ino mL_law 1287 = some (.aload_n 0, 1288) := by decide +kernel
theorem eL_law_1288 : ino mL_law 1288 = some (.iload 4, 1290) := by decide +kernel
theorem eL_law_1290 : ino mL_law 1290 = some (.iconst 1, 1291) := by decide +kernel
theorem eL_law_1291 : ino mL_law 1291 = some (.iadd, 1292) := by decide +kernel
theorem eL_law_1292 : ino mL_law 1292 = some (.iaload, 1293) := by decide +kernel
theorem eL_law_1293 : ino mL_law 1293 = some (.invokevirtual 185, 1296) := by decide +kernel
theorem eL_law_1296 : ino mL_law 1296 = some (.aload_n 2, 1297) := by decide +kernel
theorem eL_law_1297 : ino mL_law 1297 = some (.aload_n 0, 1298) := by decide +kernel
theorem eL_law_1298 : ino mL_law 1298 = some (.iload 4, 1300) := by decide +kernel
theorem eL_law_1300 : ino mL_law 1300 = some (.iconst 1, 1301) := by decide +kernel
theorem eL_law_1301 : ino mL_law 1301 = some (.iadd, 1302) := by decide +kernel
theorem eL_law_1302 : ino mL_law 1302 = some (.iaload, 1303) := by decide +kernel
theorem eL_law_1303 : ino mL_law 1303 = some (.invokevirtual 188, 1306) := by decide +kernel
theorem eL_law_1306 : ino mL_law 1306 = some (.if_icmp .eq 30, 1336) := by decide +kernel
theorem eL_law_1309 : ino mL_law 1309 = some (.iconst 0, 1310) := by decide +kernel
theorem eL_law_1310 : ino mL_law 1310 = some (.ireturn, 1311) := by decide +kernel
theorem eL_law_1311 : ino mL_law 1311 = some (.aload_n 1, 1312) := by decide +kernel
theorem eL_law_1312 : ino mL_law 1312 = some (.aload_n 0, 1313) := by decide +kernel
theorem eL_law_1313 : ino mL_law 1313 = some (.iload 4, 1315) := by decide +kernel
theorem eL_law_1315 : ino mL_law 1315 = some (.iconst 1, 1316) := by decide +kernel
theorem eL_law_1316 : ino mL_law 1316 = some (.iadd, 1317) := by decide +kernel
theorem eL_law_1317 : ino mL_law 1317 = some (.iaload, 1318) := by decide +kernel
theorem eL_law_1318 : ino mL_law 1318 = some (.invokevirtual 189, 1321) := by decide +kernel
theorem eL_law_1321 : ino mL_law 1321 = some (.aload_n 2, 1322) := by decide +kernel
theorem eL_law_1322 : ino mL_law 1322 = some (.aload_n 0, 1323) := by decide +kernel
theorem eL_law_1323 : ino mL_law 1323 = some (.iload 4, 1325) := by decide +kernel
theorem eL_law_1325 : ino mL_law 1325 = some (.iconst 1, 1326) := by decide +kernel
theorem eL_law_1326 : ino mL_law 1326 = some (.iadd, 1327) := by decide +kernel
theorem eL_law_1327 : ino mL_law 1327 = some (.iaload, 1328) := by decide +kernel
theorem eL_law_1328 : ino mL_law 1328 = some (.invokevirtual 192, 1331) := by decide +kernel
theorem eL_law_1331 : ino mL_law 1331 = some (.if_icmp .eq 5, 1336) := by decide +kernel
theorem eL_law_1334 : ino mL_law 1334 = some (.iconst 0, 1335) := by decide +kernel
theorem eL_law_1335 : ino mL_law 1335 = some (.ireturn, 1336) := by decide +kernel
theorem eL_law_1336 : ino mL_law 1336 = some (.iinc 4 6, 1339) := by decide +kernel
theorem eL_law_1339 : ino mL_law 1339 = some (.goto (-1316), 23) := by decide +kernel
theorem eL_law_1342 : ino mL_law 1342 = some (.iconst 1, 1343) := by decide +kernel
theorem eL_law_1343 : ino mL_law 1343 = some (.ireturn, 1344) := by decide +kernel
