/-! THE WALK OF THE LAW -/
theorem ld_0 : decode code 0 = .ok (.new 7, 3) := by decide +kernel
theorem ld_3 : decode code 3 = .ok (.dup, 1) := by decide +kernel
theorem ld_4 : decode code 4 = .ok (.invokespecial 9, 3) := by decide +kernel
theorem ld_7 : decode code 7 = .ok (.astore_n 1, 1) := by decide +kernel
theorem ld_8 : decode code 8 = .ok (.new 10, 3) := by decide +kernel
theorem ld_11 : decode code 11 = .ok (.dup, 1) := by decide +kernel
theorem ld_12 : decode code 12 = .ok (.invokespecial 12, 3) := by decide +kernel
theorem ld_15 : decode code 15 = .ok (.astore_n 2, 1) := by decide +kernel
theorem ld_16 : decode code 16 = .ok (.iconst 0, 1) := by decide +kernel
theorem ld_17 : decode code 17 = .ok (.istore_n 3, 1) := by decide +kernel
theorem ld_18 : decode code 18 = .ok (.iload_n 3, 1) := by decide +kernel
theorem ld_19 : decode code 19 = .ok (.aload_n 0, 1) := by decide +kernel
theorem ld_20 : decode code 20 = .ok (.arraylength, 1) := by decide +kernel
theorem ld_21 : decode code 21 = .ok (.bipush 6, 2) := by decide +kernel
theorem ld_23 : decode code 23 = .ok (.isub, 1) := by decide +kernel
theorem ld_24 : decode code 24 = .ok (.if_icmp .gt 1077, 3) := by decide +kernel
theorem ld_27 : decode code 27 = .ok (.aload_n 0, 1) := by decide +kernel
theorem ld_28 : decode code 28 = .ok (.iload_n 3, 1) := by decide +kernel
theorem ld_29 : decode code 29 = .ok (.iaload, 1) := by decide +kernel
theorem ld_30 : decode code 30 = .ok (.bipush 63, 2) := by decide +kernel
theorem ld_32 : decode code 32 = .ok (.iand, 1) := by decide +kernel
theorem ld_33 : decode code 33 = .ok (.tableswitch 1062 0 37 #[167, 230, 253, 266, 289, 312, 345, 378, 411, 434, 467, 490, 513, 526, 539, 562, 595, 608, 631, 654, 687, 710, 723, 746, 769, 792, 815, 838, 861, 894, 917, 940, 953, 976, 990, 1003, 1026, 1039], 167) := by decide +kernel
theorem ld_200 : decode code 200 = .ok (.aload_n 1, 1) := by decide +kernel
theorem ld_201 : decode code 201 = .ok (.aload_n 0, 1) := by decide +kernel
theorem ld_202 : decode code 202 = .ok (.iload_n 3, 1) := by decide +kernel
theorem ld_203 : decode code 203 = .ok (.iconst 1, 1) := by decide +kernel
theorem ld_204 : decode code 204 = .ok (.iadd, 1) := by decide +kernel
theorem ld_205 : decode code 205 = .ok (.iaload, 1) := by decide +kernel
theorem ld_206 : decode code 206 = .ok (.aload_n 0, 1) := by decide +kernel
theorem ld_207 : decode code 207 = .ok (.iload_n 3, 1) := by decide +kernel
theorem ld_208 : decode code 208 = .ok (.iconst 2, 1) := by decide +kernel
theorem ld_209 : decode code 209 = .ok (.iadd, 1) := by decide +kernel
theorem ld_210 : decode code 210 = .ok (.iaload, 1) := by decide +kernel
theorem ld_211 : decode code 211 = .ok (.aload_n 0, 1) := by decide +kernel
theorem ld_212 : decode code 212 = .ok (.iload_n 3, 1) := by decide +kernel
theorem ld_213 : decode code 213 = .ok (.iconst 3, 1) := by decide +kernel
theorem ld_214 : decode code 214 = .ok (.iadd, 1) := by decide +kernel
theorem ld_215 : decode code 215 = .ok (.iaload, 1) := by decide +kernel
theorem ld_216 : decode code 216 = .ok (.aload_n 0, 1) := by decide +kernel
theorem ld_217 : decode code 217 = .ok (.iload_n 3, 1) := by decide +kernel
theorem ld_218 : decode code 218 = .ok (.iconst 4, 1) := by decide +kernel
theorem ld_219 : decode code 219 = .ok (.iadd, 1) := by decide +kernel
theorem ld_220 : decode code 220 = .ok (.iaload, 1) := by decide +kernel
theorem ld_221 : decode code 221 = .ok (.aload_n 0, 1) := by decide +kernel
theorem ld_222 : decode code 222 = .ok (.iload_n 3, 1) := by decide +kernel
theorem ld_223 : decode code 223 = .ok (.iconst 5, 1) := by decide +kernel
theorem ld_224 : decode code 224 = .ok (.iadd, 1) := by decide +kernel
theorem ld_225 : decode code 225 = .ok (.iaload, 1) := by decide +kernel
theorem ld_226 : decode code 226 = .ok (.invokevirtual 13, 3) := by decide +kernel
theorem ld_229 : decode code 229 = .ok (.aload_n 2, 1) := by decide +kernel
theorem ld_230 : decode code 230 = .ok (.aload_n 0, 1) := by decide +kernel
theorem ld_231 : decode code 231 = .ok (.iload_n 3, 1) := by decide +kernel
theorem ld_232 : decode code 232 = .ok (.iconst 1, 1) := by decide +kernel
theorem ld_233 : decode code 233 = .ok (.iadd, 1) := by decide +kernel
theorem ld_234 : decode code 234 = .ok (.iaload, 1) := by decide +kernel
theorem ld_235 : decode code 235 = .ok (.aload_n 0, 1) := by decide +kernel
theorem ld_236 : decode code 236 = .ok (.iload_n 3, 1) := by decide +kernel
theorem ld_237 : decode code 237 = .ok (.iconst 2, 1) := by decide +kernel
theorem ld_238 : decode code 238 = .ok (.iadd, 1) := by decide +kernel
theorem ld_239 : decode code 239 = .ok (.iaload, 1) := by decide +kernel
theorem ld_240 : decode code 240 = .ok (.aload_n 0, 1) := by decide +kernel
theorem ld_241 : decode code 241 = .ok (.iload_n 3, 1) := by decide +kernel
theorem ld_242 : decode code 242 = .ok (.iconst 3, 1) := by decide +kernel
theorem ld_243 : decode code 243 = .ok (.iadd, 1) := by decide +kernel
theorem ld_244 : decode code 244 = .ok (.iaload, 1) := by decide +kernel
theorem ld_245 : decode code 245 = .ok (.aload_n 0, 1) := by decide +kernel
theorem ld_246 : decode code 246 = .ok (.iload_n 3, 1) := by decide +kernel
theorem ld_247 : decode code 247 = .ok (.iconst 4, 1) := by decide +kernel
theorem ld_248 : decode code 248 = .ok (.iadd, 1) := by decide +kernel
theorem ld_249 : decode code 249 = .ok (.iaload, 1) := by decide +kernel
theorem ld_250 : decode code 250 = .ok (.aload_n 0, 1) := by decide +kernel
theorem ld_251 : decode code 251 = .ok (.iload_n 3, 1) := by decide +kernel
theorem ld_252 : decode code 252 = .ok (.iconst 5, 1) := by decide +kernel
theorem ld_253 : decode code 253 = .ok (.iadd, 1) := by decide +kernel
theorem ld_254 : decode code 254 = .ok (.iaload, 1) := by decide +kernel
theorem ld_255 : decode code 255 = .ok (.invokevirtual 17, 3) := by decide +kernel
theorem ld_258 : decode code 258 = .ok (.if_icmp .eq 837, 3) := by decide +kernel
theorem ld_261 : decode code 261 = .ok (.iconst 0, 1) := by decide +kernel
theorem ld_262 : decode code 262 = .ok (.ireturn, 1) := by decide +kernel
theorem ld_263 : decode code 263 = .ok (.aload_n 1, 1) := by decide +kernel
theorem ld_264 : decode code 264 = .ok (.aload_n 0, 1) := by decide +kernel
theorem ld_265 : decode code 265 = .ok (.iload_n 3, 1) := by decide +kernel
theorem ld_266 : decode code 266 = .ok (.iconst 1, 1) := by decide +kernel
theorem ld_267 : decode code 267 = .ok (.iadd, 1) := by decide +kernel
theorem ld_268 : decode code 268 = .ok (.iaload, 1) := by decide +kernel
theorem ld_269 : decode code 269 = .ok (.invokevirtual 18, 3) := by decide +kernel
theorem ld_272 : decode code 272 = .ok (.aload_n 2, 1) := by decide +kernel
theorem ld_273 : decode code 273 = .ok (.aload_n 0, 1) := by decide +kernel
theorem ld_274 : decode code 274 = .ok (.iload_n 3, 1) := by decide +kernel
theorem ld_275 : decode code 275 = .ok (.iconst 1, 1) := by decide +kernel
theorem ld_276 : decode code 276 = .ok (.iadd, 1) := by decide +kernel
theorem ld_277 : decode code 277 = .ok (.iaload, 1) := by decide +kernel
theorem ld_278 : decode code 278 = .ok (.invokevirtual 22, 3) := by decide +kernel
theorem ld_281 : decode code 281 = .ok (.if_icmp .eq 814, 3) := by decide +kernel
theorem ld_284 : decode code 284 = .ok (.iconst 0, 1) := by decide +kernel
theorem ld_285 : decode code 285 = .ok (.ireturn, 1) := by decide +kernel
theorem ld_286 : decode code 286 = .ok (.aload_n 1, 1) := by decide +kernel
theorem ld_287 : decode code 287 = .ok (.invokevirtual 23, 3) := by decide +kernel
theorem ld_290 : decode code 290 = .ok (.aload_n 2, 1) := by decide +kernel
theorem ld_291 : decode code 291 = .ok (.invokevirtual 27, 3) := by decide +kernel
theorem ld_294 : decode code 294 = .ok (.if_icmp .eq 801, 3) := by decide +kernel
theorem ld_297 : decode code 297 = .ok (.iconst 0, 1) := by decide +kernel
theorem ld_298 : decode code 298 = .ok (.ireturn, 1) := by decide +kernel
theorem ld_299 : decode code 299 = .ok (.aload_n 1, 1) := by decide +kernel
theorem ld_300 : decode code 300 = .ok (.aload_n 0, 1) := by decide +kernel
theorem ld_301 : decode code 301 = .ok (.iload_n 3, 1) := by decide +kernel
theorem ld_302 : decode code 302 = .ok (.iconst 1, 1) := by decide +kernel
theorem ld_303 : decode code 303 = .ok (.iadd, 1) := by decide +kernel
theorem ld_304 : decode code 304 = .ok (.iaload, 1) := by decide +kernel
theorem ld_305 : decode code 305 = .ok (.invokevirtual 28, 3) := by decide +kernel
theorem ld_308 : decode code 308 = .ok (.aload_n 2, 1) := by decide +kernel
theorem ld_309 : decode code 309 = .ok (.aload_n 0, 1) := by decide +kernel
theorem ld_310 : decode code 310 = .ok (.iload_n 3, 1) := by decide +kernel
theorem ld_311 : decode code 311 = .ok (.iconst 1, 1) := by decide +kernel
theorem ld_312 : decode code 312 = .ok (.iadd, 1) := by decide +kernel
theorem ld_313 : decode code 313 = .ok (.iaload, 1) := by decide +kernel
theorem ld_314 : decode code 314 = .ok (.invokevirtual 32, 3) := by decide +kernel
theorem ld_317 : decode code 317 = .ok (.if_icmp .eq 778, 3) := by decide +kernel
theorem ld_320 : decode code 320 = .ok (.iconst 0, 1) := by decide +kernel
theorem ld_321 : decode code 321 = .ok (.ireturn, 1) := by decide +kernel
theorem ld_322 : decode code 322 = .ok (.aload_n 1, 1) := by decide +kernel
theorem ld_323 : decode code 323 = .ok (.aload_n 0, 1) := by decide +kernel
theorem ld_324 : decode code 324 = .ok (.iload_n 3, 1) := by decide +kernel
theorem ld_325 : decode code 325 = .ok (.iconst 1, 1) := by decide +kernel
theorem ld_326 : decode code 326 = .ok (.iadd, 1) := by decide +kernel
theorem ld_327 : decode code 327 = .ok (.iaload, 1) := by decide +kernel
theorem ld_328 : decode code 328 = .ok (.invokevirtual 33, 3) := by decide +kernel
theorem ld_331 : decode code 331 = .ok (.aload_n 2, 1) := by decide +kernel
theorem ld_332 : decode code 332 = .ok (.aload_n 0, 1) := by decide +kernel
theorem ld_333 : decode code 333 = .ok (.iload_n 3, 1) := by decide +kernel
theorem ld_334 : decode code 334 = .ok (.iconst 1, 1) := by decide +kernel
theorem ld_335 : decode code 335 = .ok (.iadd, 1) := by decide +kernel
theorem ld_336 : decode code 336 = .ok (.iaload, 1) := by decide +kernel
theorem ld_337 : decode code 337 = .ok (.invokevirtual 36, 3) := by decide +kernel
theorem ld_340 : decode code 340 = .ok (.if_icmp .eq 755, 3) := by decide +kernel
theorem ld_343 : decode code 343 = .ok (.iconst 0, 1) := by decide +kernel
theorem ld_344 : decode code 344 = .ok (.ireturn, 1) := by decide +kernel
theorem ld_345 : decode code 345 = .ok (.aload_n 1, 1) := by decide +kernel
theorem ld_346 : decode code 346 = .ok (.aload_n 0, 1) := by decide +kernel
theorem ld_347 : decode code 347 = .ok (.iload_n 3, 1) := by decide +kernel
theorem ld_348 : decode code 348 = .ok (.iconst 1, 1) := by decide +kernel
theorem ld_349 : decode code 349 = .ok (.iadd, 1) := by decide +kernel
theorem ld_350 : decode code 350 = .ok (.iaload, 1) := by decide +kernel
theorem ld_351 : decode code 351 = .ok (.aload_n 0, 1) := by decide +kernel
theorem ld_352 : decode code 352 = .ok (.iload_n 3, 1) := by decide +kernel
theorem ld_353 : decode code 353 = .ok (.iconst 2, 1) := by decide +kernel
theorem ld_354 : decode code 354 = .ok (.iadd, 1) := by decide +kernel
theorem ld_355 : decode code 355 = .ok (.iaload, 1) := by decide +kernel
theorem ld_356 : decode code 356 = .ok (.invokevirtual 37, 3) := by decide +kernel
theorem ld_359 : decode code 359 = .ok (.aload_n 2, 1) := by decide +kernel
theorem ld_360 : decode code 360 = .ok (.aload_n 0, 1) := by decide +kernel
theorem ld_361 : decode code 361 = .ok (.iload_n 3, 1) := by decide +kernel
theorem ld_362 : decode code 362 = .ok (.iconst 1, 1) := by decide +kernel
theorem ld_363 : decode code 363 = .ok (.iadd, 1) := by decide +kernel
theorem ld_364 : decode code 364 = .ok (.iaload, 1) := by decide +kernel
theorem ld_365 : decode code 365 = .ok (.aload_n 0, 1) := by decide +kernel
theorem ld_366 : decode code 366 = .ok (.iload_n 3, 1) := by decide +kernel
theorem ld_367 : decode code 367 = .ok (.iconst 2, 1) := by decide +kernel
theorem ld_368 : decode code 368 = .ok (.iadd, 1) := by decide +kernel
theorem ld_369 : decode code 369 = .ok (.iaload, 1) := by decide +kernel
theorem ld_370 : decode code 370 = .ok (.invokevirtual 41, 3) := by decide +kernel
theorem ld_373 : decode code 373 = .ok (.if_icmp .eq 722, 3) := by decide +kernel
theorem ld_376 : decode code 376 = .ok (.iconst 0, 1) := by decide +kernel
theorem ld_377 : decode code 377 = .ok (.ireturn, 1) := by decide +kernel
theorem ld_378 : decode code 378 = .ok (.aload_n 1, 1) := by decide +kernel
theorem ld_379 : decode code 379 = .ok (.aload_n 0, 1) := by decide +kernel
theorem ld_380 : decode code 380 = .ok (.iload_n 3, 1) := by decide +kernel
theorem ld_381 : decode code 381 = .ok (.iconst 1, 1) := by decide +kernel
theorem ld_382 : decode code 382 = .ok (.iadd, 1) := by decide +kernel
theorem ld_383 : decode code 383 = .ok (.iaload, 1) := by decide +kernel
theorem ld_384 : decode code 384 = .ok (.aload_n 0, 1) := by decide +kernel
theorem ld_385 : decode code 385 = .ok (.iload_n 3, 1) := by decide +kernel
theorem ld_386 : decode code 386 = .ok (.iconst 2, 1) := by decide +kernel
theorem ld_387 : decode code 387 = .ok (.iadd, 1) := by decide +kernel
theorem ld_388 : decode code 388 = .ok (.iaload, 1) := by decide +kernel
theorem ld_389 : decode code 389 = .ok (.invokevirtual 42, 3) := by decide +kernel
theorem ld_392 : decode code 392 = .ok (.aload_n 2, 1) := by decide +kernel
theorem ld_393 : decode code 393 = .ok (.aload_n 0, 1) := by decide +kernel
theorem ld_394 : decode code 394 = .ok (.iload_n 3, 1) := by decide +kernel
theorem ld_395 : decode code 395 = .ok (.iconst 1, 1) := by decide +kernel
theorem ld_396 : decode code 396 = .ok (.iadd, 1) := by decide +kernel
theorem ld_397 : decode code 397 = .ok (.iaload, 1) := by decide +kernel
theorem ld_398 : decode code 398 = .ok (.aload_n 0, 1) := by decide +kernel
theorem ld_399 : decode code 399 = .ok (.iload_n 3, 1) := by decide +kernel
theorem ld_400 : decode code 400 = .ok (.iconst 2, 1) := by decide +kernel
theorem ld_401 : decode code 401 = .ok (.iadd, 1) := by decide +kernel
theorem ld_402 : decode code 402 = .ok (.iaload, 1) := by decide +kernel
theorem ld_403 : decode code 403 = .ok (.invokevirtual 45, 3) := by decide +kernel
theorem ld_406 : decode code 406 = .ok (.if_icmp .eq 689, 3) := by decide +kernel
theorem ld_409 : decode code 409 = .ok (.iconst 0, 1) := by decide +kernel
theorem ld_410 : decode code 410 = .ok (.ireturn, 1) := by decide +kernel
theorem ld_411 : decode code 411 = .ok (.aload_n 1, 1) := by decide +kernel
theorem ld_412 : decode code 412 = .ok (.aload_n 0, 1) := by decide +kernel
theorem ld_413 : decode code 413 = .ok (.iload_n 3, 1) := by decide +kernel
theorem ld_414 : decode code 414 = .ok (.iconst 1, 1) := by decide +kernel
theorem ld_415 : decode code 415 = .ok (.iadd, 1) := by decide +kernel
theorem ld_416 : decode code 416 = .ok (.iaload, 1) := by decide +kernel
theorem ld_417 : decode code 417 = .ok (.aload_n 0, 1) := by decide +kernel
theorem ld_418 : decode code 418 = .ok (.iload_n 3, 1) := by decide +kernel
theorem ld_419 : decode code 419 = .ok (.iconst 2, 1) := by decide +kernel
theorem ld_420 : decode code 420 = .ok (.iadd, 1) := by decide +kernel
theorem ld_421 : decode code 421 = .ok (.iaload, 1) := by decide +kernel
theorem ld_422 : decode code 422 = .ok (.invokevirtual 46, 3) := by decide +kernel
theorem ld_425 : decode code 425 = .ok (.aload_n 2, 1) := by decide +kernel
theorem ld_426 : decode code 426 = .ok (.aload_n 0, 1) := by decide +kernel
theorem ld_427 : decode code 427 = .ok (.iload_n 3, 1) := by decide +kernel
theorem ld_428 : decode code 428 = .ok (.iconst 1, 1) := by decide +kernel
theorem ld_429 : decode code 429 = .ok (.iadd, 1) := by decide +kernel
theorem ld_430 : decode code 430 = .ok (.iaload, 1) := by decide +kernel
theorem ld_431 : decode code 431 = .ok (.aload_n 0, 1) := by decide +kernel
theorem ld_432 : decode code 432 = .ok (.iload_n 3, 1) := by decide +kernel
theorem ld_433 : decode code 433 = .ok (.iconst 2, 1) := by decide +kernel
theorem ld_434 : decode code 434 = .ok (.iadd, 1) := by decide +kernel
theorem ld_435 : decode code 435 = .ok (.iaload, 1) := by decide +kernel
theorem ld_436 : decode code 436 = .ok (.invokevirtual 49, 3) := by decide +kernel
theorem ld_439 : decode code 439 = .ok (.if_icmp .eq 656, 3) := by decide +kernel
theorem ld_442 : decode code 442 = .ok (.iconst 0, 1) := by decide +kernel
theorem ld_443 : decode code 443 = .ok (.ireturn, 1) := by decide +kernel
theorem ld_444 : decode code 444 = .ok (.aload_n 1, 1) := by decide +kernel
theorem ld_445 : decode code 445 = .ok (.aload_n 0, 1) := by decide +kernel
theorem ld_446 : decode code 446 = .ok (.iload_n 3, 1) := by decide +kernel
theorem ld_447 : decode code 447 = .ok (.iconst 1, 1) := by decide +kernel
theorem ld_448 : decode code 448 = .ok (.iadd, 1) := by decide +kernel
theorem ld_449 : decode code 449 = .ok (.iaload, 1) := by decide +kernel
theorem ld_450 : decode code 450 = .ok (.invokevirtual 50, 3) := by decide +kernel
theorem ld_453 : decode code 453 = .ok (.aload_n 2, 1) := by decide +kernel
theorem ld_454 : decode code 454 = .ok (.aload_n 0, 1) := by decide +kernel
theorem ld_455 : decode code 455 = .ok (.iload_n 3, 1) := by decide +kernel
theorem ld_456 : decode code 456 = .ok (.iconst 1, 1) := by decide +kernel
theorem ld_457 : decode code 457 = .ok (.iadd, 1) := by decide +kernel
theorem ld_458 : decode code 458 = .ok (.iaload, 1) := by decide +kernel
theorem ld_459 : decode code 459 = .ok (.invokevirtual 53, 3) := by decide +kernel
theorem ld_462 : decode code 462 = .ok (.if_icmp .eq 633, 3) := by decide +kernel
theorem ld_465 : decode code 465 = .ok (.iconst 0, 1) := by decide +kernel
theorem ld_466 : decode code 466 = .ok (.ireturn, 1) := by decide +kernel
theorem ld_467 : decode code 467 = .ok (.aload_n 1, 1) := by decide +kernel
theorem ld_468 : decode code 468 = .ok (.aload_n 0, 1) := by decide +kernel
theorem ld_469 : decode code 469 = .ok (.iload_n 3, 1) := by decide +kernel
theorem ld_470 : decode code 470 = .ok (.iconst 1, 1) := by decide +kernel
theorem ld_471 : decode code 471 = .ok (.iadd, 1) := by decide +kernel
theorem ld_472 : decode code 472 = .ok (.iaload, 1) := by decide +kernel
theorem ld_473 : decode code 473 = .ok (.aload_n 0, 1) := by decide +kernel
theorem ld_474 : decode code 474 = .ok (.iload_n 3, 1) := by decide +kernel
theorem ld_475 : decode code 475 = .ok (.iconst 2, 1) := by decide +kernel
theorem ld_476 : decode code 476 = .ok (.iadd, 1) := by decide +kernel
theorem ld_477 : decode code 477 = .ok (.iaload, 1) := by decide +kernel
theorem ld_478 : decode code 478 = .ok (.invokevirtual 54, 3) := by decide +kernel
theorem ld_481 : decode code 481 = .ok (.aload_n 2, 1) := by decide +kernel
theorem ld_482 : decode code 482 = .ok (.aload_n 0, 1) := by decide +kernel
theorem ld_483 : decode code 483 = .ok (.iload_n 3, 1) := by decide +kernel
theorem ld_484 : decode code 484 = .ok (.iconst 1, 1) := by decide +kernel
theorem ld_485 : decode code 485 = .ok (.iadd, 1) := by decide +kernel
theorem ld_486 : decode code 486 = .ok (.iaload, 1) := by decide +kernel
theorem ld_487 : decode code 487 = .ok (.aload_n 0, 1) := by decide +kernel
theorem ld_488 : decode code 488 = .ok (.iload_n 3, 1) := by decide +kernel
theorem ld_489 : decode code 489 = .ok (.iconst 2, 1) := by decide +kernel
theorem ld_490 : decode code 490 = .ok (.iadd, 1) := by decide +kernel
theorem ld_491 : decode code 491 = .ok (.iaload, 1) := by decide +kernel
theorem ld_492 : decode code 492 = .ok (.invokevirtual 57, 3) := by decide +kernel
theorem ld_495 : decode code 495 = .ok (.if_icmp .eq 600, 3) := by decide +kernel
theorem ld_498 : decode code 498 = .ok (.iconst 0, 1) := by decide +kernel
theorem ld_499 : decode code 499 = .ok (.ireturn, 1) := by decide +kernel
theorem ld_500 : decode code 500 = .ok (.aload_n 1, 1) := by decide +kernel
theorem ld_501 : decode code 501 = .ok (.aload_n 0, 1) := by decide +kernel
theorem ld_502 : decode code 502 = .ok (.iload_n 3, 1) := by decide +kernel
theorem ld_503 : decode code 503 = .ok (.iconst 1, 1) := by decide +kernel
theorem ld_504 : decode code 504 = .ok (.iadd, 1) := by decide +kernel
theorem ld_505 : decode code 505 = .ok (.iaload, 1) := by decide +kernel
theorem ld_506 : decode code 506 = .ok (.invokevirtual 58, 3) := by decide +kernel
theorem ld_509 : decode code 509 = .ok (.aload_n 2, 1) := by decide +kernel
theorem ld_510 : decode code 510 = .ok (.aload_n 0, 1) := by decide +kernel
theorem ld_511 : decode code 511 = .ok (.iload_n 3, 1) := by decide +kernel
theorem ld_512 : decode code 512 = .ok (.iconst 1, 1) := by decide +kernel
theorem ld_513 : decode code 513 = .ok (.iadd, 1) := by decide +kernel
theorem ld_514 : decode code 514 = .ok (.iaload, 1) := by decide +kernel
theorem ld_515 : decode code 515 = .ok (.invokevirtual 61, 3) := by decide +kernel
theorem ld_518 : decode code 518 = .ok (.if_icmp .eq 577, 3) := by decide +kernel
theorem ld_521 : decode code 521 = .ok (.iconst 0, 1) := by decide +kernel
theorem ld_522 : decode code 522 = .ok (.ireturn, 1) := by decide +kernel
theorem ld_523 : decode code 523 = .ok (.aload_n 1, 1) := by decide +kernel
theorem ld_524 : decode code 524 = .ok (.aload_n 0, 1) := by decide +kernel
theorem ld_525 : decode code 525 = .ok (.iload_n 3, 1) := by decide +kernel
theorem ld_526 : decode code 526 = .ok (.iconst 1, 1) := by decide +kernel
theorem ld_527 : decode code 527 = .ok (.iadd, 1) := by decide +kernel
theorem ld_528 : decode code 528 = .ok (.iaload, 1) := by decide +kernel
theorem ld_529 : decode code 529 = .ok (.invokevirtual 62, 3) := by decide +kernel
theorem ld_532 : decode code 532 = .ok (.aload_n 2, 1) := by decide +kernel
theorem ld_533 : decode code 533 = .ok (.aload_n 0, 1) := by decide +kernel
theorem ld_534 : decode code 534 = .ok (.iload_n 3, 1) := by decide +kernel
theorem ld_535 : decode code 535 = .ok (.iconst 1, 1) := by decide +kernel
theorem ld_536 : decode code 536 = .ok (.iadd, 1) := by decide +kernel
theorem ld_537 : decode code 537 = .ok (.iaload, 1) := by decide +kernel
theorem ld_538 : decode code 538 = .ok (.invokevirtual 65, 3) := by decide +kernel
theorem ld_541 : decode code 541 = .ok (.if_icmp .eq 554, 3) := by decide +kernel
theorem ld_544 : decode code 544 = .ok (.iconst 0, 1) := by decide +kernel
theorem ld_545 : decode code 545 = .ok (.ireturn, 1) := by decide +kernel
theorem ld_546 : decode code 546 = .ok (.aload_n 1, 1) := by decide +kernel
theorem ld_547 : decode code 547 = .ok (.invokevirtual 66, 3) := by decide +kernel
theorem ld_550 : decode code 550 = .ok (.aload_n 2, 1) := by decide +kernel
theorem ld_551 : decode code 551 = .ok (.invokevirtual 69, 3) := by decide +kernel
theorem ld_554 : decode code 554 = .ok (.if_icmp .eq 541, 3) := by decide +kernel
theorem ld_557 : decode code 557 = .ok (.iconst 0, 1) := by decide +kernel
theorem ld_558 : decode code 558 = .ok (.ireturn, 1) := by decide +kernel
theorem ld_559 : decode code 559 = .ok (.aload_n 1, 1) := by decide +kernel
theorem ld_560 : decode code 560 = .ok (.invokevirtual 70, 3) := by decide +kernel
theorem ld_563 : decode code 563 = .ok (.aload_n 2, 1) := by decide +kernel
theorem ld_564 : decode code 564 = .ok (.invokevirtual 73, 3) := by decide +kernel
theorem ld_567 : decode code 567 = .ok (.if_icmp .eq 528, 3) := by decide +kernel
theorem ld_570 : decode code 570 = .ok (.iconst 0, 1) := by decide +kernel
theorem ld_571 : decode code 571 = .ok (.ireturn, 1) := by decide +kernel
theorem ld_572 : decode code 572 = .ok (.aload_n 1, 1) := by decide +kernel
theorem ld_573 : decode code 573 = .ok (.aload_n 0, 1) := by decide +kernel
theorem ld_574 : decode code 574 = .ok (.iload_n 3, 1) := by decide +kernel
theorem ld_575 : decode code 575 = .ok (.iconst 1, 1) := by decide +kernel
theorem ld_576 : decode code 576 = .ok (.iadd, 1) := by decide +kernel
theorem ld_577 : decode code 577 = .ok (.iaload, 1) := by decide +kernel
theorem ld_578 : decode code 578 = .ok (.invokevirtual 74, 3) := by decide +kernel
theorem ld_581 : decode code 581 = .ok (.aload_n 2, 1) := by decide +kernel
theorem ld_582 : decode code 582 = .ok (.aload_n 0, 1) := by decide +kernel
theorem ld_583 : decode code 583 = .ok (.iload_n 3, 1) := by decide +kernel
theorem ld_584 : decode code 584 = .ok (.iconst 1, 1) := by decide +kernel
theorem ld_585 : decode code 585 = .ok (.iadd, 1) := by decide +kernel
theorem ld_586 : decode code 586 = .ok (.iaload, 1) := by decide +kernel
theorem ld_587 : decode code 587 = .ok (.invokevirtual 77, 3) := by decide +kernel
theorem ld_590 : decode code 590 = .ok (.if_icmp .eq 505, 3) := by decide +kernel
theorem ld_593 : decode code 593 = .ok (.iconst 0, 1) := by decide +kernel
theorem ld_594 : decode code 594 = .ok (.ireturn, 1) := by decide +kernel
theorem ld_595 : decode code 595 = .ok (.aload_n 1, 1) := by decide +kernel
theorem ld_596 : decode code 596 = .ok (.aload_n 0, 1) := by decide +kernel
theorem ld_597 : decode code 597 = .ok (.iload_n 3, 1) := by decide +kernel
theorem ld_598 : decode code 598 = .ok (.iconst 1, 1) := by decide +kernel
theorem ld_599 : decode code 599 = .ok (.iadd, 1) := by decide +kernel
theorem ld_600 : decode code 600 = .ok (.iaload, 1) := by decide +kernel
theorem ld_601 : decode code 601 = .ok (.aload_n 0, 1) := by decide +kernel
theorem ld_602 : decode code 602 = .ok (.iload_n 3, 1) := by decide +kernel
theorem ld_603 : decode code 603 = .ok (.iconst 2, 1) := by decide +kernel
theorem ld_604 : decode code 604 = .ok (.iadd, 1) := by decide +kernel
theorem ld_605 : decode code 605 = .ok (.iaload, 1) := by decide +kernel
theorem ld_606 : decode code 606 = .ok (.invokevirtual 78, 3) := by decide +kernel
theorem ld_609 : decode code 609 = .ok (.aload_n 2, 1) := by decide +kernel
theorem ld_610 : decode code 610 = .ok (.aload_n 0, 1) := by decide +kernel
theorem ld_611 : decode code 611 = .ok (.iload_n 3, 1) := by decide +kernel
theorem ld_612 : decode code 612 = .ok (.iconst 1, 1) := by decide +kernel
theorem ld_613 : decode code 613 = .ok (.iadd, 1) := by decide +kernel
theorem ld_614 : decode code 614 = .ok (.iaload, 1) := by decide +kernel
theorem ld_615 : decode code 615 = .ok (.aload_n 0, 1) := by decide +kernel
theorem ld_616 : decode code 616 = .ok (.iload_n 3, 1) := by decide +kernel
theorem ld_617 : decode code 617 = .ok (.iconst 2, 1) := by decide +kernel
theorem ld_618 : decode code 618 = .ok (.iadd, 1) := by decide +kernel
theorem ld_619 : decode code 619 = .ok (.iaload, 1) := by decide +kernel
theorem ld_620 : decode code 620 = .ok (.invokevirtual 81, 3) := by decide +kernel
theorem ld_623 : decode code 623 = .ok (.if_icmp .eq 472, 3) := by decide +kernel
theorem ld_626 : decode code 626 = .ok (.iconst 0, 1) := by decide +kernel
theorem ld_627 : decode code 627 = .ok (.ireturn, 1) := by decide +kernel
theorem ld_628 : decode code 628 = .ok (.aload_n 1, 1) := by decide +kernel
theorem ld_629 : decode code 629 = .ok (.invokevirtual 82, 3) := by decide +kernel
theorem ld_632 : decode code 632 = .ok (.aload_n 2, 1) := by decide +kernel
theorem ld_633 : decode code 633 = .ok (.invokevirtual 85, 3) := by decide +kernel
theorem ld_636 : decode code 636 = .ok (.if_icmp .eq 459, 3) := by decide +kernel
theorem ld_639 : decode code 639 = .ok (.iconst 0, 1) := by decide +kernel
theorem ld_640 : decode code 640 = .ok (.ireturn, 1) := by decide +kernel
theorem ld_641 : decode code 641 = .ok (.aload_n 1, 1) := by decide +kernel
theorem ld_642 : decode code 642 = .ok (.aload_n 0, 1) := by decide +kernel
theorem ld_643 : decode code 643 = .ok (.iload_n 3, 1) := by decide +kernel
theorem ld_644 : decode code 644 = .ok (.iconst 1, 1) := by decide +kernel
theorem ld_645 : decode code 645 = .ok (.iadd, 1) := by decide +kernel
theorem ld_646 : decode code 646 = .ok (.iaload, 1) := by decide +kernel
theorem ld_647 : decode code 647 = .ok (.invokevirtual 86, 3) := by decide +kernel
theorem ld_650 : decode code 650 = .ok (.aload_n 2, 1) := by decide +kernel
theorem ld_651 : decode code 651 = .ok (.aload_n 0, 1) := by decide +kernel
theorem ld_652 : decode code 652 = .ok (.iload_n 3, 1) := by decide +kernel
theorem ld_653 : decode code 653 = .ok (.iconst 1, 1) := by decide +kernel
theorem ld_654 : decode code 654 = .ok (.iadd, 1) := by decide +kernel
theorem ld_655 : decode code 655 = .ok (.iaload, 1) := by decide +kernel
theorem ld_656 : decode code 656 = .ok (.invokevirtual 89, 3) := by decide +kernel
theorem ld_659 : decode code 659 = .ok (.if_icmp .eq 436, 3) := by decide +kernel
theorem ld_662 : decode code 662 = .ok (.iconst 0, 1) := by decide +kernel
theorem ld_663 : decode code 663 = .ok (.ireturn, 1) := by decide +kernel
theorem ld_664 : decode code 664 = .ok (.aload_n 1, 1) := by decide +kernel
theorem ld_665 : decode code 665 = .ok (.aload_n 0, 1) := by decide +kernel
theorem ld_666 : decode code 666 = .ok (.iload_n 3, 1) := by decide +kernel
theorem ld_667 : decode code 667 = .ok (.iconst 1, 1) := by decide +kernel
theorem ld_668 : decode code 668 = .ok (.iadd, 1) := by decide +kernel
theorem ld_669 : decode code 669 = .ok (.iaload, 1) := by decide +kernel
theorem ld_670 : decode code 670 = .ok (.invokevirtual 90, 3) := by decide +kernel
theorem ld_673 : decode code 673 = .ok (.aload_n 2, 1) := by decide +kernel
theorem ld_674 : decode code 674 = .ok (.aload_n 0, 1) := by decide +kernel
theorem ld_675 : decode code 675 = .ok (.iload_n 3, 1) := by decide +kernel
theorem ld_676 : decode code 676 = .ok (.iconst 1, 1) := by decide +kernel
theorem ld_677 : decode code 677 = .ok (.iadd, 1) := by decide +kernel
theorem ld_678 : decode code 678 = .ok (.iaload, 1) := by decide +kernel
theorem ld_679 : decode code 679 = .ok (.invokevirtual 93, 3) := by decide +kernel
theorem ld_682 : decode code 682 = .ok (.if_icmp .eq 413, 3) := by decide +kernel
theorem ld_685 : decode code 685 = .ok (.iconst 0, 1) := by decide +kernel
theorem ld_686 : decode code 686 = .ok (.ireturn, 1) := by decide +kernel
theorem ld_687 : decode code 687 = .ok (.aload_n 1, 1) := by decide +kernel
theorem ld_688 : decode code 688 = .ok (.aload_n 0, 1) := by decide +kernel
theorem ld_689 : decode code 689 = .ok (.iload_n 3, 1) := by decide +kernel
theorem ld_690 : decode code 690 = .ok (.iconst 1, 1) := by decide +kernel
theorem ld_691 : decode code 691 = .ok (.iadd, 1) := by decide +kernel
theorem ld_692 : decode code 692 = .ok (.iaload, 1) := by decide +kernel
theorem ld_693 : decode code 693 = .ok (.aload_n 0, 1) := by decide +kernel
theorem ld_694 : decode code 694 = .ok (.iload_n 3, 1) := by decide +kernel
theorem ld_695 : decode code 695 = .ok (.iconst 2, 1) := by decide +kernel
theorem ld_696 : decode code 696 = .ok (.iadd, 1) := by decide +kernel
theorem ld_697 : decode code 697 = .ok (.iaload, 1) := by decide +kernel
theorem ld_698 : decode code 698 = .ok (.invokevirtual 94, 3) := by decide +kernel
theorem ld_701 : decode code 701 = .ok (.aload_n 2, 1) := by decide +kernel
theorem ld_702 : decode code 702 = .ok (.aload_n 0, 1) := by decide +kernel
theorem ld_703 : decode code 703 = .ok (.iload_n 3, 1) := by decide +kernel
theorem ld_704 : decode code 704 = .ok (.iconst 1, 1) := by decide +kernel
theorem ld_705 : decode code 705 = .ok (.iadd, 1) := by decide +kernel
theorem ld_706 : decode code 706 = .ok (.iaload, 1) := by decide +kernel
theorem ld_707 : decode code 707 = .ok (.aload_n 0, 1) := by decide +kernel
theorem ld_708 : decode code 708 = .ok (.iload_n 3, 1) := by decide +kernel
theorem ld_709 : decode code 709 = .ok (.iconst 2, 1) := by decide +kernel
theorem ld_710 : decode code 710 = .ok (.iadd, 1) := by decide +kernel
theorem ld_711 : decode code 711 = .ok (.iaload, 1) := by decide +kernel
theorem ld_712 : decode code 712 = .ok (.invokevirtual 97, 3) := by decide +kernel
theorem ld_715 : decode code 715 = .ok (.if_icmp .eq 380, 3) := by decide +kernel
theorem ld_718 : decode code 718 = .ok (.iconst 0, 1) := by decide +kernel
theorem ld_719 : decode code 719 = .ok (.ireturn, 1) := by decide +kernel
theorem ld_720 : decode code 720 = .ok (.aload_n 1, 1) := by decide +kernel
theorem ld_721 : decode code 721 = .ok (.aload_n 0, 1) := by decide +kernel
theorem ld_722 : decode code 722 = .ok (.iload_n 3, 1) := by decide +kernel
theorem ld_723 : decode code 723 = .ok (.iconst 1, 1) := by decide +kernel
theorem ld_724 : decode code 724 = .ok (.iadd, 1) := by decide +kernel
theorem ld_725 : decode code 725 = .ok (.iaload, 1) := by decide +kernel
theorem ld_726 : decode code 726 = .ok (.invokevirtual 98, 3) := by decide +kernel
theorem ld_729 : decode code 729 = .ok (.aload_n 2, 1) := by decide +kernel
theorem ld_730 : decode code 730 = .ok (.aload_n 0, 1) := by decide +kernel
theorem ld_731 : decode code 731 = .ok (.iload_n 3, 1) := by decide +kernel
theorem ld_732 : decode code 732 = .ok (.iconst 1, 1) := by decide +kernel
theorem ld_733 : decode code 733 = .ok (.iadd, 1) := by decide +kernel
theorem ld_734 : decode code 734 = .ok (.iaload, 1) := by decide +kernel
theorem ld_735 : decode code 735 = .ok (.invokevirtual 101, 3) := by decide +kernel
theorem ld_738 : decode code 738 = .ok (.if_icmp .eq 357, 3) := by decide +kernel
theorem ld_741 : decode code 741 = .ok (.iconst 0, 1) := by decide +kernel
theorem ld_742 : decode code 742 = .ok (.ireturn, 1) := by decide +kernel
theorem ld_743 : decode code 743 = .ok (.aload_n 1, 1) := by decide +kernel
theorem ld_744 : decode code 744 = .ok (.invokevirtual 102, 3) := by decide +kernel
theorem ld_747 : decode code 747 = .ok (.aload_n 2, 1) := by decide +kernel
theorem ld_748 : decode code 748 = .ok (.invokevirtual 105, 3) := by decide +kernel
theorem ld_751 : decode code 751 = .ok (.if_icmp .eq 344, 3) := by decide +kernel
theorem ld_754 : decode code 754 = .ok (.iconst 0, 1) := by decide +kernel
theorem ld_755 : decode code 755 = .ok (.ireturn, 1) := by decide +kernel
theorem ld_756 : decode code 756 = .ok (.aload_n 1, 1) := by decide +kernel
theorem ld_757 : decode code 757 = .ok (.aload_n 0, 1) := by decide +kernel
theorem ld_758 : decode code 758 = .ok (.iload_n 3, 1) := by decide +kernel
theorem ld_759 : decode code 759 = .ok (.iconst 1, 1) := by decide +kernel
theorem ld_760 : decode code 760 = .ok (.iadd, 1) := by decide +kernel
theorem ld_761 : decode code 761 = .ok (.iaload, 1) := by decide +kernel
theorem ld_762 : decode code 762 = .ok (.invokevirtual 106, 3) := by decide +kernel
theorem ld_765 : decode code 765 = .ok (.aload_n 2, 1) := by decide +kernel
theorem ld_766 : decode code 766 = .ok (.aload_n 0, 1) := by decide +kernel
theorem ld_767 : decode code 767 = .ok (.iload_n 3, 1) := by decide +kernel
theorem ld_768 : decode code 768 = .ok (.iconst 1, 1) := by decide +kernel
theorem ld_769 : decode code 769 = .ok (.iadd, 1) := by decide +kernel
theorem ld_770 : decode code 770 = .ok (.iaload, 1) := by decide +kernel
theorem ld_771 : decode code 771 = .ok (.invokevirtual 109, 3) := by decide +kernel
theorem ld_774 : decode code 774 = .ok (.if_icmp .eq 321, 3) := by decide +kernel
theorem ld_777 : decode code 777 = .ok (.iconst 0, 1) := by decide +kernel
theorem ld_778 : decode code 778 = .ok (.ireturn, 1) := by decide +kernel
theorem ld_779 : decode code 779 = .ok (.aload_n 1, 1) := by decide +kernel
theorem ld_780 : decode code 780 = .ok (.aload_n 0, 1) := by decide +kernel
theorem ld_781 : decode code 781 = .ok (.iload_n 3, 1) := by decide +kernel
theorem ld_782 : decode code 782 = .ok (.iconst 1, 1) := by decide +kernel
theorem ld_783 : decode code 783 = .ok (.iadd, 1) := by decide +kernel
theorem ld_784 : decode code 784 = .ok (.iaload, 1) := by decide +kernel
theorem ld_785 : decode code 785 = .ok (.invokevirtual 110, 3) := by decide +kernel
theorem ld_788 : decode code 788 = .ok (.aload_n 2, 1) := by decide +kernel
theorem ld_789 : decode code 789 = .ok (.aload_n 0, 1) := by decide +kernel
theorem ld_790 : decode code 790 = .ok (.iload_n 3, 1) := by decide +kernel
theorem ld_791 : decode code 791 = .ok (.iconst 1, 1) := by decide +kernel
theorem ld_792 : decode code 792 = .ok (.iadd, 1) := by decide +kernel
theorem ld_793 : decode code 793 = .ok (.iaload, 1) := by decide +kernel
theorem ld_794 : decode code 794 = .ok (.invokevirtual 113, 3) := by decide +kernel
theorem ld_797 : decode code 797 = .ok (.if_icmp .eq 298, 3) := by decide +kernel
theorem ld_800 : decode code 800 = .ok (.iconst 0, 1) := by decide +kernel
theorem ld_801 : decode code 801 = .ok (.ireturn, 1) := by decide +kernel
theorem ld_802 : decode code 802 = .ok (.aload_n 1, 1) := by decide +kernel
theorem ld_803 : decode code 803 = .ok (.aload_n 0, 1) := by decide +kernel
theorem ld_804 : decode code 804 = .ok (.iload_n 3, 1) := by decide +kernel
theorem ld_805 : decode code 805 = .ok (.iconst 1, 1) := by decide +kernel
theorem ld_806 : decode code 806 = .ok (.iadd, 1) := by decide +kernel
theorem ld_807 : decode code 807 = .ok (.iaload, 1) := by decide +kernel
theorem ld_808 : decode code 808 = .ok (.invokevirtual 114, 3) := by decide +kernel
theorem ld_811 : decode code 811 = .ok (.aload_n 2, 1) := by decide +kernel
theorem ld_812 : decode code 812 = .ok (.aload_n 0, 1) := by decide +kernel
theorem ld_813 : decode code 813 = .ok (.iload_n 3, 1) := by decide +kernel
theorem ld_814 : decode code 814 = .ok (.iconst 1, 1) := by decide +kernel
theorem ld_815 : decode code 815 = .ok (.iadd, 1) := by decide +kernel
theorem ld_816 : decode code 816 = .ok (.iaload, 1) := by decide +kernel
theorem ld_817 : decode code 817 = .ok (.invokevirtual 117, 3) := by decide +kernel
theorem ld_820 : decode code 820 = .ok (.if_icmp .eq 275, 3) := by decide +kernel
theorem ld_823 : decode code 823 = .ok (.iconst 0, 1) := by decide +kernel
theorem ld_824 : decode code 824 = .ok (.ireturn, 1) := by decide +kernel
theorem ld_825 : decode code 825 = .ok (.aload_n 1, 1) := by decide +kernel
theorem ld_826 : decode code 826 = .ok (.aload_n 0, 1) := by decide +kernel
theorem ld_827 : decode code 827 = .ok (.iload_n 3, 1) := by decide +kernel
theorem ld_828 : decode code 828 = .ok (.iconst 1, 1) := by decide +kernel
theorem ld_829 : decode code 829 = .ok (.iadd, 1) := by decide +kernel
theorem ld_830 : decode code 830 = .ok (.iaload, 1) := by decide +kernel
theorem ld_831 : decode code 831 = .ok (.invokevirtual 118, 3) := by decide +kernel
theorem ld_834 : decode code 834 = .ok (.aload_n 2, 1) := by decide +kernel
theorem ld_835 : decode code 835 = .ok (.aload_n 0, 1) := by decide +kernel
theorem ld_836 : decode code 836 = .ok (.iload_n 3, 1) := by decide +kernel
theorem ld_837 : decode code 837 = .ok (.iconst 1, 1) := by decide +kernel
theorem ld_838 : decode code 838 = .ok (.iadd, 1) := by decide +kernel
theorem ld_839 : decode code 839 = .ok (.iaload, 1) := by decide +kernel
theorem ld_840 : decode code 840 = .ok (.invokevirtual 121, 3) := by decide +kernel
theorem ld_843 : decode code 843 = .ok (.if_icmp .eq 252, 3) := by decide +kernel
theorem ld_846 : decode code 846 = .ok (.iconst 0, 1) := by decide +kernel
theorem ld_847 : decode code 847 = .ok (.ireturn, 1) := by decide +kernel
theorem ld_848 : decode code 848 = .ok (.aload_n 1, 1) := by decide +kernel
theorem ld_849 : decode code 849 = .ok (.aload_n 0, 1) := by decide +kernel
theorem ld_850 : decode code 850 = .ok (.iload_n 3, 1) := by decide +kernel
theorem ld_851 : decode code 851 = .ok (.iconst 1, 1) := by decide +kernel
theorem ld_852 : decode code 852 = .ok (.iadd, 1) := by decide +kernel
theorem ld_853 : decode code 853 = .ok (.iaload, 1) := by decide +kernel
theorem ld_854 : decode code 854 = .ok (.invokevirtual 122, 3) := by decide +kernel
theorem ld_857 : decode code 857 = .ok (.aload_n 2, 1) := by decide +kernel
theorem ld_858 : decode code 858 = .ok (.aload_n 0, 1) := by decide +kernel
theorem ld_859 : decode code 859 = .ok (.iload_n 3, 1) := by decide +kernel
theorem ld_860 : decode code 860 = .ok (.iconst 1, 1) := by decide +kernel
theorem ld_861 : decode code 861 = .ok (.iadd, 1) := by decide +kernel
theorem ld_862 : decode code 862 = .ok (.iaload, 1) := by decide +kernel
theorem ld_863 : decode code 863 = .ok (.invokevirtual 125, 3) := by decide +kernel
theorem ld_866 : decode code 866 = .ok (.if_icmp .eq 229, 3) := by decide +kernel
theorem ld_869 : decode code 869 = .ok (.iconst 0, 1) := by decide +kernel
theorem ld_870 : decode code 870 = .ok (.ireturn, 1) := by decide +kernel
theorem ld_871 : decode code 871 = .ok (.aload_n 1, 1) := by decide +kernel
theorem ld_872 : decode code 872 = .ok (.aload_n 0, 1) := by decide +kernel
theorem ld_873 : decode code 873 = .ok (.iload_n 3, 1) := by decide +kernel
theorem ld_874 : decode code 874 = .ok (.iconst 1, 1) := by decide +kernel
theorem ld_875 : decode code 875 = .ok (.iadd, 1) := by decide +kernel
theorem ld_876 : decode code 876 = .ok (.iaload, 1) := by decide +kernel
theorem ld_877 : decode code 877 = .ok (.invokevirtual 126, 3) := by decide +kernel
theorem ld_880 : decode code 880 = .ok (.aload_n 2, 1) := by decide +kernel
theorem ld_881 : decode code 881 = .ok (.aload_n 0, 1) := by decide +kernel
theorem ld_882 : decode code 882 = .ok (.iload_n 3, 1) := by decide +kernel
theorem ld_883 : decode code 883 = .ok (.iconst 1, 1) := by decide +kernel
theorem ld_884 : decode code 884 = .ok (.iadd, 1) := by decide +kernel
theorem ld_885 : decode code 885 = .ok (.iaload, 1) := by decide +kernel
theorem ld_886 : decode code 886 = .ok (.invokevirtual 129, 3) := by decide +kernel
theorem ld_889 : decode code 889 = .ok (.if_icmp .eq 206, 3) := by decide +kernel
theorem ld_892 : decode code 892 = .ok (.iconst 0, 1) := by decide +kernel
theorem ld_893 : decode code 893 = .ok (.ireturn, 1) := by decide +kernel
theorem ld_894 : decode code 894 = .ok (.aload_n 1, 1) := by decide +kernel
theorem ld_895 : decode code 895 = .ok (.aload_n 0, 1) := by decide +kernel
theorem ld_896 : decode code 896 = .ok (.iload_n 3, 1) := by decide +kernel
theorem ld_897 : decode code 897 = .ok (.iconst 1, 1) := by decide +kernel
theorem ld_898 : decode code 898 = .ok (.iadd, 1) := by decide +kernel
theorem ld_899 : decode code 899 = .ok (.iaload, 1) := by decide +kernel
theorem ld_900 : decode code 900 = .ok (.aload_n 0, 1) := by decide +kernel
theorem ld_901 : decode code 901 = .ok (.iload_n 3, 1) := by decide +kernel
theorem ld_902 : decode code 902 = .ok (.iconst 2, 1) := by decide +kernel
theorem ld_903 : decode code 903 = .ok (.iadd, 1) := by decide +kernel
theorem ld_904 : decode code 904 = .ok (.iaload, 1) := by decide +kernel
theorem ld_905 : decode code 905 = .ok (.invokevirtual 130, 3) := by decide +kernel
theorem ld_908 : decode code 908 = .ok (.aload_n 2, 1) := by decide +kernel
theorem ld_909 : decode code 909 = .ok (.aload_n 0, 1) := by decide +kernel
theorem ld_910 : decode code 910 = .ok (.iload_n 3, 1) := by decide +kernel
theorem ld_911 : decode code 911 = .ok (.iconst 1, 1) := by decide +kernel
theorem ld_912 : decode code 912 = .ok (.iadd, 1) := by decide +kernel
theorem ld_913 : decode code 913 = .ok (.iaload, 1) := by decide +kernel
theorem ld_914 : decode code 914 = .ok (.aload_n 0, 1) := by decide +kernel
theorem ld_915 : decode code 915 = .ok (.iload_n 3, 1) := by decide +kernel
theorem ld_916 : decode code 916 = .ok (.iconst 2, 1) := by decide +kernel
theorem ld_917 : decode code 917 = .ok (.iadd, 1) := by decide +kernel
theorem ld_918 : decode code 918 = .ok (.iaload, 1) := by decide +kernel
theorem ld_919 : decode code 919 = .ok (.invokevirtual 134, 3) := by decide +kernel
theorem ld_922 : decode code 922 = .ok (.if_icmp .eq 173, 3) := by decide +kernel
theorem ld_925 : decode code 925 = .ok (.iconst 0, 1) := by decide +kernel
theorem ld_926 : decode code 926 = .ok (.ireturn, 1) := by decide +kernel
theorem ld_927 : decode code 927 = .ok (.aload_n 1, 1) := by decide +kernel
theorem ld_928 : decode code 928 = .ok (.aload_n 0, 1) := by decide +kernel
theorem ld_929 : decode code 929 = .ok (.iload_n 3, 1) := by decide +kernel
theorem ld_930 : decode code 930 = .ok (.iconst 1, 1) := by decide +kernel
theorem ld_931 : decode code 931 = .ok (.iadd, 1) := by decide +kernel
theorem ld_932 : decode code 932 = .ok (.iaload, 1) := by decide +kernel
theorem ld_933 : decode code 933 = .ok (.invokevirtual 135, 3) := by decide +kernel
theorem ld_936 : decode code 936 = .ok (.aload_n 2, 1) := by decide +kernel
theorem ld_937 : decode code 937 = .ok (.aload_n 0, 1) := by decide +kernel
theorem ld_938 : decode code 938 = .ok (.iload_n 3, 1) := by decide +kernel
theorem ld_939 : decode code 939 = .ok (.iconst 1, 1) := by decide +kernel
theorem ld_940 : decode code 940 = .ok (.iadd, 1) := by decide +kernel
theorem ld_941 : decode code 941 = .ok (.iaload, 1) := by decide +kernel
theorem ld_942 : decode code 942 = .ok (.invokevirtual 138, 3) := by decide +kernel
theorem ld_945 : decode code 945 = .ok (.if_icmp .eq 150, 3) := by decide +kernel
theorem ld_948 : decode code 948 = .ok (.iconst 0, 1) := by decide +kernel
theorem ld_949 : decode code 949 = .ok (.ireturn, 1) := by decide +kernel
theorem ld_950 : decode code 950 = .ok (.aload_n 1, 1) := by decide +kernel
theorem ld_951 : decode code 951 = .ok (.aload_n 0, 1) := by decide +kernel
theorem ld_952 : decode code 952 = .ok (.iload_n 3, 1) := by decide +kernel
theorem ld_953 : decode code 953 = .ok (.iconst 1, 1) := by decide +kernel
theorem ld_954 : decode code 954 = .ok (.iadd, 1) := by decide +kernel
theorem ld_955 : decode code 955 = .ok (.iaload, 1) := by decide +kernel
theorem ld_956 : decode code 956 = .ok (.invokevirtual 139, 3) := by decide +kernel
theorem ld_959 : decode code 959 = .ok (.aload_n 2, 1) := by decide +kernel
theorem ld_960 : decode code 960 = .ok (.aload_n 0, 1) := by decide +kernel
theorem ld_961 : decode code 961 = .ok (.iload_n 3, 1) := by decide +kernel
theorem ld_962 : decode code 962 = .ok (.iconst 1, 1) := by decide +kernel
theorem ld_963 : decode code 963 = .ok (.iadd, 1) := by decide +kernel
theorem ld_964 : decode code 964 = .ok (.iaload, 1) := by decide +kernel
theorem ld_965 : decode code 965 = .ok (.invokevirtual 142, 3) := by decide +kernel
theorem ld_968 : decode code 968 = .ok (.if_icmp .eq 127, 3) := by decide +kernel
theorem ld_971 : decode code 971 = .ok (.iconst 0, 1) := by decide +kernel
theorem ld_972 : decode code 972 = .ok (.ireturn, 1) := by decide +kernel
theorem ld_973 : decode code 973 = .ok (.aload_n 1, 1) := by decide +kernel
theorem ld_974 : decode code 974 = .ok (.invokevirtual 143, 3) := by decide +kernel
theorem ld_977 : decode code 977 = .ok (.aload_n 2, 1) := by decide +kernel
theorem ld_978 : decode code 978 = .ok (.invokevirtual 147, 3) := by decide +kernel
theorem ld_981 : decode code 981 = .ok (.if_icmp .eq 114, 3) := by decide +kernel
theorem ld_984 : decode code 984 = .ok (.iconst 0, 1) := by decide +kernel
theorem ld_985 : decode code 985 = .ok (.ireturn, 1) := by decide +kernel
theorem ld_986 : decode code 986 = .ok (.aload_n 1, 1) := by decide +kernel
theorem ld_987 : decode code 987 = .ok (.aload_n 0, 1) := by decide +kernel
theorem ld_988 : decode code 988 = .ok (.iload_n 3, 1) := by decide +kernel
theorem ld_989 : decode code 989 = .ok (.iconst 1, 1) := by decide +kernel
theorem ld_990 : decode code 990 = .ok (.iadd, 1) := by decide +kernel
theorem ld_991 : decode code 991 = .ok (.iaload, 1) := by decide +kernel
theorem ld_992 : decode code 992 = .ok (.invokevirtual 148, 3) := by decide +kernel
theorem ld_995 : decode code 995 = .ok (.aload_n 2, 1) := by decide +kernel
theorem ld_996 : decode code 996 = .ok (.aload_n 0, 1) := by decide +kernel
theorem ld_997 : decode code 997 = .ok (.iload_n 3, 1) := by decide +kernel
theorem ld_998 : decode code 998 = .ok (.iconst 1, 1) := by decide +kernel
theorem ld_999 : decode code 999 = .ok (.iadd, 1) := by decide +kernel
theorem ld_1000 : decode code 1000 = .ok (.iaload, 1) := by decide +kernel
theorem ld_1001 : decode code 1001 = .ok (.invokevirtual 151, 3) := by decide +kernel
theorem ld_1004 : decode code 1004 = .ok (.if_icmp .eq 91, 3) := by decide +kernel
theorem ld_1007 : decode code 1007 = .ok (.iconst 0, 1) := by decide +kernel
theorem ld_1008 : decode code 1008 = .ok (.ireturn, 1) := by decide +kernel
theorem ld_1009 : decode code 1009 = .ok (.aload_n 1, 1) := by decide +kernel
theorem ld_1010 : decode code 1010 = .ok (.invokevirtual 152, 3) := by decide +kernel
theorem ld_1013 : decode code 1013 = .ok (.aload_n 2, 1) := by decide +kernel
theorem ld_1014 : decode code 1014 = .ok (.invokevirtual 156, 3) := by decide +kernel
theorem ld_1017 : decode code 1017 = .ok (.lcmp, 1) := by decide +kernel
theorem ld_1018 : decode code 1018 = .ok (.ifCond .eq 77, 3) := by decide +kernel
theorem ld_1021 : decode code 1021 = .ok (.iconst 0, 1) := by decide +kernel
theorem ld_1022 : decode code 1022 = .ok (.ireturn, 1) := by decide +kernel
theorem ld_1023 : decode code 1023 = .ok (.aload_n 1, 1) := by decide +kernel
theorem ld_1024 : decode code 1024 = .ok (.invokevirtual 157, 3) := by decide +kernel
theorem ld_1027 : decode code 1027 = .ok (.aload_n 2, 1) := by decide +kernel
theorem ld_1028 : decode code 1028 = .ok (.invokevirtual 160, 3) := by decide +kernel
theorem ld_1031 : decode code 1031 = .ok (.if_icmp .eq 64, 3) := by decide +kernel
theorem ld_1034 : decode code 1034 = .ok (.iconst 0, 1) := by decide +kernel
theorem ld_1035 : decode code 1035 = .ok (.ireturn, 1) := by decide +kernel
theorem ld_1036 : decode code 1036 = .ok (.aload_n 1, 1) := by decide +kernel
theorem ld_1037 : decode code 1037 = .ok (.aload_n 0, 1) := by decide +kernel
theorem ld_1038 : decode code 1038 = .ok (.iload_n 3, 1) := by decide +kernel
theorem ld_1039 : decode code 1039 = .ok (.iconst 1, 1) := by decide +kernel
theorem ld_1040 : decode code 1040 = .ok (.iadd, 1) := by decide +kernel
theorem ld_1041 : decode code 1041 = .ok (.iaload, 1) := by decide +kernel
theorem ld_1042 : decode code 1042 = .ok (.invokevirtual 161, 3) := by decide +kernel
theorem ld_1045 : decode code 1045 = .ok (.aload_n 2, 1) := by decide +kernel
theorem ld_1046 : decode code 1046 = .ok (.aload_n 0, 1) := by decide +kernel
theorem ld_1047 : decode code 1047 = .ok (.iload_n 3, 1) := by decide +kernel
theorem ld_1048 : decode code 1048 = .ok (.iconst 1, 1) := by decide +kernel
theorem ld_1049 : decode code 1049 = .ok (.iadd, 1) := by decide +kernel
theorem ld_1050 : decode code 1050 = .ok (.iaload, 1) := by decide +kernel
theorem ld_1051 : decode code 1051 = .ok (.invokevirtual 164, 3) := by decide +kernel
theorem ld_1054 : decode code 1054 = .ok (.if_icmp .eq 41, 3) := by decide +kernel
theorem ld_1057 : decode code 1057 = .ok (.iconst 0, 1) := by decide +kernel
theorem ld_1058 : decode code 1058 = .ok (.ireturn, 1) := by decide +kernel
theorem ld_1059 : decode code 1059 = .ok (.aload_n 1, 1) := by decide +kernel
theorem ld_1060 : decode code 1060 = .ok (.invokevirtual 165, 3) := by decide +kernel
theorem ld_1063 : decode code 1063 = .ok (.aload_n 2, 1) := by decide +kernel
theorem ld_1064 : decode code 1064 = .ok (.invokevirtual 168, 3) := by decide +kernel
theorem ld_1067 : decode code 1067 = .ok (.if_icmp .eq 28, 3) := by decide +kernel
theorem ld_1070 : decode code 1070 = .ok (.iconst 0, 1) := by decide +kernel
theorem ld_1071 : decode code 1071 = .ok (.ireturn, 1) := by decide +kernel
theorem ld_1072 : decode code 1072 = .ok (.aload_n 1, 1) := by decide +kernel
theorem ld_1073 : decode code 1073 = .ok (.aload_n 0, 1) := by decide +kernel
theorem ld_1074 : decode code 1074 = .ok (.iload_n 3, 1) := by decide +kernel
theorem ld_1075 : decode code 1075 = .ok (.iconst 1, 1) := by decide +kernel
theorem ld_1076 : decode code 1076 = .ok (.iadd, 1) := by decide +kernel
theorem ld_1077 : decode code 1077 = .ok (.iaload, 1) := by decide +kernel
theorem ld_1078 : decode code 1078 = .ok (.invokevirtual 169, 3) := by decide +kernel
theorem ld_1081 : decode code 1081 = .ok (.aload_n 2, 1) := by decide +kernel
theorem ld_1082 : decode code 1082 = .ok (.aload_n 0, 1) := by decide +kernel
theorem ld_1083 : decode code 1083 = .ok (.iload_n 3, 1) := by decide +kernel
theorem ld_1084 : decode code 1084 = .ok (.iconst 1, 1) := by decide +kernel
theorem ld_1085 : decode code 1085 = .ok (.iadd, 1) := by decide +kernel
theorem ld_1086 : decode code 1086 = .ok (.iaload, 1) := by decide +kernel
theorem ld_1087 : decode code 1087 = .ok (.invokevirtual 172, 3) := by decide +kernel
theorem ld_1090 : decode code 1090 = .ok (.if_icmp .eq 5, 3) := by decide +kernel
theorem ld_1093 : decode code 1093 = .ok (.iconst 0, 1) := by decide +kernel
theorem ld_1094 : decode code 1094 = .ok (.ireturn, 1) := by decide +kernel
theorem ld_1095 : decode code 1095 = .ok (.iinc 3 6, 3) := by decide +kernel
theorem ld_1098 : decode code 1098 = .ok (.goto (-1080), 3) := by decide +kernel
theorem ld_1101 : decode code 1101 = .ok (.iconst 1, 1) := by decide +kernel
theorem ld_1102 : decode code 1102 = .ok (.ireturn, 1) := by decide +kernel
theorem nest_tbl : ∀ w ∈ mNestM, w ∈ lw_tbl ∧ w.onTables = true := List.forall_mem_cons.mpr ⟨⟨List.mem_append_right _ (List.mem_of_getElem? (i := 26) (by decide +kernel)), rfl⟩, List.forall_mem_cons.mpr ⟨⟨List.mem_append_right _ (List.mem_of_getElem? (i := 32) (by decide +kernel)), rfl⟩, List.forall_mem_cons.mpr ⟨⟨List.mem_append_right _ (List.mem_of_getElem? (i := 116) (by decide +kernel)), rfl⟩, List.forall_mem_cons.mpr ⟨⟨List.mem_append_right _ (List.mem_of_getElem? (i := 170) (by decide +kernel)), rfl⟩, List.forall_mem_cons.mpr ⟨⟨List.mem_append_right _ (List.mem_of_getElem? (i := 186) (by decide +kernel)), rfl⟩, List.forall_mem_cons.mpr ⟨⟨List.mem_append_right _ (List.mem_of_getElem? (i := 203) (by decide +kernel)), rfl⟩, List.forall_mem_cons.mpr ⟨⟨List.mem_append_right _ (List.mem_of_getElem? (i := 248) (by decide +kernel)), rfl⟩, mz_nil⟩⟩⟩⟩⟩⟩⟩
theorem nest_f : mSpW ∈ lw_tbl := List.mem_append_right _ (List.mem_of_getElem? (i := 423) (by decide +kernel))
theorem w_sp1 : Cond.laysStatic "PorterDoors$Words" "SPELLED" "[J" ∈ lw_tbl := List.mem_append_right _ (List.mem_of_getElem? (i := 424) (by decide +kernel))
theorem w_sp2 : Cond.initialized "PorterDoors$Words" ∈ lw_tbl := List.mem_append_right _ (List.mem_of_getElem? (i := 13) (by decide +kernel))
noncomputable def spT : Term := .static "PorterDoors$Words" "SPELLED" "[J"
theorem sp_of {args : Array Value} {s : State} {A : Nat → Prop} (hts : ∀ w ∈ lw_tbl, w.before args s = true) (hnv : (Jvm.Cond.and given_1 narrow_1).before args s = true) (hA : ∀ a : Nat, a < s.heap.size → ¬ A a) : ∃ tS, va_Z "PorterDoors$Words" "SPELLED" "[J" (.ref tS) A s s.heap ∧ va_T .long tS 31 (fun j => .long (mSpl j)) A s s.heap := by
  have hs := flat_of_before _ hnv
  have harr : (Cond.arrayOf spT .long).before args s = true := hs _ (by decide +kernel)
  have hle : (Cond.eq (.length spT) (.int 31)).before args s = true := hs _ (by decide +kernel)
  have hel : ∀ j : Nat, j < 31 → (Term.elem spT (.int (Int32.ofNat j))).eval args s none [] s = some (.long (mSpl j)) := by
    intro j hj
    match j, hj with
    | 0, _ => exact va_eqtl (hs (Cond.eq (.elem spT (.int 0)) (.long (mSpl 0))) (by decide +kernel))
    | 1, _ => exact va_eqtl (hs (Cond.eq (.elem spT (.int 1)) (.long (mSpl 1))) (by decide +kernel))
    | 2, _ => exact va_eqtl (hs (Cond.eq (.elem spT (.int 2)) (.long (mSpl 2))) (by decide +kernel))
    | 3, _ => exact va_eqtl (hs (Cond.eq (.elem spT (.int 3)) (.long (mSpl 3))) (by decide +kernel))
    | 4, _ => exact va_eqtl (hs (Cond.eq (.elem spT (.int 4)) (.long (mSpl 4))) (by decide +kernel))
    | 5, _ => exact va_eqtl (hs (Cond.eq (.elem spT (.int 5)) (.long (mSpl 5))) (by decide +kernel))
    | 6, _ => exact va_eqtl (hs (Cond.eq (.elem spT (.int 6)) (.long (mSpl 6))) (by decide +kernel))
    | 7, _ => exact va_eqtl (hs (Cond.eq (.elem spT (.int 7)) (.long (mSpl 7))) (by decide +kernel))
    | 8, _ => exact va_eqtl (hs (Cond.eq (.elem spT (.int 8)) (.long (mSpl 8))) (by decide +kernel))
    | 9, _ => exact va_eqtl (hs (Cond.eq (.elem spT (.int 9)) (.long (mSpl 9))) (by decide +kernel))
    | 10, _ => exact va_eqtl (hs (Cond.eq (.elem spT (.int 10)) (.long (mSpl 10))) (by decide +kernel))
    | 11, _ => exact va_eqtl (hs (Cond.eq (.elem spT (.int 11)) (.long (mSpl 11))) (by decide +kernel))
    | 12, _ => exact va_eqtl (hs (Cond.eq (.elem spT (.int 12)) (.long (mSpl 12))) (by decide +kernel))
    | 13, _ => exact va_eqtl (hs (Cond.eq (.elem spT (.int 13)) (.long (mSpl 13))) (by decide +kernel))
    | 14, _ => exact va_eqtl (hs (Cond.eq (.elem spT (.int 14)) (.long (mSpl 14))) (by decide +kernel))
    | 15, _ => exact va_eqtl (hs (Cond.eq (.elem spT (.int 15)) (.long (mSpl 15))) (by decide +kernel))
    | 16, _ => exact va_eqtl (hs (Cond.eq (.elem spT (.int 16)) (.long (mSpl 16))) (by decide +kernel))
    | 17, _ => exact va_eqtl (hs (Cond.eq (.elem spT (.int 17)) (.long (mSpl 17))) (by decide +kernel))
    | 18, _ => exact va_eqtl (hs (Cond.eq (.elem spT (.int 18)) (.long (mSpl 18))) (by decide +kernel))
    | 19, _ => exact va_eqtl (hs (Cond.eq (.elem spT (.int 19)) (.long (mSpl 19))) (by decide +kernel))
    | 20, _ => exact va_eqtl (hs (Cond.eq (.elem spT (.int 20)) (.long (mSpl 20))) (by decide +kernel))
    | 21, _ => exact va_eqtl (hs (Cond.eq (.elem spT (.int 21)) (.long (mSpl 21))) (by decide +kernel))
    | 22, _ => exact va_eqtl (hs (Cond.eq (.elem spT (.int 22)) (.long (mSpl 22))) (by decide +kernel))
    | 23, _ => exact va_eqtl (hs (Cond.eq (.elem spT (.int 23)) (.long (mSpl 23))) (by decide +kernel))
    | 24, _ => exact va_eqtl (hs (Cond.eq (.elem spT (.int 24)) (.long (mSpl 24))) (by decide +kernel))
    | 25, _ => exact va_eqtl (hs (Cond.eq (.elem spT (.int 25)) (.long (mSpl 25))) (by decide +kernel))
    | 26, _ => exact va_eqtl (hs (Cond.eq (.elem spT (.int 26)) (.long (mSpl 26))) (by decide +kernel))
    | 27, _ => exact va_eqtl (hs (Cond.eq (.elem spT (.int 27)) (.long (mSpl 27))) (by decide +kernel))
    | 28, _ => exact va_eqtl (hs (Cond.eq (.elem spT (.int 28)) (.long (mSpl 28))) (by decide +kernel))
    | 29, _ => exact va_eqtl (hs (Cond.eq (.elem spT (.int 29)) (.long (mSpl 29))) (by decide +kernel))
    | 30, _ => exact va_eqtl (hs (Cond.eq (.elem spT (.int 30)) (.long (mSpl 30))) (by decide +kernel))
    | j + 31, h => exact absurd h (by omega)
  obtain ⟨t, h1, h2⟩ := va_Tof (N := 31) (by decide) harr (va_eqt hle) hel hA
  exact ⟨t, va_Zof (hts _ w_sp1) (hts _ w_sp2) h1 hA, h2⟩
/-- what the law's walk stands in -/
noncomputable def lC (p : Program) (s : State) (m : MethodId) (meth : Method) (c : Code) (b L : Nat) (xs : Nat → Int32) (D : va_G) (dA : Nat → ClassId) (tS : Nat) : Prop :=
  p.tables.exec = Jvm.exec ∧ c.code = code ∧ meth.sig.returnType = ret ∧ c.maxLocals = 4 ∧ s.vm.findClass (mC 12) = some m.cls ∧ (∀ w ∈ lw_good, w.before #[Value.ref b] s = true) ∧ meth.locks = false ∧ mKM D dA s ∧ mNW s ∧ va_X b L xs s s.heap ∧ b < s.heap.size ∧ (va_Z "PorterDoors$Words" "SPELLED" "[J" (.ref tS) (cFr s.heap.size) s s.heap ∧ va_T .long tS 31 (fun j => .long (mSpl j)) (cFr s.heap.size) s s.heap) ∧ L ≤ 3072
noncomputable def lLo (s : State) (b : Nat) (i : Int32) : List (Nat × Value) := [(3, .int i), (2, .ref (s.heap.size + 42)), (1, .ref s.heap.size), (0, .ref b)]
noncomputable def Wl (p : Program) (l : Launch) (e : Env) (s : State) (m : MethodId) (below : List Frame) (meth : Method) (c : Code) (b : Nat) (D : va_G) (dA : Nat → ClassId) (tS : Nat) (i : Int32) (pc : Nat) (st : List Value) (sx sm : mS) : Prop :=
  ∀ (H : Heap) (ls : Array Slot) (locs : List Loc), va_P D mcl (mWs dA Sx (Rf R0x oFx sx) (mAd s.heap.size tS) nx sx) H → va_P D mcl (mWs dA Sm (Rf R0m oFm sm) (mAd (s.heap.size + 42) tS) nm sm) H → lv_has ls 4 (lLo s b i) → va_S (cFr s.heap.size) s.heap H locs →
    W p l e room_1 s m #[.ref b] below meth c H locs 110 29491 (lw_Z below #[.ref b] s) (F0 m pc ls st)
theorem mWs_kept {D : va_G} {dA : Nat → ClassId} {S : mW} {R : Nat → Nat → Option Nat} {B tS n : Nat} {s : mS} {H H1 : Heap} (hn : n ≤ 999999) (hP : va_P D mcl (mWs dA S R (mAd B tS) n s) H) (hq : ∀ q, mOwn B n q → H1[q]? = H[q]?) : va_P D mcl (mWs dA S R (mAd B tS) n s) H1 := hP.kept fun k y hy => by
  obtain ⟨h1, rfl⟩ := mWs_get hy
  exact hq _ (mAd_in h1 hn)
section LAW
variable {p : Program} {l : Launch} {e : Env} {s : State} {m : MethodId} {below : List Frame} {meth : Method} {c : Code} {b L : Nat} {xs : Nat → Int32} {D : va_G} {dA : Nat → ClassId} {tS : Nat} {i : Int32} {pc : Nat} {st : List Value} {sx sm : mS}
theorem Wl_ax (hc : lC p s m meth c b L xs D dA tS) (hd : decode code pc = .ok (.aload_n 1, 1)) (k : Wl p l e s m below meth c b D dA tS i (pc + 1) (.ref s.heap.size :: st) sx sm) : Wl p l e s m below meth c b D dA tS i pc st sx sm := fun H ls locs h1 h2 hl hS => lv_aload_n hc.1 hc.2.1 hd rfl (lv_at hl 2 rfl) (k H ls locs h1 h2 hl hS)
theorem Wl_am (hc : lC p s m meth c b L xs D dA tS) (hd : decode code pc = .ok (.aload_n 2, 1)) (k : Wl p l e s m below meth c b D dA tS i (pc + 1) (.ref (s.heap.size + 42) :: st) sx sm) : Wl p l e s m below meth c b D dA tS i pc st sx sm := fun H ls locs h1 h2 hl hS => lv_aload_n hc.1 hc.2.1 hd rfl (lv_at hl 1 rfl) (k H ls locs h1 h2 hl hS)
theorem l_bA (hc : lC p s m meth c b L xs D dA tS) : ¬ cFr s.heap.size b := Nat.not_le.mpr hc.2.2.2.2.2.2.2.2.2.2.1
theorem Wl_el (hc : lC p s m meth c b L xs D dA tS) {n : Int} (hv : vp_in (i + Int32.ofInt n) L) (d0 : decode code pc = .ok (.aload_n 0, 1)) (d1 : decode code (pc + 1) = .ok (.iload_n 3, 1)) (d2 : decode code (pc + 2) = .ok (.iconst n, 1)) (d3 : decode code (pc + 3) = .ok (.iadd, 1)) (d4 : decode code (pc + 4) = .ok (.iaload, 1)) (k : Wl p l e s m below meth c b D dA tS i (pc + 5) (.int (xs (ix (i + Int32.ofInt n))) :: st) sx sm) : Wl p l e s m below meth c b D dA tS i pc st sx sm := fun H ls locs h1 h2 hl hS =>
  lv_aload_n hc.1 hc.2.1 d0 rfl (lv_at hl 3 rfl) (lv_iload_n hc.1 hc.2.1 d1 rfl (lv_at hl 0 rfl) (lv_iconst hc.1 hc.2.1 d2 rfl (lv_iadd hc.1 hc.2.1 d3 (va_sld hc.1 hc.2.1 hc.2.2.2.2.2.2.2.2.2.1 hc.2.2.2.2.2.2.2.2.2.2.1 (l_bA hc) hS hv d4 (k H ls locs h1 h2 hl hS)))))
theorem l_sp (hc : lC p s m meth c b L xs D dA tS) {B n : Nat} (hB : s.heap.size ≤ B) {H : Heap} {locs : List Loc} (hS : va_S (cFr s.heap.size) s.heap H locs) : mSP tS B n s H :=
  ⟨(hc.2.2.2.2.2.2.2.2.2.2.2.1.1.kept hS.2.1).narrow fun q h => Nat.le_trans hB h.1, (hc.2.2.2.2.2.2.2.2.2.2.2.1.2.kept hS.2.1).narrow fun q h => Nat.le_trans hB h.1⟩
/-- a call of one of the two objects -/
theorem l_run (hc : lC p s m meth c b L xs D dA tS) {S : mW} {R0 : Nat → Nat → Option Nat} {oF n B d idx i9 y : Nat} {vs : List Value} {r : Value} {s0 s1 : mS} {qy : mI} (hw : mOF S oF n) (hB : s.heap.size ≤ B) (hy : mT[y]? = some qy) (hfg : mFg qy = 1) (hml : (idx, y, i9) ∈ mMl 12) (hM : MetM S R0 oF n d y (.ref 0 :: vs) s0 (some r) s1) (hd9 : d ≤ 1000) (hown : S 0 = .inl (mOw qy)) (hcl : mOw qy < 11) (hlen : vs.length = mNp qy) (hvs : vs.map (mV B tS) = vs) (hcat : cats st ≤ 8) (hst : st.map (mV B tS) = st) (hd : decode code pc = .ok (.invokevirtual idx, 3)) {H : Heap} {ls : Array Slot} {locs : List Loc} (hP : va_P D mcl (mWs dA S (Rf R0 oF s0) (mAd B tS) n s0) H) (hl : ls.size = 4) (hS : va_S (cFr s.heap.size) s.heap H locs) :
    va_Run p l e room_1 s m #[.ref b] below meth c H locs 110 29491 0 0 (F0 m pc ls (vs.reverse ++ .ref (mAd B tS 0) :: st)) st (mQc S R0 oF n (some r, s1) B tS D dA (Value.ref (mAd B tS 0) :: vs.map (mV B tS)).toArray) (mOwn B n) := by
  obtain ⟨hco, hin, hg, hb⟩ := mT_in hy
  obtain ⟨hC, hpl, hno, hnp, hmx⟩ := okB_spec hb
  unfold okG at hg
  rw [hfg] at hg
  obtain ⟨q9, hq9, hlk⟩ := mMl_ok _ _ hml
  cases hy.symm.trans hq9
  have ho : 0 < n := hw.1 0 _ hown hcl
  have hcs : (st.map fun v => v.category).sum = cats st := by rw [← cats_sum B tS st, hst]
  refine va_runV (Ts := lw_good) (own := mC 12) (C := (mNm qy).cls) (b := mAd B tS 0) (As := vs.map (mV B tS)) ⟨hc.1, hc.2.1, hc.2.2.2.1, hc.2.2.2.2.1, hc.2.2.2.2.2.1⟩ (hM l B tS D dA qy hy)
    (cwV (C := (mNm qy).cls) (mNp qy) hc.2.2.2.2.2.1 (good_GoodIn (fun w hw9 => by
      rcases List.mem_append.mp hw9 with h | h
      · simp only [List.mem_cons, List.not_mem_nil, or_false] at h
        rcases h with rfl | rfl | rfl | rfl
        · exact hlk
        · exact hg.1
        · exact hg.2
        · exact hin
      · rcases List.mem_cons.mp h with rfl | h
        · exact hco
        · exact h)) rfl rfl rfl ⟨rfl, hno.1, hno.2, hnp⟩ ⟨by show d + 1 ≤ 2048; omega, by show 8 + (mMx qy + 11) + 70 * d ≤ 84000; omega⟩)
    ⟨mPc_blind, by
      obtain ⟨qc, hqc⟩ := mcl_of hcl
      have := va_recv (ws := mWs dA S (Rf R0 oF s0) (mAd B tS) n s0) hc.2.2.2.2.2.2.2.1 hP hqc (a := mAd B tS 0) (q0 := 0) (by rw [mWs_at ho, mEnt_obj hown])
      rw [← (cls_ok hqc).2.2.2, hC] at this
      exact this, fun U hU hW => ⟨rfl, by rw [hU]; exact hP, va_K.moved hW.alike hc.2.2.2.2.2.2.2.1, by rw [hU]; exact mSP_moved hW.alike (l_sp hc hB hS), mNW_warm hW hc.2.2.2.2.2.2.2.2.1⟩⟩
    rfl (by rw [List.length_map]; exact hlen) hl (by rw [hvs]) (by rw [hcs]; show 2 * 0 + cats st ≤ 8; omega) hd ⟨by decide, by decide⟩
theorem Wl_cx (hc : lC p s m meth c b L xs D dA tS) {d idx i9 y : Nat} {vs : List Value} {r : Value} {s1 : mS} {qy : mI} (hy : mT[y]? = some qy) (hfg : mFg qy = 1) (hml : (idx, y, i9) ∈ mMl 12) (hM : MetM Sx R0x oFx nx d y (.ref 0 :: vs) sx (some r) s1) (hd9 : d ≤ 1000) (hown : mOw qy = 0) (hlen : vs.length = mNp qy) (hvs : vs.map (mV s.heap.size tS) = vs) (hr : mV s.heap.size tS r = r) (hcat : cats st ≤ 8) (hst : st.map (mV s.heap.size tS) = st) (hd : decode code pc = .ok (.invokevirtual idx, 3)) (k : Wl p l e s m below meth c b D dA tS i (pc + 3) (r :: st) s1 sm) : Wl p l e s m below meth c b D dA tS i pc (vs.reverse ++ .ref s.heap.size :: st) sx sm := fun H ls locs h1 h2 hl hS => by
  intro T hT X
  have e0 : mAd s.heap.size tS 0 = s.heap.size := mAd_own (n := 1) (by decide) (by decide)
  have hrun := l_run (l := l) (e := e) (below := below) hc wOKx (Nat.le_refl _) hy hfg hml hM hd9 (by rw [hown]; decide +kernel) (by rw [hown]; decide) hlen hvs hcat hst hd h1 hl.1 hS
  rw [e0] at hrun
  obtain ⟨v, st₀, t, T', L, h0, X', hL, e1, e2, ⟨hv, hp, hz, hk⟩, sp⟩ := hrun T hT X
  obtain rfl := Outcome.returned.inj hv
  rw [h0] at hz hk
  have hS' : va_S (cFr s.heap.size) s.heap T'.heap (locs ++ L) := ⟨Nat.le_trans hS.1 (by rw [e1]; exact hz), fun q h1 h2 => by rw [e1, hk q (Nat.lt_of_lt_of_le h1 hS.1) (fun h9 => h2 h9.1)]; exact hS.2.1 q h1 h2, fun q hq => by
    rcases List.mem_append.mp hq with h | h
    · exact hS.2.2 q h
    · exact (hL q h).1⟩
  have h2' : va_P D mcl (mWs dA Sm (Rf R0m oFm sm) (mAd (s.heap.size + 42) tS) nm sm) T'.heap := mWs_kept (by decide) (H := H) h2 (fun q hq => by
    rw [e1]
    refine hk q ?_ (fun h9 => by have := h9.2; have := hq.1; unfold nx at *; omega)
    have h68 := (h2 67 _ (mWs_at (by decide))).lt
    have e67 : mAd (s.heap.size + 42) tS 67 = s.heap.size + 42 + 67 := mAd_own (n := 68) (by decide) (by decide)
    have := hq.2
    dsimp only at h68
    rw [e67] at h68
    unfold nm at *
    omega)
  obtain ⟨t2, a1, b1⟩ := k T'.heap ls (locs ++ L) (by rw [e1]; exact hp) h2' hl hS' T' rfl X'
  refine ⟨t2, sp t2 ?_, b1⟩
  have e9 : (some r).map (mV s.heap.size tS) = some r := congrArg some hr
  rw [e9]
  exact a1
theorem Wl_cm (hc : lC p s m meth c b L xs D dA tS) {d idx i9 y : Nat} {vs : List Value} {r : Value} {s1 : mS} {qy : mI} (hy : mT[y]? = some qy) (hfg : mFg qy = 1) (hml : (idx, y, i9) ∈ mMl 12) (hM : MetM Sm R0m oFm nm d y (.ref 0 :: vs) sm (some r) s1) (hd9 : d ≤ 1000) (hown : mOw qy = 10) (hlen : vs.length = mNp qy) (hvs : vs.map (mV (s.heap.size + 42) tS) = vs) (hr : mV (s.heap.size + 42) tS r = r) (hcat : cats st ≤ 8) (hst : st.map (mV (s.heap.size + 42) tS) = st) (hd : decode code pc = .ok (.invokevirtual idx, 3)) (k : Wl p l e s m below meth c b D dA tS i (pc + 3) (r :: st) sx s1) : Wl p l e s m below meth c b D dA tS i pc (vs.reverse ++ .ref (s.heap.size + 42) :: st) sx sm := fun H ls locs h1 h2 hl hS => by
  intro T hT X
  have e0 : mAd (s.heap.size + 42) tS 0 = s.heap.size + 42 := mAd_own (n := 1) (by decide) (by decide)
  have hrun := l_run (l := l) (e := e) (below := below) hc wOKm (Nat.le_add_right _ _) hy hfg hml hM hd9 (by rw [hown]; decide +kernel) (by rw [hown]; decide) hlen hvs hcat hst hd h2 hl.1 hS
  rw [e0] at hrun
  obtain ⟨v, st₀, t, T', L, h0, X', hL, e1, e2, ⟨hv, hp, hz, hk⟩, sp⟩ := hrun T hT X
  obtain rfl := Outcome.returned.inj hv
  rw [h0] at hz hk
  have hS' : va_S (cFr s.heap.size) s.heap T'.heap (locs ++ L) := ⟨Nat.le_trans hS.1 (by rw [e1]; exact hz), fun q h1 h2 => by rw [e1, hk q (Nat.lt_of_lt_of_le h1 hS.1) (fun h9 => h2 (Nat.le_trans (Nat.le_add_right _ _) h9.1))]; exact hS.2.1 q h1 h2, fun q hq => by
    rcases List.mem_append.mp hq with h | h
    · exact hS.2.2 q h
    · exact Nat.le_trans (Nat.le_add_right _ _) (hL q h).1⟩
  have h1' : va_P D mcl (mWs dA Sx (Rf R0x oFx sx) (mAd s.heap.size tS) nx sx) T'.heap := mWs_kept (by decide) (H := H) h1 (fun q hq => by
    rw [e1]
    refine hk q ?_ (fun h9 => by have := h9.1; have := hq.2; unfold nx at *; omega)
    have h68 := (h1 41 _ (mWs_at (by decide))).lt
    have e67 : mAd s.heap.size tS 41 = s.heap.size + 41 := mAd_own (n := 42) (by decide) (by decide)
    have := hq.2
    dsimp only at h68
    rw [e67] at h68
    unfold nx at *
    omega)
  obtain ⟨t2, a1, b1⟩ := k T'.heap ls (locs ++ L) h1' (by rw [e1]; exact hp) hl hS' T' rfl X'
  refine ⟨t2, sp t2 ?_, b1⟩
  have e9 : (some r).map (mV (s.heap.size + 42) tS) = some r := congrArg some hr
  rw [e9]
  exact a1
theorem Wl_eq (hc : lC p s m meth c b L xs D dA tS) {r : Int32} {off : Int} {tgt : Nat} (hd : decode code pc = .ok (.if_icmp .eq off, 3)) (ht : (pc : Int) + off = (tgt : Int)) (k : Wl p l e s m below meth c b D dA tS i tgt st sx sm) : Wl p l e s m below meth c b D dA tS i pc (.int r :: .int r :: st) sx sm := fun H ls locs h1 h2 hl hS => lv_icmp_eq hc.1 hc.2.1 hd ht (fun _ => k H ls locs h1 h2 hl hS) (fun h => absurd rfl h)
theorem Wl_eqL (hc : lC p s m meth c b L xs D dA tS) {r : Int64} {off : Int} {tgt : Nat} (hd0 : decode code pc = .ok (.lcmp, 1)) (hd : decode code (pc + 1) = .ok (.ifCond .eq off, 3)) (ht : ((pc + 1 : Nat) : Int) + off = (tgt : Int)) (k : Wl p l e s m below meth c b D dA tS i tgt st sx sm) : Wl p l e s m below meth c b D dA tS i pc (.long r :: .long r :: st) sx sm := fun H ls locs h1 h2 hl hS => W.lcmp hc.1 hc.2.1 hd0 (lv_if_eq hc.1 hc.2.1 hd ht (fun _ => k H ls locs h1 h2 hl hS) (fun h => absurd (by unfold lg_cmp; simp) h))
theorem lcase_0 (hc : lC p s m meth c b L xs D dA tS) (hv : ∀ n : Int, 0 ≤ n → n ≤ 5 → vp_in (i + Int32.ofInt n) L) (N : Nat) {r : Int32} {s1 t1 : mS} (hx : f_X_feed N (xs (ix (i + Int32.ofInt 1))) (xs (ix (i + Int32.ofInt 2))) (xs (ix (i + Int32.ofInt 3))) (xs (ix (i + Int32.ofInt 4))) (xs (ix (i + Int32.ofInt 5))) sx = some (r, s1)) (hm : f_M_feed N (xs (ix (i + Int32.ofInt 1))) (xs (ix (i + Int32.ofInt 2))) (xs (ix (i + Int32.ofInt 3))) (xs (ix (i + Int32.ofInt 4))) (xs (ix (i + Int32.ofInt 5))) sm = some (r, t1)) (k : Wl p l e s m below meth c b D dA tS i 1095 [] s1 t1) : Wl p l e s m below meth c b D dA tS i 200 [] sx sm :=
  Wl_ax hc ld_200 (Wl_el hc (hv 1 (by decide) (by decide)) ld_201 ld_202 ld_203 ld_204 ld_205 (Wl_el hc (hv 2 (by decide) (by decide)) ld_206 ld_207 ld_208 ld_209 ld_210 (Wl_el hc (hv 3 (by decide) (by decide)) ld_211 ld_212 ld_213 ld_214 ld_215 (Wl_el hc (hv 4 (by decide) (by decide)) ld_216 ld_217 ld_218 ld_219 ld_220 (Wl_el hc (hv 5 (by decide) (by decide)) ld_221 ld_222 ld_223 ld_224 ld_225 ((Wl_cx hc (vs := [.int (xs (ix (i + Int32.ofInt 1))), .int (xs (ix (i + Int32.ofInt 2))), .int (xs (ix (i + Int32.ofInt 3))), .int (xs (ix (i + Int32.ofInt 4))), .int (xs (ix (i + Int32.ofInt 5)))]) y_X_feed rfl (i9 := 495) (by decide +kernel) (m_X_feed N (xs (ix (i + Int32.ofInt 1))) (xs (ix (i + Int32.ofInt 2))) (xs (ix (i + Int32.ofInt 3))) (xs (ix (i + Int32.ofInt 4))) (xs (ix (i + Int32.ofInt 5))) hx) (by decide) rfl rfl rfl rfl (Nat.le_of_ble_eq_true rfl) rfl ld_226 (Wl_am hc ld_229 (Wl_el hc (hv 1 (by decide) (by decide)) ld_230 ld_231 ld_232 ld_233 ld_234 (Wl_el hc (hv 2 (by decide) (by decide)) ld_235 ld_236 ld_237 ld_238 ld_239 (Wl_el hc (hv 3 (by decide) (by decide)) ld_240 ld_241 ld_242 ld_243 ld_244 (Wl_el hc (hv 4 (by decide) (by decide)) ld_245 ld_246 ld_247 ld_248 ld_249 (Wl_el hc (hv 5 (by decide) (by decide)) ld_250 ld_251 ld_252 ld_253 ld_254 ((Wl_cm hc (vs := [.int (xs (ix (i + Int32.ofInt 1))), .int (xs (ix (i + Int32.ofInt 2))), .int (xs (ix (i + Int32.ofInt 3))), .int (xs (ix (i + Int32.ofInt 4))), .int (xs (ix (i + Int32.ofInt 5)))]) y_M_feed rfl (i9 := 1398) (by decide +kernel) (m_M_feed N (xs (ix (i + Int32.ofInt 1))) (xs (ix (i + Int32.ofInt 2))) (xs (ix (i + Int32.ofInt 3))) (xs (ix (i + Int32.ofInt 4))) (xs (ix (i + Int32.ofInt 5))) hm) (by decide) rfl rfl rfl rfl (Nat.le_of_ble_eq_true rfl) rfl ld_255 (Wl_eq hc ld_258 (by decide) k))))))))))))))))
theorem lcase_1 (hc : lC p s m meth c b L xs D dA tS) (hv : ∀ n : Int, 0 ≤ n → n ≤ 5 → vp_in (i + Int32.ofInt n) L) (N : Nat) {r : Int32} {s1 t1 : mS} (hx : f_X_end N (xs (ix (i + Int32.ofInt 1))) sx = some (r, s1)) (hm : f_M_end N (xs (ix (i + Int32.ofInt 1))) sm = some (r, t1)) (k : Wl p l e s m below meth c b D dA tS i 1095 [] s1 t1) : Wl p l e s m below meth c b D dA tS i 263 [] sx sm :=
  Wl_ax hc ld_263 (Wl_el hc (hv 1 (by decide) (by decide)) ld_264 ld_265 ld_266 ld_267 ld_268 ((Wl_cx hc (vs := [.int (xs (ix (i + Int32.ofInt 1)))]) y_X_end rfl (i9 := 507) (by decide +kernel) (m_X_end N (xs (ix (i + Int32.ofInt 1))) hx) (by decide) rfl rfl rfl rfl (Nat.le_of_ble_eq_true rfl) rfl ld_269 (Wl_am hc ld_272 (Wl_el hc (hv 1 (by decide) (by decide)) ld_273 ld_274 ld_275 ld_276 ld_277 ((Wl_cm hc (vs := [.int (xs (ix (i + Int32.ofInt 1)))]) y_M_end rfl (i9 := 1402) (by decide +kernel) (m_M_end N (xs (ix (i + Int32.ofInt 1))) hm) (by decide) rfl rfl rfl rfl (Nat.le_of_ble_eq_true rfl) rfl ld_278 (Wl_eq hc ld_281 (by decide) k))))))))
theorem lcase_2 (hc : lC p s m meth c b L xs D dA tS) (hv : ∀ n : Int, 0 ≤ n → n ≤ 5 → vp_in (i + Int32.ofInt n) L) (N : Nat) {r : Int32} {s1 t1 : mS} (hx : f_X_corridor N  sx = some (r, s1)) (hm : f_M_corridor N  sm = some (r, t1)) (k : Wl p l e s m below meth c b D dA tS i 1095 [] s1 t1) : Wl p l e s m below meth c b D dA tS i 286 [] sx sm :=
  Wl_ax hc ld_286 ((Wl_cx hc (vs := []) y_X_corridor rfl (i9 := 511) (by decide +kernel) (m_X_corridor N hx) (by decide) rfl rfl rfl rfl (Nat.le_of_ble_eq_true rfl) rfl ld_287 (Wl_am hc ld_290 ((Wl_cm hc (vs := []) y_M_corridor rfl (i9 := 1406) (by decide +kernel) (m_M_corridor N hm) (by decide) rfl rfl rfl rfl (Nat.le_of_ble_eq_true rfl) rfl ld_291 (Wl_eq hc ld_294 (by decide) k))))))
theorem lcase_3 (hc : lC p s m meth c b L xs D dA tS) (hv : ∀ n : Int, 0 ≤ n → n ≤ 5 → vp_in (i + Int32.ofInt n) L) (N : Nat) {r : Int32} {s1 t1 : mS} (hx : f_X_fault N (xs (ix (i + Int32.ofInt 1))) sx = some (r, s1)) (hm : f_M_fault N (xs (ix (i + Int32.ofInt 1))) sm = some (r, t1)) (k : Wl p l e s m below meth c b D dA tS i 1095 [] s1 t1) : Wl p l e s m below meth c b D dA tS i 299 [] sx sm :=
  Wl_ax hc ld_299 (Wl_el hc (hv 1 (by decide) (by decide)) ld_300 ld_301 ld_302 ld_303 ld_304 ((Wl_cx hc (vs := [.int (xs (ix (i + Int32.ofInt 1)))]) y_X_fault rfl (i9 := 673) (by decide +kernel) (m_X_fault N (xs (ix (i + Int32.ofInt 1))) hx) (by decide) rfl rfl rfl rfl (Nat.le_of_ble_eq_true rfl) rfl ld_305 (Wl_am hc ld_308 (Wl_el hc (hv 1 (by decide) (by decide)) ld_309 ld_310 ld_311 ld_312 ld_313 ((Wl_cm hc (vs := [.int (xs (ix (i + Int32.ofInt 1)))]) y_M_fault rfl (i9 := 1578) (by decide +kernel) (m_M_fault N (xs (ix (i + Int32.ofInt 1))) hm) (by decide) rfl rfl rfl rfl (Nat.le_of_ble_eq_true rfl) rfl ld_314 (Wl_eq hc ld_317 (by decide) k))))))))
theorem lcase_4 (hc : lC p s m meth c b L xs D dA tS) (hv : ∀ n : Int, 0 ≤ n → n ≤ 5 → vp_in (i + Int32.ofInt n) L) (N : Nat) {r : Int32} {s1 t1 : mS} (hx : f_X_has N (xs (ix (i + Int32.ofInt 1))) sx = some (r, s1)) (hm : f_M_has N (xs (ix (i + Int32.ofInt 1))) sm = some (r, t1)) (k : Wl p l e s m below meth c b D dA tS i 1095 [] s1 t1) : Wl p l e s m below meth c b D dA tS i 322 [] sx sm :=
  Wl_ax hc ld_322 (Wl_el hc (hv 1 (by decide) (by decide)) ld_323 ld_324 ld_325 ld_326 ld_327 ((Wl_cx hc (vs := [.int (xs (ix (i + Int32.ofInt 1)))]) y_X_has rfl (i9 := 677) (by decide +kernel) (m_X_has N (xs (ix (i + Int32.ofInt 1))) hx) (by decide) rfl rfl rfl rfl (Nat.le_of_ble_eq_true rfl) rfl ld_328 (Wl_am hc ld_331 (Wl_el hc (hv 1 (by decide) (by decide)) ld_332 ld_333 ld_334 ld_335 ld_336 ((Wl_cm hc (vs := [.int (xs (ix (i + Int32.ofInt 1)))]) y_M_has rfl (i9 := 1582) (by decide +kernel) (m_M_has N (xs (ix (i + Int32.ofInt 1))) hm) (by decide) rfl rfl rfl rfl (Nat.le_of_ble_eq_true rfl) rfl ld_337 (Wl_eq hc ld_340 (by decide) k))))))))
theorem lcase_5 (hc : lC p s m meth c b L xs D dA tS) (hv : ∀ n : Int, 0 ≤ n → n ≤ 5 → vp_in (i + Int32.ofInt n) L) (N : Nat) {r : Int32} {s1 t1 : mS} (hx : f_X_letter N (xs (ix (i + Int32.ofInt 1))) (xs (ix (i + Int32.ofInt 2))) sx = some (r, s1)) (hm : f_M_letter N (xs (ix (i + Int32.ofInt 1))) (xs (ix (i + Int32.ofInt 2))) sm = some (r, t1)) (k : Wl p l e s m below meth c b D dA tS i 1095 [] s1 t1) : Wl p l e s m below meth c b D dA tS i 345 [] sx sm :=
  Wl_ax hc ld_345 (Wl_el hc (hv 1 (by decide) (by decide)) ld_346 ld_347 ld_348 ld_349 ld_350 (Wl_el hc (hv 2 (by decide) (by decide)) ld_351 ld_352 ld_353 ld_354 ld_355 ((Wl_cx hc (vs := [.int (xs (ix (i + Int32.ofInt 1))), .int (xs (ix (i + Int32.ofInt 2)))]) y_X_letter rfl (i9 := 704) (by decide +kernel) (m_X_letter N (xs (ix (i + Int32.ofInt 1))) (xs (ix (i + Int32.ofInt 2))) hx) (by decide) rfl rfl rfl rfl (Nat.le_of_ble_eq_true rfl) rfl ld_356 (Wl_am hc ld_359 (Wl_el hc (hv 1 (by decide) (by decide)) ld_360 ld_361 ld_362 ld_363 ld_364 (Wl_el hc (hv 2 (by decide) (by decide)) ld_365 ld_366 ld_367 ld_368 ld_369 ((Wl_cm hc (vs := [.int (xs (ix (i + Int32.ofInt 1))), .int (xs (ix (i + Int32.ofInt 2)))]) y_M_letter rfl (i9 := 1621) (by decide +kernel) (m_M_letter N (xs (ix (i + Int32.ofInt 1))) (xs (ix (i + Int32.ofInt 2))) hm) (by decide) rfl rfl rfl rfl (Nat.le_of_ble_eq_true rfl) rfl ld_370 (Wl_eq hc ld_373 (by decide) k))))))))))
theorem lcase_6 (hc : lC p s m meth c b L xs D dA tS) (hv : ∀ n : Int, 0 ≤ n → n ≤ 5 → vp_in (i + Int32.ofInt n) L) (N : Nat) {r : Int32} {s1 t1 : mS} (hx : f_X_door N (xs (ix (i + Int32.ofInt 1))) (xs (ix (i + Int32.ofInt 2))) sx = some (r, s1)) (hm : f_M_door N (xs (ix (i + Int32.ofInt 1))) (xs (ix (i + Int32.ofInt 2))) sm = some (r, t1)) (k : Wl p l e s m below meth c b D dA tS i 1095 [] s1 t1) : Wl p l e s m below meth c b D dA tS i 378 [] sx sm :=
  Wl_ax hc ld_378 (Wl_el hc (hv 1 (by decide) (by decide)) ld_379 ld_380 ld_381 ld_382 ld_383 (Wl_el hc (hv 2 (by decide) (by decide)) ld_384 ld_385 ld_386 ld_387 ld_388 ((Wl_cx hc (vs := [.int (xs (ix (i + Int32.ofInt 1))), .int (xs (ix (i + Int32.ofInt 2)))]) y_X_door rfl (i9 := 716) (by decide +kernel) (m_X_door N (xs (ix (i + Int32.ofInt 1))) (xs (ix (i + Int32.ofInt 2))) hx) (by decide) rfl rfl rfl rfl (Nat.le_of_ble_eq_true rfl) rfl ld_389 (Wl_am hc ld_392 (Wl_el hc (hv 1 (by decide) (by decide)) ld_393 ld_394 ld_395 ld_396 ld_397 (Wl_el hc (hv 2 (by decide) (by decide)) ld_398 ld_399 ld_400 ld_401 ld_402 ((Wl_cm hc (vs := [.int (xs (ix (i + Int32.ofInt 1))), .int (xs (ix (i + Int32.ofInt 2)))]) y_M_door rfl (i9 := 1629) (by decide +kernel) (m_M_door N (xs (ix (i + Int32.ofInt 1))) (xs (ix (i + Int32.ofInt 2))) hm) (by decide) rfl rfl rfl rfl (Nat.le_of_ble_eq_true rfl) rfl ld_403 (Wl_eq hc ld_406 (by decide) k))))))))))
theorem lcase_7 (hc : lC p s m meth c b L xs D dA tS) (hv : ∀ n : Int, 0 ≤ n → n ≤ 5 → vp_in (i + Int32.ofInt n) L) (N : Nat) {r : Int32} {s1 t1 : mS} (hx : f_X_porter N (xs (ix (i + Int32.ofInt 1))) (xs (ix (i + Int32.ofInt 2))) sx = some (r, s1)) (hm : f_M_porter N (xs (ix (i + Int32.ofInt 1))) (xs (ix (i + Int32.ofInt 2))) sm = some (r, t1)) (k : Wl p l e s m below meth c b D dA tS i 1095 [] s1 t1) : Wl p l e s m below meth c b D dA tS i 411 [] sx sm :=
  Wl_ax hc ld_411 (Wl_el hc (hv 1 (by decide) (by decide)) ld_412 ld_413 ld_414 ld_415 ld_416 (Wl_el hc (hv 2 (by decide) (by decide)) ld_417 ld_418 ld_419 ld_420 ld_421 ((Wl_cx hc (vs := [.int (xs (ix (i + Int32.ofInt 1))), .int (xs (ix (i + Int32.ofInt 2)))]) y_X_porter rfl (i9 := 773) (by decide +kernel) (m_X_porter N (xs (ix (i + Int32.ofInt 1))) (xs (ix (i + Int32.ofInt 2))) hx) (by decide) rfl rfl rfl rfl (Nat.le_of_ble_eq_true rfl) rfl ld_422 (Wl_am hc ld_425 (Wl_el hc (hv 1 (by decide) (by decide)) ld_426 ld_427 ld_428 ld_429 ld_430 (Wl_el hc (hv 2 (by decide) (by decide)) ld_431 ld_432 ld_433 ld_434 ld_435 ((Wl_cm hc (vs := [.int (xs (ix (i + Int32.ofInt 1))), .int (xs (ix (i + Int32.ofInt 2)))]) y_M_porter rfl (i9 := 1677) (by decide +kernel) (m_M_porter N (xs (ix (i + Int32.ofInt 1))) (xs (ix (i + Int32.ofInt 2))) hm) (by decide) rfl rfl rfl rfl (Nat.le_of_ble_eq_true rfl) rfl ld_436 (Wl_eq hc ld_439 (by decide) k))))))))))
theorem lcase_8 (hc : lC p s m meth c b L xs D dA tS) (hv : ∀ n : Int, 0 ≤ n → n ≤ 5 → vp_in (i + Int32.ofInt n) L) (N : Nat) {r : Int32} {s1 t1 : mS} (hx : f_X_order N (xs (ix (i + Int32.ofInt 1))) sx = some (r, s1)) (hm : f_M_order N (xs (ix (i + Int32.ofInt 1))) sm = some (r, t1)) (k : Wl p l e s m below meth c b D dA tS i 1095 [] s1 t1) : Wl p l e s m below meth c b D dA tS i 444 [] sx sm :=
  Wl_ax hc ld_444 (Wl_el hc (hv 1 (by decide) (by decide)) ld_445 ld_446 ld_447 ld_448 ld_449 ((Wl_cx hc (vs := [.int (xs (ix (i + Int32.ofInt 1)))]) y_X_order rfl (i9 := 787) (by decide +kernel) (m_X_order N (xs (ix (i + Int32.ofInt 1))) hx) (by decide) rfl rfl rfl rfl (Nat.le_of_ble_eq_true rfl) rfl ld_450 (Wl_am hc ld_453 (Wl_el hc (hv 1 (by decide) (by decide)) ld_454 ld_455 ld_456 ld_457 ld_458 ((Wl_cm hc (vs := [.int (xs (ix (i + Int32.ofInt 1)))]) y_M_order rfl (i9 := 1689) (by decide +kernel) (m_M_order N (xs (ix (i + Int32.ofInt 1))) hm) (by decide) rfl rfl rfl rfl (Nat.le_of_ble_eq_true rfl) rfl ld_459 (Wl_eq hc ld_462 (by decide) k))))))))
theorem lcase_9 (hc : lC p s m meth c b L xs D dA tS) (hv : ∀ n : Int, 0 ≤ n → n ≤ 5 → vp_in (i + Int32.ofInt n) L) (N : Nat) {r : Int32} {s1 t1 : mS} (hx : f_X_kept N (xs (ix (i + Int32.ofInt 1))) (xs (ix (i + Int32.ofInt 2))) sx = some (r, s1)) (hm : f_M_kept N (xs (ix (i + Int32.ofInt 1))) (xs (ix (i + Int32.ofInt 2))) sm = some (r, t1)) (k : Wl p l e s m below meth c b D dA tS i 1095 [] s1 t1) : Wl p l e s m below meth c b D dA tS i 467 [] sx sm :=
  Wl_ax hc ld_467 (Wl_el hc (hv 1 (by decide) (by decide)) ld_468 ld_469 ld_470 ld_471 ld_472 (Wl_el hc (hv 2 (by decide) (by decide)) ld_473 ld_474 ld_475 ld_476 ld_477 ((Wl_cx hc (vs := [.int (xs (ix (i + Int32.ofInt 1))), .int (xs (ix (i + Int32.ofInt 2)))]) y_X_kept rfl (i9 := 791) (by decide +kernel) (m_X_kept N (xs (ix (i + Int32.ofInt 1))) (xs (ix (i + Int32.ofInt 2))) hx) (by decide) rfl rfl rfl rfl (Nat.le_of_ble_eq_true rfl) rfl ld_478 (Wl_am hc ld_481 (Wl_el hc (hv 1 (by decide) (by decide)) ld_482 ld_483 ld_484 ld_485 ld_486 (Wl_el hc (hv 2 (by decide) (by decide)) ld_487 ld_488 ld_489 ld_490 ld_491 ((Wl_cm hc (vs := [.int (xs (ix (i + Int32.ofInt 1))), .int (xs (ix (i + Int32.ofInt 2)))]) y_M_kept rfl (i9 := 1693) (by decide +kernel) (m_M_kept N (xs (ix (i + Int32.ofInt 1))) (xs (ix (i + Int32.ofInt 2))) hm) (by decide) rfl rfl rfl rfl (Nat.le_of_ble_eq_true rfl) rfl ld_492 (Wl_eq hc ld_495 (by decide) k))))))))))
theorem lcase_10 (hc : lC p s m meth c b L xs D dA tS) (hv : ∀ n : Int, 0 ≤ n → n ≤ 5 → vp_in (i + Int32.ofInt n) L) (N : Nat) {r : Int32} {s1 t1 : mS} (hx : f_X_later N (xs (ix (i + Int32.ofInt 1))) sx = some (r, s1)) (hm : f_M_later N (xs (ix (i + Int32.ofInt 1))) sm = some (r, t1)) (k : Wl p l e s m below meth c b D dA tS i 1095 [] s1 t1) : Wl p l e s m below meth c b D dA tS i 500 [] sx sm :=
  Wl_ax hc ld_500 (Wl_el hc (hv 1 (by decide) (by decide)) ld_501 ld_502 ld_503 ld_504 ld_505 ((Wl_cx hc (vs := [.int (xs (ix (i + Int32.ofInt 1)))]) y_X_later rfl (i9 := 800) (by decide +kernel) (m_X_later N (xs (ix (i + Int32.ofInt 1))) hx) (by decide) rfl rfl rfl rfl (Nat.le_of_ble_eq_true rfl) rfl ld_506 (Wl_am hc ld_509 (Wl_el hc (hv 1 (by decide) (by decide)) ld_510 ld_511 ld_512 ld_513 ld_514 ((Wl_cm hc (vs := [.int (xs (ix (i + Int32.ofInt 1)))]) y_M_later rfl (i9 := 1698) (by decide +kernel) (m_M_later N (xs (ix (i + Int32.ofInt 1))) hm) (by decide) rfl rfl rfl rfl (Nat.le_of_ble_eq_true rfl) rfl ld_515 (Wl_eq hc ld_518 (by decide) k))))))))
theorem lcase_11 (hc : lC p s m meth c b L xs D dA tS) (hv : ∀ n : Int, 0 ≤ n → n ≤ 5 → vp_in (i + Int32.ofInt n) L) (N : Nat) {r : Int32} {s1 t1 : mS} (hx : f_X_cold N (xs (ix (i + Int32.ofInt 1))) sx = some (r, s1)) (hm : f_M_cold N (xs (ix (i + Int32.ofInt 1))) sm = some (r, t1)) (k : Wl p l e s m below meth c b D dA tS i 1095 [] s1 t1) : Wl p l e s m below meth c b D dA tS i 523 [] sx sm :=
  Wl_ax hc ld_523 (Wl_el hc (hv 1 (by decide) (by decide)) ld_524 ld_525 ld_526 ld_527 ld_528 ((Wl_cx hc (vs := [.int (xs (ix (i + Int32.ofInt 1)))]) y_X_cold rfl (i9 := 842) (by decide +kernel) (m_X_cold N (xs (ix (i + Int32.ofInt 1))) hx) (by decide) rfl rfl rfl rfl (Nat.le_of_ble_eq_true rfl) rfl ld_529 (Wl_am hc ld_532 (Wl_el hc (hv 1 (by decide) (by decide)) ld_533 ld_534 ld_535 ld_536 ld_537 ((Wl_cm hc (vs := [.int (xs (ix (i + Int32.ofInt 1)))]) y_M_cold rfl (i9 := 1747) (by decide +kernel) (m_M_cold N (xs (ix (i + Int32.ofInt 1))) hm) (by decide) rfl rfl rfl rfl (Nat.le_of_ble_eq_true rfl) rfl ld_538 (Wl_eq hc ld_541 (by decide) k))))))))
theorem lcase_12 (hc : lC p s m meth c b L xs D dA tS) (hv : ∀ n : Int, 0 ≤ n → n ≤ 5 → vp_in (i + Int32.ofInt n) L) (N : Nat) {r : Int32} {s1 t1 : mS} (hx : f_X_back N  sx = some (r, s1)) (hm : f_M_back N  sm = some (r, t1)) (k : Wl p l e s m below meth c b D dA tS i 1095 [] s1 t1) : Wl p l e s m below meth c b D dA tS i 546 [] sx sm :=
  Wl_ax hc ld_546 ((Wl_cx hc (vs := []) y_X_back rfl (i9 := 846) (by decide +kernel) (m_X_back N hx) (by decide) rfl rfl rfl rfl (Nat.le_of_ble_eq_true rfl) rfl ld_547 (Wl_am hc ld_550 ((Wl_cm hc (vs := []) y_M_back rfl (i9 := 1751) (by decide +kernel) (m_M_back N hm) (by decide) rfl rfl rfl rfl (Nat.le_of_ble_eq_true rfl) rfl ld_551 (Wl_eq hc ld_554 (by decide) k))))))
theorem lcase_13 (hc : lC p s m meth c b L xs D dA tS) (hv : ∀ n : Int, 0 ≤ n → n ≤ 5 → vp_in (i + Int32.ofInt n) L) (N : Nat) {r : Int32} {s1 t1 : mS} (hx : f_X_row N  sx = some (r, s1)) (hm : f_M_row N  sm = some (r, t1)) (k : Wl p l e s m below meth c b D dA tS i 1095 [] s1 t1) : Wl p l e s m below meth c b D dA tS i 559 [] sx sm :=
  Wl_ax hc ld_559 ((Wl_cx hc (vs := []) y_X_row rfl (i9 := 850) (by decide +kernel) (m_X_row N hx) (by decide) rfl rfl rfl rfl (Nat.le_of_ble_eq_true rfl) rfl ld_560 (Wl_am hc ld_563 ((Wl_cm hc (vs := []) y_M_row rfl (i9 := 1755) (by decide +kernel) (m_M_row N hm) (by decide) rfl rfl rfl rfl (Nat.le_of_ble_eq_true rfl) rfl ld_564 (Wl_eq hc ld_567 (by decide) k))))))
theorem lcase_14 (hc : lC p s m meth c b L xs D dA tS) (hv : ∀ n : Int, 0 ≤ n → n ≤ 5 → vp_in (i + Int32.ofInt n) L) (N : Nat) {r : Int32} {s1 t1 : mS} (hx : f_X_changes N (xs (ix (i + Int32.ofInt 1))) sx = some (r, s1)) (hm : f_M_changes N (xs (ix (i + Int32.ofInt 1))) sm = some (r, t1)) (k : Wl p l e s m below meth c b D dA tS i 1095 [] s1 t1) : Wl p l e s m below meth c b D dA tS i 572 [] sx sm :=
  Wl_ax hc ld_572 (Wl_el hc (hv 1 (by decide) (by decide)) ld_573 ld_574 ld_575 ld_576 ld_577 ((Wl_cx hc (vs := [.int (xs (ix (i + Int32.ofInt 1)))]) y_X_changes rfl (i9 := 855) (by decide +kernel) (m_X_changes N (xs (ix (i + Int32.ofInt 1))) hx) (by decide) rfl rfl rfl rfl (Nat.le_of_ble_eq_true rfl) rfl ld_578 (Wl_am hc ld_581 (Wl_el hc (hv 1 (by decide) (by decide)) ld_582 ld_583 ld_584 ld_585 ld_586 ((Wl_cm hc (vs := [.int (xs (ix (i + Int32.ofInt 1)))]) y_M_changes rfl (i9 := 1759) (by decide +kernel) (m_M_changes N (xs (ix (i + Int32.ofInt 1))) hm) (by decide) rfl rfl rfl rfl (Nat.le_of_ble_eq_true rfl) rfl ld_587 (Wl_eq hc ld_590 (by decide) k))))))))
theorem lcase_15 (hc : lC p s m meth c b L xs D dA tS) (hv : ∀ n : Int, 0 ≤ n → n ≤ 5 → vp_in (i + Int32.ofInt n) L) (N : Nat) {r : Int32} {s1 t1 : mS} (hx : f_X_sends N (xs (ix (i + Int32.ofInt 1))) (xs (ix (i + Int32.ofInt 2))) sx = some (r, s1)) (hm : f_M_sends N (xs (ix (i + Int32.ofInt 1))) (xs (ix (i + Int32.ofInt 2))) sm = some (r, t1)) (k : Wl p l e s m below meth c b D dA tS i 1095 [] s1 t1) : Wl p l e s m below meth c b D dA tS i 595 [] sx sm :=
  Wl_ax hc ld_595 (Wl_el hc (hv 1 (by decide) (by decide)) ld_596 ld_597 ld_598 ld_599 ld_600 (Wl_el hc (hv 2 (by decide) (by decide)) ld_601 ld_602 ld_603 ld_604 ld_605 ((Wl_cx hc (vs := [.int (xs (ix (i + Int32.ofInt 1))), .int (xs (ix (i + Int32.ofInt 2)))]) y_X_sends rfl (i9 := 872) (by decide +kernel) (m_X_sends N (xs (ix (i + Int32.ofInt 1))) (xs (ix (i + Int32.ofInt 2))) hx) (by decide) rfl rfl rfl rfl (Nat.le_of_ble_eq_true rfl) rfl ld_606 (Wl_am hc ld_609 (Wl_el hc (hv 1 (by decide) (by decide)) ld_610 ld_611 ld_612 ld_613 ld_614 (Wl_el hc (hv 2 (by decide) (by decide)) ld_615 ld_616 ld_617 ld_618 ld_619 ((Wl_cm hc (vs := [.int (xs (ix (i + Int32.ofInt 1))), .int (xs (ix (i + Int32.ofInt 2)))]) y_M_sends rfl (i9 := 1771) (by decide +kernel) (m_M_sends N (xs (ix (i + Int32.ofInt 1))) (xs (ix (i + Int32.ofInt 2))) hm) (by decide) rfl rfl rfl rfl (Nat.le_of_ble_eq_true rfl) rfl ld_620 (Wl_eq hc ld_623 (by decide) k))))))))))
theorem lcase_16 (hc : lC p s m meth c b L xs D dA tS) (hv : ∀ n : Int, 0 ≤ n → n ≤ 5 → vp_in (i + Int32.ofInt n) L) (N : Nat) {r : Int32} {s1 t1 : mS} (hx : f_X_alike N  sx = some (r, s1)) (hm : f_M_alike N  sm = some (r, t1)) (k : Wl p l e s m below meth c b D dA tS i 1095 [] s1 t1) : Wl p l e s m below meth c b D dA tS i 628 [] sx sm :=
  Wl_ax hc ld_628 ((Wl_cx hc (vs := []) y_X_alike rfl (i9 := 889) (by decide +kernel) (m_X_alike N hx) (by decide) rfl rfl rfl rfl (Nat.le_of_ble_eq_true rfl) rfl ld_629 (Wl_am hc ld_632 ((Wl_cm hc (vs := []) y_M_alike rfl (i9 := 1783) (by decide +kernel) (m_M_alike N hm) (by decide) rfl rfl rfl rfl (Nat.le_of_ble_eq_true rfl) rfl ld_633 (Wl_eq hc ld_636 (by decide) k))))))
theorem lcase_17 (hc : lC p s m meth c b L xs D dA tS) (hv : ∀ n : Int, 0 ≤ n → n ≤ 5 → vp_in (i + Int32.ofInt n) L) (N : Nat) {r : Int32} {s1 t1 : mS} (hx : f_X_alone N (xs (ix (i + Int32.ofInt 1))) sx = some (r, s1)) (hm : f_M_alone N (xs (ix (i + Int32.ofInt 1))) sm = some (r, t1)) (k : Wl p l e s m below meth c b D dA tS i 1095 [] s1 t1) : Wl p l e s m below meth c b D dA tS i 641 [] sx sm :=
  Wl_ax hc ld_641 (Wl_el hc (hv 1 (by decide) (by decide)) ld_642 ld_643 ld_644 ld_645 ld_646 ((Wl_cx hc (vs := [.int (xs (ix (i + Int32.ofInt 1)))]) y_X_alone rfl (i9 := 897) (by decide +kernel) (m_X_alone N (xs (ix (i + Int32.ofInt 1))) hx) (by decide) rfl rfl rfl rfl (Nat.le_of_ble_eq_true rfl) rfl ld_647 (Wl_am hc ld_650 (Wl_el hc (hv 1 (by decide) (by decide)) ld_651 ld_652 ld_653 ld_654 ld_655 ((Wl_cm hc (vs := [.int (xs (ix (i + Int32.ofInt 1)))]) y_M_alone rfl (i9 := 1787) (by decide +kernel) (m_M_alone N (xs (ix (i + Int32.ofInt 1))) hm) (by decide) rfl rfl rfl rfl (Nat.le_of_ble_eq_true rfl) rfl ld_656 (Wl_eq hc ld_659 (by decide) k))))))))
theorem lcase_18 (hc : lC p s m meth c b L xs D dA tS) (hv : ∀ n : Int, 0 ≤ n → n ≤ 5 → vp_in (i + Int32.ofInt n) L) (N : Nat) {r : Int32} {s1 t1 : mS} (hx : f_X_widest N (xs (ix (i + Int32.ofInt 1))) sx = some (r, s1)) (hm : f_M_widest N (xs (ix (i + Int32.ofInt 1))) sm = some (r, t1)) (k : Wl p l e s m below meth c b D dA tS i 1095 [] s1 t1) : Wl p l e s m below meth c b D dA tS i 664 [] sx sm :=
  Wl_ax hc ld_664 (Wl_el hc (hv 1 (by decide) (by decide)) ld_665 ld_666 ld_667 ld_668 ld_669 ((Wl_cx hc (vs := [.int (xs (ix (i + Int32.ofInt 1)))]) y_X_widest rfl (i9 := 901) (by decide +kernel) (m_X_widest N (xs (ix (i + Int32.ofInt 1))) hx) (by decide) rfl rfl rfl rfl (Nat.le_of_ble_eq_true rfl) rfl ld_670 (Wl_am hc ld_673 (Wl_el hc (hv 1 (by decide) (by decide)) ld_674 ld_675 ld_676 ld_677 ld_678 ((Wl_cm hc (vs := [.int (xs (ix (i + Int32.ofInt 1)))]) y_M_widest rfl (i9 := 1791) (by decide +kernel) (m_M_widest N (xs (ix (i + Int32.ofInt 1))) hm) (by decide) rfl rfl rfl rfl (Nat.le_of_ble_eq_true rfl) rfl ld_679 (Wl_eq hc ld_682 (by decide) k))))))))
theorem lcase_19 (hc : lC p s m meth c b L xs D dA tS) (hv : ∀ n : Int, 0 ≤ n → n ≤ 5 → vp_in (i + Int32.ofInt n) L) (N : Nat) {r : Int32} {s1 t1 : mS} (hx : f_X_rest N (xs (ix (i + Int32.ofInt 1))) (xs (ix (i + Int32.ofInt 2))) sx = some (r, s1)) (hm : f_M_rest N (xs (ix (i + Int32.ofInt 1))) (xs (ix (i + Int32.ofInt 2))) sm = some (r, t1)) (k : Wl p l e s m below meth c b D dA tS i 1095 [] s1 t1) : Wl p l e s m below meth c b D dA tS i 687 [] sx sm :=
  Wl_ax hc ld_687 (Wl_el hc (hv 1 (by decide) (by decide)) ld_688 ld_689 ld_690 ld_691 ld_692 (Wl_el hc (hv 2 (by decide) (by decide)) ld_693 ld_694 ld_695 ld_696 ld_697 ((Wl_cx hc (vs := [.int (xs (ix (i + Int32.ofInt 1))), .int (xs (ix (i + Int32.ofInt 2)))]) y_X_rest rfl (i9 := 914) (by decide +kernel) (m_X_rest N (xs (ix (i + Int32.ofInt 1))) (xs (ix (i + Int32.ofInt 2))) hx) (by decide) rfl rfl rfl rfl (Nat.le_of_ble_eq_true rfl) rfl ld_698 (Wl_am hc ld_701 (Wl_el hc (hv 1 (by decide) (by decide)) ld_702 ld_703 ld_704 ld_705 ld_706 (Wl_el hc (hv 2 (by decide) (by decide)) ld_707 ld_708 ld_709 ld_710 ld_711 ((Wl_cm hc (vs := [.int (xs (ix (i + Int32.ofInt 1))), .int (xs (ix (i + Int32.ofInt 2)))]) y_M_rest rfl (i9 := 1795) (by decide +kernel) (m_M_rest N (xs (ix (i + Int32.ofInt 1))) (xs (ix (i + Int32.ofInt 2))) hm) (by decide) rfl rfl rfl rfl (Nat.le_of_ble_eq_true rfl) rfl ld_712 (Wl_eq hc ld_715 (by decide) k))))))))))
theorem lcase_20 (hc : lC p s m meth c b L xs D dA tS) (hv : ∀ n : Int, 0 ≤ n → n ≤ 5 → vp_in (i + Int32.ofInt n) L) (N : Nat) {r : Int32} {s1 t1 : mS} (hx : f_X_odds N (xs (ix (i + Int32.ofInt 1))) sx = some (r, s1)) (hm : f_M_odds N (xs (ix (i + Int32.ofInt 1))) sm = some (r, t1)) (k : Wl p l e s m below meth c b D dA tS i 1095 [] s1 t1) : Wl p l e s m below meth c b D dA tS i 720 [] sx sm :=
  Wl_ax hc ld_720 (Wl_el hc (hv 1 (by decide) (by decide)) ld_721 ld_722 ld_723 ld_724 ld_725 ((Wl_cx hc (vs := [.int (xs (ix (i + Int32.ofInt 1)))]) y_X_odds rfl (i9 := 928) (by decide +kernel) (m_X_odds N (xs (ix (i + Int32.ofInt 1))) hx) (by decide) rfl rfl rfl rfl (Nat.le_of_ble_eq_true rfl) rfl ld_726 (Wl_am hc ld_729 (Wl_el hc (hv 1 (by decide) (by decide)) ld_730 ld_731 ld_732 ld_733 ld_734 ((Wl_cm hc (vs := [.int (xs (ix (i + Int32.ofInt 1)))]) y_M_odds rfl (i9 := 1799) (by decide +kernel) (m_M_odds N (xs (ix (i + Int32.ofInt 1))) hm) (by decide) rfl rfl rfl rfl (Nat.le_of_ble_eq_true rfl) rfl ld_735 (Wl_eq hc ld_738 (by decide) k))))))))
theorem lcase_21 (hc : lC p s m meth c b L xs D dA tS) (hv : ∀ n : Int, 0 ≤ n → n ≤ 5 → vp_in (i + Int32.ofInt n) L) (N : Nat) {r : Int32} {s1 t1 : mS} (hx : f_X_see N  sx = some (r, s1)) (hm : f_M_see N  sm = some (r, t1)) (k : Wl p l e s m below meth c b D dA tS i 1095 [] s1 t1) : Wl p l e s m below meth c b D dA tS i 743 [] sx sm :=
  Wl_ax hc ld_743 ((Wl_cx hc (vs := []) y_X_see rfl (i9 := 936) (by decide +kernel) (m_X_see N hx) (by decide) rfl rfl rfl rfl (Nat.le_of_ble_eq_true rfl) rfl ld_744 (Wl_am hc ld_747 ((Wl_cm hc (vs := []) y_M_see rfl (i9 := 1803) (by decide +kernel) (m_M_see N hm) (by decide) rfl rfl rfl rfl (Nat.le_of_ble_eq_true rfl) rfl ld_748 (Wl_eq hc ld_751 (by decide) k))))))
theorem lcase_22 (hc : lC p s m meth c b L xs D dA tS) (hv : ∀ n : Int, 0 ≤ n → n ≤ 5 → vp_in (i + Int32.ofInt n) L) (N : Nat) {r : Int32} {s1 t1 : mS} (hx : f_X_fits N (xs (ix (i + Int32.ofInt 1))) sx = some (r, s1)) (hm : f_M_fits N (xs (ix (i + Int32.ofInt 1))) sm = some (r, t1)) (k : Wl p l e s m below meth c b D dA tS i 1095 [] s1 t1) : Wl p l e s m below meth c b D dA tS i 756 [] sx sm :=
  Wl_ax hc ld_756 (Wl_el hc (hv 1 (by decide) (by decide)) ld_757 ld_758 ld_759 ld_760 ld_761 ((Wl_cx hc (vs := [.int (xs (ix (i + Int32.ofInt 1)))]) y_X_fits rfl (i9 := 948) (by decide +kernel) (m_X_fits N (xs (ix (i + Int32.ofInt 1))) hx) (by decide) rfl rfl rfl rfl (Nat.le_of_ble_eq_true rfl) rfl ld_762 (Wl_am hc ld_765 (Wl_el hc (hv 1 (by decide) (by decide)) ld_766 ld_767 ld_768 ld_769 ld_770 ((Wl_cm hc (vs := [.int (xs (ix (i + Int32.ofInt 1)))]) y_M_fits rfl (i9 := 1807) (by decide +kernel) (m_M_fits N (xs (ix (i + Int32.ofInt 1))) hm) (by decide) rfl rfl rfl rfl (Nat.le_of_ble_eq_true rfl) rfl ld_771 (Wl_eq hc ld_774 (by decide) k))))))))
theorem lcase_23 (hc : lC p s m meth c b L xs D dA tS) (hv : ∀ n : Int, 0 ≤ n → n ≤ 5 → vp_in (i + Int32.ofInt n) L) (N : Nat) {r : Int32} {s1 t1 : mS} (hx : f_X_walked N (xs (ix (i + Int32.ofInt 1))) sx = some (r, s1)) (hm : f_M_walked N (xs (ix (i + Int32.ofInt 1))) sm = some (r, t1)) (k : Wl p l e s m below meth c b D dA tS i 1095 [] s1 t1) : Wl p l e s m below meth c b D dA tS i 779 [] sx sm :=
  Wl_ax hc ld_779 (Wl_el hc (hv 1 (by decide) (by decide)) ld_780 ld_781 ld_782 ld_783 ld_784 ((Wl_cx hc (vs := [.int (xs (ix (i + Int32.ofInt 1)))]) y_X_walked rfl (i9 := 952) (by decide +kernel) (m_X_walked N (xs (ix (i + Int32.ofInt 1))) hx) (by decide) rfl rfl rfl rfl (Nat.le_of_ble_eq_true rfl) rfl ld_785 (Wl_am hc ld_788 (Wl_el hc (hv 1 (by decide) (by decide)) ld_789 ld_790 ld_791 ld_792 ld_793 ((Wl_cm hc (vs := [.int (xs (ix (i + Int32.ofInt 1)))]) y_M_walked rfl (i9 := 1819) (by decide +kernel) (m_M_walked N (xs (ix (i + Int32.ofInt 1))) hm) (by decide) rfl rfl rfl rfl (Nat.le_of_ble_eq_true rfl) rfl ld_794 (Wl_eq hc ld_797 (by decide) k))))))))
theorem lcase_24 (hc : lC p s m meth c b L xs D dA tS) (hv : ∀ n : Int, 0 ≤ n → n ≤ 5 → vp_in (i + Int32.ofInt n) L) (N : Nat) {r : Int32} {s1 t1 : mS} (hx : f_X_tells N (xs (ix (i + Int32.ofInt 1))) sx = some (r, s1)) (hm : f_M_tells N (xs (ix (i + Int32.ofInt 1))) sm = some (r, t1)) (k : Wl p l e s m below meth c b D dA tS i 1095 [] s1 t1) : Wl p l e s m below meth c b D dA tS i 802 [] sx sm :=
  Wl_ax hc ld_802 (Wl_el hc (hv 1 (by decide) (by decide)) ld_803 ld_804 ld_805 ld_806 ld_807 ((Wl_cx hc (vs := [.int (xs (ix (i + Int32.ofInt 1)))]) y_X_tells rfl (i9 := 960) (by decide +kernel) (m_X_tells N (xs (ix (i + Int32.ofInt 1))) hx) (by decide) rfl rfl rfl rfl (Nat.le_of_ble_eq_true rfl) rfl ld_808 (Wl_am hc ld_811 (Wl_el hc (hv 1 (by decide) (by decide)) ld_812 ld_813 ld_814 ld_815 ld_816 ((Wl_cm hc (vs := [.int (xs (ix (i + Int32.ofInt 1)))]) y_M_tells rfl (i9 := 1823) (by decide +kernel) (m_M_tells N (xs (ix (i + Int32.ofInt 1))) hm) (by decide) rfl rfl rfl rfl (Nat.le_of_ble_eq_true rfl) rfl ld_817 (Wl_eq hc ld_820 (by decide) k))))))))
theorem lcase_25 (hc : lC p s m meth c b L xs D dA tS) (hv : ∀ n : Int, 0 ≤ n → n ≤ 5 → vp_in (i + Int32.ofInt n) L) (N : Nat) {r : Int32} {s1 t1 : mS} (hx : f_X_send N (xs (ix (i + Int32.ofInt 1))) sx = some (r, s1)) (hm : f_M_send N (xs (ix (i + Int32.ofInt 1))) sm = some (r, t1)) (k : Wl p l e s m below meth c b D dA tS i 1095 [] s1 t1) : Wl p l e s m below meth c b D dA tS i 825 [] sx sm :=
  Wl_ax hc ld_825 (Wl_el hc (hv 1 (by decide) (by decide)) ld_826 ld_827 ld_828 ld_829 ld_830 ((Wl_cx hc (vs := [.int (xs (ix (i + Int32.ofInt 1)))]) y_X_send rfl (i9 := 974) (by decide +kernel) (m_X_send N (xs (ix (i + Int32.ofInt 1))) hx) (by decide) rfl rfl rfl rfl (Nat.le_of_ble_eq_true rfl) rfl ld_831 (Wl_am hc ld_834 (Wl_el hc (hv 1 (by decide) (by decide)) ld_835 ld_836 ld_837 ld_838 ld_839 ((Wl_cm hc (vs := [.int (xs (ix (i + Int32.ofInt 1)))]) y_M_send rfl (i9 := 1835) (by decide +kernel) (m_M_send N (xs (ix (i + Int32.ofInt 1))) hm) (by decide) rfl rfl rfl rfl (Nat.le_of_ble_eq_true rfl) rfl ld_840 (Wl_eq hc ld_843 (by decide) k))))))))
theorem lcase_26 (hc : lC p s m meth c b L xs D dA tS) (hv : ∀ n : Int, 0 ≤ n → n ≤ 5 → vp_in (i + Int32.ofInt n) L) (N : Nat) {r : Int32} {s1 t1 : mS} (hx : f_X_turn N (xs (ix (i + Int32.ofInt 1))) sx = some (r, s1)) (hm : f_M_turn N (xs (ix (i + Int32.ofInt 1))) sm = some (r, t1)) (k : Wl p l e s m below meth c b D dA tS i 1095 [] s1 t1) : Wl p l e s m below meth c b D dA tS i 848 [] sx sm :=
  Wl_ax hc ld_848 (Wl_el hc (hv 1 (by decide) (by decide)) ld_849 ld_850 ld_851 ld_852 ld_853 ((Wl_cx hc (vs := [.int (xs (ix (i + Int32.ofInt 1)))]) y_X_turn rfl (i9 := 985) (by decide +kernel) (m_X_turn N (xs (ix (i + Int32.ofInt 1))) hx) (by decide) rfl rfl rfl rfl (Nat.le_of_ble_eq_true rfl) rfl ld_854 (Wl_am hc ld_857 (Wl_el hc (hv 1 (by decide) (by decide)) ld_858 ld_859 ld_860 ld_861 ld_862 ((Wl_cm hc (vs := [.int (xs (ix (i + Int32.ofInt 1)))]) y_M_turn rfl (i9 := 1843) (by decide +kernel) (m_M_turn N (xs (ix (i + Int32.ofInt 1))) hm) (by decide) rfl rfl rfl rfl (Nat.le_of_ble_eq_true rfl) rfl ld_863 (Wl_eq hc ld_866 (by decide) k))))))))
theorem lcase_27 (hc : lC p s m meth c b L xs D dA tS) (hv : ∀ n : Int, 0 ≤ n → n ≤ 5 → vp_in (i + Int32.ofInt n) L) (N : Nat) {r : Int32} {s1 t1 : mS} (hx : f_X_oil N (xs (ix (i + Int32.ofInt 1))) sx = some (r, s1)) (hm : f_M_oil N (xs (ix (i + Int32.ofInt 1))) sm = some (r, t1)) (k : Wl p l e s m below meth c b D dA tS i 1095 [] s1 t1) : Wl p l e s m below meth c b D dA tS i 871 [] sx sm :=
  Wl_ax hc ld_871 (Wl_el hc (hv 1 (by decide) (by decide)) ld_872 ld_873 ld_874 ld_875 ld_876 ((Wl_cx hc (vs := [.int (xs (ix (i + Int32.ofInt 1)))]) y_X_oil rfl (i9 := 990) (by decide +kernel) (m_X_oil N (xs (ix (i + Int32.ofInt 1))) hx) (by decide) rfl rfl rfl rfl (Nat.le_of_ble_eq_true rfl) rfl ld_877 (Wl_am hc ld_880 (Wl_el hc (hv 1 (by decide) (by decide)) ld_881 ld_882 ld_883 ld_884 ld_885 ((Wl_cm hc (vs := [.int (xs (ix (i + Int32.ofInt 1)))]) y_M_oil rfl (i9 := 1851) (by decide +kernel) (m_M_oil N (xs (ix (i + Int32.ofInt 1))) hm) (by decide) rfl rfl rfl rfl (Nat.le_of_ble_eq_true rfl) rfl ld_886 (Wl_eq hc ld_889 (by decide) k))))))))
theorem lcase_28 (hc : lC p s m meth c b L xs D dA tS) (hv : ∀ n : Int, 0 ≤ n → n ≤ 5 → vp_in (i + Int32.ofInt n) L) (N : Nat) {r : Int32} {s1 t1 : mS} (hx : f_X_paint N (xs (ix (i + Int32.ofInt 1))) (xs (ix (i + Int32.ofInt 2))) sx = some (r, s1)) (hm : f_M_paint N (xs (ix (i + Int32.ofInt 1))) (xs (ix (i + Int32.ofInt 2))) sm = some (r, t1)) (k : Wl p l e s m below meth c b D dA tS i 1095 [] s1 t1) : Wl p l e s m below meth c b D dA tS i 894 [] sx sm :=
  Wl_ax hc ld_894 (Wl_el hc (hv 1 (by decide) (by decide)) ld_895 ld_896 ld_897 ld_898 ld_899 (Wl_el hc (hv 2 (by decide) (by decide)) ld_900 ld_901 ld_902 ld_903 ld_904 ((Wl_cx hc (vs := [.int (xs (ix (i + Int32.ofInt 1))), .int (xs (ix (i + Int32.ofInt 2)))]) y_X_paint rfl (i9 := 994) (by decide +kernel) (m_X_paint N (xs (ix (i + Int32.ofInt 1))) (xs (ix (i + Int32.ofInt 2))) hx) (by decide) rfl rfl rfl rfl (Nat.le_of_ble_eq_true rfl) rfl ld_905 (Wl_am hc ld_908 (Wl_el hc (hv 1 (by decide) (by decide)) ld_909 ld_910 ld_911 ld_912 ld_913 (Wl_el hc (hv 2 (by decide) (by decide)) ld_914 ld_915 ld_916 ld_917 ld_918 ((Wl_cm hc (vs := [.int (xs (ix (i + Int32.ofInt 1))), .int (xs (ix (i + Int32.ofInt 2)))]) y_M_paint rfl (i9 := 1855) (by decide +kernel) (m_M_paint N (xs (ix (i + Int32.ofInt 1))) (xs (ix (i + Int32.ofInt 2))) hm) (by decide) rfl rfl rfl rfl (Nat.le_of_ble_eq_true rfl) rfl ld_919 (Wl_eq hc ld_922 (by decide) k))))))))))
theorem lcase_29 (hc : lC p s m meth c b L xs D dA tS) (hv : ∀ n : Int, 0 ≤ n → n ≤ 5 → vp_in (i + Int32.ofInt n) L) (N : Nat) {r : Int32} {s1 t1 : mS} (hx : f_X_nights N (xs (ix (i + Int32.ofInt 1))) sx = some (r, s1)) (hm : f_M_nights N (xs (ix (i + Int32.ofInt 1))) sm = some (r, t1)) (k : Wl p l e s m below meth c b D dA tS i 1095 [] s1 t1) : Wl p l e s m below meth c b D dA tS i 927 [] sx sm :=
  Wl_ax hc ld_927 (Wl_el hc (hv 1 (by decide) (by decide)) ld_928 ld_929 ld_930 ld_931 ld_932 ((Wl_cx hc (vs := [.int (xs (ix (i + Int32.ofInt 1)))]) y_X_nights rfl (i9 := 998) (by decide +kernel) (m_X_nights N (xs (ix (i + Int32.ofInt 1))) hx) (by decide) rfl rfl rfl rfl (Nat.le_of_ble_eq_true rfl) rfl ld_933 (Wl_am hc ld_936 (Wl_el hc (hv 1 (by decide) (by decide)) ld_937 ld_938 ld_939 ld_940 ld_941 ((Wl_cm hc (vs := [.int (xs (ix (i + Int32.ofInt 1)))]) y_M_nights rfl (i9 := 1860) (by decide +kernel) (m_M_nights N (xs (ix (i + Int32.ofInt 1))) hm) (by decide) rfl rfl rfl rfl (Nat.le_of_ble_eq_true rfl) rfl ld_942 (Wl_eq hc ld_945 (by decide) k))))))))
theorem lcase_30 (hc : lC p s m meth c b L xs D dA tS) (hv : ∀ n : Int, 0 ≤ n → n ≤ 5 → vp_in (i + Int32.ofInt n) L) (N : Nat) {r : Int32} {s1 t1 : mS} (hx : f_X_chance N (xs (ix (i + Int32.ofInt 1))) sx = some (r, s1)) (hm : f_M_chance N (xs (ix (i + Int32.ofInt 1))) sm = some (r, t1)) (k : Wl p l e s m below meth c b D dA tS i 1095 [] s1 t1) : Wl p l e s m below meth c b D dA tS i 950 [] sx sm :=
  Wl_ax hc ld_950 (Wl_el hc (hv 1 (by decide) (by decide)) ld_951 ld_952 ld_953 ld_954 ld_955 ((Wl_cx hc (vs := [.int (xs (ix (i + Int32.ofInt 1)))]) y_X_chance rfl (i9 := 1002) (by decide +kernel) (m_X_chance N (xs (ix (i + Int32.ofInt 1))) hx) (by decide) rfl rfl rfl rfl (Nat.le_of_ble_eq_true rfl) rfl ld_956 (Wl_am hc ld_959 (Wl_el hc (hv 1 (by decide) (by decide)) ld_960 ld_961 ld_962 ld_963 ld_964 ((Wl_cm hc (vs := [.int (xs (ix (i + Int32.ofInt 1)))]) y_M_chance rfl (i9 := 1868) (by decide +kernel) (m_M_chance N (xs (ix (i + Int32.ofInt 1))) hm) (by decide) rfl rfl rfl rfl (Nat.le_of_ble_eq_true rfl) rfl ld_965 (Wl_eq hc ld_968 (by decide) k))))))))
theorem lcase_31 (hc : lC p s m meth c b L xs D dA tS) (hv : ∀ n : Int, 0 ≤ n → n ≤ 5 → vp_in (i + Int32.ofInt n) L) (N : Nat) {r : Int32} {s1 t1 : mS} (hx : f_X_undo N  sx = some (r, s1)) (hm : f_M_undo N  sm = some (r, t1)) (k : Wl p l e s m below meth c b D dA tS i 1095 [] s1 t1) : Wl p l e s m below meth c b D dA tS i 973 [] sx sm :=
  Wl_ax hc ld_973 ((Wl_cx hc (vs := []) y_X_undo rfl (i9 := 1017) (by decide +kernel) (m_X_undo N hx) (by decide) rfl rfl rfl rfl (Nat.le_of_ble_eq_true rfl) rfl ld_974 (Wl_am hc ld_977 ((Wl_cm hc (vs := []) y_M_undo rfl (i9 := 1831) (by decide +kernel) (m_M_undo N hm) (by decide) rfl rfl rfl rfl (Nat.le_of_ble_eq_true rfl) rfl ld_978 (Wl_eq hc ld_981 (by decide) k))))))
theorem lcase_32 (hc : lC p s m meth c b L xs D dA tS) (hv : ∀ n : Int, 0 ≤ n → n ≤ 5 → vp_in (i + Int32.ofInt n) L) (N : Nat) {r : Int32} {s1 t1 : mS} (hx : f_X_seed N (xs (ix (i + Int32.ofInt 1))) sx = some (r, s1)) (hm : f_M_seed N (xs (ix (i + Int32.ofInt 1))) sm = some (r, t1)) (k : Wl p l e s m below meth c b D dA tS i 1095 [] s1 t1) : Wl p l e s m below meth c b D dA tS i 986 [] sx sm :=
  Wl_ax hc ld_986 (Wl_el hc (hv 1 (by decide) (by decide)) ld_987 ld_988 ld_989 ld_990 ld_991 ((Wl_cx hc (vs := [.int (xs (ix (i + Int32.ofInt 1)))]) y_X_seed rfl (i9 := 1025) (by decide +kernel) (m_X_seed N (xs (ix (i + Int32.ofInt 1))) hx) (by decide) rfl rfl rfl rfl (Nat.le_of_ble_eq_true rfl) rfl ld_992 (Wl_am hc ld_995 (Wl_el hc (hv 1 (by decide) (by decide)) ld_996 ld_997 ld_998 ld_999 ld_1000 ((Wl_cm hc (vs := [.int (xs (ix (i + Int32.ofInt 1)))]) y_M_seed rfl (i9 := 1864) (by decide +kernel) (m_M_seed N (xs (ix (i + Int32.ofInt 1))) hm) (by decide) rfl rfl rfl rfl (Nat.le_of_ble_eq_true rfl) rfl ld_1001 (Wl_eq hc ld_1004 (by decide) k))))))))
theorem lcase_33 (hc : lC p s m meth c b L xs D dA tS) (hv : ∀ n : Int, 0 ≤ n → n ≤ 5 → vp_in (i + Int32.ofInt n) L) (N : Nat) {r : Int64} {s1 t1 : mS} (hx : f_X_ask N  sx = some (r, s1)) (hm : f_M_ask N  sm = some (r, t1)) (k : Wl p l e s m below meth c b D dA tS i 1095 [] s1 t1) : Wl p l e s m below meth c b D dA tS i 1009 [] sx sm :=
  Wl_ax hc ld_1009 ((Wl_cx hc (vs := []) y_X_ask rfl (i9 := 1029) (by decide +kernel) (m_X_ask N hx) (by decide) rfl rfl rfl rfl (Nat.le_of_ble_eq_true rfl) rfl ld_1010 (Wl_am hc ld_1013 ((Wl_cm hc (vs := []) y_M_ask rfl (i9 := 1880) (by decide +kernel) (m_M_ask N hm) (by decide) rfl rfl rfl rfl (Nat.le_of_ble_eq_true rfl) rfl ld_1014 (Wl_eqL hc ld_1017 ld_1018 (by decide) k))))))
theorem lcase_34 (hc : lC p s m meth c b L xs D dA tS) (hv : ∀ n : Int, 0 ≤ n → n ≤ 5 → vp_in (i + Int32.ofInt n) L) (N : Nat) {r : Int32} {s1 t1 : mS} (hx : f_X_image N  sx = some (r, s1)) (hm : f_M_image N  sm = some (r, t1)) (k : Wl p l e s m below meth c b D dA tS i 1095 [] s1 t1) : Wl p l e s m below meth c b D dA tS i 1023 [] sx sm :=
  Wl_ax hc ld_1023 ((Wl_cx hc (vs := []) y_X_image rfl (i9 := 1052) (by decide +kernel) (m_X_image N hx) (by decide) rfl rfl rfl rfl (Nat.le_of_ble_eq_true rfl) rfl ld_1024 (Wl_am hc ld_1027 ((Wl_cm hc (vs := []) y_M_image rfl (i9 := 1910) (by decide +kernel) (m_M_image N hm) (by decide) rfl rfl rfl rfl (Nat.le_of_ble_eq_true rfl) rfl ld_1028 (Wl_eq hc ld_1031 (by decide) k))))))
theorem lcase_35 (hc : lC p s m meth c b L xs D dA tS) (hv : ∀ n : Int, 0 ≤ n → n ≤ 5 → vp_in (i + Int32.ofInt n) L) (N : Nat) {r : Int32} {s1 t1 : mS} (hx : f_X_octet N (xs (ix (i + Int32.ofInt 1))) sx = some (r, s1)) (hm : f_M_octet N (xs (ix (i + Int32.ofInt 1))) sm = some (r, t1)) (k : Wl p l e s m below meth c b D dA tS i 1095 [] s1 t1) : Wl p l e s m below meth c b D dA tS i 1036 [] sx sm :=
  Wl_ax hc ld_1036 (Wl_el hc (hv 1 (by decide) (by decide)) ld_1037 ld_1038 ld_1039 ld_1040 ld_1041 ((Wl_cx hc (vs := [.int (xs (ix (i + Int32.ofInt 1)))]) y_X_octet rfl (i9 := 1063) (by decide +kernel) (m_X_octet N (xs (ix (i + Int32.ofInt 1))) hx) (by decide) rfl rfl rfl rfl (Nat.le_of_ble_eq_true rfl) rfl ld_1042 (Wl_am hc ld_1045 (Wl_el hc (hv 1 (by decide) (by decide)) ld_1046 ld_1047 ld_1048 ld_1049 ld_1050 ((Wl_cm hc (vs := [.int (xs (ix (i + Int32.ofInt 1)))]) y_M_octet rfl (i9 := 1902) (by decide +kernel) (m_M_octet N (xs (ix (i + Int32.ofInt 1))) hm) (by decide) rfl rfl rfl rfl (Nat.le_of_ble_eq_true rfl) rfl ld_1051 (Wl_eq hc ld_1054 (by decide) k))))))))
theorem lcase_36 (hc : lC p s m meth c b L xs D dA tS) (hv : ∀ n : Int, 0 ≤ n → n ≤ 5 → vp_in (i + Int32.ofInt n) L) (N : Nat) {r : Int32} {s1 t1 : mS} (hx : f_X_on N  sx = some (r, s1)) (hm : f_M_on N  sm = some (r, t1)) (k : Wl p l e s m below meth c b D dA tS i 1095 [] s1 t1) : Wl p l e s m below meth c b D dA tS i 1059 [] sx sm :=
  Wl_ax hc ld_1059 ((Wl_cx hc (vs := []) y_X_on rfl (i9 := 1067) (by decide +kernel) (m_X_on N hx) (by decide) rfl rfl rfl rfl (Nat.le_of_ble_eq_true rfl) rfl ld_1060 (Wl_am hc ld_1063 ((Wl_cm hc (vs := []) y_M_on rfl (i9 := 1926) (by decide +kernel) (m_M_on N hm) (by decide) rfl rfl rfl rfl (Nat.le_of_ble_eq_true rfl) rfl ld_1064 (Wl_eq hc ld_1067 (by decide) k))))))
theorem lcase_37 (hc : lC p s m meth c b L xs D dA tS) (hv : ∀ n : Int, 0 ≤ n → n ≤ 5 → vp_in (i + Int32.ofInt n) L) (N : Nat) {r : Int32} {s1 t1 : mS} (hx : f_X_status N (xs (ix (i + Int32.ofInt 1))) sx = some (r, s1)) (hm : f_M_status N (xs (ix (i + Int32.ofInt 1))) sm = some (r, t1)) (k : Wl p l e s m below meth c b D dA tS i 1095 [] s1 t1) : Wl p l e s m below meth c b D dA tS i 1072 [] sx sm :=
  Wl_ax hc ld_1072 (Wl_el hc (hv 1 (by decide) (by decide)) ld_1073 ld_1074 ld_1075 ld_1076 ld_1077 ((Wl_cx hc (vs := [.int (xs (ix (i + Int32.ofInt 1)))]) y_X_status rfl (i9 := 1088) (by decide +kernel) (m_X_status N (xs (ix (i + Int32.ofInt 1))) hx) (by decide) rfl rfl rfl rfl (Nat.le_of_ble_eq_true rfl) rfl ld_1078 (Wl_am hc ld_1081 (Wl_el hc (hv 1 (by decide) (by decide)) ld_1082 ld_1083 ld_1084 ld_1085 ld_1086 ((Wl_cm hc (vs := [.int (xs (ix (i + Int32.ofInt 1)))]) y_M_status rfl (i9 := 1906) (by decide +kernel) (m_M_status N (xs (ix (i + Int32.ofInt 1))) hm) (by decide) rfl rfl rfl rfl (Nat.le_of_ble_eq_true rfl) rfl ld_1087 (Wl_eq hc ld_1090 (by decide) k))))))))
end LAW
/-- THE PURE HALF: each call answers alike and keeps I -/
noncomputable def Pure_0 (I : mS → mS → Prop) (N : Nat) : Prop := ∀ (a0 a1 a2 a3 a4 : Int32) (s t : mS), I s t → ∃ (r : Int32) (s1 t1 : mS), f_X_feed N a0 a1 a2 a3 a4 s = some (r, s1) ∧ f_M_feed N a0 a1 a2 a3 a4 t = some (r, t1) ∧ I s1 t1
noncomputable def Pure_1 (I : mS → mS → Prop) (N : Nat) : Prop := ∀ (a0 : Int32) (s t : mS), I s t → ∃ (r : Int32) (s1 t1 : mS), f_X_end N a0 s = some (r, s1) ∧ f_M_end N a0 t = some (r, t1) ∧ I s1 t1
noncomputable def Pure_2 (I : mS → mS → Prop) (N : Nat) : Prop := ∀ (s t : mS), I s t → ∃ (r : Int32) (s1 t1 : mS), f_X_corridor N  s = some (r, s1) ∧ f_M_corridor N  t = some (r, t1) ∧ I s1 t1
noncomputable def Pure_3 (I : mS → mS → Prop) (N : Nat) : Prop := ∀ (a0 : Int32) (s t : mS), I s t → ∃ (r : Int32) (s1 t1 : mS), f_X_fault N a0 s = some (r, s1) ∧ f_M_fault N a0 t = some (r, t1) ∧ I s1 t1
noncomputable def Pure_4 (I : mS → mS → Prop) (N : Nat) : Prop := ∀ (a0 : Int32) (s t : mS), I s t → ∃ (r : Int32) (s1 t1 : mS), f_X_has N a0 s = some (r, s1) ∧ f_M_has N a0 t = some (r, t1) ∧ I s1 t1
noncomputable def Pure_5 (I : mS → mS → Prop) (N : Nat) : Prop := ∀ (a0 a1 : Int32) (s t : mS), I s t → ∃ (r : Int32) (s1 t1 : mS), f_X_letter N a0 a1 s = some (r, s1) ∧ f_M_letter N a0 a1 t = some (r, t1) ∧ I s1 t1
noncomputable def Pure_6 (I : mS → mS → Prop) (N : Nat) : Prop := ∀ (a0 a1 : Int32) (s t : mS), I s t → ∃ (r : Int32) (s1 t1 : mS), f_X_door N a0 a1 s = some (r, s1) ∧ f_M_door N a0 a1 t = some (r, t1) ∧ I s1 t1
noncomputable def Pure_7 (I : mS → mS → Prop) (N : Nat) : Prop := ∀ (a0 a1 : Int32) (s t : mS), I s t → ∃ (r : Int32) (s1 t1 : mS), f_X_porter N a0 a1 s = some (r, s1) ∧ f_M_porter N a0 a1 t = some (r, t1) ∧ I s1 t1
noncomputable def Pure_8 (I : mS → mS → Prop) (N : Nat) : Prop := ∀ (a0 : Int32) (s t : mS), I s t → ∃ (r : Int32) (s1 t1 : mS), f_X_order N a0 s = some (r, s1) ∧ f_M_order N a0 t = some (r, t1) ∧ I s1 t1
noncomputable def Pure_9 (I : mS → mS → Prop) (N : Nat) : Prop := ∀ (a0 a1 : Int32) (s t : mS), I s t → ∃ (r : Int32) (s1 t1 : mS), f_X_kept N a0 a1 s = some (r, s1) ∧ f_M_kept N a0 a1 t = some (r, t1) ∧ I s1 t1
noncomputable def Pure_10 (I : mS → mS → Prop) (N : Nat) : Prop := ∀ (a0 : Int32) (s t : mS), I s t → ∃ (r : Int32) (s1 t1 : mS), f_X_later N a0 s = some (r, s1) ∧ f_M_later N a0 t = some (r, t1) ∧ I s1 t1
noncomputable def Pure_11 (I : mS → mS → Prop) (N : Nat) : Prop := ∀ (a0 : Int32) (s t : mS), I s t → ∃ (r : Int32) (s1 t1 : mS), f_X_cold N a0 s = some (r, s1) ∧ f_M_cold N a0 t = some (r, t1) ∧ I s1 t1
noncomputable def Pure_12 (I : mS → mS → Prop) (N : Nat) : Prop := ∀ (s t : mS), I s t → ∃ (r : Int32) (s1 t1 : mS), f_X_back N  s = some (r, s1) ∧ f_M_back N  t = some (r, t1) ∧ I s1 t1
noncomputable def Pure_13 (I : mS → mS → Prop) (N : Nat) : Prop := ∀ (s t : mS), I s t → ∃ (r : Int32) (s1 t1 : mS), f_X_row N  s = some (r, s1) ∧ f_M_row N  t = some (r, t1) ∧ I s1 t1
noncomputable def Pure_14 (I : mS → mS → Prop) (N : Nat) : Prop := ∀ (a0 : Int32) (s t : mS), I s t → ∃ (r : Int32) (s1 t1 : mS), f_X_changes N a0 s = some (r, s1) ∧ f_M_changes N a0 t = some (r, t1) ∧ I s1 t1
noncomputable def Pure_15 (I : mS → mS → Prop) (N : Nat) : Prop := ∀ (a0 a1 : Int32) (s t : mS), I s t → ∃ (r : Int32) (s1 t1 : mS), f_X_sends N a0 a1 s = some (r, s1) ∧ f_M_sends N a0 a1 t = some (r, t1) ∧ I s1 t1
noncomputable def Pure_16 (I : mS → mS → Prop) (N : Nat) : Prop := ∀ (s t : mS), I s t → ∃ (r : Int32) (s1 t1 : mS), f_X_alike N  s = some (r, s1) ∧ f_M_alike N  t = some (r, t1) ∧ I s1 t1
noncomputable def Pure_17 (I : mS → mS → Prop) (N : Nat) : Prop := ∀ (a0 : Int32) (s t : mS), I s t → ∃ (r : Int32) (s1 t1 : mS), f_X_alone N a0 s = some (r, s1) ∧ f_M_alone N a0 t = some (r, t1) ∧ I s1 t1
noncomputable def Pure_18 (I : mS → mS → Prop) (N : Nat) : Prop := ∀ (a0 : Int32) (s t : mS), I s t → ∃ (r : Int32) (s1 t1 : mS), f_X_widest N a0 s = some (r, s1) ∧ f_M_widest N a0 t = some (r, t1) ∧ I s1 t1
noncomputable def Pure_19 (I : mS → mS → Prop) (N : Nat) : Prop := ∀ (a0 a1 : Int32) (s t : mS), I s t → ∃ (r : Int32) (s1 t1 : mS), f_X_rest N a0 a1 s = some (r, s1) ∧ f_M_rest N a0 a1 t = some (r, t1) ∧ I s1 t1
noncomputable def Pure_20 (I : mS → mS → Prop) (N : Nat) : Prop := ∀ (a0 : Int32) (s t : mS), I s t → ∃ (r : Int32) (s1 t1 : mS), f_X_odds N a0 s = some (r, s1) ∧ f_M_odds N a0 t = some (r, t1) ∧ I s1 t1
noncomputable def Pure_21 (I : mS → mS → Prop) (N : Nat) : Prop := ∀ (s t : mS), I s t → ∃ (r : Int32) (s1 t1 : mS), f_X_see N  s = some (r, s1) ∧ f_M_see N  t = some (r, t1) ∧ I s1 t1
noncomputable def Pure_22 (I : mS → mS → Prop) (N : Nat) : Prop := ∀ (a0 : Int32) (s t : mS), I s t → ∃ (r : Int32) (s1 t1 : mS), f_X_fits N a0 s = some (r, s1) ∧ f_M_fits N a0 t = some (r, t1) ∧ I s1 t1
noncomputable def Pure_23 (I : mS → mS → Prop) (N : Nat) : Prop := ∀ (a0 : Int32) (s t : mS), I s t → ∃ (r : Int32) (s1 t1 : mS), f_X_walked N a0 s = some (r, s1) ∧ f_M_walked N a0 t = some (r, t1) ∧ I s1 t1
noncomputable def Pure_24 (I : mS → mS → Prop) (N : Nat) : Prop := ∀ (a0 : Int32) (s t : mS), I s t → ∃ (r : Int32) (s1 t1 : mS), f_X_tells N a0 s = some (r, s1) ∧ f_M_tells N a0 t = some (r, t1) ∧ I s1 t1
noncomputable def Pure_25 (I : mS → mS → Prop) (N : Nat) : Prop := ∀ (a0 : Int32) (s t : mS), I s t → ∃ (r : Int32) (s1 t1 : mS), f_X_send N a0 s = some (r, s1) ∧ f_M_send N a0 t = some (r, t1) ∧ I s1 t1
noncomputable def Pure_26 (I : mS → mS → Prop) (N : Nat) : Prop := ∀ (a0 : Int32) (s t : mS), I s t → ∃ (r : Int32) (s1 t1 : mS), f_X_turn N a0 s = some (r, s1) ∧ f_M_turn N a0 t = some (r, t1) ∧ I s1 t1
noncomputable def Pure_27 (I : mS → mS → Prop) (N : Nat) : Prop := ∀ (a0 : Int32) (s t : mS), I s t → ∃ (r : Int32) (s1 t1 : mS), f_X_oil N a0 s = some (r, s1) ∧ f_M_oil N a0 t = some (r, t1) ∧ I s1 t1
noncomputable def Pure_28 (I : mS → mS → Prop) (N : Nat) : Prop := ∀ (a0 a1 : Int32) (s t : mS), I s t → ∃ (r : Int32) (s1 t1 : mS), f_X_paint N a0 a1 s = some (r, s1) ∧ f_M_paint N a0 a1 t = some (r, t1) ∧ I s1 t1
noncomputable def Pure_29 (I : mS → mS → Prop) (N : Nat) : Prop := ∀ (a0 : Int32) (s t : mS), I s t → ∃ (r : Int32) (s1 t1 : mS), f_X_nights N a0 s = some (r, s1) ∧ f_M_nights N a0 t = some (r, t1) ∧ I s1 t1
noncomputable def Pure_30 (I : mS → mS → Prop) (N : Nat) : Prop := ∀ (a0 : Int32) (s t : mS), I s t → ∃ (r : Int32) (s1 t1 : mS), f_X_chance N a0 s = some (r, s1) ∧ f_M_chance N a0 t = some (r, t1) ∧ I s1 t1
noncomputable def Pure_31 (I : mS → mS → Prop) (N : Nat) : Prop := ∀ (s t : mS), I s t → ∃ (r : Int32) (s1 t1 : mS), f_X_undo N  s = some (r, s1) ∧ f_M_undo N  t = some (r, t1) ∧ I s1 t1
noncomputable def Pure_32 (I : mS → mS → Prop) (N : Nat) : Prop := ∀ (a0 : Int32) (s t : mS), I s t → ∃ (r : Int32) (s1 t1 : mS), f_X_seed N a0 s = some (r, s1) ∧ f_M_seed N a0 t = some (r, t1) ∧ I s1 t1
noncomputable def Pure_33 (I : mS → mS → Prop) (N : Nat) : Prop := ∀ (s t : mS), I s t → ∃ (r : Int64) (s1 t1 : mS), f_X_ask N  s = some (r, s1) ∧ f_M_ask N  t = some (r, t1) ∧ I s1 t1
noncomputable def Pure_34 (I : mS → mS → Prop) (N : Nat) : Prop := ∀ (s t : mS), I s t → ∃ (r : Int32) (s1 t1 : mS), f_X_image N  s = some (r, s1) ∧ f_M_image N  t = some (r, t1) ∧ I s1 t1
noncomputable def Pure_35 (I : mS → mS → Prop) (N : Nat) : Prop := ∀ (a0 : Int32) (s t : mS), I s t → ∃ (r : Int32) (s1 t1 : mS), f_X_octet N a0 s = some (r, s1) ∧ f_M_octet N a0 t = some (r, t1) ∧ I s1 t1
noncomputable def Pure_36 (I : mS → mS → Prop) (N : Nat) : Prop := ∀ (s t : mS), I s t → ∃ (r : Int32) (s1 t1 : mS), f_X_on N  s = some (r, s1) ∧ f_M_on N  t = some (r, t1) ∧ I s1 t1
noncomputable def Pure_37 (I : mS → mS → Prop) (N : Nat) : Prop := ∀ (a0 : Int32) (s t : mS), I s t → ∃ (r : Int32) (s1 t1 : mS), f_X_status N a0 s = some (r, s1) ∧ f_M_status N a0 t = some (r, t1) ∧ I s1 t1
noncomputable def PureOK (I : mS → mS → Prop) (N : Nat) : Prop := Pure_0 I N ∧ Pure_1 I N ∧ Pure_2 I N ∧ Pure_3 I N ∧ Pure_4 I N ∧ Pure_5 I N ∧ Pure_6 I N ∧ Pure_7 I N ∧ Pure_8 I N ∧ Pure_9 I N ∧ Pure_10 I N ∧ Pure_11 I N ∧ Pure_12 I N ∧ Pure_13 I N ∧ Pure_14 I N ∧ Pure_15 I N ∧ Pure_16 I N ∧ Pure_17 I N ∧ Pure_18 I N ∧ Pure_19 I N ∧ Pure_20 I N ∧ Pure_21 I N ∧ Pure_22 I N ∧ Pure_23 I N ∧ Pure_24 I N ∧ Pure_25 I N ∧ Pure_26 I N ∧ Pure_27 I N ∧ Pure_28 I N ∧ Pure_29 I N ∧ Pure_30 I N ∧ Pure_31 I N ∧ Pure_32 I N ∧ Pure_33 I N ∧ Pure_34 I N ∧ Pure_35 I N ∧ Pure_36 I N ∧ Pure_37 I N
