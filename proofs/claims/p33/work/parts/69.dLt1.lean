theorem dL_isSewn_247 : decode cL_isSewn 247 = .ok (.iload 6, 2) := by decide +kernel
theorem dL_isSewn_249 : decode cL_isSewn 249 = .ok (.iconst 3, 1) := by decide +kernel
theorem dL_isSewn_250 : decode cL_isSewn 250 = .ok (.idiv, 1) := by decide +kernel
theorem dL_isSewn_251 : decode cL_isSewn 251 = .ok (.bipush 75, 2) := by decide +kernel
theorem dL_isSewn_253 : decode cL_isSewn 253 = .ok (.irem, 1) := by decide +kernel
theorem dL_isSewn_254 : decode cL_isSewn 254 = .ok (.iadd, 1) := by decide +kernel
theorem dL_isSewn_255 : decode cL_isSewn 255 = .ok (.istore 8, 2) := by decide +kernel
theorem dL_isSewn_257 : decode cL_isSewn 257 = .ok (.iconst 1, 1) := by decide +kernel
theorem dL_isSewn_258 : decode cL_isSewn 258 = .ok (.iload 6, 2) := by decide +kernel
theorem dL_isSewn_260 : decode cL_isSewn 260 = .ok (.sipush 225, 3) := by decide +kernel
theorem dL_isSewn_263 : decode cL_isSewn 263 = .ok (.idiv, 1) := by decide +kernel
theorem dL_isSewn_264 : decode cL_isSewn 264 = .ok (.bipush 75, 2) := by decide +kernel
theorem dL_isSewn_266 : decode cL_isSewn 266 = .ok (.irem, 1) := by decide +kernel
theorem dL_isSewn_267 : decode cL_isSewn 267 = .ok (.iadd, 1) := by decide +kernel
theorem dL_isSewn_268 : decode cL_isSewn 268 = .ok (.istore 9, 2) := by decide +kernel
theorem dL_isSewn_270 : decode cL_isSewn 270 = .ok (.aload_n 0, 1) := by decide +kernel
theorem dL_isSewn_271 : decode cL_isSewn 271 = .ok (.iconst 4, 1) := by decide +kernel
theorem dL_isSewn_272 : decode cL_isSewn 272 = .ok (.iload 5, 2) := by decide +kernel
theorem dL_isSewn_274 : decode cL_isSewn 274 = .ok (.iconst 0, 1) := by decide +kernel
theorem dL_isSewn_275 : decode cL_isSewn 275 = .ok (.iconst 0, 1) := by decide +kernel
theorem dL_isSewn_276 : decode cL_isSewn 276 = .ok (.iconst 0, 1) := by decide +kernel
theorem dL_isSewn_277 : decode cL_isSewn 277 = .ok (.invokestatic 123, 3) := by decide +kernel
theorem dL_isSewn_280 : decode cL_isSewn 280 = .ok (.lstore 10, 2) := by decide +kernel
theorem dL_isSewn_282 : decode cL_isSewn 282 = .ok (.aload_n 0, 1) := by decide +kernel
theorem dL_isSewn_283 : decode cL_isSewn 283 = .ok (.iconst 2, 1) := by decide +kernel
theorem dL_isSewn_284 : decode cL_isSewn 284 = .ok (.iload 5, 2) := by decide +kernel
theorem dL_isSewn_286 : decode cL_isSewn 286 = .ok (.iload 8, 2) := by decide +kernel
theorem dL_isSewn_288 : decode cL_isSewn 288 = .ok (.iload 9, 2) := by decide +kernel
theorem dL_isSewn_290 : decode cL_isSewn 290 = .ok (.iload 7, 2) := by decide +kernel
theorem dL_isSewn_292 : decode cL_isSewn 292 = .ok (.invokestatic 123, 3) := by decide +kernel
theorem dL_isSewn_295 : decode cL_isSewn 295 = .ok (.lstore 12, 2) := by decide +kernel
theorem dL_isSewn_297 : decode cL_isSewn 297 = .ok (.lload 12, 2) := by decide +kernel
theorem dL_isSewn_299 : decode cL_isSewn 299 = .ok (.lconst 0, 1) := by decide +kernel
theorem dL_isSewn_300 : decode cL_isSewn 300 = .ok (.lcmp, 1) := by decide +kernel
theorem dL_isSewn_301 : decode cL_isSewn 301 = .ok (.ifCond .lt 41, 3) := by decide +kernel
theorem dL_isSewn_304 : decode cL_isSewn 304 = .ok (.aload_n 2, 1) := by decide +kernel
theorem dL_isSewn_305 : decode cL_isSewn 305 = .ok (.iconst 3, 1) := by decide +kernel
theorem dL_isSewn_306 : decode cL_isSewn 306 = .ok (.aload_n 1, 1) := by decide +kernel
theorem dL_isSewn_307 : decode cL_isSewn 307 = .ok (.iconst 1, 1) := by decide +kernel
theorem dL_isSewn_308 : decode cL_isSewn 308 = .ok (.iaload, 1) := by decide +kernel
theorem dL_isSewn_309 : decode cL_isSewn 309 = .ok (.imul, 1) := by decide +kernel
theorem dL_isSewn_310 : decode cL_isSewn 310 = .ok (.iload 5, 2) := by decide +kernel
theorem dL_isSewn_312 : decode cL_isSewn 312 = .ok (.iastore, 1) := by decide +kernel
theorem dL_isSewn_313 : decode cL_isSewn 313 = .ok (.aload_n 2, 1) := by decide +kernel
theorem dL_isSewn_314 : decode cL_isSewn 314 = .ok (.iconst 3, 1) := by decide +kernel
theorem dL_isSewn_315 : decode cL_isSewn 315 = .ok (.aload_n 1, 1) := by decide +kernel
theorem dL_isSewn_316 : decode cL_isSewn 316 = .ok (.iconst 1, 1) := by decide +kernel
theorem dL_isSewn_317 : decode cL_isSewn 317 = .ok (.iaload, 1) := by decide +kernel
theorem dL_isSewn_318 : decode cL_isSewn 318 = .ok (.imul, 1) := by decide +kernel
theorem dL_isSewn_319 : decode cL_isSewn 319 = .ok (.iconst 1, 1) := by decide +kernel
theorem dL_isSewn_320 : decode cL_isSewn 320 = .ok (.iadd, 1) := by decide +kernel
theorem dL_isSewn_321 : decode cL_isSewn 321 = .ok (.iload 8, 2) := by decide +kernel
theorem dL_isSewn_323 : decode cL_isSewn 323 = .ok (.iastore, 1) := by decide +kernel
theorem dL_isSewn_324 : decode cL_isSewn 324 = .ok (.aload_n 2, 1) := by decide +kernel
theorem dL_isSewn_325 : decode cL_isSewn 325 = .ok (.iconst 3, 1) := by decide +kernel
theorem dL_isSewn_326 : decode cL_isSewn 326 = .ok (.aload_n 1, 1) := by decide +kernel
theorem dL_isSewn_327 : decode cL_isSewn 327 = .ok (.iconst 1, 1) := by decide +kernel
theorem dL_isSewn_328 : decode cL_isSewn 328 = .ok (.iaload, 1) := by decide +kernel
theorem dL_isSewn_329 : decode cL_isSewn 329 = .ok (.imul, 1) := by decide +kernel
theorem dL_isSewn_330 : decode cL_isSewn 330 = .ok (.iconst 2, 1) := by decide +kernel
theorem dL_isSewn_331 : decode cL_isSewn 331 = .ok (.iadd, 1) := by decide +kernel
theorem dL_isSewn_332 : decode cL_isSewn 332 = .ok (.iload 9, 2) := by decide +kernel
theorem dL_isSewn_334 : decode cL_isSewn 334 = .ok (.iastore, 1) := by decide +kernel
theorem dL_isSewn_335 : decode cL_isSewn 335 = .ok (.aload_n 1, 1) := by decide +kernel
theorem dL_isSewn_336 : decode cL_isSewn 336 = .ok (.iconst 1, 1) := by decide +kernel
theorem dL_isSewn_337 : decode cL_isSewn 337 = .ok (.dup2, 1) := by decide +kernel
theorem dL_isSewn_338 : decode cL_isSewn 338 = .ok (.iaload, 1) := by decide +kernel
theorem dL_isSewn_339 : decode cL_isSewn 339 = .ok (.iconst 1, 1) := by decide +kernel
theorem dL_isSewn_340 : decode cL_isSewn 340 = .ok (.iadd, 1) := by decide +kernel
theorem dL_isSewn_341 : decode cL_isSewn 341 = .ok (.iastore, 1) := by decide +kernel
theorem dL_isSewn_342 : decode cL_isSewn 342 = .ok (.lload 12, 2) := by decide +kernel
theorem dL_isSewn_344 : decode cL_isSewn 344 = .ok (.aload_n 1, 1) := by decide +kernel
theorem dL_isSewn_345 : decode cL_isSewn 345 = .ok (.iconst 1, 1) := by decide +kernel
theorem dL_isSewn_346 : decode cL_isSewn 346 = .ok (.iaload, 1) := by decide +kernel
theorem dL_isSewn_347 : decode cL_isSewn 347 = .ok (.bipush 12, 2) := by decide +kernel
theorem dL_isSewn_349 : decode cL_isSewn 349 = .ok (.if_icmp .ne 16, 3) := by decide +kernel
theorem dL_isSewn_352 : decode cL_isSewn 352 = .ok (.lload 12, 2) := by decide +kernel
theorem dL_isSewn_354 : decode cL_isSewn 354 = .ok (.lconst 0, 1) := by decide +kernel
theorem dL_isSewn_355 : decode cL_isSewn 355 = .ok (.lcmp, 1) := by decide +kernel
theorem dL_isSewn_356 : decode cL_isSewn 356 = .ok (.ifCond .ge 9, 3) := by decide +kernel
theorem dL_isSewn_359 : decode cL_isSewn 359 = .ok (.ldc2_w 113, 3) := by decide +kernel
theorem dL_isSewn_362 : decode cL_isSewn 362 = .ok (.goto 9, 3) := by decide +kernel
theorem dL_isSewn_365 : decode cL_isSewn 365 = .ok (.aload_n 1, 1) := by decide +kernel
theorem dL_isSewn_366 : decode cL_isSewn 366 = .ok (.iconst 1, 1) := by decide +kernel
theorem dL_isSewn_367 : decode cL_isSewn 367 = .ok (.iaload, 1) := by decide +kernel
theorem dL_isSewn_368 : decode cL_isSewn 368 = .ok (.iconst 1, 1) := by decide +kernel
theorem dL_isSewn_369 : decode cL_isSewn 369 = .ok (.isub, 1) := by decide +kernel
theorem dL_isSewn_370 : decode cL_isSewn 370 = .ok (.i2l, 1) := by decide +kernel
theorem dL_isSewn_371 : decode cL_isSewn 371 = .ok (.lcmp, 1) := by decide +kernel
theorem dL_isSewn_372 : decode cL_isSewn 372 = .ok (.ifCond .ne 23, 3) := by decide +kernel
theorem dL_isSewn_375 : decode cL_isSewn 375 = .ok (.aload_n 0, 1) := by decide +kernel
theorem dL_isSewn_376 : decode cL_isSewn 376 = .ok (.iconst 4, 1) := by decide +kernel
theorem dL_isSewn_377 : decode cL_isSewn 377 = .ok (.iload 5, 2) := by decide +kernel
theorem dL_isSewn_379 : decode cL_isSewn 379 = .ok (.iconst 0, 1) := by decide +kernel
theorem dL_isSewn_380 : decode cL_isSewn 380 = .ok (.iconst 0, 1) := by decide +kernel
theorem dL_isSewn_381 : decode cL_isSewn 381 = .ok (.iconst 0, 1) := by decide +kernel
theorem dL_isSewn_382 : decode cL_isSewn 382 = .ok (.invokestatic 123, 3) := by decide +kernel
theorem dL_isSewn_385 : decode cL_isSewn 385 = .ok (.lload 10, 2) := by decide +kernel
theorem dL_isSewn_387 : decode cL_isSewn 387 = .ok (.lcmp, 1) := by decide +kernel
theorem dL_isSewn_388 : decode cL_isSewn 388 = .ok (.ifCond .lt 7, 3) := by decide +kernel
theorem dL_isSewn_391 : decode cL_isSewn 391 = .ok (.iconst 1, 1) := by decide +kernel
theorem dL_isSewn_392 : decode cL_isSewn 392 = .ok (.goto 4, 3) := by decide +kernel
theorem dL_isSewn_395 : decode cL_isSewn 395 = .ok (.iconst 0, 1) := by decide +kernel
theorem dL_isSewn_396 : decode cL_isSewn 396 = .ok (.ireturn, 1) := by decide +kernel
theorem dL_isSewn_397 : decode cL_isSewn 397 = .ok (.iload 6, 2) := by decide +kernel
theorem dL_isSewn_399 : decode cL_isSewn 399 = .ok (.aload_n 1, 1) := by decide +kernel
theorem dL_isSewn_400 : decode cL_isSewn 400 = .ok (.iconst 1, 1) := by decide +kernel
theorem dL_isSewn_401 : decode cL_isSewn 401 = .ok (.iaload, 1) := by decide +kernel
theorem dL_isSewn_402 : decode cL_isSewn 402 = .ok (.irem, 1) := by decide +kernel
theorem dL_isSewn_403 : decode cL_isSewn 403 = .ok (.istore 7, 2) := by decide +kernel
theorem dL_isSewn_405 : decode cL_isSewn 405 = .ok (.iload 7, 2) := by decide +kernel
theorem dL_isSewn_407 : decode cL_isSewn 407 = .ok (.iconst 1, 1) := by decide +kernel
theorem dL_isSewn_408 : decode cL_isSewn 408 = .ok (.iadd, 1) := by decide +kernel
theorem dL_isSewn_409 : decode cL_isSewn 409 = .ok (.iload 6, 2) := by decide +kernel
theorem dL_isSewn_411 : decode cL_isSewn 411 = .ok (.bipush 12, 2) := by decide +kernel
theorem dL_isSewn_413 : decode cL_isSewn 413 = .ok (.idiv, 1) := by decide +kernel
theorem dL_isSewn_414 : decode cL_isSewn 414 = .ok (.aload_n 1, 1) := by decide +kernel
theorem dL_isSewn_415 : decode cL_isSewn 415 = .ok (.iconst 1, 1) := by decide +kernel
theorem dL_isSewn_416 : decode cL_isSewn 416 = .ok (.iaload, 1) := by decide +kernel
theorem dL_isSewn_417 : decode cL_isSewn 417 = .ok (.iconst 1, 1) := by decide +kernel
theorem dL_isSewn_418 : decode cL_isSewn 418 = .ok (.isub, 1) := by decide +kernel
theorem dL_isSewn_419 : decode cL_isSewn 419 = .ok (.irem, 1) := by decide +kernel
theorem dL_isSewn_420 : decode cL_isSewn 420 = .ok (.iadd, 1) := by decide +kernel
theorem dL_isSewn_421 : decode cL_isSewn 421 = .ok (.aload_n 1, 1) := by decide +kernel
theorem dL_isSewn_422 : decode cL_isSewn 422 = .ok (.iconst 1, 1) := by decide +kernel
theorem dL_isSewn_423 : decode cL_isSewn 423 = .ok (.iaload, 1) := by decide +kernel
theorem dL_isSewn_424 : decode cL_isSewn 424 = .ok (.irem, 1) := by decide +kernel
theorem dL_isSewn_425 : decode cL_isSewn 425 = .ok (.istore 8, 2) := by decide +kernel
theorem dL_isSewn_427 : decode cL_isSewn 427 = .ok (.aload_n 0, 1) := by decide +kernel
theorem dL_isSewn_428 : decode cL_isSewn 428 = .ok (.iload 7, 2) := by decide +kernel
theorem dL_isSewn_430 : decode cL_isSewn 430 = .ok (.iload 8, 2) := by decide +kernel
theorem dL_isSewn_432 : decode cL_isSewn 432 = .ok (.invokevirtual 37, 3) := by decide +kernel
theorem dL_isSewn_435 : decode cL_isSewn 435 = .ok (.lstore 9, 2) := by decide +kernel
theorem dL_isSewn_437 : decode cL_isSewn 437 = .ok (.iload_n 3, 1) := by decide +kernel
theorem dL_isSewn_438 : decode cL_isSewn 438 = .ok (.bipush 7, 2) := by decide +kernel
theorem dL_isSewn_440 : decode cL_isSewn 440 = .ok (.if_icmp .ge 206, 3) := by decide +kernel
theorem dL_isSewn_443 : decode cL_isSewn 443 = .ok (.iload 6, 2) := by decide +kernel
theorem dL_isSewn_445 : decode cL_isSewn 445 = .ok (.sipush 144, 3) := by decide +kernel
theorem dL_isSewn_448 : decode cL_isSewn 448 = .ok (.idiv, 1) := by decide +kernel
theorem dL_isSewn_449 : decode cL_isSewn 449 = .ok (.iconst 3, 1) := by decide +kernel
theorem dL_isSewn_450 : decode cL_isSewn 450 = .ok (.irem, 1) := by decide +kernel
theorem dL_isSewn_451 : decode cL_isSewn 451 = .ok (.istore 11, 2) := by decide +kernel
theorem dL_isSewn_453 : decode cL_isSewn 453 = .ok (.aload_n 0, 1) := by decide +kernel
theorem dL_isSewn_454 : decode cL_isSewn 454 = .ok (.iconst 5, 1) := by decide +kernel
theorem dL_isSewn_455 : decode cL_isSewn 455 = .ok (.iload 7, 2) := by decide +kernel
theorem dL_isSewn_457 : decode cL_isSewn 457 = .ok (.iload 8, 2) := by decide +kernel
theorem dL_isSewn_459 : decode cL_isSewn 459 = .ok (.iload 11, 2) := by decide +kernel
theorem dL_isSewn_461 : decode cL_isSewn 461 = .ok (.iconst 0, 1) := by decide +kernel
theorem dL_isSewn_462 : decode cL_isSewn 462 = .ok (.invokestatic 123, 3) := by decide +kernel
theorem dL_isSewn_465 : decode cL_isSewn 465 = .ok (.lstore 12, 2) := by decide +kernel
theorem dL_isSewn_467 : decode cL_isSewn 467 = .ok (.lload 12, 2) := by decide +kernel
theorem dL_isSewn_469 : decode cL_isSewn 469 = .ok (.aload_n 1, 1) := by decide +kernel
theorem dL_isSewn_470 : decode cL_isSewn 470 = .ok (.iconst 2, 1) := by decide +kernel
theorem dL_isSewn_471 : decode cL_isSewn 471 = .ok (.iaload, 1) := by decide +kernel
