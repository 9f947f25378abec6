theorem dL_isRigged_213 : decode cL_isRigged 213 = .ok (.bipush 19, 2) := by decide +kernel
theorem dL_isRigged_215 : decode cL_isRigged 215 = .ok (.iload 5, 2) := by decide +kernel
theorem dL_isRigged_217 : decode cL_isRigged 217 = .ok (.iload 6, 2) := by decide +kernel
theorem dL_isRigged_219 : decode cL_isRigged 219 = .ok (.iconst 3, 1) := by decide +kernel
theorem dL_isRigged_220 : decode cL_isRigged 220 = .ok (.irem, 1) := by decide +kernel
theorem dL_isRigged_221 : decode cL_isRigged 221 = .ok (.ifCond .ne 7, 3) := by decide +kernel
theorem dL_isRigged_224 : decode cL_isRigged 224 = .ok (.iconst 0, 1) := by decide +kernel
theorem dL_isRigged_225 : decode cL_isRigged 225 = .ok (.goto 10, 3) := by decide +kernel
theorem dL_isRigged_228 : decode cL_isRigged 228 = .ok (.iload 6, 2) := by decide +kernel
theorem dL_isRigged_230 : decode cL_isRigged 230 = .ok (.iconst 3, 1) := by decide +kernel
theorem dL_isRigged_231 : decode cL_isRigged 231 = .ok (.idiv, 1) := by decide +kernel
theorem dL_isRigged_232 : decode cL_isRigged 232 = .ok (.bipush 16, 2) := by decide +kernel
theorem dL_isRigged_234 : decode cL_isRigged 234 = .ok (.irem, 1) := by decide +kernel
theorem dL_isRigged_235 : decode cL_isRigged 235 = .ok (.iconst 0, 1) := by decide +kernel
theorem dL_isRigged_236 : decode cL_isRigged 236 = .ok (.iconst 0, 1) := by decide +kernel
theorem dL_isRigged_237 : decode cL_isRigged 237 = .ok (.invokestatic 123, 3) := by decide +kernel
theorem dL_isRigged_240 : decode cL_isRigged 240 = .ok (.lstore 9, 2) := by decide +kernel
theorem dL_isRigged_242 : decode cL_isRigged 242 = .ok (.lload 9, 2) := by decide +kernel
theorem dL_isRigged_244 : decode cL_isRigged 244 = .ok (.ldc2_w 113, 3) := by decide +kernel
theorem dL_isRigged_247 : decode cL_isRigged 247 = .ok (.lcmp, 1) := by decide +kernel
theorem dL_isRigged_248 : decode cL_isRigged 248 = .ok (.ifCond .ne 22, 3) := by decide +kernel
theorem dL_isRigged_251 : decode cL_isRigged 251 = .ok (.aload_n 0, 1) := by decide +kernel
theorem dL_isRigged_252 : decode cL_isRigged 252 = .ok (.iload 5, 2) := by decide +kernel
theorem dL_isRigged_254 : decode cL_isRigged 254 = .ok (.invokevirtual 81, 3) := by decide +kernel
theorem dL_isRigged_257 : decode cL_isRigged 257 = .ok (.iload 8, 2) := by decide +kernel
theorem dL_isRigged_259 : decode cL_isRigged 259 = .ok (.if_icmp .ne 7, 3) := by decide +kernel
theorem dL_isRigged_262 : decode cL_isRigged 262 = .ok (.iconst 1, 1) := by decide +kernel
theorem dL_isRigged_263 : decode cL_isRigged 263 = .ok (.goto 49, 3) := by decide +kernel
theorem dL_isRigged_266 : decode cL_isRigged 266 = .ok (.iconst 0, 1) := by decide +kernel
theorem dL_isRigged_267 : decode cL_isRigged 267 = .ok (.goto 45, 3) := by decide +kernel
theorem dL_isRigged_270 : decode cL_isRigged 270 = .ok (.lload 9, 2) := by decide +kernel
theorem dL_isRigged_272 : decode cL_isRigged 272 = .ok (.lconst 0, 1) := by decide +kernel
theorem dL_isRigged_273 : decode cL_isRigged 273 = .ok (.lcmp, 1) := by decide +kernel
theorem dL_isRigged_274 : decode cL_isRigged 274 = .ok (.ifCond .lt 37, 3) := by decide +kernel
theorem dL_isRigged_277 : decode cL_isRigged 277 = .ok (.lload 9, 2) := by decide +kernel
theorem dL_isRigged_279 : decode cL_isRigged 279 = .ok (.ldc2_w 183, 3) := by decide +kernel
theorem dL_isRigged_282 : decode cL_isRigged 282 = .ok (.lcmp, 1) := by decide +kernel
theorem dL_isRigged_283 : decode cL_isRigged 283 = .ok (.ifCond .ge 28, 3) := by decide +kernel
theorem dL_isRigged_286 : decode cL_isRigged 286 = .ok (.iload 7, 2) := by decide +kernel
theorem dL_isRigged_288 : decode cL_isRigged 288 = .ok (.ifCond .ne 23, 3) := by decide +kernel
theorem dL_isRigged_291 : decode cL_isRigged 291 = .ok (.iload 8, 2) := by decide +kernel
theorem dL_isRigged_293 : decode cL_isRigged 293 = .ok (.iconst (-1), 1) := by decide +kernel
theorem dL_isRigged_294 : decode cL_isRigged 294 = .ok (.if_icmp .ne 13, 3) := by decide +kernel
theorem dL_isRigged_297 : decode cL_isRigged 297 = .ok (.aload_n 0, 1) := by decide +kernel
theorem dL_isRigged_298 : decode cL_isRigged 298 = .ok (.iload 5, 2) := by decide +kernel
theorem dL_isRigged_300 : decode cL_isRigged 300 = .ok (.invokevirtual 81, 3) := by decide +kernel
theorem dL_isRigged_303 : decode cL_isRigged 303 = .ok (.iconst (-1), 1) := by decide +kernel
theorem dL_isRigged_304 : decode cL_isRigged 304 = .ok (.if_icmp .ne 7, 3) := by decide +kernel
theorem dL_isRigged_307 : decode cL_isRigged 307 = .ok (.iconst 1, 1) := by decide +kernel
theorem dL_isRigged_308 : decode cL_isRigged 308 = .ok (.goto 4, 3) := by decide +kernel
theorem dL_isRigged_311 : decode cL_isRigged 311 = .ok (.iconst 0, 1) := by decide +kernel
theorem dL_isRigged_312 : decode cL_isRigged 312 = .ok (.ireturn, 1) := by decide +kernel
theorem dL_isRigged_313 : decode cL_isRigged 313 = .ok (.iload_n 2, 1) := by decide +kernel
theorem dL_isRigged_314 : decode cL_isRigged 314 = .ok (.bipush 8, 2) := by decide +kernel
theorem dL_isRigged_316 : decode cL_isRigged 316 = .ok (.if_icmp .ge 138, 3) := by decide +kernel
theorem dL_isRigged_319 : decode cL_isRigged 319 = .ok (.aload_n 0, 1) := by decide +kernel
theorem dL_isRigged_320 : decode cL_isRigged 320 = .ok (.iload 5, 2) := by decide +kernel
theorem dL_isRigged_322 : decode cL_isRigged 322 = .ok (.iconst 3, 1) := by decide +kernel
theorem dL_isRigged_323 : decode cL_isRigged 323 = .ok (.invokevirtual 97, 3) := by decide +kernel
theorem dL_isRigged_326 : decode cL_isRigged 326 = .ok (.istore 9, 2) := by decide +kernel
theorem dL_isRigged_328 : decode cL_isRigged 328 = .ok (.aload_n 0, 1) := by decide +kernel
theorem dL_isRigged_329 : decode cL_isRigged 329 = .ok (.bipush 21, 2) := by decide +kernel
theorem dL_isRigged_331 : decode cL_isRigged 331 = .ok (.iload 5, 2) := by decide +kernel
theorem dL_isRigged_333 : decode cL_isRigged 333 = .ok (.iload 6, 2) := by decide +kernel
theorem dL_isRigged_335 : decode cL_isRigged 335 = .ok (.iconst 5, 1) := by decide +kernel
theorem dL_isRigged_336 : decode cL_isRigged 336 = .ok (.irem, 1) := by decide +kernel
theorem dL_isRigged_337 : decode cL_isRigged 337 = .ok (.iconst 0, 1) := by decide +kernel
theorem dL_isRigged_338 : decode cL_isRigged 338 = .ok (.iconst 0, 1) := by decide +kernel
theorem dL_isRigged_339 : decode cL_isRigged 339 = .ok (.invokestatic 123, 3) := by decide +kernel
theorem dL_isRigged_342 : decode cL_isRigged 342 = .ok (.lstore 10, 2) := by decide +kernel
theorem dL_isRigged_344 : decode cL_isRigged 344 = .ok (.lload 10, 2) := by decide +kernel
theorem dL_isRigged_346 : decode cL_isRigged 346 = .ok (.ldc2_w 113, 3) := by decide +kernel
theorem dL_isRigged_349 : decode cL_isRigged 349 = .ok (.lcmp, 1) := by decide +kernel
theorem dL_isRigged_350 : decode cL_isRigged 350 = .ok (.ifCond .ne 23, 3) := by decide +kernel
theorem dL_isRigged_353 : decode cL_isRigged 353 = .ok (.aload_n 0, 1) := by decide +kernel
theorem dL_isRigged_354 : decode cL_isRigged 354 = .ok (.iload 5, 2) := by decide +kernel
theorem dL_isRigged_356 : decode cL_isRigged 356 = .ok (.iconst 3, 1) := by decide +kernel
theorem dL_isRigged_357 : decode cL_isRigged 357 = .ok (.invokevirtual 97, 3) := by decide +kernel
theorem dL_isRigged_360 : decode cL_isRigged 360 = .ok (.iload 9, 2) := by decide +kernel
theorem dL_isRigged_362 : decode cL_isRigged 362 = .ok (.if_icmp .ne 7, 3) := by decide +kernel
theorem dL_isRigged_365 : decode cL_isRigged 365 = .ok (.iconst 1, 1) := by decide +kernel
theorem dL_isRigged_366 : decode cL_isRigged 366 = .ok (.goto 87, 3) := by decide +kernel
theorem dL_isRigged_369 : decode cL_isRigged 369 = .ok (.iconst 0, 1) := by decide +kernel
theorem dL_isRigged_370 : decode cL_isRigged 370 = .ok (.goto 83, 3) := by decide +kernel
theorem dL_isRigged_373 : decode cL_isRigged 373 = .ok (.lload 10, 2) := by decide +kernel
theorem dL_isRigged_375 : decode cL_isRigged 375 = .ok (.iload 9, 2) := by decide +kernel
theorem dL_isRigged_377 : decode cL_isRigged 377 = .ok (.iconst 1, 1) := by decide +kernel
theorem dL_isRigged_378 : decode cL_isRigged 378 = .ok (.iadd, 1) := by decide +kernel
theorem dL_isRigged_379 : decode cL_isRigged 379 = .ok (.i2l, 1) := by decide +kernel
theorem dL_isRigged_380 : decode cL_isRigged 380 = .ok (.lcmp, 1) := by decide +kernel
theorem dL_isRigged_381 : decode cL_isRigged 381 = .ok (.ifCond .ne 71, 3) := by decide +kernel
theorem dL_isRigged_384 : decode cL_isRigged 384 = .ok (.iload 7, 2) := by decide +kernel
theorem dL_isRigged_386 : decode cL_isRigged 386 = .ok (.ifCond .ne 66, 3) := by decide +kernel
theorem dL_isRigged_389 : decode cL_isRigged 389 = .ok (.iload 8, 2) := by decide +kernel
theorem dL_isRigged_391 : decode cL_isRigged 391 = .ok (.ifCond .le 61, 3) := by decide +kernel
theorem dL_isRigged_394 : decode cL_isRigged 394 = .ok (.aload_n 0, 1) := by decide +kernel
theorem dL_isRigged_395 : decode cL_isRigged 395 = .ok (.iload 5, 2) := by decide +kernel
theorem dL_isRigged_397 : decode cL_isRigged 397 = .ok (.iconst 1, 1) := by decide +kernel
theorem dL_isRigged_398 : decode cL_isRigged 398 = .ok (.invokevirtual 97, 3) := by decide +kernel
theorem dL_isRigged_401 : decode cL_isRigged 401 = .ok (.iload 6, 2) := by decide +kernel
theorem dL_isRigged_403 : decode cL_isRigged 403 = .ok (.iconst 5, 1) := by decide +kernel
theorem dL_isRigged_404 : decode cL_isRigged 404 = .ok (.irem, 1) := by decide +kernel
theorem dL_isRigged_405 : decode cL_isRigged 405 = .ok (.if_icmp .ne 47, 3) := by decide +kernel
theorem dL_isRigged_408 : decode cL_isRigged 408 = .ok (.aload_n 0, 1) := by decide +kernel
theorem dL_isRigged_409 : decode cL_isRigged 409 = .ok (.iload 5, 2) := by decide +kernel
theorem dL_isRigged_411 : decode cL_isRigged 411 = .ok (.iconst 2, 1) := by decide +kernel
theorem dL_isRigged_412 : decode cL_isRigged 412 = .ok (.invokevirtual 97, 3) := by decide +kernel
theorem dL_isRigged_415 : decode cL_isRigged 415 = .ok (.aload_n 1, 1) := by decide +kernel
theorem dL_isRigged_416 : decode cL_isRigged 416 = .ok (.iconst 5, 1) := by decide +kernel
theorem dL_isRigged_417 : decode cL_isRigged 417 = .ok (.iaload, 1) := by decide +kernel
theorem dL_isRigged_418 : decode cL_isRigged 418 = .ok (.if_icmp .ne 34, 3) := by decide +kernel
theorem dL_isRigged_421 : decode cL_isRigged 421 = .ok (.iload 6, 2) := by decide +kernel
theorem dL_isRigged_423 : decode cL_isRigged 423 = .ok (.iconst 2, 1) := by decide +kernel
theorem dL_isRigged_424 : decode cL_isRigged 424 = .ok (.irem, 1) := by decide +kernel
theorem dL_isRigged_425 : decode cL_isRigged 425 = .ok (.ifCond .eq 23, 3) := by decide +kernel
theorem dL_isRigged_428 : decode cL_isRigged 428 = .ok (.aload_n 0, 1) := by decide +kernel
theorem dL_isRigged_429 : decode cL_isRigged 429 = .ok (.bipush 22, 2) := by decide +kernel
theorem dL_isRigged_431 : decode cL_isRigged 431 = .ok (.iload 5, 2) := by decide +kernel
theorem dL_isRigged_433 : decode cL_isRigged 433 = .ok (.iconst 0, 1) := by decide +kernel
theorem dL_isRigged_434 : decode cL_isRigged 434 = .ok (.iconst 0, 1) := by decide +kernel
theorem dL_isRigged_435 : decode cL_isRigged 435 = .ok (.iconst 0, 1) := by decide +kernel
theorem dL_isRigged_436 : decode cL_isRigged 436 = .ok (.invokestatic 123, 3) := by decide +kernel
theorem dL_isRigged_439 : decode cL_isRigged 439 = .ok (.iload 6, 2) := by decide +kernel
theorem dL_isRigged_441 : decode cL_isRigged 441 = .ok (.iconst 5, 1) := by decide +kernel
theorem dL_isRigged_442 : decode cL_isRigged 442 = .ok (.irem, 1) := by decide +kernel
theorem dL_isRigged_443 : decode cL_isRigged 443 = .ok (.i2l, 1) := by decide +kernel
theorem dL_isRigged_444 : decode cL_isRigged 444 = .ok (.lcmp, 1) := by decide +kernel
theorem dL_isRigged_445 : decode cL_isRigged 445 = .ok (.ifCond .ne 7, 3) := by decide +kernel
theorem dL_isRigged_448 : decode cL_isRigged 448 = .ok (.iconst 1, 1) := by decide +kernel
theorem dL_isRigged_449 : decode cL_isRigged 449 = .ok (.goto 4, 3) := by decide +kernel
theorem dL_isRigged_452 : decode cL_isRigged 452 = .ok (.iconst 0, 1) := by decide +kernel
theorem dL_isRigged_453 : decode cL_isRigged 453 = .ok (.ireturn, 1) := by decide +kernel
theorem dL_isRigged_454 : decode cL_isRigged 454 = .ok (.iload_n 2, 1) := by decide +kernel
theorem dL_isRigged_455 : decode cL_isRigged 455 = .ok (.bipush 10, 2) := by decide +kernel
theorem dL_isRigged_457 : decode cL_isRigged 457 = .ok (.if_icmp .ge 130, 3) := by decide +kernel
