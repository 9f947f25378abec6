theorem dL_isRefused_212 : decode cL_isRefused 212 = .ok (.bipush 9, 2) := by decide +kernel
theorem dL_isRefused_214 : decode cL_isRefused 214 = .ok (.invokestatic 146, 3) := by decide +kernel
theorem dL_isRefused_217 : decode cL_isRefused 217 = .ok (.ifCond .eq 624, 3) := by decide +kernel
theorem dL_isRefused_220 : decode cL_isRefused 220 = .ok (.aload_n 0, 1) := by decide +kernel
theorem dL_isRefused_221 : decode cL_isRefused 221 = .ok (.iconst 3, 1) := by decide +kernel
theorem dL_isRefused_222 : decode cL_isRefused 222 = .ok (.iload 5, 2) := by decide +kernel
theorem dL_isRefused_224 : decode cL_isRefused 224 = .ok (.iconst 0, 1) := by decide +kernel
theorem dL_isRefused_225 : decode cL_isRefused 225 = .ok (.iconst 0, 1) := by decide +kernel
theorem dL_isRefused_226 : decode cL_isRefused 226 = .ok (.iconst 0, 1) := by decide +kernel
theorem dL_isRefused_227 : decode cL_isRefused 227 = .ok (.invokestatic 146, 3) := by decide +kernel
theorem dL_isRefused_230 : decode cL_isRefused 230 = .ok (.ifCond .eq 611, 3) := by decide +kernel
theorem dL_isRefused_233 : decode cL_isRefused 233 = .ok (.aload_n 0, 1) := by decide +kernel
theorem dL_isRefused_234 : decode cL_isRefused 234 = .ok (.iconst 4, 1) := by decide +kernel
theorem dL_isRefused_235 : decode cL_isRefused 235 = .ok (.iload 4, 2) := by decide +kernel
theorem dL_isRefused_237 : decode cL_isRefused 237 = .ok (.iconst 0, 1) := by decide +kernel
theorem dL_isRefused_238 : decode cL_isRefused 238 = .ok (.iconst 0, 1) := by decide +kernel
theorem dL_isRefused_239 : decode cL_isRefused 239 = .ok (.iconst 0, 1) := by decide +kernel
theorem dL_isRefused_240 : decode cL_isRefused 240 = .ok (.invokestatic 146, 3) := by decide +kernel
theorem dL_isRefused_243 : decode cL_isRefused 243 = .ok (.ifCond .eq 598, 3) := by decide +kernel
theorem dL_isRefused_246 : decode cL_isRefused 246 = .ok (.aload_n 0, 1) := by decide +kernel
theorem dL_isRefused_247 : decode cL_isRefused 247 = .ok (.iconst 5, 1) := by decide +kernel
theorem dL_isRefused_248 : decode cL_isRefused 248 = .ok (.iload 5, 2) := by decide +kernel
theorem dL_isRefused_250 : decode cL_isRefused 250 = .ok (.iload 5, 2) := by decide +kernel
theorem dL_isRefused_252 : decode cL_isRefused 252 = .ok (.bipush 9, 2) := by decide +kernel
theorem dL_isRefused_254 : decode cL_isRefused 254 = .ok (.iconst 0, 1) := by decide +kernel
theorem dL_isRefused_255 : decode cL_isRefused 255 = .ok (.invokestatic 146, 3) := by decide +kernel
theorem dL_isRefused_258 : decode cL_isRefused 258 = .ok (.ifCond .eq 583, 3) := by decide +kernel
theorem dL_isRefused_261 : decode cL_isRefused 261 = .ok (.aload_n 0, 1) := by decide +kernel
theorem dL_isRefused_262 : decode cL_isRefused 262 = .ok (.bipush 6, 2) := by decide +kernel
theorem dL_isRefused_264 : decode cL_isRefused 264 = .ok (.iload_n 3, 1) := by decide +kernel
theorem dL_isRefused_265 : decode cL_isRefused 265 = .ok (.ifCond .eq 12, 3) := by decide +kernel
theorem dL_isRefused_268 : decode cL_isRefused 268 = .ok (.iconst (-1), 1) := by decide +kernel
theorem dL_isRefused_269 : decode cL_isRefused 269 = .ok (.iload_n 2, 1) := by decide +kernel
theorem dL_isRefused_270 : decode cL_isRefused 270 = .ok (.bipush 30, 2) := by decide +kernel
theorem dL_isRefused_272 : decode cL_isRefused 272 = .ok (.irem, 1) := by decide +kernel
theorem dL_isRefused_273 : decode cL_isRefused 273 = .ok (.isub, 1) := by decide +kernel
theorem dL_isRefused_274 : decode cL_isRefused 274 = .ok (.goto 11, 3) := by decide +kernel
theorem dL_isRefused_277 : decode cL_isRefused 277 = .ok (.aload_n 1, 1) := by decide +kernel
theorem dL_isRefused_278 : decode cL_isRefused 278 = .ok (.iconst 2, 1) := by decide +kernel
theorem dL_isRefused_279 : decode cL_isRefused 279 = .ok (.iaload, 1) := by decide +kernel
theorem dL_isRefused_280 : decode cL_isRefused 280 = .ok (.iload_n 2, 1) := by decide +kernel
theorem dL_isRefused_281 : decode cL_isRefused 281 = .ok (.bipush 30, 2) := by decide +kernel
theorem dL_isRefused_283 : decode cL_isRefused 283 = .ok (.irem, 1) := by decide +kernel
theorem dL_isRefused_284 : decode cL_isRefused 284 = .ok (.iadd, 1) := by decide +kernel
theorem dL_isRefused_285 : decode cL_isRefused 285 = .ok (.iconst 0, 1) := by decide +kernel
theorem dL_isRefused_286 : decode cL_isRefused 286 = .ok (.iconst 0, 1) := by decide +kernel
theorem dL_isRefused_287 : decode cL_isRefused 287 = .ok (.iconst 0, 1) := by decide +kernel
theorem dL_isRefused_288 : decode cL_isRefused 288 = .ok (.invokestatic 146, 3) := by decide +kernel
theorem dL_isRefused_291 : decode cL_isRefused 291 = .ok (.ifCond .eq 550, 3) := by decide +kernel
theorem dL_isRefused_294 : decode cL_isRefused 294 = .ok (.aload_n 0, 1) := by decide +kernel
theorem dL_isRefused_295 : decode cL_isRefused 295 = .ok (.bipush 7, 2) := by decide +kernel
theorem dL_isRefused_297 : decode cL_isRefused 297 = .ok (.iload 5, 2) := by decide +kernel
theorem dL_isRefused_299 : decode cL_isRefused 299 = .ok (.iload 5, 2) := by decide +kernel
theorem dL_isRefused_301 : decode cL_isRefused 301 = .ok (.iconst 0, 1) := by decide +kernel
theorem dL_isRefused_302 : decode cL_isRefused 302 = .ok (.iconst 0, 1) := by decide +kernel
theorem dL_isRefused_303 : decode cL_isRefused 303 = .ok (.invokestatic 146, 3) := by decide +kernel
theorem dL_isRefused_306 : decode cL_isRefused 306 = .ok (.ifCond .eq 535, 3) := by decide +kernel
theorem dL_isRefused_309 : decode cL_isRefused 309 = .ok (.aload_n 0, 1) := by decide +kernel
theorem dL_isRefused_310 : decode cL_isRefused 310 = .ok (.bipush 8, 2) := by decide +kernel
theorem dL_isRefused_312 : decode cL_isRefused 312 = .ok (.iload 5, 2) := by decide +kernel
theorem dL_isRefused_314 : decode cL_isRefused 314 = .ok (.iload 5, 2) := by decide +kernel
theorem dL_isRefused_316 : decode cL_isRefused 316 = .ok (.iconst 0, 1) := by decide +kernel
theorem dL_isRefused_317 : decode cL_isRefused 317 = .ok (.iconst 0, 1) := by decide +kernel
theorem dL_isRefused_318 : decode cL_isRefused 318 = .ok (.invokestatic 146, 3) := by decide +kernel
theorem dL_isRefused_321 : decode cL_isRefused 321 = .ok (.ifCond .eq 520, 3) := by decide +kernel
theorem dL_isRefused_324 : decode cL_isRefused 324 = .ok (.aload_n 0, 1) := by decide +kernel
theorem dL_isRefused_325 : decode cL_isRefused 325 = .ok (.bipush 9, 2) := by decide +kernel
theorem dL_isRefused_327 : decode cL_isRefused 327 = .ok (.iload 9, 2) := by decide +kernel
theorem dL_isRefused_329 : decode cL_isRefused 329 = .ok (.ldc 149, 2) := by decide +kernel
theorem dL_isRefused_331 : decode cL_isRefused 331 = .ok (.iconst 0, 1) := by decide +kernel
theorem dL_isRefused_332 : decode cL_isRefused 332 = .ok (.iconst 0, 1) := by decide +kernel
theorem dL_isRefused_333 : decode cL_isRefused 333 = .ok (.invokestatic 146, 3) := by decide +kernel
theorem dL_isRefused_336 : decode cL_isRefused 336 = .ok (.ifCond .eq 505, 3) := by decide +kernel
theorem dL_isRefused_339 : decode cL_isRefused 339 = .ok (.aload_n 0, 1) := by decide +kernel
theorem dL_isRefused_340 : decode cL_isRefused 340 = .ok (.bipush 9, 2) := by decide +kernel
theorem dL_isRefused_342 : decode cL_isRefused 342 = .ok (.iload_n 2, 1) := by decide +kernel
theorem dL_isRefused_343 : decode cL_isRefused 343 = .ok (.bipush 36, 2) := by decide +kernel
theorem dL_isRefused_345 : decode cL_isRefused 345 = .ok (.irem, 1) := by decide +kernel
theorem dL_isRefused_346 : decode cL_isRefused 346 = .ok (.iload_n 3, 1) := by decide +kernel
theorem dL_isRefused_347 : decode cL_isRefused 347 = .ok (.ifCond .eq 14, 3) := by decide +kernel
theorem dL_isRefused_350 : decode cL_isRefused 350 = .ok (.sipush (-10001), 3) := by decide +kernel
theorem dL_isRefused_353 : decode cL_isRefused 353 = .ok (.iload_n 2, 1) := by decide +kernel
theorem dL_isRefused_354 : decode cL_isRefused 354 = .ok (.bipush 30, 2) := by decide +kernel
theorem dL_isRefused_356 : decode cL_isRefused 356 = .ok (.irem, 1) := by decide +kernel
theorem dL_isRefused_357 : decode cL_isRefused 357 = .ok (.isub, 1) := by decide +kernel
theorem dL_isRefused_358 : decode cL_isRefused 358 = .ok (.goto 6, 3) := by decide +kernel
theorem dL_isRefused_361 : decode cL_isRefused 361 = .ok (.sipush 10001, 3) := by decide +kernel
theorem dL_isRefused_364 : decode cL_isRefused 364 = .ok (.iconst 0, 1) := by decide +kernel
theorem dL_isRefused_365 : decode cL_isRefused 365 = .ok (.iconst 0, 1) := by decide +kernel
theorem dL_isRefused_366 : decode cL_isRefused 366 = .ok (.invokestatic 142, 3) := by decide +kernel
theorem dL_isRefused_369 : decode cL_isRefused 369 = .ok (.ifCond .eq 472, 3) := by decide +kernel
theorem dL_isRefused_372 : decode cL_isRefused 372 = .ok (.aload_n 0, 1) := by decide +kernel
theorem dL_isRefused_373 : decode cL_isRefused 373 = .ok (.bipush 10, 2) := by decide +kernel
theorem dL_isRefused_375 : decode cL_isRefused 375 = .ok (.iload 8, 2) := by decide +kernel
theorem dL_isRefused_377 : decode cL_isRefused 377 = .ok (.iconst 0, 1) := by decide +kernel
theorem dL_isRefused_378 : decode cL_isRefused 378 = .ok (.iconst 0, 1) := by decide +kernel
theorem dL_isRefused_379 : decode cL_isRefused 379 = .ok (.iconst 0, 1) := by decide +kernel
theorem dL_isRefused_380 : decode cL_isRefused 380 = .ok (.invokestatic 142, 3) := by decide +kernel
theorem dL_isRefused_383 : decode cL_isRefused 383 = .ok (.ifCond .eq 458, 3) := by decide +kernel
theorem dL_isRefused_386 : decode cL_isRefused 386 = .ok (.aload_n 0, 1) := by decide +kernel
theorem dL_isRefused_387 : decode cL_isRefused 387 = .ok (.bipush 11, 2) := by decide +kernel
theorem dL_isRefused_389 : decode cL_isRefused 389 = .ok (.iload_n 3, 1) := by decide +kernel
theorem dL_isRefused_390 : decode cL_isRefused 390 = .ok (.ifCond .eq 12, 3) := by decide +kernel
theorem dL_isRefused_393 : decode cL_isRefused 393 = .ok (.iconst 0, 1) := by decide +kernel
theorem dL_isRefused_394 : decode cL_isRefused 394 = .ok (.iload_n 2, 1) := by decide +kernel
theorem dL_isRefused_395 : decode cL_isRefused 395 = .ok (.bipush 30, 2) := by decide +kernel
theorem dL_isRefused_397 : decode cL_isRefused 397 = .ok (.irem, 1) := by decide +kernel
theorem dL_isRefused_398 : decode cL_isRefused 398 = .ok (.isub, 1) := by decide +kernel
theorem dL_isRefused_399 : decode cL_isRefused 399 = .ok (.goto 5, 3) := by decide +kernel
theorem dL_isRefused_402 : decode cL_isRefused 402 = .ok (.bipush 51, 2) := by decide +kernel
theorem dL_isRefused_404 : decode cL_isRefused 404 = .ok (.iconst 0, 1) := by decide +kernel
theorem dL_isRefused_405 : decode cL_isRefused 405 = .ok (.iconst 0, 1) := by decide +kernel
theorem dL_isRefused_406 : decode cL_isRefused 406 = .ok (.iconst 0, 1) := by decide +kernel
theorem dL_isRefused_407 : decode cL_isRefused 407 = .ok (.invokestatic 142, 3) := by decide +kernel
theorem dL_isRefused_410 : decode cL_isRefused 410 = .ok (.ifCond .eq 431, 3) := by decide +kernel
theorem dL_isRefused_413 : decode cL_isRefused 413 = .ok (.aload_n 0, 1) := by decide +kernel
theorem dL_isRefused_414 : decode cL_isRefused 414 = .ok (.bipush 12, 2) := by decide +kernel
theorem dL_isRefused_416 : decode cL_isRefused 416 = .ok (.iload 9, 2) := by decide +kernel
theorem dL_isRefused_418 : decode cL_isRefused 418 = .ok (.iconst 0, 1) := by decide +kernel
theorem dL_isRefused_419 : decode cL_isRefused 419 = .ok (.iconst 0, 1) := by decide +kernel
theorem dL_isRefused_420 : decode cL_isRefused 420 = .ok (.iconst 0, 1) := by decide +kernel
theorem dL_isRefused_421 : decode cL_isRefused 421 = .ok (.invokestatic 146, 3) := by decide +kernel
theorem dL_isRefused_424 : decode cL_isRefused 424 = .ok (.ifCond .eq 417, 3) := by decide +kernel
theorem dL_isRefused_427 : decode cL_isRefused 427 = .ok (.aload_n 0, 1) := by decide +kernel
theorem dL_isRefused_428 : decode cL_isRefused 428 = .ok (.bipush 13, 2) := by decide +kernel
theorem dL_isRefused_430 : decode cL_isRefused 430 = .ok (.iload_n 3, 1) := by decide +kernel
theorem dL_isRefused_431 : decode cL_isRefused 431 = .ok (.ifCond .eq 7, 3) := by decide +kernel
theorem dL_isRefused_434 : decode cL_isRefused 434 = .ok (.iconst (-1), 1) := by decide +kernel
theorem dL_isRefused_435 : decode cL_isRefused 435 = .ok (.goto 11, 3) := by decide +kernel
theorem dL_isRefused_438 : decode cL_isRefused 438 = .ok (.aload_n 1, 1) := by decide +kernel
theorem dL_isRefused_439 : decode cL_isRefused 439 = .ok (.iconst 3, 1) := by decide +kernel
theorem dL_isRefused_440 : decode cL_isRefused 440 = .ok (.iaload, 1) := by decide +kernel
theorem dL_isRefused_441 : decode cL_isRefused 441 = .ok (.iload_n 2, 1) := by decide +kernel
theorem dL_isRefused_442 : decode cL_isRefused 442 = .ok (.bipush 30, 2) := by decide +kernel
theorem dL_isRefused_444 : decode cL_isRefused 444 = .ok (.irem, 1) := by decide +kernel
theorem dL_isRefused_445 : decode cL_isRefused 445 = .ok (.iadd, 1) := by decide +kernel
theorem dL_isRefused_446 : decode cL_isRefused 446 = .ok (.iconst 0, 1) := by decide +kernel
theorem dL_isRefused_447 : decode cL_isRefused 447 = .ok (.iconst 0, 1) := by decide +kernel
theorem dL_isRefused_448 : decode cL_isRefused 448 = .ok (.iconst 0, 1) := by decide +kernel
