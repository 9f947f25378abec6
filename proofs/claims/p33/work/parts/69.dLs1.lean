theorem dL_areSound_310 : decode cL_areSound 310 = .ok (.iconst 1, 1) := by decide +kernel
theorem dL_areSound_311 : decode cL_areSound 311 = .ok (.goto 4, 3) := by decide +kernel
theorem dL_areSound_314 : decode cL_areSound 314 = .ok (.iconst 0, 1) := by decide +kernel
theorem dL_areSound_315 : decode cL_areSound 315 = .ok (.istore 5, 2) := by decide +kernel
theorem dL_areSound_317 : decode cL_areSound 317 = .ok (.lconst 0, 1) := by decide +kernel
theorem dL_areSound_318 : decode cL_areSound 318 = .ok (.lstore 6, 2) := by decide +kernel
theorem dL_areSound_320 : decode cL_areSound 320 = .ok (.aload_n 0, 1) := by decide +kernel
theorem dL_areSound_321 : decode cL_areSound 321 = .ok (.invokevirtual 129, 3) := by decide +kernel
theorem dL_areSound_324 : decode cL_areSound 324 = .ok (.istore 8, 2) := by decide +kernel
theorem dL_areSound_326 : decode cL_areSound 326 = .ok (.iconst 0, 1) := by decide +kernel
theorem dL_areSound_327 : decode cL_areSound 327 = .ok (.istore 9, 2) := by decide +kernel
theorem dL_areSound_329 : decode cL_areSound 329 = .ok (.iload 9, 2) := by decide +kernel
theorem dL_areSound_331 : decode cL_areSound 331 = .ok (.aload_n 1, 1) := by decide +kernel
theorem dL_areSound_332 : decode cL_areSound 332 = .ok (.iconst 3, 1) := by decide +kernel
theorem dL_areSound_333 : decode cL_areSound 333 = .ok (.iaload, 1) := by decide +kernel
theorem dL_areSound_334 : decode cL_areSound 334 = .ok (.if_icmp .ge 69, 3) := by decide +kernel
theorem dL_areSound_337 : decode cL_areSound 337 = .ok (.iload 5, 2) := by decide +kernel
theorem dL_areSound_339 : decode cL_areSound 339 = .ok (.ifCond .eq 64, 3) := by decide +kernel
theorem dL_areSound_342 : decode cL_areSound 342 = .ok (.aload_n 0, 1) := by decide +kernel
theorem dL_areSound_343 : decode cL_areSound 343 = .ok (.iload 9, 2) := by decide +kernel
theorem dL_areSound_345 : decode cL_areSound 345 = .ok (.invokevirtual 57, 3) := by decide +kernel
theorem dL_areSound_348 : decode cL_areSound 348 = .ok (.lconst 0, 1) := by decide +kernel
theorem dL_areSound_349 : decode cL_areSound 349 = .ok (.lcmp, 1) := by decide +kernel
theorem dL_areSound_350 : decode cL_areSound 350 = .ok (.ifCond .lt 31, 3) := by decide +kernel
theorem dL_areSound_353 : decode cL_areSound 353 = .ok (.iload 8, 2) := by decide +kernel
theorem dL_areSound_355 : decode cL_areSound 355 = .ok (.iload 9, 2) := by decide +kernel
theorem dL_areSound_357 : decode cL_areSound 357 = .ok (.ishr, 1) := by decide +kernel
theorem dL_areSound_358 : decode cL_areSound 358 = .ok (.iconst 1, 1) := by decide +kernel
theorem dL_areSound_359 : decode cL_areSound 359 = .ok (.iand, 1) := by decide +kernel
theorem dL_areSound_360 : decode cL_areSound 360 = .ok (.ifCond .eq 17, 3) := by decide +kernel
theorem dL_areSound_363 : decode cL_areSound 363 = .ok (.aload_n 0, 1) := by decide +kernel
theorem dL_areSound_364 : decode cL_areSound 364 = .ok (.iload 9, 2) := by decide +kernel
theorem dL_areSound_366 : decode cL_areSound 366 = .ok (.invokevirtual 57, 3) := by decide +kernel
theorem dL_areSound_369 : decode cL_areSound 369 = .ok (.aload_n 3, 1) := by decide +kernel
theorem dL_areSound_370 : decode cL_areSound 370 = .ok (.iload 9, 2) := by decide +kernel
theorem dL_areSound_372 : decode cL_areSound 372 = .ok (.laload, 1) := by decide +kernel
theorem dL_areSound_373 : decode cL_areSound 373 = .ok (.lcmp, 1) := by decide +kernel
theorem dL_areSound_374 : decode cL_areSound 374 = .ok (.ifCond .gt 7, 3) := by decide +kernel
theorem dL_areSound_377 : decode cL_areSound 377 = .ok (.iconst 1, 1) := by decide +kernel
theorem dL_areSound_378 : decode cL_areSound 378 = .ok (.goto 4, 3) := by decide +kernel
theorem dL_areSound_381 : decode cL_areSound 381 = .ok (.iconst 0, 1) := by decide +kernel
theorem dL_areSound_382 : decode cL_areSound 382 = .ok (.istore 5, 2) := by decide +kernel
theorem dL_areSound_384 : decode cL_areSound 384 = .ok (.lload 6, 2) := by decide +kernel
theorem dL_areSound_386 : decode cL_areSound 386 = .ok (.iload 8, 2) := by decide +kernel
theorem dL_areSound_388 : decode cL_areSound 388 = .ok (.iload 9, 2) := by decide +kernel
theorem dL_areSound_390 : decode cL_areSound 390 = .ok (.ishr, 1) := by decide +kernel
theorem dL_areSound_391 : decode cL_areSound 391 = .ok (.iconst 1, 1) := by decide +kernel
theorem dL_areSound_392 : decode cL_areSound 392 = .ok (.iand, 1) := by decide +kernel
theorem dL_areSound_393 : decode cL_areSound 393 = .ok (.i2l, 1) := by decide +kernel
theorem dL_areSound_394 : decode cL_areSound 394 = .ok (.ladd, 1) := by decide +kernel
theorem dL_areSound_395 : decode cL_areSound 395 = .ok (.lstore 6, 2) := by decide +kernel
theorem dL_areSound_397 : decode cL_areSound 397 = .ok (.iinc 9 1, 3) := by decide +kernel
theorem dL_areSound_400 : decode cL_areSound 400 = .ok (.goto (-71), 3) := by decide +kernel
theorem dL_areSound_403 : decode cL_areSound 403 = .ok (.iload 5, 2) := by decide +kernel
theorem dL_areSound_405 : decode cL_areSound 405 = .ok (.ifCond .eq 22, 3) := by decide +kernel
theorem dL_areSound_408 : decode cL_areSound 408 = .ok (.iload 8, 2) := by decide +kernel
theorem dL_areSound_410 : decode cL_areSound 410 = .ok (.ifCond .lt 17, 3) := by decide +kernel
theorem dL_areSound_413 : decode cL_areSound 413 = .ok (.iload 8, 2) := by decide +kernel
theorem dL_areSound_415 : decode cL_areSound 415 = .ok (.iconst 1, 1) := by decide +kernel
theorem dL_areSound_416 : decode cL_areSound 416 = .ok (.aload_n 1, 1) := by decide +kernel
theorem dL_areSound_417 : decode cL_areSound 417 = .ok (.iconst 3, 1) := by decide +kernel
theorem dL_areSound_418 : decode cL_areSound 418 = .ok (.iaload, 1) := by decide +kernel
theorem dL_areSound_419 : decode cL_areSound 419 = .ok (.ishl, 1) := by decide +kernel
theorem dL_areSound_420 : decode cL_areSound 420 = .ok (.if_icmp .ge 7, 3) := by decide +kernel
theorem dL_areSound_423 : decode cL_areSound 423 = .ok (.iconst 1, 1) := by decide +kernel
theorem dL_areSound_424 : decode cL_areSound 424 = .ok (.goto 4, 3) := by decide +kernel
theorem dL_areSound_427 : decode cL_areSound 427 = .ok (.iconst 0, 1) := by decide +kernel
theorem dL_areSound_428 : decode cL_areSound 428 = .ok (.istore 5, 2) := by decide +kernel
theorem dL_areSound_430 : decode cL_areSound 430 = .ok (.iconst 0, 1) := by decide +kernel
theorem dL_areSound_431 : decode cL_areSound 431 = .ok (.istore 9, 2) := by decide +kernel
theorem dL_areSound_433 : decode cL_areSound 433 = .ok (.iload 9, 2) := by decide +kernel
theorem dL_areSound_435 : decode cL_areSound 435 = .ok (.aload_n 1, 1) := by decide +kernel
theorem dL_areSound_436 : decode cL_areSound 436 = .ok (.iconst 4, 1) := by decide +kernel
theorem dL_areSound_437 : decode cL_areSound 437 = .ok (.iaload, 1) := by decide +kernel
theorem dL_areSound_438 : decode cL_areSound 438 = .ok (.if_icmp .ge 193, 3) := by decide +kernel
theorem dL_areSound_441 : decode cL_areSound 441 = .ok (.iload 5, 2) := by decide +kernel
theorem dL_areSound_443 : decode cL_areSound 443 = .ok (.ifCond .eq 188, 3) := by decide +kernel
theorem dL_areSound_446 : decode cL_areSound 446 = .ok (.aload_n 0, 1) := by decide +kernel
theorem dL_areSound_447 : decode cL_areSound 447 = .ok (.iload 9, 2) := by decide +kernel
theorem dL_areSound_449 : decode cL_areSound 449 = .ok (.invokevirtual 81, 3) := by decide +kernel
theorem dL_areSound_452 : decode cL_areSound 452 = .ok (.istore 10, 2) := by decide +kernel
theorem dL_areSound_454 : decode cL_areSound 454 = .ok (.aload_n 0, 1) := by decide +kernel
theorem dL_areSound_455 : decode cL_areSound 455 = .ok (.iload 9, 2) := by decide +kernel
theorem dL_areSound_457 : decode cL_areSound 457 = .ok (.iconst 1, 1) := by decide +kernel
theorem dL_areSound_458 : decode cL_areSound 458 = .ok (.invokevirtual 97, 3) := by decide +kernel
theorem dL_areSound_461 : decode cL_areSound 461 = .ok (.ifCond .lt 7, 3) := by decide +kernel
theorem dL_areSound_464 : decode cL_areSound 464 = .ok (.iconst 1, 1) := by decide +kernel
theorem dL_areSound_465 : decode cL_areSound 465 = .ok (.goto 4, 3) := by decide +kernel
theorem dL_areSound_468 : decode cL_areSound 468 = .ok (.iconst 0, 1) := by decide +kernel
theorem dL_areSound_469 : decode cL_areSound 469 = .ok (.istore 11, 2) := by decide +kernel
theorem dL_areSound_471 : decode cL_areSound 471 = .ok (.iload 10, 2) := by decide +kernel
theorem dL_areSound_473 : decode cL_areSound 473 = .ok (.iconst (-1), 1) := by decide +kernel
theorem dL_areSound_474 : decode cL_areSound 474 = .ok (.if_icmp .lt 148, 3) := by decide +kernel
theorem dL_areSound_477 : decode cL_areSound 477 = .ok (.iload 10, 2) := by decide +kernel
theorem dL_areSound_479 : decode cL_areSound 479 = .ok (.bipush 9, 2) := by decide +kernel
theorem dL_areSound_481 : decode cL_areSound 481 = .ok (.if_icmp .ge 141, 3) := by decide +kernel
theorem dL_areSound_484 : decode cL_areSound 484 = .ok (.iload 11, 2) := by decide +kernel
theorem dL_areSound_486 : decode cL_areSound 486 = .ok (.aload_n 0, 1) := by decide +kernel
theorem dL_areSound_487 : decode cL_areSound 487 = .ok (.iload 9, 2) := by decide +kernel
theorem dL_areSound_489 : decode cL_areSound 489 = .ok (.iconst 2, 1) := by decide +kernel
theorem dL_areSound_490 : decode cL_areSound 490 = .ok (.invokevirtual 97, 3) := by decide +kernel
theorem dL_areSound_493 : decode cL_areSound 493 = .ok (.ifCond .lt 7, 3) := by decide +kernel
theorem dL_areSound_496 : decode cL_areSound 496 = .ok (.iconst 1, 1) := by decide +kernel
theorem dL_areSound_497 : decode cL_areSound 497 = .ok (.goto 4, 3) := by decide +kernel
theorem dL_areSound_500 : decode cL_areSound 500 = .ok (.iconst 0, 1) := by decide +kernel
theorem dL_areSound_501 : decode cL_areSound 501 = .ok (.if_icmp .ne 121, 3) := by decide +kernel
theorem dL_areSound_504 : decode cL_areSound 504 = .ok (.aload_n 0, 1) := by decide +kernel
theorem dL_areSound_505 : decode cL_areSound 505 = .ok (.iload 9, 2) := by decide +kernel
theorem dL_areSound_507 : decode cL_areSound 507 = .ok (.iconst 2, 1) := by decide +kernel
theorem dL_areSound_508 : decode cL_areSound 508 = .ok (.invokevirtual 97, 3) := by decide +kernel
theorem dL_areSound_511 : decode cL_areSound 511 = .ok (.aload_n 1, 1) := by decide +kernel
theorem dL_areSound_512 : decode cL_areSound 512 = .ok (.iconst 5, 1) := by decide +kernel
theorem dL_areSound_513 : decode cL_areSound 513 = .ok (.iaload, 1) := by decide +kernel
theorem dL_areSound_514 : decode cL_areSound 514 = .ok (.if_icmp .gt 108, 3) := by decide +kernel
theorem dL_areSound_517 : decode cL_areSound 517 = .ok (.aload_n 0, 1) := by decide +kernel
theorem dL_areSound_518 : decode cL_areSound 518 = .ok (.iload 9, 2) := by decide +kernel
theorem dL_areSound_520 : decode cL_areSound 520 = .ok (.iconst 4, 1) := by decide +kernel
theorem dL_areSound_521 : decode cL_areSound 521 = .ok (.invokevirtual 97, 3) := by decide +kernel
theorem dL_areSound_524 : decode cL_areSound 524 = .ok (.aload_n 0, 1) := by decide +kernel
theorem dL_areSound_525 : decode cL_areSound 525 = .ok (.iload 9, 2) := by decide +kernel
theorem dL_areSound_527 : decode cL_areSound 527 = .ok (.iconst 3, 1) := by decide +kernel
theorem dL_areSound_528 : decode cL_areSound 528 = .ok (.invokevirtual 97, 3) := by decide +kernel
theorem dL_areSound_531 : decode cL_areSound 531 = .ok (.if_icmp .gt 91, 3) := by decide +kernel
theorem dL_areSound_534 : decode cL_areSound 534 = .ok (.iload 11, 2) := by decide +kernel
theorem dL_areSound_536 : decode cL_areSound 536 = .ok (.ifCond .eq 8, 3) := by decide +kernel
theorem dL_areSound_539 : decode cL_areSound 539 = .ok (.iload 10, 2) := by decide +kernel
theorem dL_areSound_541 : decode cL_areSound 541 = .ok (.ifCond .le 81, 3) := by decide +kernel
theorem dL_areSound_544 : decode cL_areSound 544 = .ok (.aload_n 0, 1) := by decide +kernel
theorem dL_areSound_545 : decode cL_areSound 545 = .ok (.iload 9, 2) := by decide +kernel
theorem dL_areSound_547 : decode cL_areSound 547 = .ok (.iconst 3, 1) := by decide +kernel
theorem dL_areSound_548 : decode cL_areSound 548 = .ok (.invokevirtual 100, 3) := by decide +kernel
theorem dL_areSound_551 : decode cL_areSound 551 = .ok (.aload_n 0, 1) := by decide +kernel
theorem dL_areSound_552 : decode cL_areSound 552 = .ok (.iload 9, 2) := by decide +kernel
theorem dL_areSound_554 : decode cL_areSound 554 = .ok (.iconst 3, 1) := by decide +kernel
theorem dL_areSound_555 : decode cL_areSound 555 = .ok (.invokevirtual 97, 3) := by decide +kernel
theorem dL_areSound_558 : decode cL_areSound 558 = .ok (.if_icmp .ne 64, 3) := by decide +kernel
theorem dL_areSound_561 : decode cL_areSound 561 = .ok (.aload_n 0, 1) := by decide +kernel
theorem dL_areSound_562 : decode cL_areSound 562 = .ok (.iload 9, 2) := by decide +kernel
theorem dL_areSound_564 : decode cL_areSound 564 = .ok (.iconst 4, 1) := by decide +kernel
theorem dL_areSound_565 : decode cL_areSound 565 = .ok (.invokevirtual 100, 3) := by decide +kernel
theorem dL_areSound_568 : decode cL_areSound 568 = .ok (.aload_n 0, 1) := by decide +kernel
theorem dL_areSound_569 : decode cL_areSound 569 = .ok (.iload 9, 2) := by decide +kernel
theorem dL_areSound_571 : decode cL_areSound 571 = .ok (.iconst 4, 1) := by decide +kernel
theorem dL_areSound_572 : decode cL_areSound 572 = .ok (.invokevirtual 97, 3) := by decide +kernel
theorem dL_areSound_575 : decode cL_areSound 575 = .ok (.if_icmp .ne 47, 3) := by decide +kernel
theorem dL_areSound_578 : decode cL_areSound 578 = .ok (.aload_n 0, 1) := by decide +kernel
theorem dL_areSound_579 : decode cL_areSound 579 = .ok (.iload 9, 2) := by decide +kernel
theorem dL_areSound_581 : decode cL_areSound 581 = .ok (.iconst 5, 1) := by decide +kernel
theorem dL_areSound_582 : decode cL_areSound 582 = .ok (.invokevirtual 100, 3) := by decide +kernel
theorem dL_areSound_585 : decode cL_areSound 585 = .ok (.aload_n 0, 1) := by decide +kernel
theorem dL_areSound_586 : decode cL_areSound 586 = .ok (.iload 9, 2) := by decide +kernel
theorem dL_areSound_588 : decode cL_areSound 588 = .ok (.iconst 5, 1) := by decide +kernel
theorem dL_areSound_589 : decode cL_areSound 589 = .ok (.invokevirtual 97, 3) := by decide +kernel
theorem dL_areSound_592 : decode cL_areSound 592 = .ok (.if_icmp .ne 30, 3) := by decide +kernel
theorem dL_areSound_595 : decode cL_areSound 595 = .ok (.aload_n 0, 1) := by decide +kernel
theorem dL_areSound_596 : decode cL_areSound 596 = .ok (.iload 9, 2) := by decide +kernel
theorem dL_areSound_598 : decode cL_areSound 598 = .ok (.iconst 0, 1) := by decide +kernel
theorem dL_areSound_599 : decode cL_areSound 599 = .ok (.invokevirtual 97, 3) := by decide +kernel
theorem dL_areSound_602 : decode cL_areSound 602 = .ok (.ifCond .lt 20, 3) := by decide +kernel
theorem dL_areSound_605 : decode cL_areSound 605 = .ok (.aload_n 0, 1) := by decide +kernel
theorem dL_areSound_606 : decode cL_areSound 606 = .ok (.iload 9, 2) := by decide +kernel
theorem dL_areSound_608 : decode cL_areSound 608 = .ok (.iconst 0, 1) := by decide +kernel
theorem dL_areSound_609 : decode cL_areSound 609 = .ok (.invokevirtual 97, 3) := by decide +kernel
theorem dL_areSound_612 : decode cL_areSound 612 = .ok (.aload_n 1, 1) := by decide +kernel
theorem dL_areSound_613 : decode cL_areSound 613 = .ok (.iconst 0, 1) := by decide +kernel
theorem dL_areSound_614 : decode cL_areSound 614 = .ok (.iaload, 1) := by decide +kernel
theorem dL_areSound_615 : decode cL_areSound 615 = .ok (.if_icmp .ge 7, 3) := by decide +kernel
theorem dL_areSound_618 : decode cL_areSound 618 = .ok (.iconst 1, 1) := by decide +kernel
theorem dL_areSound_619 : decode cL_areSound 619 = .ok (.goto 4, 3) := by decide +kernel
theorem dL_areSound_622 : decode cL_areSound 622 = .ok (.iconst 0, 1) := by decide +kernel
theorem dL_areSound_623 : decode cL_areSound 623 = .ok (.istore 5, 2) := by decide +kernel
theorem dL_areSound_625 : decode cL_areSound 625 = .ok (.iinc 9 1, 3) := by decide +kernel
theorem dL_areSound_628 : decode cL_areSound 628 = .ok (.goto (-195), 3) := by decide +kernel
theorem dL_areSound_631 : decode cL_areSound 631 = .ok (.iload 5, 2) := by decide +kernel
theorem dL_areSound_633 : decode cL_areSound 633 = .ok (.ireturn, 1) := by decide +kernel
