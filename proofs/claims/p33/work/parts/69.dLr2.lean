theorem dL_isRefused_449 : decode cL_isRefused 449 = .ok (.invokestatic 146, 3) := by decide +kernel
theorem dL_isRefused_452 : decode cL_isRefused 452 = .ok (.ifCond .eq 389, 3) := by decide +kernel
theorem dL_isRefused_455 : decode cL_isRefused 455 = .ok (.aload_n 0, 1) := by decide +kernel
theorem dL_isRefused_456 : decode cL_isRefused 456 = .ok (.bipush 14, 2) := by decide +kernel
theorem dL_isRefused_458 : decode cL_isRefused 458 = .ok (.iload 8, 2) := by decide +kernel
theorem dL_isRefused_460 : decode cL_isRefused 460 = .ok (.iconst 5, 1) := by decide +kernel
theorem dL_isRefused_461 : decode cL_isRefused 461 = .ok (.iconst 1, 1) := by decide +kernel
theorem dL_isRefused_462 : decode cL_isRefused 462 = .ok (.iconst 0, 1) := by decide +kernel
theorem dL_isRefused_463 : decode cL_isRefused 463 = .ok (.invokestatic 142, 3) := by decide +kernel
theorem dL_isRefused_466 : decode cL_isRefused 466 = .ok (.ifCond .eq 375, 3) := by decide +kernel
theorem dL_isRefused_469 : decode cL_isRefused 469 = .ok (.aload_n 0, 1) := by decide +kernel
theorem dL_isRefused_470 : decode cL_isRefused 470 = .ok (.bipush 14, 2) := by decide +kernel
theorem dL_isRefused_472 : decode cL_isRefused 472 = .ok (.iconst 5, 1) := by decide +kernel
theorem dL_isRefused_473 : decode cL_isRefused 473 = .ok (.iload 8, 2) := by decide +kernel
theorem dL_isRefused_475 : decode cL_isRefused 475 = .ok (.iconst 1, 1) := by decide +kernel
theorem dL_isRefused_476 : decode cL_isRefused 476 = .ok (.iconst 0, 1) := by decide +kernel
theorem dL_isRefused_477 : decode cL_isRefused 477 = .ok (.invokestatic 142, 3) := by decide +kernel
theorem dL_isRefused_480 : decode cL_isRefused 480 = .ok (.ifCond .eq 361, 3) := by decide +kernel
theorem dL_isRefused_483 : decode cL_isRefused 483 = .ok (.aload_n 0, 1) := by decide +kernel
theorem dL_isRefused_484 : decode cL_isRefused 484 = .ok (.bipush 14, 2) := by decide +kernel
theorem dL_isRefused_486 : decode cL_isRefused 486 = .ok (.iconst 5, 1) := by decide +kernel
theorem dL_isRefused_487 : decode cL_isRefused 487 = .ok (.iconst 5, 1) := by decide +kernel
theorem dL_isRefused_488 : decode cL_isRefused 488 = .ok (.iload_n 3, 1) := by decide +kernel
theorem dL_isRefused_489 : decode cL_isRefused 489 = .ok (.ifCond .eq 12, 3) := by decide +kernel
theorem dL_isRefused_492 : decode cL_isRefused 492 = .ok (.iconst (-1), 1) := by decide +kernel
theorem dL_isRefused_493 : decode cL_isRefused 493 = .ok (.iload_n 2, 1) := by decide +kernel
theorem dL_isRefused_494 : decode cL_isRefused 494 = .ok (.bipush 30, 2) := by decide +kernel
theorem dL_isRefused_496 : decode cL_isRefused 496 = .ok (.irem, 1) := by decide +kernel
theorem dL_isRefused_497 : decode cL_isRefused 497 = .ok (.isub, 1) := by decide +kernel
theorem dL_isRefused_498 : decode cL_isRefused 498 = .ok (.goto 4, 3) := by decide +kernel
theorem dL_isRefused_501 : decode cL_isRefused 501 = .ok (.iconst 4, 1) := by decide +kernel
theorem dL_isRefused_502 : decode cL_isRefused 502 = .ok (.iconst 0, 1) := by decide +kernel
theorem dL_isRefused_503 : decode cL_isRefused 503 = .ok (.invokestatic 142, 3) := by decide +kernel
theorem dL_isRefused_506 : decode cL_isRefused 506 = .ok (.ifCond .eq 335, 3) := by decide +kernel
theorem dL_isRefused_509 : decode cL_isRefused 509 = .ok (.aload_n 0, 1) := by decide +kernel
theorem dL_isRefused_510 : decode cL_isRefused 510 = .ok (.bipush 15, 2) := by decide +kernel
theorem dL_isRefused_512 : decode cL_isRefused 512 = .ok (.iload 8, 2) := by decide +kernel
theorem dL_isRefused_514 : decode cL_isRefused 514 = .ok (.iconst 0, 1) := by decide +kernel
theorem dL_isRefused_515 : decode cL_isRefused 515 = .ok (.iconst 0, 1) := by decide +kernel
theorem dL_isRefused_516 : decode cL_isRefused 516 = .ok (.iconst 0, 1) := by decide +kernel
theorem dL_isRefused_517 : decode cL_isRefused 517 = .ok (.invokestatic 142, 3) := by decide +kernel
theorem dL_isRefused_520 : decode cL_isRefused 520 = .ok (.ifCond .eq 321, 3) := by decide +kernel
theorem dL_isRefused_523 : decode cL_isRefused 523 = .ok (.aload_n 0, 1) := by decide +kernel
theorem dL_isRefused_524 : decode cL_isRefused 524 = .ok (.bipush 16, 2) := by decide +kernel
theorem dL_isRefused_526 : decode cL_isRefused 526 = .ok (.iload 8, 2) := by decide +kernel
theorem dL_isRefused_528 : decode cL_isRefused 528 = .ok (.iconst 5, 1) := by decide +kernel
theorem dL_isRefused_529 : decode cL_isRefused 529 = .ok (.iconst 0, 1) := by decide +kernel
theorem dL_isRefused_530 : decode cL_isRefused 530 = .ok (.iconst 0, 1) := by decide +kernel
theorem dL_isRefused_531 : decode cL_isRefused 531 = .ok (.invokestatic 142, 3) := by decide +kernel
theorem dL_isRefused_534 : decode cL_isRefused 534 = .ok (.ifCond .eq 307, 3) := by decide +kernel
theorem dL_isRefused_537 : decode cL_isRefused 537 = .ok (.aload_n 0, 1) := by decide +kernel
theorem dL_isRefused_538 : decode cL_isRefused 538 = .ok (.bipush 16, 2) := by decide +kernel
theorem dL_isRefused_540 : decode cL_isRefused 540 = .ok (.iconst 5, 1) := by decide +kernel
theorem dL_isRefused_541 : decode cL_isRefused 541 = .ok (.iload_n 3, 1) := by decide +kernel
theorem dL_isRefused_542 : decode cL_isRefused 542 = .ok (.ifCond .eq 7, 3) := by decide +kernel
theorem dL_isRefused_545 : decode cL_isRefused 545 = .ok (.iconst (-1), 1) := by decide +kernel
theorem dL_isRefused_546 : decode cL_isRefused 546 = .ok (.goto 10, 3) := by decide +kernel
theorem dL_isRefused_549 : decode cL_isRefused 549 = .ok (.ldc 150, 2) := by decide +kernel
theorem dL_isRefused_551 : decode cL_isRefused 551 = .ok (.iload_n 2, 1) := by decide +kernel
theorem dL_isRefused_552 : decode cL_isRefused 552 = .ok (.bipush 30, 2) := by decide +kernel
theorem dL_isRefused_554 : decode cL_isRefused 554 = .ok (.irem, 1) := by decide +kernel
theorem dL_isRefused_555 : decode cL_isRefused 555 = .ok (.iadd, 1) := by decide +kernel
theorem dL_isRefused_556 : decode cL_isRefused 556 = .ok (.iconst 0, 1) := by decide +kernel
theorem dL_isRefused_557 : decode cL_isRefused 557 = .ok (.iconst 0, 1) := by decide +kernel
theorem dL_isRefused_558 : decode cL_isRefused 558 = .ok (.invokestatic 142, 3) := by decide +kernel
theorem dL_isRefused_561 : decode cL_isRefused 561 = .ok (.ifCond .eq 280, 3) := by decide +kernel
theorem dL_isRefused_564 : decode cL_isRefused 564 = .ok (.aload_n 0, 1) := by decide +kernel
theorem dL_isRefused_565 : decode cL_isRefused 565 = .ok (.bipush 17, 2) := by decide +kernel
theorem dL_isRefused_567 : decode cL_isRefused 567 = .ok (.iload_n 3, 1) := by decide +kernel
theorem dL_isRefused_568 : decode cL_isRefused 568 = .ok (.ifCond .eq 12, 3) := by decide +kernel
theorem dL_isRefused_571 : decode cL_isRefused 571 = .ok (.iconst 0, 1) := by decide +kernel
theorem dL_isRefused_572 : decode cL_isRefused 572 = .ok (.iload_n 2, 1) := by decide +kernel
theorem dL_isRefused_573 : decode cL_isRefused 573 = .ok (.bipush 30, 2) := by decide +kernel
theorem dL_isRefused_575 : decode cL_isRefused 575 = .ok (.irem, 1) := by decide +kernel
theorem dL_isRefused_576 : decode cL_isRefused 576 = .ok (.isub, 1) := by decide +kernel
theorem dL_isRefused_577 : decode cL_isRefused 577 = .ok (.goto 6, 3) := by decide +kernel
theorem dL_isRefused_580 : decode cL_isRefused 580 = .ok (.sipush 401, 3) := by decide +kernel
theorem dL_isRefused_583 : decode cL_isRefused 583 = .ok (.iconst 0, 1) := by decide +kernel
theorem dL_isRefused_584 : decode cL_isRefused 584 = .ok (.iconst 0, 1) := by decide +kernel
theorem dL_isRefused_585 : decode cL_isRefused 585 = .ok (.iconst 0, 1) := by decide +kernel
theorem dL_isRefused_586 : decode cL_isRefused 586 = .ok (.invokestatic 142, 3) := by decide +kernel
theorem dL_isRefused_589 : decode cL_isRefused 589 = .ok (.ifCond .eq 252, 3) := by decide +kernel
theorem dL_isRefused_592 : decode cL_isRefused 592 = .ok (.aload_n 0, 1) := by decide +kernel
theorem dL_isRefused_593 : decode cL_isRefused 593 = .ok (.bipush 18, 2) := by decide +kernel
theorem dL_isRefused_595 : decode cL_isRefused 595 = .ok (.iload 4, 2) := by decide +kernel
theorem dL_isRefused_597 : decode cL_isRefused 597 = .ok (.iconst 0, 1) := by decide +kernel
theorem dL_isRefused_598 : decode cL_isRefused 598 = .ok (.iconst 0, 1) := by decide +kernel
theorem dL_isRefused_599 : decode cL_isRefused 599 = .ok (.iconst 0, 1) := by decide +kernel
theorem dL_isRefused_600 : decode cL_isRefused 600 = .ok (.invokestatic 146, 3) := by decide +kernel
theorem dL_isRefused_603 : decode cL_isRefused 603 = .ok (.ifCond .eq 238, 3) := by decide +kernel
theorem dL_isRefused_606 : decode cL_isRefused 606 = .ok (.aload_n 0, 1) := by decide +kernel
theorem dL_isRefused_607 : decode cL_isRefused 607 = .ok (.bipush 19, 2) := by decide +kernel
theorem dL_isRefused_609 : decode cL_isRefused 609 = .ok (.iload 6, 2) := by decide +kernel
theorem dL_isRefused_611 : decode cL_isRefused 611 = .ok (.sipush 999, 3) := by decide +kernel
theorem dL_isRefused_614 : decode cL_isRefused 614 = .ok (.iconst 0, 1) := by decide +kernel
theorem dL_isRefused_615 : decode cL_isRefused 615 = .ok (.iconst 0, 1) := by decide +kernel
theorem dL_isRefused_616 : decode cL_isRefused 616 = .ok (.invokestatic 146, 3) := by decide +kernel
theorem dL_isRefused_619 : decode cL_isRefused 619 = .ok (.ifCond .eq 222, 3) := by decide +kernel
theorem dL_isRefused_622 : decode cL_isRefused 622 = .ok (.aload_n 0, 1) := by decide +kernel
theorem dL_isRefused_623 : decode cL_isRefused 623 = .ok (.bipush 20, 2) := by decide +kernel
theorem dL_isRefused_625 : decode cL_isRefused 625 = .ok (.iload 6, 2) := by decide +kernel
theorem dL_isRefused_627 : decode cL_isRefused 627 = .ok (.iconst 0, 1) := by decide +kernel
theorem dL_isRefused_628 : decode cL_isRefused 628 = .ok (.iconst 0, 1) := by decide +kernel
theorem dL_isRefused_629 : decode cL_isRefused 629 = .ok (.iconst 0, 1) := by decide +kernel
theorem dL_isRefused_630 : decode cL_isRefused 630 = .ok (.invokestatic 146, 3) := by decide +kernel
theorem dL_isRefused_633 : decode cL_isRefused 633 = .ok (.ifCond .eq 208, 3) := by decide +kernel
theorem dL_isRefused_636 : decode cL_isRefused 636 = .ok (.aload_n 0, 1) := by decide +kernel
theorem dL_isRefused_637 : decode cL_isRefused 637 = .ok (.bipush 21, 2) := by decide +kernel
theorem dL_isRefused_639 : decode cL_isRefused 639 = .ok (.iload 6, 2) := by decide +kernel
theorem dL_isRefused_641 : decode cL_isRefused 641 = .ok (.bipush 9, 2) := by decide +kernel
theorem dL_isRefused_643 : decode cL_isRefused 643 = .ok (.iconst 0, 1) := by decide +kernel
theorem dL_isRefused_644 : decode cL_isRefused 644 = .ok (.iconst 0, 1) := by decide +kernel
theorem dL_isRefused_645 : decode cL_isRefused 645 = .ok (.invokestatic 146, 3) := by decide +kernel
theorem dL_isRefused_648 : decode cL_isRefused 648 = .ok (.ifCond .eq 193, 3) := by decide +kernel
theorem dL_isRefused_651 : decode cL_isRefused 651 = .ok (.aload_n 0, 1) := by decide +kernel
theorem dL_isRefused_652 : decode cL_isRefused 652 = .ok (.bipush 22, 2) := by decide +kernel
theorem dL_isRefused_654 : decode cL_isRefused 654 = .ok (.iload 6, 2) := by decide +kernel
theorem dL_isRefused_656 : decode cL_isRefused 656 = .ok (.iconst 0, 1) := by decide +kernel
theorem dL_isRefused_657 : decode cL_isRefused 657 = .ok (.iconst 0, 1) := by decide +kernel
theorem dL_isRefused_658 : decode cL_isRefused 658 = .ok (.iconst 0, 1) := by decide +kernel
theorem dL_isRefused_659 : decode cL_isRefused 659 = .ok (.invokestatic 146, 3) := by decide +kernel
theorem dL_isRefused_662 : decode cL_isRefused 662 = .ok (.ifCond .eq 179, 3) := by decide +kernel
theorem dL_isRefused_665 : decode cL_isRefused 665 = .ok (.aload_n 0, 1) := by decide +kernel
theorem dL_isRefused_666 : decode cL_isRefused 666 = .ok (.bipush 23, 2) := by decide +kernel
theorem dL_isRefused_668 : decode cL_isRefused 668 = .ok (.iload 6, 2) := by decide +kernel
theorem dL_isRefused_670 : decode cL_isRefused 670 = .ok (.iconst 0, 1) := by decide +kernel
theorem dL_isRefused_671 : decode cL_isRefused 671 = .ok (.iconst 0, 1) := by decide +kernel
theorem dL_isRefused_672 : decode cL_isRefused 672 = .ok (.iconst 0, 1) := by decide +kernel
theorem dL_isRefused_673 : decode cL_isRefused 673 = .ok (.invokestatic 146, 3) := by decide +kernel
theorem dL_isRefused_676 : decode cL_isRefused 676 = .ok (.ifCond .eq 165, 3) := by decide +kernel
theorem dL_isRefused_679 : decode cL_isRefused 679 = .ok (.aload_n 0, 1) := by decide +kernel
theorem dL_isRefused_680 : decode cL_isRefused 680 = .ok (.bipush 24, 2) := by decide +kernel
theorem dL_isRefused_682 : decode cL_isRefused 682 = .ok (.iload 4, 2) := by decide +kernel
theorem dL_isRefused_684 : decode cL_isRefused 684 = .ok (.iconst 0, 1) := by decide +kernel
theorem dL_isRefused_685 : decode cL_isRefused 685 = .ok (.iconst 0, 1) := by decide +kernel
theorem dL_isRefused_686 : decode cL_isRefused 686 = .ok (.iconst 0, 1) := by decide +kernel
theorem dL_isRefused_687 : decode cL_isRefused 687 = .ok (.invokestatic 146, 3) := by decide +kernel
theorem dL_isRefused_690 : decode cL_isRefused 690 = .ok (.ifCond .eq 151, 3) := by decide +kernel
theorem dL_isRefused_693 : decode cL_isRefused 693 = .ok (.aload_n 0, 1) := by decide +kernel
theorem dL_isRefused_694 : decode cL_isRefused 694 = .ok (.bipush 25, 2) := by decide +kernel
