theorem dL_isRigged_460 : decode cL_isRigged 460 = .ok (.aload_n 0, 1) := by decide +kernel
theorem dL_isRigged_461 : decode cL_isRigged 461 = .ok (.iload 5, 2) := by decide +kernel
theorem dL_isRigged_463 : decode cL_isRigged 463 = .ok (.iconst 1, 1) := by decide +kernel
theorem dL_isRigged_464 : decode cL_isRigged 464 = .ok (.invokevirtual 97, 3) := by decide +kernel
theorem dL_isRigged_467 : decode cL_isRigged 467 = .ok (.istore 9, 2) := by decide +kernel
theorem dL_isRigged_469 : decode cL_isRigged 469 = .ok (.aload_n 1, 1) := by decide +kernel
theorem dL_isRigged_470 : decode cL_isRigged 470 = .ok (.iconst 5, 1) := by decide +kernel
theorem dL_isRigged_471 : decode cL_isRigged 471 = .ok (.iaload, 1) := by decide +kernel
theorem dL_isRigged_472 : decode cL_isRigged 472 = .ok (.aload_n 0, 1) := by decide +kernel
theorem dL_isRigged_473 : decode cL_isRigged 473 = .ok (.iload 5, 2) := by decide +kernel
theorem dL_isRigged_475 : decode cL_isRigged 475 = .ok (.iconst 2, 1) := by decide +kernel
theorem dL_isRigged_476 : decode cL_isRigged 476 = .ok (.invokevirtual 97, 3) := by decide +kernel
theorem dL_isRigged_479 : decode cL_isRigged 479 = .ok (.isub, 1) := by decide +kernel
theorem dL_isRigged_480 : decode cL_isRigged 480 = .ok (.istore 10, 2) := by decide +kernel
theorem dL_isRigged_482 : decode cL_isRigged 482 = .ok (.aload_n 0, 1) := by decide +kernel
theorem dL_isRigged_483 : decode cL_isRigged 483 = .ok (.iload 5, 2) := by decide +kernel
theorem dL_isRigged_485 : decode cL_isRigged 485 = .ok (.iconst 4, 1) := by decide +kernel
theorem dL_isRigged_486 : decode cL_isRigged 486 = .ok (.invokevirtual 97, 3) := by decide +kernel
theorem dL_isRigged_489 : decode cL_isRigged 489 = .ok (.istore 11, 2) := by decide +kernel
theorem dL_isRigged_491 : decode cL_isRigged 491 = .ok (.aload_n 0, 1) := by decide +kernel
theorem dL_isRigged_492 : decode cL_isRigged 492 = .ok (.bipush 22, 2) := by decide +kernel
theorem dL_isRigged_494 : decode cL_isRigged 494 = .ok (.iload 5, 2) := by decide +kernel
theorem dL_isRigged_496 : decode cL_isRigged 496 = .ok (.iconst 0, 1) := by decide +kernel
theorem dL_isRigged_497 : decode cL_isRigged 497 = .ok (.iconst 0, 1) := by decide +kernel
theorem dL_isRigged_498 : decode cL_isRigged 498 = .ok (.iconst 0, 1) := by decide +kernel
theorem dL_isRigged_499 : decode cL_isRigged 499 = .ok (.invokestatic 123, 3) := by decide +kernel
theorem dL_isRigged_502 : decode cL_isRigged 502 = .ok (.lstore 12, 2) := by decide +kernel
theorem dL_isRigged_504 : decode cL_isRigged 504 = .ok (.lload 12, 2) := by decide +kernel
theorem dL_isRigged_506 : decode cL_isRigged 506 = .ok (.ldc2_w 113, 3) := by decide +kernel
theorem dL_isRigged_509 : decode cL_isRigged 509 = .ok (.lcmp, 1) := by decide +kernel
theorem dL_isRigged_510 : decode cL_isRigged 510 = .ok (.ifCond .ne 24, 3) := by decide +kernel
theorem dL_isRigged_513 : decode cL_isRigged 513 = .ok (.iload 7, 2) := by decide +kernel
theorem dL_isRigged_515 : decode cL_isRigged 515 = .ok (.ifCond .eq 11, 3) := by decide +kernel
theorem dL_isRigged_518 : decode cL_isRigged 518 = .ok (.iload 10, 2) := by decide +kernel
theorem dL_isRigged_520 : decode cL_isRigged 520 = .ok (.sipush 180, 3) := by decide +kernel
theorem dL_isRigged_523 : decode cL_isRigged 523 = .ok (.if_icmp .le 7, 3) := by decide +kernel
theorem dL_isRigged_526 : decode cL_isRigged 526 = .ok (.iconst 1, 1) := by decide +kernel
theorem dL_isRigged_527 : decode cL_isRigged 527 = .ok (.goto 59, 3) := by decide +kernel
theorem dL_isRigged_530 : decode cL_isRigged 530 = .ok (.iconst 0, 1) := by decide +kernel
theorem dL_isRigged_531 : decode cL_isRigged 531 = .ok (.goto 55, 3) := by decide +kernel
theorem dL_isRigged_534 : decode cL_isRigged 534 = .ok (.iload 7, 2) := by decide +kernel
theorem dL_isRigged_536 : decode cL_isRigged 536 = .ok (.ifCond .eq 49, 3) := by decide +kernel
theorem dL_isRigged_539 : decode cL_isRigged 539 = .ok (.iload 10, 2) := by decide +kernel
theorem dL_isRigged_541 : decode cL_isRigged 541 = .ok (.sipush 181, 3) := by decide +kernel
theorem dL_isRigged_544 : decode cL_isRigged 544 = .ok (.if_icmp .ge 41, 3) := by decide +kernel
theorem dL_isRigged_547 : decode cL_isRigged 547 = .ok (.lload 12, 2) := by decide +kernel
theorem dL_isRigged_549 : decode cL_isRigged 549 = .ok (.iload 9, 2) := by decide +kernel
theorem dL_isRigged_551 : decode cL_isRigged 551 = .ok (.i2l, 1) := by decide +kernel
theorem dL_isRigged_552 : decode cL_isRigged 552 = .ok (.lcmp, 1) := by decide +kernel
theorem dL_isRigged_553 : decode cL_isRigged 553 = .ok (.ifCond .ne 32, 3) := by decide +kernel
theorem dL_isRigged_556 : decode cL_isRigged 556 = .ok (.aload_n 0, 1) := by decide +kernel
theorem dL_isRigged_557 : decode cL_isRigged 557 = .ok (.iload 5, 2) := by decide +kernel
theorem dL_isRigged_559 : decode cL_isRigged 559 = .ok (.iconst 1, 1) := by decide +kernel
theorem dL_isRigged_560 : decode cL_isRigged 560 = .ok (.invokevirtual 97, 3) := by decide +kernel
theorem dL_isRigged_563 : decode cL_isRigged 563 = .ok (.iconst (-1), 1) := by decide +kernel
theorem dL_isRigged_564 : decode cL_isRigged 564 = .ok (.if_icmp .ne 21, 3) := by decide +kernel
theorem dL_isRigged_567 : decode cL_isRigged 567 = .ok (.aload_n 0, 1) := by decide +kernel
theorem dL_isRigged_568 : decode cL_isRigged 568 = .ok (.iload 5, 2) := by decide +kernel
theorem dL_isRigged_570 : decode cL_isRigged 570 = .ok (.iconst 4, 1) := by decide +kernel
theorem dL_isRigged_571 : decode cL_isRigged 571 = .ok (.invokevirtual 97, 3) := by decide +kernel
theorem dL_isRigged_574 : decode cL_isRigged 574 = .ok (.iload 11, 2) := by decide +kernel
theorem dL_isRigged_576 : decode cL_isRigged 576 = .ok (.iconst 1, 1) := by decide +kernel
theorem dL_isRigged_577 : decode cL_isRigged 577 = .ok (.iadd, 1) := by decide +kernel
theorem dL_isRigged_578 : decode cL_isRigged 578 = .ok (.if_icmp .ne 7, 3) := by decide +kernel
theorem dL_isRigged_581 : decode cL_isRigged 581 = .ok (.iconst 1, 1) := by decide +kernel
theorem dL_isRigged_582 : decode cL_isRigged 582 = .ok (.goto 4, 3) := by decide +kernel
theorem dL_isRigged_585 : decode cL_isRigged 585 = .ok (.iconst 0, 1) := by decide +kernel
theorem dL_isRigged_586 : decode cL_isRigged 586 = .ok (.ireturn, 1) := by decide +kernel
theorem dL_isRigged_587 : decode cL_isRigged 587 = .ok (.iload_n 2, 1) := by decide +kernel
theorem dL_isRigged_588 : decode cL_isRigged 588 = .ok (.bipush 12, 2) := by decide +kernel
theorem dL_isRigged_590 : decode cL_isRigged 590 = .ok (.if_icmp .ge 123, 3) := by decide +kernel
theorem dL_isRigged_593 : decode cL_isRigged 593 = .ok (.aload_n 0, 1) := by decide +kernel
theorem dL_isRigged_594 : decode cL_isRigged 594 = .ok (.iload 5, 2) := by decide +kernel
theorem dL_isRigged_596 : decode cL_isRigged 596 = .ok (.iconst 5, 1) := by decide +kernel
theorem dL_isRigged_597 : decode cL_isRigged 597 = .ok (.invokevirtual 97, 3) := by decide +kernel
theorem dL_isRigged_600 : decode cL_isRigged 600 = .ok (.istore 9, 2) := by decide +kernel
theorem dL_isRigged_602 : decode cL_isRigged 602 = .ok (.aload_n 0, 1) := by decide +kernel
theorem dL_isRigged_603 : decode cL_isRigged 603 = .ok (.bipush 23, 2) := by decide +kernel
theorem dL_isRigged_605 : decode cL_isRigged 605 = .ok (.iload 5, 2) := by decide +kernel
theorem dL_isRigged_607 : decode cL_isRigged 607 = .ok (.iload 6, 2) := by decide +kernel
theorem dL_isRigged_609 : decode cL_isRigged 609 = .ok (.iconst 2, 1) := by decide +kernel
theorem dL_isRigged_610 : decode cL_isRigged 610 = .ok (.irem, 1) := by decide +kernel
theorem dL_isRigged_611 : decode cL_isRigged 611 = .ok (.iconst 0, 1) := by decide +kernel
theorem dL_isRigged_612 : decode cL_isRigged 612 = .ok (.iconst 0, 1) := by decide +kernel
theorem dL_isRigged_613 : decode cL_isRigged 613 = .ok (.invokestatic 123, 3) := by decide +kernel
theorem dL_isRigged_616 : decode cL_isRigged 616 = .ok (.lstore 10, 2) := by decide +kernel
theorem dL_isRigged_618 : decode cL_isRigged 618 = .ok (.iload 7, 2) := by decide +kernel
theorem dL_isRigged_620 : decode cL_isRigged 620 = .ok (.ifCond .eq 20, 3) := by decide +kernel
theorem dL_isRigged_623 : decode cL_isRigged 623 = .ok (.lload 10, 2) := by decide +kernel
theorem dL_isRigged_625 : decode cL_isRigged 625 = .ok (.ldc2_w 113, 3) := by decide +kernel
theorem dL_isRigged_628 : decode cL_isRigged 628 = .ok (.lcmp, 1) := by decide +kernel
theorem dL_isRigged_629 : decode cL_isRigged 629 = .ok (.ifCond .ne 7, 3) := by decide +kernel
theorem dL_isRigged_632 : decode cL_isRigged 632 = .ok (.iconst 1, 1) := by decide +kernel
theorem dL_isRigged_633 : decode cL_isRigged 633 = .ok (.goto 79, 3) := by decide +kernel
theorem dL_isRigged_636 : decode cL_isRigged 636 = .ok (.iconst 0, 1) := by decide +kernel
theorem dL_isRigged_637 : decode cL_isRigged 637 = .ok (.goto 75, 3) := by decide +kernel
theorem dL_isRigged_640 : decode cL_isRigged 640 = .ok (.iload 6, 2) := by decide +kernel
theorem dL_isRigged_642 : decode cL_isRigged 642 = .ok (.iconst 2, 1) := by decide +kernel
theorem dL_isRigged_643 : decode cL_isRigged 643 = .ok (.irem, 1) := by decide +kernel
theorem dL_isRigged_644 : decode cL_isRigged 644 = .ok (.iconst 1, 1) := by decide +kernel
theorem dL_isRigged_645 : decode cL_isRigged 645 = .ok (.if_icmp .ne 30, 3) := by decide +kernel
theorem dL_isRigged_648 : decode cL_isRigged 648 = .ok (.lload 10, 2) := by decide +kernel
theorem dL_isRigged_650 : decode cL_isRigged 650 = .ok (.lconst 0, 1) := by decide +kernel
theorem dL_isRigged_651 : decode cL_isRigged 651 = .ok (.lcmp, 1) := by decide +kernel
theorem dL_isRigged_652 : decode cL_isRigged 652 = .ok (.ifCond .ne 19, 3) := by decide +kernel
theorem dL_isRigged_655 : decode cL_isRigged 655 = .ok (.aload_n 0, 1) := by decide +kernel
theorem dL_isRigged_656 : decode cL_isRigged 656 = .ok (.iload 5, 2) := by decide +kernel
theorem dL_isRigged_658 : decode cL_isRigged 658 = .ok (.iconst 5, 1) := by decide +kernel
theorem dL_isRigged_659 : decode cL_isRigged 659 = .ok (.invokevirtual 97, 3) := by decide +kernel
theorem dL_isRigged_662 : decode cL_isRigged 662 = .ok (.iload 9, 2) := by decide +kernel
theorem dL_isRigged_664 : decode cL_isRigged 664 = .ok (.if_icmp .ne 7, 3) := by decide +kernel
theorem dL_isRigged_667 : decode cL_isRigged 667 = .ok (.iconst 1, 1) := by decide +kernel
theorem dL_isRigged_668 : decode cL_isRigged 668 = .ok (.goto 44, 3) := by decide +kernel
theorem dL_isRigged_671 : decode cL_isRigged 671 = .ok (.iconst 0, 1) := by decide +kernel
theorem dL_isRigged_672 : decode cL_isRigged 672 = .ok (.goto 40, 3) := by decide +kernel
theorem dL_isRigged_675 : decode cL_isRigged 675 = .ok (.lload 10, 2) := by decide +kernel
theorem dL_isRigged_677 : decode cL_isRigged 677 = .ok (.lconst 0, 1) := by decide +kernel
theorem dL_isRigged_678 : decode cL_isRigged 678 = .ok (.lcmp, 1) := by decide +kernel
theorem dL_isRigged_679 : decode cL_isRigged 679 = .ok (.ifCond .le 32, 3) := by decide +kernel
theorem dL_isRigged_682 : decode cL_isRigged 682 = .ok (.lload 10, 2) := by decide +kernel
theorem dL_isRigged_684 : decode cL_isRigged 684 = .ok (.iload 9, 2) := by decide +kernel
theorem dL_isRigged_686 : decode cL_isRigged 686 = .ok (.iconst 1, 1) := by decide +kernel
theorem dL_isRigged_687 : decode cL_isRigged 687 = .ok (.iadd, 1) := by decide +kernel
theorem dL_isRigged_688 : decode cL_isRigged 688 = .ok (.i2l, 1) := by decide +kernel
theorem dL_isRigged_689 : decode cL_isRigged 689 = .ok (.lcmp, 1) := by decide +kernel
theorem dL_isRigged_690 : decode cL_isRigged 690 = .ok (.ifCond .gt 21, 3) := by decide +kernel
theorem dL_isRigged_693 : decode cL_isRigged 693 = .ok (.aload_n 0, 1) := by decide +kernel
theorem dL_isRigged_694 : decode cL_isRigged 694 = .ok (.iload 5, 2) := by decide +kernel
theorem dL_isRigged_696 : decode cL_isRigged 696 = .ok (.iconst 5, 1) := by decide +kernel
theorem dL_isRigged_697 : decode cL_isRigged 697 = .ok (.invokevirtual 97, 3) := by decide +kernel
theorem dL_isRigged_700 : decode cL_isRigged 700 = .ok (.iload 9, 2) := by decide +kernel
theorem dL_isRigged_702 : decode cL_isRigged 702 = .ok (.iconst 1, 1) := by decide +kernel
theorem dL_isRigged_703 : decode cL_isRigged 703 = .ok (.iadd, 1) := by decide +kernel
theorem dL_isRigged_704 : decode cL_isRigged 704 = .ok (.if_icmp .ne 7, 3) := by decide +kernel
theorem dL_isRigged_707 : decode cL_isRigged 707 = .ok (.iconst 1, 1) := by decide +kernel
