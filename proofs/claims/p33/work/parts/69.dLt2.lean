theorem dL_isSewn_472 : decode cL_isSewn 472 = .ok (.bipush 30, 2) := by decide +kernel
theorem dL_isSewn_474 : decode cL_isSewn 474 = .ok (.if_icmp .ne 9, 3) := by decide +kernel
theorem dL_isSewn_477 : decode cL_isSewn 477 = .ok (.ldc2_w 113, 3) := by decide +kernel
theorem dL_isSewn_480 : decode cL_isSewn 480 = .ok (.goto 7, 3) := by decide +kernel
theorem dL_isSewn_483 : decode cL_isSewn 483 = .ok (.aload_n 1, 1) := by decide +kernel
theorem dL_isSewn_484 : decode cL_isSewn 484 = .ok (.iconst 2, 1) := by decide +kernel
theorem dL_isSewn_485 : decode cL_isSewn 485 = .ok (.iaload, 1) := by decide +kernel
theorem dL_isSewn_486 : decode cL_isSewn 486 = .ok (.i2l, 1) := by decide +kernel
theorem dL_isSewn_487 : decode cL_isSewn 487 = .ok (.lcmp, 1) := by decide +kernel
theorem dL_isSewn_488 : decode cL_isSewn 488 = .ok (.ifCond .ne 7, 3) := by decide +kernel
theorem dL_isSewn_491 : decode cL_isSewn 491 = .ok (.iconst 1, 1) := by decide +kernel
theorem dL_isSewn_492 : decode cL_isSewn 492 = .ok (.goto 4, 3) := by decide +kernel
theorem dL_isSewn_495 : decode cL_isSewn 495 = .ok (.iconst 0, 1) := by decide +kernel
theorem dL_isSewn_496 : decode cL_isSewn 496 = .ok (.istore 14, 2) := by decide +kernel
theorem dL_isSewn_498 : decode cL_isSewn 498 = .ok (.aload_n 1, 1) := by decide +kernel
theorem dL_isSewn_499 : decode cL_isSewn 499 = .ok (.iconst 2, 1) := by decide +kernel
theorem dL_isSewn_500 : decode cL_isSewn 500 = .ok (.dup2, 1) := by decide +kernel
theorem dL_isSewn_501 : decode cL_isSewn 501 = .ok (.iaload, 1) := by decide +kernel
theorem dL_isSewn_502 : decode cL_isSewn 502 = .ok (.lload 12, 2) := by decide +kernel
theorem dL_isSewn_504 : decode cL_isSewn 504 = .ok (.lconst 0, 1) := by decide +kernel
theorem dL_isSewn_505 : decode cL_isSewn 505 = .ok (.lcmp, 1) := by decide +kernel
theorem dL_isSewn_506 : decode cL_isSewn 506 = .ok (.ifCond .lt 7, 3) := by decide +kernel
theorem dL_isSewn_509 : decode cL_isSewn 509 = .ok (.iconst 1, 1) := by decide +kernel
theorem dL_isSewn_510 : decode cL_isSewn 510 = .ok (.goto 4, 3) := by decide +kernel
theorem dL_isSewn_513 : decode cL_isSewn 513 = .ok (.iconst 0, 1) := by decide +kernel
theorem dL_isSewn_514 : decode cL_isSewn 514 = .ok (.iadd, 1) := by decide +kernel
theorem dL_isSewn_515 : decode cL_isSewn 515 = .ok (.iastore, 1) := by decide +kernel
theorem dL_isSewn_516 : decode cL_isSewn 516 = .ok (.aload_n 0, 1) := by decide +kernel
theorem dL_isSewn_517 : decode cL_isSewn 517 = .ok (.iload 7, 2) := by decide +kernel
theorem dL_isSewn_519 : decode cL_isSewn 519 = .ok (.invokevirtual 23, 3) := by decide +kernel
theorem dL_isSewn_522 : decode cL_isSewn 522 = .ok (.aload_n 0, 1) := by decide +kernel
theorem dL_isSewn_523 : decode cL_isSewn 523 = .ok (.iload 8, 2) := by decide +kernel
theorem dL_isSewn_525 : decode cL_isSewn 525 = .ok (.invokevirtual 23, 3) := by decide +kernel
theorem dL_isSewn_528 : decode cL_isSewn 528 = .ok (.lcmp, 1) := by decide +kernel
theorem dL_isSewn_529 : decode cL_isSewn 529 = .ok (.ifCond .ge 12, 3) := by decide +kernel
theorem dL_isSewn_532 : decode cL_isSewn 532 = .ok (.aload_n 0, 1) := by decide +kernel
theorem dL_isSewn_533 : decode cL_isSewn 533 = .ok (.iload 7, 2) := by decide +kernel
theorem dL_isSewn_535 : decode cL_isSewn 535 = .ok (.invokevirtual 23, 3) := by decide +kernel
theorem dL_isSewn_538 : decode cL_isSewn 538 = .ok (.goto 9, 3) := by decide +kernel
theorem dL_isSewn_541 : decode cL_isSewn 541 = .ok (.aload_n 0, 1) := by decide +kernel
theorem dL_isSewn_542 : decode cL_isSewn 542 = .ok (.iload 8, 2) := by decide +kernel
theorem dL_isSewn_544 : decode cL_isSewn 544 = .ok (.invokevirtual 23, 3) := by decide +kernel
theorem dL_isSewn_547 : decode cL_isSewn 547 = .ok (.lstore 15, 2) := by decide +kernel
theorem dL_isSewn_549 : decode cL_isSewn 549 = .ok (.lload 15, 2) := by decide +kernel
theorem dL_isSewn_551 : decode cL_isSewn 551 = .ok (.iload 11, 2) := by decide +kernel
theorem dL_isSewn_553 : decode cL_isSewn 553 = .ok (.ifCond .ne 9, 3) := by decide +kernel
theorem dL_isSewn_556 : decode cL_isSewn 556 = .ok (.ldc2_w 168, 3) := by decide +kernel
theorem dL_isSewn_559 : decode cL_isSewn 559 = .ok (.goto 18, 3) := by decide +kernel
theorem dL_isSewn_562 : decode cL_isSewn 562 = .ok (.iload 11, 2) := by decide +kernel
theorem dL_isSewn_564 : decode cL_isSewn 564 = .ok (.iconst 1, 1) := by decide +kernel
theorem dL_isSewn_565 : decode cL_isSewn 565 = .ok (.if_icmp .ne 9, 3) := by decide +kernel
theorem dL_isSewn_568 : decode cL_isSewn 568 = .ok (.ldc2_w 170, 3) := by decide +kernel
theorem dL_isSewn_571 : decode cL_isSewn 571 = .ok (.goto 6, 3) := by decide +kernel
theorem dL_isSewn_574 : decode cL_isSewn 574 = .ok (.ldc2_w 172, 3) := by decide +kernel
theorem dL_isSewn_577 : decode cL_isSewn 577 = .ok (.lmul, 1) := by decide +kernel
theorem dL_isSewn_578 : decode cL_isSewn 578 = .ok (.ldc2_w 174, 3) := by decide +kernel
theorem dL_isSewn_581 : decode cL_isSewn 581 = .ok (.ldiv, 1) := by decide +kernel
theorem dL_isSewn_582 : decode cL_isSewn 582 = .ok (.lstore 17, 2) := by decide +kernel
theorem dL_isSewn_584 : decode cL_isSewn 584 = .ok (.iload 14, 2) := by decide +kernel
theorem dL_isSewn_586 : decode cL_isSewn 586 = .ok (.ifCond .eq 58, 3) := by decide +kernel
theorem dL_isSewn_589 : decode cL_isSewn 589 = .ok (.lload 12, 2) := by decide +kernel
theorem dL_isSewn_591 : decode cL_isSewn 591 = .ok (.lconst 0, 1) := by decide +kernel
theorem dL_isSewn_592 : decode cL_isSewn 592 = .ok (.lcmp, 1) := by decide +kernel
theorem dL_isSewn_593 : decode cL_isSewn 593 = .ok (.ifCond .ge 20, 3) := by decide +kernel
theorem dL_isSewn_596 : decode cL_isSewn 596 = .ok (.aload_n 0, 1) := by decide +kernel
theorem dL_isSewn_597 : decode cL_isSewn 597 = .ok (.iload 7, 2) := by decide +kernel
theorem dL_isSewn_599 : decode cL_isSewn 599 = .ok (.iload 8, 2) := by decide +kernel
theorem dL_isSewn_601 : decode cL_isSewn 601 = .ok (.invokevirtual 37, 3) := by decide +kernel
theorem dL_isSewn_604 : decode cL_isSewn 604 = .ok (.lload 9, 2) := by decide +kernel
theorem dL_isSewn_606 : decode cL_isSewn 606 = .ok (.lcmp, 1) := by decide +kernel
theorem dL_isSewn_607 : decode cL_isSewn 607 = .ok (.ifCond .ne 37, 3) := by decide +kernel
theorem dL_isSewn_610 : decode cL_isSewn 610 = .ok (.goto 30, 3) := by decide +kernel
theorem dL_isSewn_613 : decode cL_isSewn 613 = .ok (.aload_n 0, 1) := by decide +kernel
theorem dL_isSewn_614 : decode cL_isSewn 614 = .ok (.iload 7, 2) := by decide +kernel
theorem dL_isSewn_616 : decode cL_isSewn 616 = .ok (.iload 8, 2) := by decide +kernel
theorem dL_isSewn_618 : decode cL_isSewn 618 = .ok (.invokevirtual 37, 3) := by decide +kernel
theorem dL_isSewn_621 : decode cL_isSewn 621 = .ok (.lload 9, 2) := by decide +kernel
theorem dL_isSewn_623 : decode cL_isSewn 623 = .ok (.lload 17, 2) := by decide +kernel
theorem dL_isSewn_625 : decode cL_isSewn 625 = .ok (.lcmp, 1) := by decide +kernel
theorem dL_isSewn_626 : decode cL_isSewn 626 = .ok (.ifCond .le 8, 3) := by decide +kernel
theorem dL_isSewn_629 : decode cL_isSewn 629 = .ok (.lload 9, 2) := by decide +kernel
theorem dL_isSewn_631 : decode cL_isSewn 631 = .ok (.goto 5, 3) := by decide +kernel
theorem dL_isSewn_634 : decode cL_isSewn 634 = .ok (.lload 17, 2) := by decide +kernel
theorem dL_isSewn_636 : decode cL_isSewn 636 = .ok (.lcmp, 1) := by decide +kernel
theorem dL_isSewn_637 : decode cL_isSewn 637 = .ok (.ifCond .ne 7, 3) := by decide +kernel
theorem dL_isSewn_640 : decode cL_isSewn 640 = .ok (.iconst 1, 1) := by decide +kernel
theorem dL_isSewn_641 : decode cL_isSewn 641 = .ok (.goto 4, 3) := by decide +kernel
theorem dL_isSewn_644 : decode cL_isSewn 644 = .ok (.iconst 0, 1) := by decide +kernel
theorem dL_isSewn_645 : decode cL_isSewn 645 = .ok (.ireturn, 1) := by decide +kernel
theorem dL_isSewn_646 : decode cL_isSewn 646 = .ok (.aload_n 1, 1) := by decide +kernel
theorem dL_isSewn_647 : decode cL_isSewn 647 = .ok (.iconst 2, 1) := by decide +kernel
theorem dL_isSewn_648 : decode cL_isSewn 648 = .ok (.iaload, 1) := by decide +kernel
theorem dL_isSewn_649 : decode cL_isSewn 649 = .ok (.ifCond .ne 5, 3) := by decide +kernel
theorem dL_isSewn_652 : decode cL_isSewn 652 = .ok (.iconst 1, 1) := by decide +kernel
theorem dL_isSewn_653 : decode cL_isSewn 653 = .ok (.ireturn, 1) := by decide +kernel
theorem dL_isSewn_654 : decode cL_isSewn 654 = .ok (.aload_n 0, 1) := by decide +kernel
theorem dL_isSewn_655 : decode cL_isSewn 655 = .ok (.bipush 6, 2) := by decide +kernel
theorem dL_isSewn_657 : decode cL_isSewn 657 = .ok (.iload 6, 2) := by decide +kernel
theorem dL_isSewn_659 : decode cL_isSewn 659 = .ok (.iconst 5, 1) := by decide +kernel
theorem dL_isSewn_660 : decode cL_isSewn 660 = .ok (.idiv, 1) := by decide +kernel
theorem dL_isSewn_661 : decode cL_isSewn 661 = .ok (.aload_n 1, 1) := by decide +kernel
theorem dL_isSewn_662 : decode cL_isSewn 662 = .ok (.iconst 2, 1) := by decide +kernel
theorem dL_isSewn_663 : decode cL_isSewn 663 = .ok (.iaload, 1) := by decide +kernel
theorem dL_isSewn_664 : decode cL_isSewn 664 = .ok (.irem, 1) := by decide +kernel
theorem dL_isSewn_665 : decode cL_isSewn 665 = .ok (.iconst 0, 1) := by decide +kernel
theorem dL_isSewn_666 : decode cL_isSewn 666 = .ok (.iconst 0, 1) := by decide +kernel
theorem dL_isSewn_667 : decode cL_isSewn 667 = .ok (.iconst 0, 1) := by decide +kernel
theorem dL_isSewn_668 : decode cL_isSewn 668 = .ok (.invokestatic 123, 3) := by decide +kernel
theorem dL_isSewn_671 : decode cL_isSewn 671 = .ok (.lstore 11, 2) := by decide +kernel
theorem dL_isSewn_673 : decode cL_isSewn 673 = .ok (.lload 11, 2) := by decide +kernel
theorem dL_isSewn_675 : decode cL_isSewn 675 = .ok (.ldc2_w 105, 3) := by decide +kernel
theorem dL_isSewn_678 : decode cL_isSewn 678 = .ok (.lcmp, 1) := by decide +kernel
theorem dL_isSewn_679 : decode cL_isSewn 679 = .ok (.ifCond .ne 25, 3) := by decide +kernel
theorem dL_isSewn_682 : decode cL_isSewn 682 = .ok (.aload_n 0, 1) := by decide +kernel
theorem dL_isSewn_683 : decode cL_isSewn 683 = .ok (.iload 7, 2) := by decide +kernel
theorem dL_isSewn_685 : decode cL_isSewn 685 = .ok (.iload 8, 2) := by decide +kernel
theorem dL_isSewn_687 : decode cL_isSewn 687 = .ok (.invokevirtual 37, 3) := by decide +kernel
theorem dL_isSewn_690 : decode cL_isSewn 690 = .ok (.lload 9, 2) := by decide +kernel
theorem dL_isSewn_692 : decode cL_isSewn 692 = .ok (.lcmp, 1) := by decide +kernel
theorem dL_isSewn_693 : decode cL_isSewn 693 = .ok (.ifCond .ne 7, 3) := by decide +kernel
theorem dL_isSewn_696 : decode cL_isSewn 696 = .ok (.iconst 1, 1) := by decide +kernel
theorem dL_isSewn_697 : decode cL_isSewn 697 = .ok (.goto 57, 3) := by decide +kernel
theorem dL_isSewn_700 : decode cL_isSewn 700 = .ok (.iconst 0, 1) := by decide +kernel
theorem dL_isSewn_701 : decode cL_isSewn 701 = .ok (.goto 53, 3) := by decide +kernel
theorem dL_isSewn_704 : decode cL_isSewn 704 = .ok (.lload 11, 2) := by decide +kernel
theorem dL_isSewn_706 : decode cL_isSewn 706 = .ok (.lconst 0, 1) := by decide +kernel
theorem dL_isSewn_707 : decode cL_isSewn 707 = .ok (.lcmp, 1) := by decide +kernel
theorem dL_isSewn_708 : decode cL_isSewn 708 = .ok (.ifCond .lt 45, 3) := by decide +kernel
theorem dL_isSewn_711 : decode cL_isSewn 711 = .ok (.aload_n 0, 1) := by decide +kernel
theorem dL_isSewn_712 : decode cL_isSewn 712 = .ok (.iload 7, 2) := by decide +kernel
theorem dL_isSewn_714 : decode cL_isSewn 714 = .ok (.iload 8, 2) := by decide +kernel
theorem dL_isSewn_716 : decode cL_isSewn 716 = .ok (.invokevirtual 37, 3) := by decide +kernel
theorem dL_isSewn_719 : decode cL_isSewn 719 = .ok (.lload 9, 2) := by decide +kernel
theorem dL_isSewn_721 : decode cL_isSewn 721 = .ok (.lcmp, 1) := by decide +kernel
theorem dL_isSewn_722 : decode cL_isSewn 722 = .ok (.ifCond .gt 31, 3) := by decide +kernel
theorem dL_isSewn_725 : decode cL_isSewn 725 = .ok (.aload_n 0, 1) := by decide +kernel
theorem dL_isSewn_726 : decode cL_isSewn 726 = .ok (.bipush 6, 2) := by decide +kernel
theorem dL_isSewn_728 : decode cL_isSewn 728 = .ok (.iload 6, 2) := by decide +kernel
theorem dL_isSewn_730 : decode cL_isSewn 730 = .ok (.iconst 5, 1) := by decide +kernel
theorem dL_isSewn_731 : decode cL_isSewn 731 = .ok (.idiv, 1) := by decide +kernel
theorem dL_isSewn_732 : decode cL_isSewn 732 = .ok (.aload_n 1, 1) := by decide +kernel
theorem dL_isSewn_733 : decode cL_isSewn 733 = .ok (.iconst 2, 1) := by decide +kernel
theorem dL_isSewn_734 : decode cL_isSewn 734 = .ok (.iaload, 1) := by decide +kernel
theorem dL_isSewn_735 : decode cL_isSewn 735 = .ok (.irem, 1) := by decide +kernel
theorem dL_isSewn_736 : decode cL_isSewn 736 = .ok (.iconst 0, 1) := by decide +kernel
theorem dL_isSewn_737 : decode cL_isSewn 737 = .ok (.iconst 0, 1) := by decide +kernel
theorem dL_isSewn_738 : decode cL_isSewn 738 = .ok (.iconst 0, 1) := by decide +kernel
theorem dL_isSewn_739 : decode cL_isSewn 739 = .ok (.invokestatic 123, 3) := by decide +kernel
theorem dL_isSewn_742 : decode cL_isSewn 742 = .ok (.ldc2_w 105, 3) := by decide +kernel
theorem dL_isSewn_745 : decode cL_isSewn 745 = .ok (.lcmp, 1) := by decide +kernel
theorem dL_isSewn_746 : decode cL_isSewn 746 = .ok (.ifCond .ne 7, 3) := by decide +kernel
theorem dL_isSewn_749 : decode cL_isSewn 749 = .ok (.iconst 1, 1) := by decide +kernel
theorem dL_isSewn_750 : decode cL_isSewn 750 = .ok (.goto 4, 3) := by decide +kernel
theorem dL_isSewn_753 : decode cL_isSewn 753 = .ok (.iconst 0, 1) := by decide +kernel
theorem dL_isSewn_754 : decode cL_isSewn 754 = .ok (.ireturn, 1) := by decide +kernel
