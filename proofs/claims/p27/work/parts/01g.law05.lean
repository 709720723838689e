theorem dL_acts_427 : decode cL_acts 427 = .ok (.invokevirtual 61, 3) := by decide +kernel
theorem dL_acts_430 : decode cL_acts 430 = .ok (.aload_n 1, 1) := by decide +kernel
theorem dL_acts_431 : decode cL_acts 431 = .ok (.aload_n 2, 1) := by decide +kernel
theorem dL_acts_432 : decode cL_acts 432 = .ok (.aload_n 3, 1) := by decide +kernel
theorem dL_acts_433 : decode cL_acts 433 = .ok (.aload 4, 2) := by decide +kernel
theorem dL_acts_435 : decode cL_acts 435 = .ok (.iload 8, 2) := by decide +kernel
theorem dL_acts_437 : decode cL_acts 437 = .ok (.iload 11, 2) := by decide +kernel
theorem dL_acts_439 : decode cL_acts 439 = .ok (.lload 18, 2) := by decide +kernel
theorem dL_acts_441 : decode cL_acts 441 = .ok (.iconst 0, 1) := by decide +kernel
theorem dL_acts_442 : decode cL_acts 442 = .ok (.invokestatic 65, 3) := by decide +kernel
theorem dL_acts_445 : decode cL_acts 445 = .ok (.ifCond .eq 8, 3) := by decide +kernel
theorem dL_acts_448 : decode cL_acts 448 = .ok (.iload 20, 2) := by decide +kernel
theorem dL_acts_450 : decode cL_acts 450 = .ok (.goto 5, 3) := by decide +kernel
theorem dL_acts_453 : decode cL_acts 453 = .ok (.bipush (-2), 2) := by decide +kernel
theorem dL_acts_455 : decode cL_acts 455 = .ok (.if_icmp .ne 7, 3) := by decide +kernel
theorem dL_acts_458 : decode cL_acts 458 = .ok (.iconst 1, 1) := by decide +kernel
theorem dL_acts_459 : decode cL_acts 459 = .ok (.goto 4, 3) := by decide +kernel
theorem dL_acts_462 : decode cL_acts 462 = .ok (.iconst 0, 1) := by decide +kernel
theorem dL_acts_463 : decode cL_acts 463 = .ok (.ireturn, 1) := by decide +kernel
theorem dL_acts_464 : decode cL_acts 464 = .ok (.aload_n 3, 1) := by decide +kernel
theorem dL_acts_465 : decode cL_acts 465 = .ok (.iload 11, 2) := by decide +kernel
theorem dL_acts_467 : decode cL_acts 467 = .ok (.laload, 1) := by decide +kernel
theorem dL_acts_468 : decode cL_acts 468 = .ok (.lstore 21, 2) := by decide +kernel
theorem dL_acts_470 : decode cL_acts 470 = .ok (.lload 21, 2) := by decide +kernel
theorem dL_acts_472 : decode cL_acts 472 = .ok (.bipush 11, 2) := by decide +kernel
theorem dL_acts_474 : decode cL_acts 474 = .ok (.iload 10, 2) := by decide +kernel
theorem dL_acts_476 : decode cL_acts 476 = .ok (.invokestatic 15, 3) := by decide +kernel
theorem dL_acts_479 : decode cL_acts 479 = .ok (.istore 23, 2) := by decide +kernel
theorem dL_acts_481 : decode cL_acts 481 = .ok (.iload 23, 2) := by decide +kernel
theorem dL_acts_483 : decode cL_acts 483 = .ok (.bipush 10, 2) := by decide +kernel
theorem dL_acts_485 : decode cL_acts 485 = .ok (.if_icmp .ne 24, 3) := by decide +kernel
theorem dL_acts_488 : decode cL_acts 488 = .ok (.aload_n 0, 1) := by decide +kernel
theorem dL_acts_489 : decode cL_acts 489 = .ok (.iload 8, 2) := by decide +kernel
theorem dL_acts_491 : decode cL_acts 491 = .ok (.iload 9, 2) := by decide +kernel
theorem dL_acts_493 : decode cL_acts 493 = .ok (.iload 10, 2) := by decide +kernel
theorem dL_acts_495 : decode cL_acts 495 = .ok (.invokevirtual 69, 3) := by decide +kernel
theorem dL_acts_498 : decode cL_acts 498 = .ok (.bipush (-2), 2) := by decide +kernel
theorem dL_acts_500 : decode cL_acts 500 = .ok (.if_icmp .ne 7, 3) := by decide +kernel
theorem dL_acts_503 : decode cL_acts 503 = .ok (.iconst 1, 1) := by decide +kernel
theorem dL_acts_504 : decode cL_acts 504 = .ok (.goto 4, 3) := by decide +kernel
theorem dL_acts_507 : decode cL_acts 507 = .ok (.iconst 0, 1) := by decide +kernel
theorem dL_acts_508 : decode cL_acts 508 = .ok (.ireturn, 1) := by decide +kernel
theorem dL_acts_509 : decode cL_acts 509 = .ok (.aload_n 3, 1) := by decide +kernel
theorem dL_acts_510 : decode cL_acts 510 = .ok (.iload 11, 2) := by decide +kernel
theorem dL_acts_512 : decode cL_acts 512 = .ok (.dup2, 1) := by decide +kernel
theorem dL_acts_513 : decode cL_acts 513 = .ok (.laload, 1) := by decide +kernel
theorem dL_acts_514 : decode cL_acts 514 = .ok (.bipush 10, 2) := by decide +kernel
theorem dL_acts_516 : decode cL_acts 516 = .ok (.iload 23, 2) := by decide +kernel
theorem dL_acts_518 : decode cL_acts 518 = .ok (.isub, 1) := by decide +kernel
theorem dL_acts_519 : decode cL_acts 519 = .ok (.i2l, 1) := by decide +kernel
theorem dL_acts_520 : decode cL_acts 520 = .ok (.bipush 11, 2) := by decide +kernel
theorem dL_acts_522 : decode cL_acts 522 = .ok (.iload 10, 2) := by decide +kernel
theorem dL_acts_524 : decode cL_acts 524 = .ok (.invokestatic 9, 3) := by decide +kernel
theorem dL_acts_527 : decode cL_acts 527 = .ok (.lmul, 1) := by decide +kernel
theorem dL_acts_528 : decode cL_acts 528 = .ok (.ladd, 1) := by decide +kernel
theorem dL_acts_529 : decode cL_acts 529 = .ok (.lastore, 1) := by decide +kernel
theorem dL_acts_530 : decode cL_acts 530 = .ok (.aload_n 0, 1) := by decide +kernel
theorem dL_acts_531 : decode cL_acts 531 = .ok (.iload 8, 2) := by decide +kernel
theorem dL_acts_533 : decode cL_acts 533 = .ok (.iload 9, 2) := by decide +kernel
theorem dL_acts_535 : decode cL_acts 535 = .ok (.iload 10, 2) := by decide +kernel
theorem dL_acts_537 : decode cL_acts 537 = .ok (.invokevirtual 69, 3) := by decide +kernel
theorem dL_acts_540 : decode cL_acts 540 = .ok (.aload_n 1, 1) := by decide +kernel
theorem dL_acts_541 : decode cL_acts 541 = .ok (.aload_n 2, 1) := by decide +kernel
theorem dL_acts_542 : decode cL_acts 542 = .ok (.aload_n 3, 1) := by decide +kernel
theorem dL_acts_543 : decode cL_acts 543 = .ok (.aload 4, 2) := by decide +kernel
theorem dL_acts_545 : decode cL_acts 545 = .ok (.iload 8, 2) := by decide +kernel
theorem dL_acts_547 : decode cL_acts 547 = .ok (.iload 11, 2) := by decide +kernel
theorem dL_acts_549 : decode cL_acts 549 = .ok (.lload 21, 2) := by decide +kernel
theorem dL_acts_551 : decode cL_acts 551 = .ok (.iconst 0, 1) := by decide +kernel
theorem dL_acts_552 : decode cL_acts 552 = .ok (.invokestatic 65, 3) := by decide +kernel
theorem dL_acts_555 : decode cL_acts 555 = .ok (.ifCond .eq 8, 3) := by decide +kernel
theorem dL_acts_558 : decode cL_acts 558 = .ok (.iload 23, 2) := by decide +kernel
theorem dL_acts_560 : decode cL_acts 560 = .ok (.goto 5, 3) := by decide +kernel
theorem dL_acts_563 : decode cL_acts 563 = .ok (.bipush (-2), 2) := by decide +kernel
theorem dL_acts_565 : decode cL_acts 565 = .ok (.if_icmp .ne 7, 3) := by decide +kernel
theorem dL_acts_568 : decode cL_acts 568 = .ok (.iconst 1, 1) := by decide +kernel
theorem dL_acts_569 : decode cL_acts 569 = .ok (.goto 4, 3) := by decide +kernel
theorem dL_acts_572 : decode cL_acts 572 = .ok (.iconst 0, 1) := by decide +kernel
theorem dL_acts_573 : decode cL_acts 573 = .ok (.ireturn, 1) := by decide +kernel
theorem dL_acts_574 : decode cL_acts 574 = .ok (.iload 6, 2) := by decide +kernel
theorem dL_acts_576 : decode cL_acts 576 = .ok (.bipush 6, 2) := by decide +kernel
theorem dL_acts_578 : decode cL_acts 578 = .ok (.idiv, 1) := by decide +kernel
theorem dL_acts_579 : decode cL_acts 579 = .ok (.bipush 10, 2) := by decide +kernel
theorem dL_acts_581 : decode cL_acts 581 = .ok (.irem, 1) := by decide +kernel
theorem dL_acts_582 : decode cL_acts 582 = .ok (.istore 24, 2) := by decide +kernel
theorem dL_acts_584 : decode cL_acts 584 = .ok (.aload 4, 2) := by decide +kernel
theorem dL_acts_586 : decode cL_acts 586 = .ok (.iload 8, 2) := by decide +kernel
theorem dL_acts_588 : decode cL_acts 588 = .ok (.laload, 1) := by decide +kernel
theorem dL_acts_589 : decode cL_acts 589 = .ok (.lstore 25, 2) := by decide +kernel
theorem dL_acts_591 : decode cL_acts 591 = .ok (.lload 25, 2) := by decide +kernel
theorem dL_acts_593 : decode cL_acts 593 = .ok (.bipush 10, 2) := by decide +kernel
theorem dL_acts_595 : decode cL_acts 595 = .ok (.iload 24, 2) := by decide +kernel
theorem dL_acts_597 : decode cL_acts 597 = .ok (.invokestatic 15, 3) := by decide +kernel
theorem dL_acts_600 : decode cL_acts 600 = .ok (.istore 27, 2) := by decide +kernel
theorem dL_acts_602 : decode cL_acts 602 = .ok (.aload 4, 2) := by decide +kernel
theorem dL_acts_604 : decode cL_acts 604 = .ok (.iload 8, 2) := by decide +kernel
theorem dL_acts_606 : decode cL_acts 606 = .ok (.dup2, 1) := by decide +kernel
theorem dL_acts_607 : decode cL_acts 607 = .ok (.laload, 1) := by decide +kernel
theorem dL_acts_608 : decode cL_acts 608 = .ok (.iload 6, 2) := by decide +kernel
theorem dL_acts_610 : decode cL_acts 610 = .ok (.bipush 60, 2) := by decide +kernel
theorem dL_acts_612 : decode cL_acts 612 = .ok (.idiv, 1) := by decide +kernel
theorem dL_acts_613 : decode cL_acts 613 = .ok (.iconst 4, 1) := by decide +kernel
theorem dL_acts_614 : decode cL_acts 614 = .ok (.irem, 1) := by decide +kernel
theorem dL_acts_615 : decode cL_acts 615 = .ok (.iload 27, 2) := by decide +kernel
theorem dL_acts_617 : decode cL_acts 617 = .ok (.isub, 1) := by decide +kernel
theorem dL_acts_618 : decode cL_acts 618 = .ok (.i2l, 1) := by decide +kernel
theorem dL_acts_619 : decode cL_acts 619 = .ok (.bipush 10, 2) := by decide +kernel
theorem dL_acts_621 : decode cL_acts 621 = .ok (.iload 24, 2) := by decide +kernel
theorem dL_acts_623 : decode cL_acts 623 = .ok (.invokestatic 9, 3) := by decide +kernel
theorem dL_acts_626 : decode cL_acts 626 = .ok (.lmul, 1) := by decide +kernel
theorem dL_acts_627 : decode cL_acts 627 = .ok (.ladd, 1) := by decide +kernel
theorem dL_acts_628 : decode cL_acts 628 = .ok (.lastore, 1) := by decide +kernel
theorem dL_acts_629 : decode cL_acts 629 = .ok (.aload_n 0, 1) := by decide +kernel
theorem dL_acts_630 : decode cL_acts 630 = .ok (.iload 8, 2) := by decide +kernel
theorem dL_acts_632 : decode cL_acts 632 = .ok (.iload 24, 2) := by decide +kernel
theorem dL_acts_634 : decode cL_acts 634 = .ok (.iload 6, 2) := by decide +kernel
theorem dL_acts_636 : decode cL_acts 636 = .ok (.bipush 60, 2) := by decide +kernel
theorem dL_acts_638 : decode cL_acts 638 = .ok (.idiv, 1) := by decide +kernel
theorem dL_acts_639 : decode cL_acts 639 = .ok (.iconst 4, 1) := by decide +kernel
theorem dL_acts_640 : decode cL_acts 640 = .ok (.irem, 1) := by decide +kernel
theorem dL_acts_641 : decode cL_acts 641 = .ok (.invokevirtual 73, 3) := by decide +kernel
theorem dL_acts_644 : decode cL_acts 644 = .ok (.aload_n 1, 1) := by decide +kernel
theorem dL_acts_645 : decode cL_acts 645 = .ok (.aload_n 2, 1) := by decide +kernel
theorem dL_acts_646 : decode cL_acts 646 = .ok (.aload_n 3, 1) := by decide +kernel
theorem dL_acts_647 : decode cL_acts 647 = .ok (.aload 4, 2) := by decide +kernel
theorem dL_acts_649 : decode cL_acts 649 = .ok (.iload 8, 2) := by decide +kernel
theorem dL_acts_651 : decode cL_acts 651 = .ok (.iconst 0, 1) := by decide +kernel
theorem dL_acts_652 : decode cL_acts 652 = .ok (.lload 25, 2) := by decide +kernel
theorem dL_acts_654 : decode cL_acts 654 = .ok (.iconst 1, 1) := by decide +kernel
theorem dL_acts_655 : decode cL_acts 655 = .ok (.invokestatic 65, 3) := by decide +kernel
theorem dL_acts_658 : decode cL_acts 658 = .ok (.ifCond .eq 8, 3) := by decide +kernel
theorem dL_acts_661 : decode cL_acts 661 = .ok (.iload 27, 2) := by decide +kernel
theorem dL_acts_663 : decode cL_acts 663 = .ok (.goto 5, 3) := by decide +kernel
theorem dL_acts_666 : decode cL_acts 666 = .ok (.bipush (-2), 2) := by decide +kernel
theorem dL_acts_668 : decode cL_acts 668 = .ok (.if_icmp .ne 7, 3) := by decide +kernel
theorem dL_acts_671 : decode cL_acts 671 = .ok (.iconst 1, 1) := by decide +kernel
theorem dL_acts_672 : decode cL_acts 672 = .ok (.goto 4, 3) := by decide +kernel
theorem dL_acts_675 : decode cL_acts 675 = .ok (.iconst 0, 1) := by decide +kernel
theorem dL_acts_676 : decode cL_acts 676 = .ok (.ireturn, 1) := by decide +kernel
theorem dL_acts_677 : decode cL_acts 677 = .ok (.iload 14, 2) := by decide +kernel
theorem dL_acts_679 : decode cL_acts 679 = .ok (.ifCond .lt 15, 3) := by decide +kernel
theorem dL_acts_682 : decode cL_acts 682 = .ok (.aload_n 1, 1) := by decide +kernel
theorem dL_acts_683 : decode cL_acts 683 = .ok (.aload_n 3, 1) := by decide +kernel
theorem dL_acts_684 : decode cL_acts 684 = .ok (.aload 4, 2) := by decide +kernel
theorem dL_acts_686 : decode cL_acts 686 = .ok (.iload 14, 2) := by decide +kernel
theorem dL_acts_688 : decode cL_acts 688 = .ok (.invokestatic 34, 3) := by decide +kernel
theorem dL_acts_691 : decode cL_acts 691 = .ok (.ifCond .le 29, 3) := by decide +kernel
theorem dL_acts_694 : decode cL_acts 694 = .ok (.aload_n 0, 1) := by decide +kernel
theorem dL_acts_695 : decode cL_acts 695 = .ok (.iload 13, 2) := by decide +kernel
theorem dL_acts_697 : decode cL_acts 697 = .ok (.invokevirtual 76, 3) := by decide +kernel
theorem dL_acts_700 : decode cL_acts 700 = .ok (.iload 14, 2) := by decide +kernel
theorem dL_acts_702 : decode cL_acts 702 = .ok (.ifCond .ge 7, 3) := by decide +kernel
theorem dL_acts_705 : decode cL_acts 705 = .ok (.iconst (-1), 1) := by decide +kernel
theorem dL_acts_706 : decode cL_acts 706 = .ok (.goto 5, 3) := by decide +kernel
theorem dL_acts_709 : decode cL_acts 709 = .ok (.bipush (-2), 2) := by decide +kernel
theorem dL_acts_711 : decode cL_acts 711 = .ok (.if_icmp .ne 7, 3) := by decide +kernel
theorem dL_acts_714 : decode cL_acts 714 = .ok (.iconst 1, 1) := by decide +kernel
theorem dL_acts_715 : decode cL_acts 715 = .ok (.goto 4, 3) := by decide +kernel
theorem dL_acts_718 : decode cL_acts 718 = .ok (.iconst 0, 1) := by decide +kernel
theorem dL_acts_719 : decode cL_acts 719 = .ok (.ireturn, 1) := by decide +kernel
theorem dL_acts_720 : decode cL_acts 720 = .ok (.aload_n 1, 1) := by decide +kernel
theorem dL_acts_721 : decode cL_acts 721 = .ok (.iconst 4, 1) := by decide +kernel
theorem dL_acts_722 : decode cL_acts 722 = .ok (.iaload, 1) := by decide +kernel
theorem dL_acts_723 : decode cL_acts 723 = .ok (.iload 13, 2) := by decide +kernel
theorem dL_acts_725 : decode cL_acts 725 = .ok (.ishr, 1) := by decide +kernel
theorem dL_acts_726 : decode cL_acts 726 = .ok (.iconst 1, 1) := by decide +kernel
