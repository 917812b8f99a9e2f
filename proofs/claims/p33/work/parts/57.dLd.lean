theorem dL_built_364 : decode cL_built 364 = .ok (.lload 14, 2) := by decide +kernel
theorem dL_built_366 : decode cL_built 366 = .ok (.lconst 1, 1) := by decide +kernel
theorem dL_built_367 : decode cL_built 367 = .ok (.iload_n 1, 1) := by decide +kernel
theorem dL_built_368 : decode cL_built 368 = .ok (.i2l, 1) := by decide +kernel
theorem dL_built_369 : decode cL_built 369 = .ok (.invokestatic 197, 3) := by decide +kernel
theorem dL_built_372 : decode cL_built 372 = .ok (.ifCond .eq 59, 3) := by decide +kernel
theorem dL_built_375 : decode cL_built 375 = .ok (.aload_n 0, 1) := by decide +kernel
theorem dL_built_376 : decode cL_built 376 = .ok (.lload 12, 2) := by decide +kernel
theorem dL_built_378 : decode cL_built 378 = .ok (.lload 14, 2) := by decide +kernel
theorem dL_built_380 : decode cL_built 380 = .ok (.ladd, 1) := by decide +kernel
theorem dL_built_381 : decode cL_built 381 = .ok (.l2i, 1) := by decide +kernel
theorem dL_built_382 : decode cL_built 382 = .ok (.iload_n 1, 1) := by decide +kernel
theorem dL_built_383 : decode cL_built 383 = .ok (.irem, 1) := by decide +kernel
theorem dL_built_384 : decode cL_built 384 = .ok (.invokestatic 153, 3) := by decide +kernel
theorem dL_built_387 : decode cL_built 387 = .ok (.ldc2_w 193, 3) := by decide +kernel
theorem dL_built_390 : decode cL_built 390 = .ok (.lcmp, 1) := by decide +kernel
theorem dL_built_391 : decode cL_built 391 = .ok (.ifCond .eq 40, 3) := by decide +kernel
theorem dL_built_394 : decode cL_built 394 = .ok (.aload_n 0, 1) := by decide +kernel
theorem dL_built_395 : decode cL_built 395 = .ok (.iload 10, 2) := by decide +kernel
theorem dL_built_397 : decode cL_built 397 = .ok (.invokestatic 148, 3) := by decide +kernel
theorem dL_built_400 : decode cL_built 400 = .ok (.lconst 1, 1) := by decide +kernel
theorem dL_built_401 : decode cL_built 401 = .ok (.lcmp, 1) := by decide +kernel
theorem dL_built_402 : decode cL_built 402 = .ok (.ifCond .lt 29, 3) := by decide +kernel
theorem dL_built_405 : decode cL_built 405 = .ok (.aload_n 0, 1) := by decide +kernel
theorem dL_built_406 : decode cL_built 406 = .ok (.iload 10, 2) := by decide +kernel
theorem dL_built_408 : decode cL_built 408 = .ok (.invokestatic 148, 3) := by decide +kernel
theorem dL_built_411 : decode cL_built 411 = .ok (.aload_n 0, 1) := by decide +kernel
theorem dL_built_412 : decode cL_built 412 = .ok (.bipush 6, 2) := by decide +kernel
theorem dL_built_414 : decode cL_built 414 = .ok (.invokestatic 105, 3) := by decide +kernel
theorem dL_built_417 : decode cL_built 417 = .ok (.ladd, 1) := by decide +kernel
theorem dL_built_418 : decode cL_built 418 = .ok (.iload_n 1, 1) := by decide +kernel
theorem dL_built_419 : decode cL_built 419 = .ok (.i2l, 1) := by decide +kernel
theorem dL_built_420 : decode cL_built 420 = .ok (.lrem, 1) := by decide +kernel
theorem dL_built_421 : decode cL_built 421 = .ok (.lload 12, 2) := by decide +kernel
theorem dL_built_423 : decode cL_built 423 = .ok (.lcmp, 1) := by decide +kernel
theorem dL_built_424 : decode cL_built 424 = .ok (.ifCond .ne 7, 3) := by decide +kernel
theorem dL_built_427 : decode cL_built 427 = .ok (.iconst 1, 1) := by decide +kernel
theorem dL_built_428 : decode cL_built 428 = .ok (.goto 4, 3) := by decide +kernel
theorem dL_built_431 : decode cL_built 431 = .ok (.iconst 0, 1) := by decide +kernel
theorem dL_built_432 : decode cL_built 432 = .ok (.istore 9, 2) := by decide +kernel
theorem dL_built_434 : decode cL_built 434 = .ok (.lload 4, 2) := by decide +kernel
theorem dL_built_436 : decode cL_built 436 = .ok (.lload 14, 2) := by decide +kernel
theorem dL_built_438 : decode cL_built 438 = .ok (.ladd, 1) := by decide +kernel
theorem dL_built_439 : decode cL_built 439 = .ok (.lstore 4, 2) := by decide +kernel
theorem dL_built_441 : decode cL_built 441 = .ok (.lload 6, 2) := by decide +kernel
theorem dL_built_443 : decode cL_built 443 = .ok (.ldc2_w 193, 3) := by decide +kernel
theorem dL_built_446 : decode cL_built 446 = .ok (.lcmp, 1) := by decide +kernel
theorem dL_built_447 : decode cL_built 447 = .ok (.ifCond .eq 11, 3) := by decide +kernel
theorem dL_built_450 : decode cL_built 450 = .ok (.lload 14, 2) := by decide +kernel
theorem dL_built_452 : decode cL_built 452 = .ok (.lload 6, 2) := by decide +kernel
theorem dL_built_454 : decode cL_built 454 = .ok (.lcmp, 1) := by decide +kernel
theorem dL_built_455 : decode cL_built 455 = .ok (.ifCond .ge 8, 3) := by decide +kernel
theorem dL_built_458 : decode cL_built 458 = .ok (.lload 14, 2) := by decide +kernel
theorem dL_built_460 : decode cL_built 460 = .ok (.goto 5, 3) := by decide +kernel
theorem dL_built_463 : decode cL_built 463 = .ok (.lload 6, 2) := by decide +kernel
theorem dL_built_465 : decode cL_built 465 = .ok (.lstore 6, 2) := by decide +kernel
theorem dL_built_467 : decode cL_built 467 = .ok (.iload 9, 2) := by decide +kernel
theorem dL_built_469 : decode cL_built 469 = .ok (.ifCond .eq 63, 3) := by decide +kernel
theorem dL_built_472 : decode cL_built 472 = .ok (.iload 10, 2) := by decide +kernel
theorem dL_built_474 : decode cL_built 474 = .ok (.ifCond .eq 18, 3) := by decide +kernel
theorem dL_built_477 : decode cL_built 477 = .ok (.aload_n 0, 1) := by decide +kernel
theorem dL_built_478 : decode cL_built 478 = .ok (.iload 8, 2) := by decide +kernel
theorem dL_built_480 : decode cL_built 480 = .ok (.iconst 1, 1) := by decide +kernel
theorem dL_built_481 : decode cL_built 481 = .ok (.isub, 1) := by decide +kernel
theorem dL_built_482 : decode cL_built 482 = .ok (.invokestatic 161, 3) := by decide +kernel
theorem dL_built_485 : decode cL_built 485 = .ok (.ldc2_w 203, 3) := by decide +kernel
theorem dL_built_488 : decode cL_built 488 = .ok (.lcmp, 1) := by decide +kernel
theorem dL_built_489 : decode cL_built 489 = .ok (.ifCond .ne 43, 3) := by decide +kernel
theorem dL_built_492 : decode cL_built 492 = .ok (.aload_n 0, 1) := by decide +kernel
theorem dL_built_493 : decode cL_built 493 = .ok (.iload 8, 2) := by decide +kernel
theorem dL_built_495 : decode cL_built 495 = .ok (.invokestatic 161, 3) := by decide +kernel
theorem dL_built_498 : decode cL_built 498 = .ok (.bipush 97, 2) := by decide +kernel
theorem dL_built_500 : decode cL_built 500 = .ok (.iload 10, 2) := by decide +kernel
theorem dL_built_502 : decode cL_built 502 = .ok (.iadd, 1) := by decide +kernel
theorem dL_built_503 : decode cL_built 503 = .ok (.i2l, 1) := by decide +kernel
theorem dL_built_504 : decode cL_built 504 = .ok (.lcmp, 1) := by decide +kernel
theorem dL_built_505 : decode cL_built 505 = .ok (.ifCond .ne 27, 3) := by decide +kernel
theorem dL_built_508 : decode cL_built 508 = .ok (.aload_n 0, 1) := by decide +kernel
theorem dL_built_509 : decode cL_built 509 = .ok (.iload 8, 2) := by decide +kernel
theorem dL_built_511 : decode cL_built 511 = .ok (.iconst 1, 1) := by decide +kernel
theorem dL_built_512 : decode cL_built 512 = .ok (.iadd, 1) := by decide +kernel
theorem dL_built_513 : decode cL_built 513 = .ok (.invokestatic 161, 3) := by decide +kernel
theorem dL_built_516 : decode cL_built 516 = .ok (.ldc 205, 2) := by decide +kernel
theorem dL_built_518 : decode cL_built 518 = .ok (.iload 11, 2) := by decide +kernel
theorem dL_built_520 : decode cL_built 520 = .ok (.invokevirtual 207, 3) := by decide +kernel
theorem dL_built_523 : decode cL_built 523 = .ok (.i2l, 1) := by decide +kernel
theorem dL_built_524 : decode cL_built 524 = .ok (.lcmp, 1) := by decide +kernel
theorem dL_built_525 : decode cL_built 525 = .ok (.ifCond .ne 7, 3) := by decide +kernel
theorem dL_built_528 : decode cL_built 528 = .ok (.iconst 1, 1) := by decide +kernel
theorem dL_built_529 : decode cL_built 529 = .ok (.goto 4, 3) := by decide +kernel
theorem dL_built_532 : decode cL_built 532 = .ok (.iconst 0, 1) := by decide +kernel
theorem dL_built_533 : decode cL_built 533 = .ok (.istore 9, 2) := by decide +kernel
theorem dL_built_535 : decode cL_built 535 = .ok (.iload 11, 2) := by decide +kernel
theorem dL_built_537 : decode cL_built 537 = .ok (.ifCond .ne 8, 3) := by decide +kernel
theorem dL_built_540 : decode cL_built 540 = .ok (.lload 12, 2) := by decide +kernel
theorem dL_built_542 : decode cL_built 542 = .ok (.goto 23, 3) := by decide +kernel
theorem dL_built_545 : decode cL_built 545 = .ok (.iload 11, 2) := by decide +kernel
theorem dL_built_547 : decode cL_built 547 = .ok (.iconst 2, 1) := by decide +kernel
theorem dL_built_548 : decode cL_built 548 = .ok (.if_icmp .ne 14, 3) := by decide +kernel
theorem dL_built_551 : decode cL_built 551 = .ok (.aload_n 0, 1) := by decide +kernel
theorem dL_built_552 : decode cL_built 552 = .ok (.iload 10, 2) := by decide +kernel
theorem dL_built_554 : decode cL_built 554 = .ok (.bipush 7, 2) := by decide +kernel
theorem dL_built_556 : decode cL_built 556 = .ok (.invokestatic 126, 3) := by decide +kernel
theorem dL_built_559 : decode cL_built 559 = .ok (.goto 6, 3) := by decide +kernel
theorem dL_built_562 : decode cL_built 562 = .ok (.ldc2_w 193, 3) := by decide +kernel
theorem dL_built_565 : decode cL_built 565 = .ok (.lstore 16, 2) := by decide +kernel
theorem dL_built_567 : decode cL_built 567 = .ok (.iload 8, 2) := by decide +kernel
theorem dL_built_569 : decode cL_built 569 = .ok (.lload 16, 2) := by decide +kernel
theorem dL_built_571 : decode cL_built 571 = .ok (.lconst 0, 1) := by decide +kernel
theorem dL_built_572 : decode cL_built 572 = .ok (.lcmp, 1) := by decide +kernel
theorem dL_built_573 : decode cL_built 573 = .ok (.ifCond .ge 7, 3) := by decide +kernel
theorem dL_built_576 : decode cL_built 576 = .ok (.iconst 2, 1) := by decide +kernel
theorem dL_built_577 : decode cL_built 577 = .ok (.goto 17, 3) := by decide +kernel
theorem dL_built_580 : decode cL_built 580 = .ok (.lload 16, 2) := by decide +kernel
theorem dL_built_582 : decode cL_built 582 = .ok (.ldc2_w 213, 3) := by decide +kernel
theorem dL_built_585 : decode cL_built 585 = .ok (.lcmp, 1) := by decide +kernel
theorem dL_built_586 : decode cL_built 586 = .ok (.ifCond .ge 7, 3) := by decide +kernel
theorem dL_built_589 : decode cL_built 589 = .ok (.iconst 3, 1) := by decide +kernel
theorem dL_built_590 : decode cL_built 590 = .ok (.goto 4, 3) := by decide +kernel
theorem dL_built_593 : decode cL_built 593 = .ok (.iconst 4, 1) := by decide +kernel
theorem dL_built_594 : decode cL_built 594 = .ok (.iadd, 1) := by decide +kernel
theorem dL_built_595 : decode cL_built 595 = .ok (.istore 8, 2) := by decide +kernel
theorem dL_built_597 : decode cL_built 597 = .ok (.iload 9, 2) := by decide +kernel
theorem dL_built_599 : decode cL_built 599 = .ok (.ifCond .eq 67, 3) := by decide +kernel
theorem dL_built_602 : decode cL_built 602 = .ok (.lload 16, 2) := by decide +kernel
theorem dL_built_604 : decode cL_built 604 = .ok (.lconst 0, 1) := by decide +kernel
theorem dL_built_605 : decode cL_built 605 = .ok (.lcmp, 1) := by decide +kernel
theorem dL_built_606 : decode cL_built 606 = .ok (.ifCond .lt 25, 3) := by decide +kernel
theorem dL_built_609 : decode cL_built 609 = .ok (.aload_n 0, 1) := by decide +kernel
theorem dL_built_610 : decode cL_built 610 = .ok (.iload 8, 2) := by decide +kernel
theorem dL_built_612 : decode cL_built 612 = .ok (.iconst 1, 1) := by decide +kernel
theorem dL_built_613 : decode cL_built 613 = .ok (.isub, 1) := by decide +kernel
theorem dL_built_614 : decode cL_built 614 = .ok (.invokestatic 161, 3) := by decide +kernel
theorem dL_built_617 : decode cL_built 617 = .ok (.ldc2_w 215, 3) := by decide +kernel
theorem dL_built_620 : decode cL_built 620 = .ok (.lload 16, 2) := by decide +kernel
theorem dL_built_622 : decode cL_built 622 = .ok (.ldc2_w 213, 3) := by decide +kernel
theorem dL_built_625 : decode cL_built 625 = .ok (.lrem, 1) := by decide +kernel
theorem dL_built_626 : decode cL_built 626 = .ok (.ladd, 1) := by decide +kernel
theorem dL_built_627 : decode cL_built 627 = .ok (.lcmp, 1) := by decide +kernel
theorem dL_built_628 : decode cL_built 628 = .ok (.ifCond .ne 38, 3) := by decide +kernel
theorem dL_built_631 : decode cL_built 631 = .ok (.lload 16, 2) := by decide +kernel
theorem dL_built_633 : decode cL_built 633 = .ok (.ldc2_w 213, 3) := by decide +kernel
theorem dL_built_636 : decode cL_built 636 = .ok (.lcmp, 1) := by decide +kernel
theorem dL_built_637 : decode cL_built 637 = .ok (.ifCond .lt 25, 3) := by decide +kernel
theorem dL_built_640 : decode cL_built 640 = .ok (.aload_n 0, 1) := by decide +kernel
theorem dL_built_641 : decode cL_built 641 = .ok (.iload 8, 2) := by decide +kernel
theorem dL_built_643 : decode cL_built 643 = .ok (.iconst 2, 1) := by decide +kernel
theorem dL_built_644 : decode cL_built 644 = .ok (.isub, 1) := by decide +kernel
theorem dL_built_645 : decode cL_built 645 = .ok (.invokestatic 161, 3) := by decide +kernel
theorem dL_built_648 : decode cL_built 648 = .ok (.ldc2_w 215, 3) := by decide +kernel
theorem dL_built_651 : decode cL_built 651 = .ok (.lload 16, 2) := by decide +kernel
theorem dL_built_653 : decode cL_built 653 = .ok (.ldc2_w 213, 3) := by decide +kernel
theorem dL_built_656 : decode cL_built 656 = .ok (.ldiv, 1) := by decide +kernel
theorem dL_built_657 : decode cL_built 657 = .ok (.ladd, 1) := by decide +kernel
theorem dL_built_658 : decode cL_built 658 = .ok (.lcmp, 1) := by decide +kernel
theorem dL_built_659 : decode cL_built 659 = .ok (.ifCond .ne 7, 3) := by decide +kernel
theorem dL_built_662 : decode cL_built 662 = .ok (.iconst 1, 1) := by decide +kernel
theorem dL_built_663 : decode cL_built 663 = .ok (.goto 4, 3) := by decide +kernel
theorem dL_built_666 : decode cL_built 666 = .ok (.iconst 0, 1) := by decide +kernel
theorem dL_built_667 : decode cL_built 667 = .ok (.istore 9, 2) := by decide +kernel
theorem dL_built_669 : decode cL_built 669 = .ok (.iinc 8 1, 3) := by decide +kernel
theorem dL_built_672 : decode cL_built 672 = .ok (.iinc 10 1, 3) := by decide +kernel
theorem dL_built_675 : decode cL_built 675 = .ok (.goto (-642), 3) := by decide +kernel
theorem dL_built_678 : decode cL_built 678 = .ok (.iload 9, 2) := by decide +kernel
theorem dL_built_680 : decode cL_built 680 = .ok (.ifCond .eq 83, 3) := by decide +kernel
theorem dL_built_683 : decode cL_built 683 = .ok (.aload_n 0, 1) := by decide +kernel
theorem dL_built_684 : decode cL_built 684 = .ok (.iload_n 2, 1) := by decide +kernel
theorem dL_built_685 : decode cL_built 685 = .ok (.ifCond .ne 7, 3) := by decide +kernel
theorem dL_built_688 : decode cL_built 688 = .ok (.iconst 0, 1) := by decide +kernel
theorem dL_built_689 : decode cL_built 689 = .ok (.goto 7, 3) := by decide +kernel
theorem dL_built_692 : decode cL_built 692 = .ok (.iload 8, 2) := by decide +kernel
theorem dL_built_694 : decode cL_built 694 = .ok (.iconst 1, 1) := by decide +kernel
theorem dL_built_695 : decode cL_built 695 = .ok (.isub, 1) := by decide +kernel
theorem dL_built_696 : decode cL_built 696 = .ok (.invokestatic 161, 3) := by decide +kernel
theorem dL_built_699 : decode cL_built 699 = .ok (.ldc2_w 193, 3) := by decide +kernel
theorem dL_built_702 : decode cL_built 702 = .ok (.lcmp, 1) := by decide +kernel
theorem dL_built_703 : decode cL_built 703 = .ok (.ifCond .ne 60, 3) := by decide +kernel
theorem dL_built_706 : decode cL_built 706 = .ok (.aload_n 3, 1) := by decide +kernel
theorem dL_built_707 : decode cL_built 707 = .ok (.iconst 0, 1) := by decide +kernel
theorem dL_built_708 : decode cL_built 708 = .ok (.iaload, 1) := by decide +kernel
theorem dL_built_709 : decode cL_built 709 = .ok (.ifCond .ne 13, 3) := by decide +kernel
theorem dL_built_712 : decode cL_built 712 = .ok (.lload 4, 2) := by decide +kernel
theorem dL_built_714 : decode cL_built 714 = .ok (.lconst 0, 1) := by decide +kernel
theorem dL_built_715 : decode cL_built 715 = .ok (.lcmp, 1) := by decide +kernel
theorem dL_built_716 : decode cL_built 716 = .ok (.ifCond .ne 47, 3) := by decide +kernel
theorem dL_built_719 : decode cL_built 719 = .ok (.goto 11, 3) := by decide +kernel
theorem dL_built_722 : decode cL_built 722 = .ok (.lload 4, 2) := by decide +kernel
theorem dL_built_724 : decode cL_built 724 = .ok (.iload_n 1, 1) := by decide +kernel
theorem dL_built_725 : decode cL_built 725 = .ok (.i2l, 1) := by decide +kernel
theorem dL_built_726 : decode cL_built 726 = .ok (.lcmp, 1) := by decide +kernel
theorem dL_built_727 : decode cL_built 727 = .ok (.ifCond .ne 36, 3) := by decide +kernel
theorem dL_built_730 : decode cL_built 730 = .ok (.aload_n 0, 1) := by decide +kernel
theorem dL_built_731 : decode cL_built 731 = .ok (.iconst 1, 1) := by decide +kernel
theorem dL_built_732 : decode cL_built 732 = .ok (.invokestatic 157, 3) := by decide +kernel
theorem dL_built_735 : decode cL_built 735 = .ok (.lload 6, 2) := by decide +kernel
theorem dL_built_737 : decode cL_built 737 = .ok (.lcmp, 1) := by decide +kernel
theorem dL_built_738 : decode cL_built 738 = .ok (.ifCond .ne 25, 3) := by decide +kernel
theorem dL_built_741 : decode cL_built 741 = .ok (.aload_n 0, 1) := by decide +kernel
theorem dL_built_742 : decode cL_built 742 = .ok (.iconst 2, 1) := by decide +kernel
theorem dL_built_743 : decode cL_built 743 = .ok (.invokestatic 157, 3) := by decide +kernel
theorem dL_built_746 : decode cL_built 746 = .ok (.iload_n 1, 1) := by decide +kernel
theorem dL_built_747 : decode cL_built 747 = .ok (.i2l, 1) := by decide +kernel
theorem dL_built_748 : decode cL_built 748 = .ok (.aload_n 0, 1) := by decide +kernel
theorem dL_built_749 : decode cL_built 749 = .ok (.bipush 11, 2) := by decide +kernel
theorem dL_built_751 : decode cL_built 751 = .ok (.invokestatic 105, 3) := by decide +kernel
theorem dL_built_754 : decode cL_built 754 = .ok (.ldiv, 1) := by decide +kernel
theorem dL_built_755 : decode cL_built 755 = .ok (.lcmp, 1) := by decide +kernel
theorem dL_built_756 : decode cL_built 756 = .ok (.ifCond .ne 7, 3) := by decide +kernel
theorem dL_built_759 : decode cL_built 759 = .ok (.iconst 1, 1) := by decide +kernel
theorem dL_built_760 : decode cL_built 760 = .ok (.goto 4, 3) := by decide +kernel
theorem dL_built_763 : decode cL_built 763 = .ok (.iconst 0, 1) := by decide +kernel
theorem dL_built_764 : decode cL_built 764 = .ok (.istore 9, 2) := by decide +kernel
theorem dL_built_766 : decode cL_built 766 = .ok (.iconst 0, 1) := by decide +kernel
theorem dL_built_767 : decode cL_built 767 = .ok (.istore 10, 2) := by decide +kernel
theorem dL_built_769 : decode cL_built 769 = .ok (.iload 10, 2) := by decide +kernel
theorem dL_built_771 : decode cL_built 771 = .ok (.iconst 4, 1) := by decide +kernel
theorem dL_built_772 : decode cL_built 772 = .ok (.if_icmp .ge 38, 3) := by decide +kernel
theorem dL_built_775 : decode cL_built 775 = .ok (.iload 9, 2) := by decide +kernel
theorem dL_built_777 : decode cL_built 777 = .ok (.ifCond .eq 33, 3) := by decide +kernel
theorem dL_built_780 : decode cL_built 780 = .ok (.aload_n 0, 1) := by decide +kernel
theorem dL_built_781 : decode cL_built 781 = .ok (.iconst 2, 1) := by decide +kernel
theorem dL_built_782 : decode cL_built 782 = .ok (.iload 10, 2) := by decide +kernel
theorem dL_built_784 : decode cL_built 784 = .ok (.iadd, 1) := by decide +kernel
theorem dL_built_785 : decode cL_built 785 = .ok (.invokestatic 105, 3) := by decide +kernel
theorem dL_built_788 : decode cL_built 788 = .ok (.aload_n 3, 1) := by decide +kernel
theorem dL_built_789 : decode cL_built 789 = .ok (.iload 10, 2) := by decide +kernel
theorem dL_built_791 : decode cL_built 791 = .ok (.iaload, 1) := by decide +kernel
theorem dL_built_792 : decode cL_built 792 = .ok (.i2l, 1) := by decide +kernel
theorem dL_built_793 : decode cL_built 793 = .ok (.lcmp, 1) := by decide +kernel
theorem dL_built_794 : decode cL_built 794 = .ok (.ifCond .ne 7, 3) := by decide +kernel
theorem dL_built_797 : decode cL_built 797 = .ok (.iconst 1, 1) := by decide +kernel
theorem dL_built_798 : decode cL_built 798 = .ok (.goto 4, 3) := by decide +kernel
theorem dL_built_801 : decode cL_built 801 = .ok (.iconst 0, 1) := by decide +kernel
theorem dL_built_802 : decode cL_built 802 = .ok (.istore 9, 2) := by decide +kernel
theorem dL_built_804 : decode cL_built 804 = .ok (.iinc 10 1, 3) := by decide +kernel
theorem dL_built_807 : decode cL_built 807 = .ok (.goto (-38), 3) := by decide +kernel
theorem dL_built_810 : decode cL_built 810 = .ok (.iconst 0, 1) := by decide +kernel
theorem dL_built_811 : decode cL_built 811 = .ok (.istore 10, 2) := by decide +kernel
theorem dL_built_813 : decode cL_built 813 = .ok (.iconst 0, 1) := by decide +kernel
theorem dL_built_814 : decode cL_built 814 = .ok (.istore 11, 2) := by decide +kernel
theorem dL_built_816 : decode cL_built 816 = .ok (.bipush (-9), 2) := by decide +kernel
theorem dL_built_818 : decode cL_built 818 = .ok (.istore 12, 2) := by decide +kernel
theorem dL_built_820 : decode cL_built 820 = .ok (.iconst 0, 1) := by decide +kernel
theorem dL_built_821 : decode cL_built 821 = .ok (.istore 13, 2) := by decide +kernel
theorem dL_built_823 : decode cL_built 823 = .ok (.iload 13, 2) := by decide +kernel
theorem dL_built_825 : decode cL_built 825 = .ok (.iload_n 2, 1) := by decide +kernel
theorem dL_built_826 : decode cL_built 826 = .ok (.if_icmp .ge 214, 3) := by decide +kernel
theorem dL_built_829 : decode cL_built 829 = .ok (.iload 9, 2) := by decide +kernel
theorem dL_built_831 : decode cL_built 831 = .ok (.ifCond .eq 209, 3) := by decide +kernel
theorem dL_built_834 : decode cL_built 834 = .ok (.iconst 0, 1) := by decide +kernel
theorem dL_built_835 : decode cL_built 835 = .ok (.istore 14, 2) := by decide +kernel
theorem dL_built_837 : decode cL_built 837 = .ok (.aload_n 0, 1) := by decide +kernel
theorem dL_built_838 : decode cL_built 838 = .ok (.iload 13, 2) := by decide +kernel
theorem dL_built_840 : decode cL_built 840 = .ok (.iconst 5, 1) := by decide +kernel
theorem dL_built_841 : decode cL_built 841 = .ok (.invokestatic 126, 3) := by decide +kernel
theorem dL_built_844 : decode cL_built 844 = .ok (.ldc2_w 195, 3) := by decide +kernel
theorem dL_built_847 : decode cL_built 847 = .ok (.lcmp, 1) := by decide +kernel
theorem dL_built_848 : decode cL_built 848 = .ok (.ifCond .eq 7, 3) := by decide +kernel
theorem dL_built_851 : decode cL_built 851 = .ok (.iconst 1, 1) := by decide +kernel
theorem dL_built_852 : decode cL_built 852 = .ok (.goto 4, 3) := by decide +kernel
theorem dL_built_855 : decode cL_built 855 = .ok (.iconst 0, 1) := by decide +kernel
theorem dL_built_856 : decode cL_built 856 = .ok (.istore 15, 2) := by decide +kernel
theorem dL_built_858 : decode cL_built 858 = .ok (.iconst 0, 1) := by decide +kernel
theorem dL_built_859 : decode cL_built 859 = .ok (.istore 16, 2) := by decide +kernel
theorem dL_built_861 : decode cL_built 861 = .ok (.iload 16, 2) := by decide +kernel
theorem dL_built_863 : decode cL_built 863 = .ok (.iload_n 2, 1) := by decide +kernel
theorem dL_built_864 : decode cL_built 864 = .ok (.if_icmp .ge 113, 3) := by decide +kernel
theorem dL_built_867 : decode cL_built 867 = .ok (.iload 15, 2) := by decide +kernel
theorem dL_built_869 : decode cL_built 869 = .ok (.ifCond .eq 108, 3) := by decide +kernel
theorem dL_built_872 : decode cL_built 872 = .ok (.aload_n 0, 1) := by decide +kernel
theorem dL_built_873 : decode cL_built 873 = .ok (.iload 16, 2) := by decide +kernel
theorem dL_built_875 : decode cL_built 875 = .ok (.iconst 5, 1) := by decide +kernel
theorem dL_built_876 : decode cL_built 876 = .ok (.invokestatic 126, 3) := by decide +kernel
theorem dL_built_879 : decode cL_built 879 = .ok (.ldc2_w 195, 3) := by decide +kernel
theorem dL_built_882 : decode cL_built 882 = .ok (.lcmp, 1) := by decide +kernel
theorem dL_built_883 : decode cL_built 883 = .ok (.ifCond .eq 51, 3) := by decide +kernel
theorem dL_built_886 : decode cL_built 886 = .ok (.aload_n 0, 1) := by decide +kernel
theorem dL_built_887 : decode cL_built 887 = .ok (.iload 16, 2) := by decide +kernel
theorem dL_built_889 : decode cL_built 889 = .ok (.iconst 0, 1) := by decide +kernel
theorem dL_built_890 : decode cL_built 890 = .ok (.invokestatic 126, 3) := by decide +kernel
theorem dL_built_893 : decode cL_built 893 = .ok (.aload_n 0, 1) := by decide +kernel
theorem dL_built_894 : decode cL_built 894 = .ok (.iload 13, 2) := by decide +kernel
theorem dL_built_896 : decode cL_built 896 = .ok (.iconst 0, 1) := by decide +kernel
theorem dL_built_897 : decode cL_built 897 = .ok (.invokestatic 126, 3) := by decide +kernel
theorem dL_built_900 : decode cL_built 900 = .ok (.lcmp, 1) := by decide +kernel
theorem dL_built_901 : decode cL_built 901 = .ok (.ifCond .ne 33, 3) := by decide +kernel
theorem dL_built_904 : decode cL_built 904 = .ok (.aload_n 0, 1) := by decide +kernel
theorem dL_built_905 : decode cL_built 905 = .ok (.iload 16, 2) := by decide +kernel
theorem dL_built_907 : decode cL_built 907 = .ok (.iconst 1, 1) := by decide +kernel
theorem dL_built_908 : decode cL_built 908 = .ok (.invokestatic 126, 3) := by decide +kernel
theorem dL_built_911 : decode cL_built 911 = .ok (.ldc2_w 213, 3) := by decide +kernel
theorem dL_built_914 : decode cL_built 914 = .ok (.ldiv, 1) := by decide +kernel
theorem dL_built_915 : decode cL_built 915 = .ok (.aload_n 0, 1) := by decide +kernel
theorem dL_built_916 : decode cL_built 916 = .ok (.iload 13, 2) := by decide +kernel
theorem dL_built_918 : decode cL_built 918 = .ok (.iconst 1, 1) := by decide +kernel
theorem dL_built_919 : decode cL_built 919 = .ok (.invokestatic 126, 3) := by decide +kernel
theorem dL_built_922 : decode cL_built 922 = .ok (.ldc2_w 213, 3) := by decide +kernel
theorem dL_built_925 : decode cL_built 925 = .ok (.ldiv, 1) := by decide +kernel
theorem dL_built_926 : decode cL_built 926 = .ok (.lcmp, 1) := by decide +kernel
theorem dL_built_927 : decode cL_built 927 = .ok (.ifCond .ne 7, 3) := by decide +kernel
theorem dL_built_930 : decode cL_built 930 = .ok (.iconst 1, 1) := by decide +kernel
theorem dL_built_931 : decode cL_built 931 = .ok (.goto 4, 3) := by decide +kernel
theorem dL_built_934 : decode cL_built 934 = .ok (.iconst 0, 1) := by decide +kernel
theorem dL_built_935 : decode cL_built 935 = .ok (.istore 17, 2) := by decide +kernel
theorem dL_built_937 : decode cL_built 937 = .ok (.iload 17, 2) := by decide +kernel
theorem dL_built_939 : decode cL_built 939 = .ok (.ifCond .eq 10, 3) := by decide +kernel
theorem dL_built_942 : decode cL_built 942 = .ok (.iload 16, 2) := by decide +kernel
theorem dL_built_944 : decode cL_built 944 = .ok (.iload 13, 2) := by decide +kernel
theorem dL_built_946 : decode cL_built 946 = .ok (.if_icmp .lt 7, 3) := by decide +kernel
theorem dL_built_949 : decode cL_built 949 = .ok (.iconst 1, 1) := by decide +kernel
theorem dL_built_950 : decode cL_built 950 = .ok (.goto 4, 3) := by decide +kernel
theorem dL_built_953 : decode cL_built 953 = .ok (.iconst 0, 1) := by decide +kernel
theorem dL_built_954 : decode cL_built 954 = .ok (.istore 15, 2) := by decide +kernel
theorem dL_built_956 : decode cL_built 956 = .ok (.iload 14, 2) := by decide +kernel
theorem dL_built_958 : decode cL_built 958 = .ok (.iload 17, 2) := by decide +kernel
theorem dL_built_960 : decode cL_built 960 = .ok (.ifCond .eq 7, 3) := by decide +kernel
theorem dL_built_963 : decode cL_built 963 = .ok (.iconst 1, 1) := by decide +kernel
theorem dL_built_964 : decode cL_built 964 = .ok (.goto 4, 3) := by decide +kernel
theorem dL_built_967 : decode cL_built 967 = .ok (.iconst 0, 1) := by decide +kernel
theorem dL_built_968 : decode cL_built 968 = .ok (.iadd, 1) := by decide +kernel
theorem dL_built_969 : decode cL_built 969 = .ok (.istore 14, 2) := by decide +kernel
theorem dL_built_971 : decode cL_built 971 = .ok (.iinc 16 1, 3) := by decide +kernel
theorem dL_built_974 : decode cL_built 974 = .ok (.goto (-113), 3) := by decide +kernel
theorem dL_built_977 : decode cL_built 977 = .ok (.iload 10, 2) := by decide +kernel
theorem dL_built_979 : decode cL_built 979 = .ok (.iload 15, 2) := by decide +kernel
theorem dL_built_981 : decode cL_built 981 = .ok (.ifCond .eq 7, 3) := by decide +kernel
theorem dL_built_984 : decode cL_built 984 = .ok (.iconst 1, 1) := by decide +kernel
theorem dL_built_985 : decode cL_built 985 = .ok (.goto 4, 3) := by decide +kernel
theorem dL_built_988 : decode cL_built 988 = .ok (.iconst 0, 1) := by decide +kernel
theorem dL_built_989 : decode cL_built 989 = .ok (.iadd, 1) := by decide +kernel
theorem dL_built_990 : decode cL_built 990 = .ok (.istore 10, 2) := by decide +kernel
theorem dL_built_992 : decode cL_built 992 = .ok (.iload 15, 2) := by decide +kernel
theorem dL_built_994 : decode cL_built 994 = .ok (.ifCond .eq 15, 3) := by decide +kernel
theorem dL_built_997 : decode cL_built 997 = .ok (.iload 14, 2) := by decide +kernel
theorem dL_built_999 : decode cL_built 999 = .ok (.iload 11, 2) := by decide +kernel
theorem dL_built_1001 : decode cL_built 1001 = .ok (.if_icmp .le 8, 3) := by decide +kernel
theorem dL_built_1004 : decode cL_built 1004 = .ok (.iload 13, 2) := by decide +kernel
theorem dL_built_1006 : decode cL_built 1006 = .ok (.goto 5, 3) := by decide +kernel
theorem dL_built_1009 : decode cL_built 1009 = .ok (.iload 12, 2) := by decide +kernel
theorem dL_built_1011 : decode cL_built 1011 = .ok (.istore 12, 2) := by decide +kernel
theorem dL_built_1013 : decode cL_built 1013 = .ok (.iload 15, 2) := by decide +kernel
theorem dL_built_1015 : decode cL_built 1015 = .ok (.ifCond .eq 15, 3) := by decide +kernel
theorem dL_built_1018 : decode cL_built 1018 = .ok (.iload 14, 2) := by decide +kernel
theorem dL_built_1020 : decode cL_built 1020 = .ok (.iload 11, 2) := by decide +kernel
theorem dL_built_1022 : decode cL_built 1022 = .ok (.if_icmp .le 8, 3) := by decide +kernel
theorem dL_built_1025 : decode cL_built 1025 = .ok (.iload 14, 2) := by decide +kernel
theorem dL_built_1027 : decode cL_built 1027 = .ok (.goto 5, 3) := by decide +kernel
theorem dL_built_1030 : decode cL_built 1030 = .ok (.iload 11, 2) := by decide +kernel
theorem dL_built_1032 : decode cL_built 1032 = .ok (.istore 11, 2) := by decide +kernel
theorem dL_built_1034 : decode cL_built 1034 = .ok (.iinc 13 1, 3) := by decide +kernel
theorem dL_built_1037 : decode cL_built 1037 = .ok (.goto (-214), 3) := by decide +kernel
theorem dL_built_1040 : decode cL_built 1040 = .ok (.iload 9, 2) := by decide +kernel
theorem dL_built_1042 : decode cL_built 1042 = .ok (.ifCond .eq 60, 3) := by decide +kernel
theorem dL_built_1045 : decode cL_built 1045 = .ok (.aload_n 0, 1) := by decide +kernel
theorem dL_built_1046 : decode cL_built 1046 = .ok (.iconst 0, 1) := by decide +kernel
theorem dL_built_1047 : decode cL_built 1047 = .ok (.invokestatic 159, 3) := by decide +kernel
theorem dL_built_1050 : decode cL_built 1050 = .ok (.iload 10, 2) := by decide +kernel
theorem dL_built_1052 : decode cL_built 1052 = .ok (.i2l, 1) := by decide +kernel
theorem dL_built_1053 : decode cL_built 1053 = .ok (.lcmp, 1) := by decide +kernel
theorem dL_built_1054 : decode cL_built 1054 = .ok (.ifCond .ne 48, 3) := by decide +kernel
theorem dL_built_1057 : decode cL_built 1057 = .ok (.aload_n 0, 1) := by decide +kernel
theorem dL_built_1058 : decode cL_built 1058 = .ok (.iconst 1, 1) := by decide +kernel
theorem dL_built_1059 : decode cL_built 1059 = .ok (.invokestatic 159, 3) := by decide +kernel
theorem dL_built_1062 : decode cL_built 1062 = .ok (.iload 11, 2) := by decide +kernel
theorem dL_built_1064 : decode cL_built 1064 = .ok (.i2l, 1) := by decide +kernel
theorem dL_built_1065 : decode cL_built 1065 = .ok (.lcmp, 1) := by decide +kernel
theorem dL_built_1066 : decode cL_built 1066 = .ok (.ifCond .ne 36, 3) := by decide +kernel
theorem dL_built_1069 : decode cL_built 1069 = .ok (.aload_n 0, 1) := by decide +kernel
theorem dL_built_1070 : decode cL_built 1070 = .ok (.iconst 2, 1) := by decide +kernel
theorem dL_built_1071 : decode cL_built 1071 = .ok (.invokestatic 159, 3) := by decide +kernel
theorem dL_built_1074 : decode cL_built 1074 = .ok (.iload 12, 2) := by decide +kernel
theorem dL_built_1076 : decode cL_built 1076 = .ok (.i2l, 1) := by decide +kernel
theorem dL_built_1077 : decode cL_built 1077 = .ok (.lcmp, 1) := by decide +kernel
theorem dL_built_1078 : decode cL_built 1078 = .ok (.ifCond .ne 24, 3) := by decide +kernel
theorem dL_built_1081 : decode cL_built 1081 = .ok (.aload_n 0, 1) := by decide +kernel
theorem dL_built_1082 : decode cL_built 1082 = .ok (.bipush 6, 2) := by decide +kernel
theorem dL_built_1084 : decode cL_built 1084 = .ok (.invokestatic 105, 3) := by decide +kernel
theorem dL_built_1087 : decode cL_built 1087 = .ok (.lconst 0, 1) := by decide +kernel
theorem dL_built_1088 : decode cL_built 1088 = .ok (.iload_n 1, 1) := by decide +kernel
theorem dL_built_1089 : decode cL_built 1089 = .ok (.iconst 1, 1) := by decide +kernel
theorem dL_built_1090 : decode cL_built 1090 = .ok (.isub, 1) := by decide +kernel
theorem dL_built_1091 : decode cL_built 1091 = .ok (.i2l, 1) := by decide +kernel
