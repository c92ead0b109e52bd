theorem dL_law_397 : decode code 397 = .ok (.iload 14, 2) := by decide +kernel
theorem dL_law_399 : decode code 399 = .ok (.if_icmp .ne 26, 3) := by decide +kernel
theorem dL_law_402 : decode code 402 = .ok (.aload_n 1, 1) := by decide +kernel
theorem dL_law_403 : decode code 403 = .ok (.iload_n 2, 1) := by decide +kernel
theorem dL_law_404 : decode code 404 = .ok (.invokevirtual 91, 3) := by decide +kernel
theorem dL_law_407 : decode code 407 = .ok (.iconst (-1), 1) := by decide +kernel
theorem dL_law_408 : decode code 408 = .ok (.if_icmp .ne 17, 3) := by decide +kernel
theorem dL_law_411 : decode code 411 = .ok (.aload_n 1, 1) := by decide +kernel
theorem dL_law_412 : decode code 412 = .ok (.iload_n 2, 1) := by decide +kernel
theorem dL_law_413 : decode code 413 = .ok (.iconst 1, 1) := by decide +kernel
theorem dL_law_414 : decode code 414 = .ok (.isub, 1) := by decide +kernel
theorem dL_law_415 : decode code 415 = .ok (.invokevirtual 91, 3) := by decide +kernel
theorem dL_law_418 : decode code 418 = .ok (.ifCond .lt 7, 3) := by decide +kernel
theorem dL_law_421 : decode code 421 = .ok (.iconst 1, 1) := by decide +kernel
theorem dL_law_422 : decode code 422 = .ok (.goto 4, 3) := by decide +kernel
theorem dL_law_425 : decode code 425 = .ok (.iconst 0, 1) := by decide +kernel
theorem dL_law_426 : decode code 426 = .ok (.istore 6, 2) := by decide +kernel
theorem dL_law_428 : decode code 428 = .ok (.goto 677, 3) := by decide +kernel
theorem dL_law_431 : decode code 431 = .ok (.iload 13, 2) := by decide +kernel
theorem dL_law_433 : decode code 433 = .ok (.bipush 8, 2) := by decide +kernel
theorem dL_law_435 : decode code 435 = .ok (.if_icmp .ge 82, 3) := by decide +kernel
theorem dL_law_438 : decode code 438 = .ok (.iload 9, 2) := by decide +kernel
theorem dL_law_440 : decode code 440 = .ok (.bipush 9, 2) := by decide +kernel
theorem dL_law_442 : decode code 442 = .ok (.ishr, 1) := by decide +kernel
theorem dL_law_443 : decode code 443 = .ok (.iconst 5, 1) := by decide +kernel
theorem dL_law_444 : decode code 444 = .ok (.invokestatic 52, 3) := by decide +kernel
theorem dL_law_447 : decode code 447 = .ok (.ifCond .le 7, 3) := by decide +kernel
theorem dL_law_450 : decode code 450 = .ok (.iconst (-1), 1) := by decide +kernel
theorem dL_law_451 : decode code 451 = .ok (.goto 8, 3) := by decide +kernel
theorem dL_law_454 : decode code 454 = .ok (.iload 9, 2) := by decide +kernel
theorem dL_law_456 : decode code 456 = .ok (.invokestatic 98, 3) := by decide +kernel
theorem dL_law_459 : decode code 459 = .ok (.istore 14, 2) := by decide +kernel
theorem dL_law_461 : decode code 461 = .ok (.aload_n 1, 1) := by decide +kernel
theorem dL_law_462 : decode code 462 = .ok (.iload 9, 2) := by decide +kernel
theorem dL_law_464 : decode code 464 = .ok (.bipush 9, 2) := by decide +kernel
theorem dL_law_466 : decode code 466 = .ok (.invokestatic 52, 3) := by decide +kernel
theorem dL_law_469 : decode code 469 = .ok (.iload 14, 2) := by decide +kernel
theorem dL_law_471 : decode code 471 = .ok (.invokevirtual 112, 3) := by decide +kernel
theorem dL_law_474 : decode code 474 = .ok (.pop, 1) := by decide +kernel
theorem dL_law_475 : decode code 475 = .ok (.aload_n 1, 1) := by decide +kernel
theorem dL_law_476 : decode code 476 = .ok (.iload 9, 2) := by decide +kernel
theorem dL_law_478 : decode code 478 = .ok (.bipush 9, 2) := by decide +kernel
theorem dL_law_480 : decode code 480 = .ok (.invokestatic 52, 3) := by decide +kernel
theorem dL_law_483 : decode code 483 = .ok (.iload 14, 2) := by decide +kernel
theorem dL_law_485 : decode code 485 = .ok (.invokevirtual 112, 3) := by decide +kernel
theorem dL_law_488 : decode code 488 = .ok (.iload 14, 2) := by decide +kernel
theorem dL_law_490 : decode code 490 = .ok (.if_icmp .ne 21, 3) := by decide +kernel
theorem dL_law_493 : decode code 493 = .ok (.iload 8, 2) := by decide +kernel
theorem dL_law_495 : decode code 495 = .ok (.iconst 3, 1) := by decide +kernel
theorem dL_law_496 : decode code 496 = .ok (.irem, 1) := by decide +kernel
theorem dL_law_497 : decode code 497 = .ok (.ifCond .gt 10, 3) := by decide +kernel
theorem dL_law_500 : decode code 500 = .ok (.aload_n 1, 1) := by decide +kernel
theorem dL_law_501 : decode code 501 = .ok (.invokestatic 87, 3) := by decide +kernel
theorem dL_law_504 : decode code 504 = .ok (.ifCond .eq 7, 3) := by decide +kernel
theorem dL_law_507 : decode code 507 = .ok (.iconst 1, 1) := by decide +kernel
theorem dL_law_508 : decode code 508 = .ok (.goto 4, 3) := by decide +kernel
theorem dL_law_511 : decode code 511 = .ok (.iconst 0, 1) := by decide +kernel
theorem dL_law_512 : decode code 512 = .ok (.istore 6, 2) := by decide +kernel
theorem dL_law_514 : decode code 514 = .ok (.goto 591, 3) := by decide +kernel
theorem dL_law_517 : decode code 517 = .ok (.iload 13, 2) := by decide +kernel
theorem dL_law_519 : decode code 519 = .ok (.bipush 13, 2) := by decide +kernel
theorem dL_law_521 : decode code 521 = .ok (.if_icmp .ge 107, 3) := by decide +kernel
theorem dL_law_524 : decode code 524 = .ok (.aload_n 1, 1) := by decide +kernel
theorem dL_law_525 : decode code 525 = .ok (.iload 10, 2) := by decide +kernel
theorem dL_law_527 : decode code 527 = .ok (.invokestatic 115, 3) := by decide +kernel
theorem dL_law_530 : decode code 530 = .ok (.istore 14, 2) := by decide +kernel
theorem dL_law_532 : decode code 532 = .ok (.iload 14, 2) := by decide +kernel
theorem dL_law_534 : decode code 534 = .ok (.bipush (-3), 2) := by decide +kernel
theorem dL_law_536 : decode code 536 = .ok (.if_icmp .ne 17, 3) := by decide +kernel
theorem dL_law_539 : decode code 539 = .ok (.iload_n 3, 1) := by decide +kernel
theorem dL_law_540 : decode code 540 = .ok (.bipush 60, 2) := by decide +kernel
theorem dL_law_542 : decode code 542 = .ok (.if_icmp .ne 7, 3) := by decide +kernel
theorem dL_law_545 : decode code 545 = .ok (.iconst 1, 1) := by decide +kernel
theorem dL_law_546 : decode code 546 = .ok (.goto 62, 3) := by decide +kernel
theorem dL_law_549 : decode code 549 = .ok (.iconst 0, 1) := by decide +kernel
theorem dL_law_550 : decode code 550 = .ok (.goto 58, 3) := by decide +kernel
theorem dL_law_553 : decode code 553 = .ok (.iload 14, 2) := by decide +kernel
theorem dL_law_555 : decode code 555 = .ok (.iload_n 3, 1) := by decide +kernel
theorem dL_law_556 : decode code 556 = .ok (.if_icmp .ne 51, 3) := by decide +kernel
theorem dL_law_559 : decode code 559 = .ok (.aload_n 1, 1) := by decide +kernel
theorem dL_law_560 : decode code 560 = .ok (.iload 14, 2) := by decide +kernel
theorem dL_law_562 : decode code 562 = .ok (.invokevirtual 117, 3) := by decide +kernel
theorem dL_law_565 : decode code 565 = .ok (.iconst (-1), 1) := by decide +kernel
theorem dL_law_566 : decode code 566 = .ok (.if_icmp .ne 41, 3) := by decide +kernel
theorem dL_law_569 : decode code 569 = .ok (.aload_n 1, 1) := by decide +kernel
theorem dL_law_570 : decode code 570 = .ok (.iload 14, 2) := by decide +kernel
theorem dL_law_572 : decode code 572 = .ok (.iconst 1, 1) := by decide +kernel
theorem dL_law_573 : decode code 573 = .ok (.invokestatic 120, 3) := by decide +kernel
theorem dL_law_576 : decode code 576 = .ok (.iconst 1, 1) := by decide +kernel
theorem dL_law_577 : decode code 577 = .ok (.if_icmp .ne 30, 3) := by decide +kernel
theorem dL_law_580 : decode code 580 = .ok (.aload_n 1, 1) := by decide +kernel
theorem dL_law_581 : decode code 581 = .ok (.iload 14, 2) := by decide +kernel
theorem dL_law_583 : decode code 583 = .ok (.iconst 1, 1) := by decide +kernel
theorem dL_law_584 : decode code 584 = .ok (.invokestatic 120, 3) := by decide +kernel
theorem dL_law_587 : decode code 587 = .ok (.iconst 2, 1) := by decide +kernel
theorem dL_law_588 : decode code 588 = .ok (.if_icmp .ne 19, 3) := by decide +kernel
theorem dL_law_591 : decode code 591 = .ok (.aload_n 1, 1) := by decide +kernel
theorem dL_law_592 : decode code 592 = .ok (.iload 14, 2) := by decide +kernel
theorem dL_law_594 : decode code 594 = .ok (.iconst 1, 1) := by decide +kernel
theorem dL_law_595 : decode code 595 = .ok (.invokestatic 120, 3) := by decide +kernel
theorem dL_law_598 : decode code 598 = .ok (.bipush (-3), 2) := by decide +kernel
theorem dL_law_600 : decode code 600 = .ok (.if_icmp .ne 7, 3) := by decide +kernel
theorem dL_law_603 : decode code 603 = .ok (.iconst 1, 1) := by decide +kernel
theorem dL_law_604 : decode code 604 = .ok (.goto 4, 3) := by decide +kernel
theorem dL_law_607 : decode code 607 = .ok (.iconst 0, 1) := by decide +kernel
theorem dL_law_608 : decode code 608 = .ok (.istore 6, 2) := by decide +kernel
theorem dL_law_610 : decode code 610 = .ok (.iload_n 3, 1) := by decide +kernel
theorem dL_law_611 : decode code 611 = .ok (.iload 14, 2) := by decide +kernel
theorem dL_law_613 : decode code 613 = .ok (.bipush (-3), 2) := by decide +kernel
theorem dL_law_615 : decode code 615 = .ok (.if_icmp .ne 7, 3) := by decide +kernel
theorem dL_law_618 : decode code 618 = .ok (.iconst 0, 1) := by decide +kernel
theorem dL_law_619 : decode code 619 = .ok (.goto 4, 3) := by decide +kernel
theorem dL_law_622 : decode code 622 = .ok (.iconst 1, 1) := by decide +kernel
theorem dL_law_623 : decode code 623 = .ok (.iadd, 1) := by decide +kernel
theorem dL_law_624 : decode code 624 = .ok (.istore_n 3, 1) := by decide +kernel
theorem dL_law_625 : decode code 625 = .ok (.goto 480, 3) := by decide +kernel
theorem dL_law_628 : decode code 628 = .ok (.iload 13, 2) := by decide +kernel
theorem dL_law_630 : decode code 630 = .ok (.bipush 15, 2) := by decide +kernel
theorem dL_law_632 : decode code 632 = .ok (.if_icmp .ge 106, 3) := by decide +kernel
theorem dL_law_635 : decode code 635 = .ok (.aload_n 1, 1) := by decide +kernel
theorem dL_law_636 : decode code 636 = .ok (.invokestatic 123, 3) := by decide +kernel
theorem dL_law_639 : decode code 639 = .ok (.istore 14, 2) := by decide +kernel
theorem dL_law_641 : decode code 641 = .ok (.iload 14, 2) := by decide +kernel
theorem dL_law_643 : decode code 643 = .ok (.bipush (-3), 2) := by decide +kernel
theorem dL_law_645 : decode code 645 = .ok (.if_icmp .eq 66, 3) := by decide +kernel
theorem dL_law_648 : decode code 648 = .ok (.iload 14, 2) := by decide +kernel
theorem dL_law_650 : decode code 650 = .ok (.iload 4, 2) := by decide +kernel
theorem dL_law_652 : decode code 652 = .ok (.if_icmp .ne 63, 3) := by decide +kernel
theorem dL_law_655 : decode code 655 = .ok (.aload_n 1, 1) := by decide +kernel
theorem dL_law_656 : decode code 656 = .ok (.iload 14, 2) := by decide +kernel
theorem dL_law_658 : decode code 658 = .ok (.invokevirtual 126, 3) := by decide +kernel
theorem dL_law_661 : decode code 661 = .ok (.ifCond .ne 54, 3) := by decide +kernel
theorem dL_law_664 : decode code 664 = .ok (.aload_n 1, 1) := by decide +kernel
theorem dL_law_665 : decode code 665 = .ok (.aload_n 1, 1) := by decide +kernel
theorem dL_law_666 : decode code 666 = .ok (.iload 14, 2) := by decide +kernel
theorem dL_law_668 : decode code 668 = .ok (.iconst 5, 1) := by decide +kernel
theorem dL_law_669 : decode code 669 = .ok (.invokevirtual 129, 3) := by decide +kernel
theorem dL_law_672 : decode code 672 = .ok (.invokevirtual 117, 3) := by decide +kernel
theorem dL_law_675 : decode code 675 = .ok (.aload_n 1, 1) := by decide +kernel
theorem dL_law_676 : decode code 676 = .ok (.invokevirtual 132, 3) := by decide +kernel
theorem dL_law_679 : decode code 679 = .ok (.bipush 24, 2) := by decide +kernel
theorem dL_law_681 : decode code 681 = .ok (.idiv, 1) := by decide +kernel
theorem dL_law_682 : decode code 682 = .ok (.if_icmp .ne 33, 3) := by decide +kernel
theorem dL_law_685 : decode code 685 = .ok (.aload_n 1, 1) := by decide +kernel
theorem dL_law_686 : decode code 686 = .ok (.iload 14, 2) := by decide +kernel
theorem dL_law_688 : decode code 688 = .ok (.iconst 0, 1) := by decide +kernel
theorem dL_law_689 : decode code 689 = .ok (.invokevirtual 129, 3) := by decide +kernel
theorem dL_law_692 : decode code 692 = .ok (.aload_n 1, 1) := by decide +kernel
theorem dL_law_693 : decode code 693 = .ok (.iload 14, 2) := by decide +kernel
theorem dL_law_695 : decode code 695 = .ok (.iconst 5, 1) := by decide +kernel
theorem dL_law_696 : decode code 696 = .ok (.invokevirtual 129, 3) := by decide +kernel
theorem dL_law_699 : decode code 699 = .ok (.if_icmp .eq 16, 3) := by decide +kernel
theorem dL_law_702 : decode code 702 = .ok (.aload_n 1, 1) := by decide +kernel
theorem dL_law_703 : decode code 703 = .ok (.invokestatic 123, 3) := by decide +kernel
theorem dL_law_706 : decode code 706 = .ok (.bipush (-3), 2) := by decide +kernel
theorem dL_law_708 : decode code 708 = .ok (.if_icmp .ne 7, 3) := by decide +kernel
theorem dL_law_711 : decode code 711 = .ok (.iconst 1, 1) := by decide +kernel
theorem dL_law_712 : decode code 712 = .ok (.goto 4, 3) := by decide +kernel
theorem dL_law_715 : decode code 715 = .ok (.iconst 0, 1) := by decide +kernel
theorem dL_law_716 : decode code 716 = .ok (.istore 6, 2) := by decide +kernel
theorem dL_law_718 : decode code 718 = .ok (.iload 4, 2) := by decide +kernel
theorem dL_law_720 : decode code 720 = .ok (.iload 14, 2) := by decide +kernel
theorem dL_law_722 : decode code 722 = .ok (.bipush (-3), 2) := by decide +kernel
theorem dL_law_724 : decode code 724 = .ok (.if_icmp .ne 7, 3) := by decide +kernel
theorem dL_law_727 : decode code 727 = .ok (.iconst 0, 1) := by decide +kernel
theorem dL_law_728 : decode code 728 = .ok (.goto 4, 3) := by decide +kernel
theorem dL_law_731 : decode code 731 = .ok (.iconst 1, 1) := by decide +kernel
theorem dL_law_732 : decode code 732 = .ok (.iadd, 1) := by decide +kernel
theorem dL_law_733 : decode code 733 = .ok (.istore 4, 2) := by decide +kernel
theorem dL_law_735 : decode code 735 = .ok (.goto 370, 3) := by decide +kernel
theorem dL_law_738 : decode code 738 = .ok (.iload 13, 2) := by decide +kernel
theorem dL_law_740 : decode code 740 = .ok (.bipush 16, 2) := by decide +kernel
theorem dL_law_742 : decode code 742 = .ok (.if_icmp .ge 76, 3) := by decide +kernel
theorem dL_law_745 : decode code 745 = .ok (.iload 5, 2) := by decide +kernel
theorem dL_law_747 : decode code 747 = .ok (.bipush 6, 2) := by decide +kernel
theorem dL_law_749 : decode code 749 = .ok (.if_icmp .ge 69, 3) := by decide +kernel
theorem dL_law_752 : decode code 752 = .ok (.aload_n 1, 1) := by decide +kernel
theorem dL_law_753 : decode code 753 = .ok (.iload 9, 2) := by decide +kernel
theorem dL_law_755 : decode code 755 = .ok (.bipush 27, 2) := by decide +kernel
theorem dL_law_757 : decode code 757 = .ok (.invokestatic 52, 3) := by decide +kernel
theorem dL_law_760 : decode code 760 = .ok (.bipush 12, 2) := by decide +kernel
theorem dL_law_762 : decode code 762 = .ok (.isub, 1) := by decide +kernel
theorem dL_law_763 : decode code 763 = .ok (.iload 9, 2) := by decide +kernel
theorem dL_law_765 : decode code 765 = .ok (.bipush 9, 2) := by decide +kernel
theorem dL_law_767 : decode code 767 = .ok (.ishr, 1) := by decide +kernel
theorem dL_law_768 : decode code 768 = .ok (.sipush 300, 3) := by decide +kernel
theorem dL_law_771 : decode code 771 = .ok (.invokestatic 52, 3) := by decide +kernel
theorem dL_law_774 : decode code 774 = .ok (.invokevirtual 135, 3) := by decide +kernel
theorem dL_law_777 : decode code 777 = .ok (.iload 5, 2) := by decide +kernel
theorem dL_law_779 : decode code 779 = .ok (.if_icmp .ne 7, 3) := by decide +kernel
theorem dL_law_782 : decode code 782 = .ok (.iconst 1, 1) := by decide +kernel
theorem dL_law_783 : decode code 783 = .ok (.goto 4, 3) := by decide +kernel
theorem dL_law_786 : decode code 786 = .ok (.iconst 0, 1) := by decide +kernel
theorem dL_law_787 : decode code 787 = .ok (.istore 6, 2) := by decide +kernel
theorem dL_law_789 : decode code 789 = .ok (.iinc 5 1, 3) := by decide +kernel
theorem dL_law_792 : decode code 792 = .ok (.iload 6, 2) := by decide +kernel
theorem dL_law_794 : decode code 794 = .ok (.ifCond .eq 18, 3) := by decide +kernel
theorem dL_law_797 : decode code 797 = .ok (.aload_n 1, 1) := by decide +kernel
theorem dL_law_798 : decode code 798 = .ok (.iload 5, 2) := by decide +kernel
theorem dL_law_800 : decode code 800 = .ok (.iconst 1, 1) := by decide +kernel
