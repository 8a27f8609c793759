theorem dL_law_423 : decode cL_law 423 = .ok (.iload 14, 2) := by decide +kernel
theorem dL_law_425 : decode cL_law 425 = .ok (.iconst 1, 1) := by decide +kernel
theorem dL_law_426 : decode cL_law 426 = .ok (.iadd, 1) := by decide +kernel
theorem dL_law_427 : decode cL_law 427 = .ok (.iload 8, 2) := by decide +kernel
theorem dL_law_429 : decode cL_law 429 = .ok (.bipush 32, 2) := by decide +kernel
theorem dL_law_431 : decode cL_law 431 = .ok (.idiv, 1) := by decide +kernel
theorem dL_law_432 : decode cL_law 432 = .ok (.iload_n 2, 1) := by decide +kernel
theorem dL_law_433 : decode cL_law 433 = .ok (.iconst 1, 1) := by decide +kernel
theorem dL_law_434 : decode cL_law 434 = .ok (.isub, 1) := by decide +kernel
theorem dL_law_435 : decode cL_law 435 = .ok (.irem, 1) := by decide +kernel
theorem dL_law_436 : decode cL_law 436 = .ok (.iadd, 1) := by decide +kernel
theorem dL_law_437 : decode cL_law 437 = .ok (.iload_n 2, 1) := by decide +kernel
theorem dL_law_438 : decode cL_law 438 = .ok (.irem, 1) := by decide +kernel
theorem dL_law_439 : decode cL_law 439 = .ok (.istore 15, 2) := by decide +kernel
theorem dL_law_441 : decode cL_law 441 = .ok (.iload 11, 2) := by decide +kernel
theorem dL_law_443 : decode cL_law 443 = .ok (.iconst 5, 1) := by decide +kernel
theorem dL_law_444 : decode cL_law 444 = .ok (.if_icmp .ne 7, 3) := by decide +kernel
theorem dL_law_447 : decode cL_law 447 = .ok (.iconst 3, 1) := by decide +kernel
theorem dL_law_448 : decode cL_law 448 = .ok (.goto 16, 3) := by decide +kernel
theorem dL_law_451 : decode cL_law 451 = .ok (.iload 11, 2) := by decide +kernel
theorem dL_law_453 : decode cL_law 453 = .ok (.bipush 6, 2) := by decide +kernel
theorem dL_law_455 : decode cL_law 455 = .ok (.if_icmp .ne 7, 3) := by decide +kernel
theorem dL_law_458 : decode cL_law 458 = .ok (.iconst 4, 1) := by decide +kernel
theorem dL_law_459 : decode cL_law 459 = .ok (.goto 5, 3) := by decide +kernel
theorem dL_law_462 : decode cL_law 462 = .ok (.bipush 6, 2) := by decide +kernel
theorem dL_law_464 : decode cL_law 464 = .ok (.istore 16, 2) := by decide +kernel
theorem dL_law_466 : decode cL_law 466 = .ok (.aload_n 1, 1) := by decide +kernel
theorem dL_law_467 : decode cL_law 467 = .ok (.iload 16, 2) := by decide +kernel
theorem dL_law_469 : decode cL_law 469 = .ok (.iload 14, 2) := by decide +kernel
theorem dL_law_471 : decode cL_law 471 = .ok (.iload 15, 2) := by decide +kernel
theorem dL_law_473 : decode cL_law 473 = .ok (.iload 10, 2) := by decide +kernel
theorem dL_law_475 : decode cL_law 475 = .ok (.invokestatic 165, 3) := by decide +kernel
theorem dL_law_478 : decode cL_law 478 = .ok (.iload_n 3, 1) := by decide +kernel
theorem dL_law_479 : decode cL_law 479 = .ok (.i2l, 1) := by decide +kernel
theorem dL_law_480 : decode cL_law 480 = .ok (.lcmp, 1) := by decide +kernel
theorem dL_law_481 : decode cL_law 481 = .ok (.ifCond .ne 33, 3) := by decide +kernel
theorem dL_law_484 : decode cL_law 484 = .ok (.aload_n 1, 1) := by decide +kernel
theorem dL_law_485 : decode cL_law 485 = .ok (.iload_n 3, 1) := by decide +kernel
theorem dL_law_486 : decode cL_law 486 = .ok (.iconst 0, 1) := by decide +kernel
theorem dL_law_487 : decode cL_law 487 = .ok (.invokestatic 173, 3) := by decide +kernel
theorem dL_law_490 : decode cL_law 490 = .ok (.iload 16, 2) := by decide +kernel
theorem dL_law_492 : decode cL_law 492 = .ok (.i2l, 1) := by decide +kernel
theorem dL_law_493 : decode cL_law 493 = .ok (.lcmp, 1) := by decide +kernel
theorem dL_law_494 : decode cL_law 494 = .ok (.ifCond .ne 20, 3) := by decide +kernel
theorem dL_law_497 : decode cL_law 497 = .ok (.aload_n 1, 1) := by decide +kernel
theorem dL_law_498 : decode cL_law 498 = .ok (.iload_n 3, 1) := by decide +kernel
theorem dL_law_499 : decode cL_law 499 = .ok (.iconst 1, 1) := by decide +kernel
theorem dL_law_500 : decode cL_law 500 = .ok (.invokestatic 173, 3) := by decide +kernel
theorem dL_law_503 : decode cL_law 503 = .ok (.iload 9, 2) := by decide +kernel
theorem dL_law_505 : decode cL_law 505 = .ok (.i2l, 1) := by decide +kernel
theorem dL_law_506 : decode cL_law 506 = .ok (.lcmp, 1) := by decide +kernel
theorem dL_law_507 : decode cL_law 507 = .ok (.ifCond .ne 7, 3) := by decide +kernel
theorem dL_law_510 : decode cL_law 510 = .ok (.iconst 1, 1) := by decide +kernel
theorem dL_law_511 : decode cL_law 511 = .ok (.goto 4, 3) := by decide +kernel
theorem dL_law_514 : decode cL_law 514 = .ok (.iconst 0, 1) := by decide +kernel
theorem dL_law_515 : decode cL_law 515 = .ok (.istore 5, 2) := by decide +kernel
theorem dL_law_517 : decode cL_law 517 = .ok (.iinc 3 1, 3) := by decide +kernel
theorem dL_law_520 : decode cL_law 520 = .ok (.goto 530, 3) := by decide +kernel
theorem dL_law_523 : decode cL_law 523 = .ok (.iload 11, 2) := by decide +kernel
theorem dL_law_525 : decode cL_law 525 = .ok (.bipush 8, 2) := by decide +kernel
theorem dL_law_527 : decode cL_law 527 = .ok (.if_icmp .ne 32, 3) := by decide +kernel
theorem dL_law_530 : decode cL_law 530 = .ok (.aload_n 1, 1) := by decide +kernel
theorem dL_law_531 : decode cL_law 531 = .ok (.iload 8, 2) := by decide +kernel
theorem dL_law_533 : decode cL_law 533 = .ok (.iload_n 2, 1) := by decide +kernel
theorem dL_law_534 : decode cL_law 534 = .ok (.irem, 1) := by decide +kernel
theorem dL_law_535 : decode cL_law 535 = .ok (.iload 10, 2) := by decide +kernel
theorem dL_law_537 : decode cL_law 537 = .ok (.invokestatic 167, 3) := by decide +kernel
theorem dL_law_540 : decode cL_law 540 = .ok (.iload_n 3, 1) := by decide +kernel
theorem dL_law_541 : decode cL_law 541 = .ok (.i2l, 1) := by decide +kernel
theorem dL_law_542 : decode cL_law 542 = .ok (.lcmp, 1) := by decide +kernel
theorem dL_law_543 : decode cL_law 543 = .ok (.ifCond .ne 7, 3) := by decide +kernel
theorem dL_law_546 : decode cL_law 546 = .ok (.iconst 1, 1) := by decide +kernel
theorem dL_law_547 : decode cL_law 547 = .ok (.goto 4, 3) := by decide +kernel
theorem dL_law_550 : decode cL_law 550 = .ok (.iconst 0, 1) := by decide +kernel
theorem dL_law_551 : decode cL_law 551 = .ok (.istore 5, 2) := by decide +kernel
theorem dL_law_553 : decode cL_law 553 = .ok (.iinc 3 1, 3) := by decide +kernel
theorem dL_law_556 : decode cL_law 556 = .ok (.goto 494, 3) := by decide +kernel
theorem dL_law_559 : decode cL_law 559 = .ok (.iload 11, 2) := by decide +kernel
theorem dL_law_561 : decode cL_law 561 = .ok (.bipush 9, 2) := by decide +kernel
theorem dL_law_563 : decode cL_law 563 = .ok (.if_icmp .ne 112, 3) := by decide +kernel
theorem dL_law_566 : decode cL_law 566 = .ok (.iload 8, 2) := by decide +kernel
theorem dL_law_568 : decode cL_law 568 = .ok (.iload_n 2, 1) := by decide +kernel
theorem dL_law_569 : decode cL_law 569 = .ok (.iconst 1, 1) := by decide +kernel
theorem dL_law_570 : decode cL_law 570 = .ok (.isub, 1) := by decide +kernel
theorem dL_law_571 : decode cL_law 571 = .ok (.irem, 1) := by decide +kernel
theorem dL_law_572 : decode cL_law 572 = .ok (.istore 14, 2) := by decide +kernel
theorem dL_law_574 : decode cL_law 574 = .ok (.iload 14, 2) := by decide +kernel
theorem dL_law_576 : decode cL_law 576 = .ok (.iconst 1, 1) := by decide +kernel
theorem dL_law_577 : decode cL_law 577 = .ok (.iadd, 1) := by decide +kernel
theorem dL_law_578 : decode cL_law 578 = .ok (.iload 8, 2) := by decide +kernel
theorem dL_law_580 : decode cL_law 580 = .ok (.bipush 32, 2) := by decide +kernel
theorem dL_law_582 : decode cL_law 582 = .ok (.idiv, 1) := by decide +kernel
theorem dL_law_583 : decode cL_law 583 = .ok (.iload_n 2, 1) := by decide +kernel
theorem dL_law_584 : decode cL_law 584 = .ok (.iconst 1, 1) := by decide +kernel
theorem dL_law_585 : decode cL_law 585 = .ok (.isub, 1) := by decide +kernel
theorem dL_law_586 : decode cL_law 586 = .ok (.iload 14, 2) := by decide +kernel
theorem dL_law_588 : decode cL_law 588 = .ok (.isub, 1) := by decide +kernel
theorem dL_law_589 : decode cL_law 589 = .ok (.irem, 1) := by decide +kernel
theorem dL_law_590 : decode cL_law 590 = .ok (.iadd, 1) := by decide +kernel
theorem dL_law_591 : decode cL_law 591 = .ok (.istore 15, 2) := by decide +kernel
theorem dL_law_593 : decode cL_law 593 = .ok (.aload_n 1, 1) := by decide +kernel
theorem dL_law_594 : decode cL_law 594 = .ok (.iload 14, 2) := by decide +kernel
theorem dL_law_596 : decode cL_law 596 = .ok (.iload 15, 2) := by decide +kernel
theorem dL_law_598 : decode cL_law 598 = .ok (.invokestatic 169, 3) := by decide +kernel
theorem dL_law_601 : decode cL_law 601 = .ok (.iload_n 3, 1) := by decide +kernel
theorem dL_law_602 : decode cL_law 602 = .ok (.i2l, 1) := by decide +kernel
theorem dL_law_603 : decode cL_law 603 = .ok (.lcmp, 1) := by decide +kernel
theorem dL_law_604 : decode cL_law 604 = .ok (.ifCond .ne 62, 3) := by decide +kernel
theorem dL_law_607 : decode cL_law 607 = .ok (.aload_n 1, 1) := by decide +kernel
theorem dL_law_608 : decode cL_law 608 = .ok (.iload 15, 2) := by decide +kernel
theorem dL_law_610 : decode cL_law 610 = .ok (.iconst 0, 1) := by decide +kernel
theorem dL_law_611 : decode cL_law 611 = .ok (.invokestatic 140, 3) := by decide +kernel
theorem dL_law_614 : decode cL_law 614 = .ok (.ldc2_w 120, 3) := by decide +kernel
theorem dL_law_617 : decode cL_law 617 = .ok (.lcmp, 1) := by decide +kernel
theorem dL_law_618 : decode cL_law 618 = .ok (.ifCond .ne 48, 3) := by decide +kernel
theorem dL_law_621 : decode cL_law 621 = .ok (.aload_n 1, 1) := by decide +kernel
theorem dL_law_622 : decode cL_law 622 = .ok (.iload 15, 2) := by decide +kernel
theorem dL_law_624 : decode cL_law 624 = .ok (.iconst 1, 1) := by decide +kernel
theorem dL_law_625 : decode cL_law 625 = .ok (.invokestatic 140, 3) := by decide +kernel
theorem dL_law_628 : decode cL_law 628 = .ok (.ldc2_w 124, 3) := by decide +kernel
theorem dL_law_631 : decode cL_law 631 = .ok (.lcmp, 1) := by decide +kernel
theorem dL_law_632 : decode cL_law 632 = .ok (.ifCond .ne 34, 3) := by decide +kernel
theorem dL_law_635 : decode cL_law 635 = .ok (.aload_n 1, 1) := by decide +kernel
theorem dL_law_636 : decode cL_law 636 = .ok (.iload 14, 2) := by decide +kernel
theorem dL_law_638 : decode cL_law 638 = .ok (.iload 15, 2) := by decide +kernel
theorem dL_law_640 : decode cL_law 640 = .ok (.invokestatic 177, 3) := by decide +kernel
theorem dL_law_643 : decode cL_law 643 = .ok (.lconst 0, 1) := by decide +kernel
theorem dL_law_644 : decode cL_law 644 = .ok (.lcmp, 1) := by decide +kernel
theorem dL_law_645 : decode cL_law 645 = .ok (.ifCond .ne 21, 3) := by decide +kernel
theorem dL_law_648 : decode cL_law 648 = .ok (.aload_n 1, 1) := by decide +kernel
theorem dL_law_649 : decode cL_law 649 = .ok (.iload 15, 2) := by decide +kernel
theorem dL_law_651 : decode cL_law 651 = .ok (.iconst (-1), 1) := by decide +kernel
theorem dL_law_652 : decode cL_law 652 = .ok (.invokestatic 175, 3) := by decide +kernel
theorem dL_law_655 : decode cL_law 655 = .ok (.ldc2_w 124, 3) := by decide +kernel
theorem dL_law_658 : decode cL_law 658 = .ok (.lcmp, 1) := by decide +kernel
theorem dL_law_659 : decode cL_law 659 = .ok (.ifCond .ne 7, 3) := by decide +kernel
theorem dL_law_662 : decode cL_law 662 = .ok (.iconst 1, 1) := by decide +kernel
theorem dL_law_663 : decode cL_law 663 = .ok (.goto 4, 3) := by decide +kernel
theorem dL_law_666 : decode cL_law 666 = .ok (.iconst 0, 1) := by decide +kernel
theorem dL_law_667 : decode cL_law 667 = .ok (.istore 5, 2) := by decide +kernel
theorem dL_law_669 : decode cL_law 669 = .ok (.iinc 3 1, 3) := by decide +kernel
theorem dL_law_672 : decode cL_law 672 = .ok (.goto 378, 3) := by decide +kernel
theorem dL_law_675 : decode cL_law 675 = .ok (.iload 11, 2) := by decide +kernel
theorem dL_law_677 : decode cL_law 677 = .ok (.bipush 10, 2) := by decide +kernel
theorem dL_law_679 : decode cL_law 679 = .ok (.if_icmp .ne 108, 3) := by decide +kernel
theorem dL_law_682 : decode cL_law 682 = .ok (.iload 8, 2) := by decide +kernel
theorem dL_law_684 : decode cL_law 684 = .ok (.iload_n 3, 1) := by decide +kernel
theorem dL_law_685 : decode cL_law 685 = .ok (.irem, 1) := by decide +kernel
theorem dL_law_686 : decode cL_law 686 = .ok (.istore 14, 2) := by decide +kernel
theorem dL_law_688 : decode cL_law 688 = .ok (.aload_n 1, 1) := by decide +kernel
theorem dL_law_689 : decode cL_law 689 = .ok (.iload 14, 2) := by decide +kernel
theorem dL_law_691 : decode cL_law 691 = .ok (.iconst 0, 1) := by decide +kernel
theorem dL_law_692 : decode cL_law 692 = .ok (.invokestatic 173, 3) := by decide +kernel
theorem dL_law_695 : decode cL_law 695 = .ok (.ldc2_w 203, 3) := by decide +kernel
theorem dL_law_698 : decode cL_law 698 = .ok (.lcmp, 1) := by decide +kernel
theorem dL_law_699 : decode cL_law 699 = .ok (.ifCond .eq 21, 3) := by decide +kernel
theorem dL_law_702 : decode cL_law 702 = .ok (.aload_n 1, 1) := by decide +kernel
theorem dL_law_703 : decode cL_law 703 = .ok (.iload 14, 2) := by decide +kernel
theorem dL_law_705 : decode cL_law 705 = .ok (.iconst 4, 1) := by decide +kernel
theorem dL_law_706 : decode cL_law 706 = .ok (.invokestatic 173, 3) := by decide +kernel
theorem dL_law_709 : decode cL_law 709 = .ok (.ldc2_w 124, 3) := by decide +kernel
theorem dL_law_712 : decode cL_law 712 = .ok (.lcmp, 1) := by decide +kernel
theorem dL_law_713 : decode cL_law 713 = .ok (.ifCond .ne 7, 3) := by decide +kernel
theorem dL_law_716 : decode cL_law 716 = .ok (.iconst 1, 1) := by decide +kernel
theorem dL_law_717 : decode cL_law 717 = .ok (.goto 4, 3) := by decide +kernel
theorem dL_law_720 : decode cL_law 720 = .ok (.iconst 0, 1) := by decide +kernel
theorem dL_law_721 : decode cL_law 721 = .ok (.istore 15, 2) := by decide +kernel
theorem dL_law_723 : decode cL_law 723 = .ok (.aload_n 1, 1) := by decide +kernel
theorem dL_law_724 : decode cL_law 724 = .ok (.iload 14, 2) := by decide +kernel
theorem dL_law_726 : decode cL_law 726 = .ok (.invokestatic 171, 3) := by decide +kernel
theorem dL_law_729 : decode cL_law 729 = .ok (.iload 15, 2) := by decide +kernel
theorem dL_law_731 : decode cL_law 731 = .ok (.ifCond .eq 8, 3) := by decide +kernel
theorem dL_law_734 : decode cL_law 734 = .ok (.iload_n 3, 1) := by decide +kernel
theorem dL_law_735 : decode cL_law 735 = .ok (.i2l, 1) := by decide +kernel
theorem dL_law_736 : decode cL_law 736 = .ok (.goto 6, 3) := by decide +kernel
theorem dL_law_739 : decode cL_law 739 = .ok (.ldc2_w 21, 3) := by decide +kernel
theorem dL_law_742 : decode cL_law 742 = .ok (.lcmp, 1) := by decide +kernel
theorem dL_law_743 : decode cL_law 743 = .ok (.ifCond .ne 25, 3) := by decide +kernel
theorem dL_law_746 : decode cL_law 746 = .ok (.iload 15, 2) := by decide +kernel
theorem dL_law_748 : decode cL_law 748 = .ok (.ifCond .eq 16, 3) := by decide +kernel
theorem dL_law_751 : decode cL_law 751 = .ok (.aload_n 1, 1) := by decide +kernel
theorem dL_law_752 : decode cL_law 752 = .ok (.iload 14, 2) := by decide +kernel
theorem dL_law_754 : decode cL_law 754 = .ok (.iconst 4, 1) := by decide +kernel
theorem dL_law_755 : decode cL_law 755 = .ok (.invokestatic 173, 3) := by decide +kernel
theorem dL_law_758 : decode cL_law 758 = .ok (.iload_n 3, 1) := by decide +kernel
theorem dL_law_759 : decode cL_law 759 = .ok (.i2l, 1) := by decide +kernel
theorem dL_law_760 : decode cL_law 760 = .ok (.lcmp, 1) := by decide +kernel
theorem dL_law_761 : decode cL_law 761 = .ok (.ifCond .ne 7, 3) := by decide +kernel
theorem dL_law_764 : decode cL_law 764 = .ok (.iconst 1, 1) := by decide +kernel
theorem dL_law_765 : decode cL_law 765 = .ok (.goto 4, 3) := by decide +kernel
theorem dL_law_768 : decode cL_law 768 = .ok (.iconst 0, 1) := by decide +kernel
theorem dL_law_769 : decode cL_law 769 = .ok (.istore 5, 2) := by decide +kernel
theorem dL_law_771 : decode cL_law 771 = .ok (.iload_n 3, 1) := by decide +kernel
theorem dL_law_772 : decode cL_law 772 = .ok (.iload 15, 2) := by decide +kernel
theorem dL_law_774 : decode cL_law 774 = .ok (.ifCond .eq 7, 3) := by decide +kernel
theorem dL_law_777 : decode cL_law 777 = .ok (.iconst 1, 1) := by decide +kernel
theorem dL_law_778 : decode cL_law 778 = .ok (.goto 4, 3) := by decide +kernel
theorem dL_law_781 : decode cL_law 781 = .ok (.iconst 0, 1) := by decide +kernel
theorem dL_law_782 : decode cL_law 782 = .ok (.iadd, 1) := by decide +kernel
theorem dL_law_783 : decode cL_law 783 = .ok (.istore_n 3, 1) := by decide +kernel
theorem dL_law_784 : decode cL_law 784 = .ok (.goto 266, 3) := by decide +kernel
theorem dL_law_787 : decode cL_law 787 = .ok (.iload 11, 2) := by decide +kernel
theorem dL_law_789 : decode cL_law 789 = .ok (.bipush 11, 2) := by decide +kernel
theorem dL_law_791 : decode cL_law 791 = .ok (.if_icmp .ne 63, 3) := by decide +kernel
theorem dL_law_794 : decode cL_law 794 = .ok (.aload_n 1, 1) := by decide +kernel
theorem dL_law_795 : decode cL_law 795 = .ok (.iconst 1, 1) := by decide +kernel
theorem dL_law_796 : decode cL_law 796 = .ok (.iload 8, 2) := by decide +kernel
theorem dL_law_798 : decode cL_law 798 = .ok (.sipush 700, 3) := by decide +kernel
theorem dL_law_801 : decode cL_law 801 = .ok (.irem, 1) := by decide +kernel
theorem dL_law_802 : decode cL_law 802 = .ok (.iadd, 1) := by decide +kernel
theorem dL_law_803 : decode cL_law 803 = .ok (.invokestatic 157, 3) := by decide +kernel
theorem dL_law_806 : decode cL_law 806 = .ok (.iload 9, 2) := by decide +kernel
theorem dL_law_808 : decode cL_law 808 = .ok (.iload 8, 2) := by decide +kernel
theorem dL_law_810 : decode cL_law 810 = .ok (.sipush 700, 3) := by decide +kernel
theorem dL_law_813 : decode cL_law 813 = .ok (.irem, 1) := by decide +kernel
theorem dL_law_814 : decode cL_law 814 = .ok (.iadd, 1) := by decide +kernel
theorem dL_law_815 : decode cL_law 815 = .ok (.sipush 30000, 3) := by decide +kernel
theorem dL_law_818 : decode cL_law 818 = .ok (.if_icmp .ge 19, 3) := by decide +kernel
theorem dL_law_821 : decode cL_law 821 = .ok (.iload 9, 2) := by decide +kernel
theorem dL_law_823 : decode cL_law 823 = .ok (.i2l, 1) := by decide +kernel
theorem dL_law_824 : decode cL_law 824 = .ok (.lconst 1, 1) := by decide +kernel
theorem dL_law_825 : decode cL_law 825 = .ok (.ladd, 1) := by decide +kernel
theorem dL_law_826 : decode cL_law 826 = .ok (.iload 8, 2) := by decide +kernel
theorem dL_law_828 : decode cL_law 828 = .ok (.sipush 700, 3) := by decide +kernel
theorem dL_law_831 : decode cL_law 831 = .ok (.irem, 1) := by decide +kernel
theorem dL_law_832 : decode cL_law 832 = .ok (.i2l, 1) := by decide +kernel
theorem dL_law_833 : decode cL_law 833 = .ok (.ladd, 1) := by decide +kernel
theorem dL_law_834 : decode cL_law 834 = .ok (.goto 6, 3) := by decide +kernel
theorem dL_law_837 : decode cL_law 837 = .ok (.ldc2_w 21, 3) := by decide +kernel
theorem dL_law_840 : decode cL_law 840 = .ok (.lcmp, 1) := by decide +kernel
theorem dL_law_841 : decode cL_law 841 = .ok (.ifCond .ne 7, 3) := by decide +kernel
theorem dL_law_844 : decode cL_law 844 = .ok (.iconst 1, 1) := by decide +kernel
theorem dL_law_845 : decode cL_law 845 = .ok (.goto 4, 3) := by decide +kernel
theorem dL_law_848 : decode cL_law 848 = .ok (.iconst 0, 1) := by decide +kernel
theorem dL_law_849 : decode cL_law 849 = .ok (.istore 5, 2) := by decide +kernel
theorem dL_law_851 : decode cL_law 851 = .ok (.goto 199, 3) := by decide +kernel
theorem dL_law_854 : decode cL_law 854 = .ok (.iload 8, 2) := by decide +kernel
theorem dL_law_856 : decode cL_law 856 = .ok (.iload_n 2, 1) := by decide +kernel
theorem dL_law_857 : decode cL_law 857 = .ok (.irem, 1) := by decide +kernel
theorem dL_law_858 : decode cL_law 858 = .ok (.istore 14, 2) := by decide +kernel
theorem dL_law_860 : decode cL_law 860 = .ok (.aload_n 1, 1) := by decide +kernel
theorem dL_law_861 : decode cL_law 861 = .ok (.iload 14, 2) := by decide +kernel
