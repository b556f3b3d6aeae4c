/-! the law's instructions -/
theorem dL_law_401 : decode cL_law 401 = .ok (.invokestatic 106, 3) := by decide +kernel
theorem dL_law_404 : decode cL_law 404 = .ok (.aload 12, 2) := by decide +kernel
theorem dL_law_406 : decode cL_law 406 = .ok (.iconst 1, 1) := by decide +kernel
theorem dL_law_407 : decode cL_law 407 = .ok (.iaload, 1) := by decide +kernel
theorem dL_law_408 : decode cL_law 408 = .ok (.iconst 1, 1) := by decide +kernel
theorem dL_law_409 : decode cL_law 409 = .ok (.isub, 1) := by decide +kernel
theorem dL_law_410 : decode cL_law 410 = .ok (.if_icmp .ne 7, 3) := by decide +kernel
theorem dL_law_413 : decode cL_law 413 = .ok (.iconst 1, 1) := by decide +kernel
theorem dL_law_414 : decode cL_law 414 = .ok (.goto 4, 3) := by decide +kernel
theorem dL_law_417 : decode cL_law 417 = .ok (.iconst 0, 1) := by decide +kernel
theorem dL_law_418 : decode cL_law 418 = .ok (.istore 13, 2) := by decide +kernel
theorem dL_law_420 : decode cL_law 420 = .ok (.goto 811, 3) := by decide +kernel
theorem dL_law_423 : decode cL_law 423 = .ok (.iload 15, 2) := by decide +kernel
theorem dL_law_425 : decode cL_law 425 = .ok (.iconst 1, 1) := by decide +kernel
theorem dL_law_426 : decode cL_law 426 = .ok (.if_icmp .ne 99, 3) := by decide +kernel
theorem dL_law_429 : decode cL_law 429 = .ok (.iload 17, 2) := by decide +kernel
theorem dL_law_431 : decode cL_law 431 = .ok (.iconst 5, 1) := by decide +kernel
theorem dL_law_432 : decode cL_law 432 = .ok (.irem, 1) := by decide +kernel
theorem dL_law_433 : decode cL_law 433 = .ok (.istore 20, 2) := by decide +kernel
theorem dL_law_435 : decode cL_law 435 = .ok (.iload 19, 2) := by decide +kernel
theorem dL_law_437 : decode cL_law 437 = .ok (.ifCond .eq 10, 3) := by decide +kernel
theorem dL_law_440 : decode cL_law 440 = .ok (.aload_n 2, 1) := by decide +kernel
theorem dL_law_441 : decode cL_law 441 = .ok (.iload 18, 2) := by decide +kernel
theorem dL_law_443 : decode cL_law 443 = .ok (.iaload, 1) := by decide +kernel
theorem dL_law_444 : decode cL_law 444 = .ok (.goto 4, 3) := by decide +kernel
theorem dL_law_447 : decode cL_law 447 = .ok (.iconst 0, 1) := by decide +kernel
theorem dL_law_448 : decode cL_law 448 = .ok (.istore 21, 2) := by decide +kernel
theorem dL_law_450 : decode cL_law 450 = .ok (.iload 20, 2) := by decide +kernel
theorem dL_law_452 : decode cL_law 452 = .ok (.iconst 4, 1) := by decide +kernel
theorem dL_law_453 : decode cL_law 453 = .ok (.if_icmp .ge 7, 3) := by decide +kernel
theorem dL_law_456 : decode cL_law 456 = .ok (.iconst 1, 1) := by decide +kernel
theorem dL_law_457 : decode cL_law 457 = .ok (.goto 4, 3) := by decide +kernel
theorem dL_law_460 : decode cL_law 460 = .ok (.iconst 0, 1) := by decide +kernel
theorem dL_law_461 : decode cL_law 461 = .ok (.istore 22, 2) := by decide +kernel
theorem dL_law_463 : decode cL_law 463 = .ok (.iload 19, 2) := by decide +kernel
theorem dL_law_465 : decode cL_law 465 = .ok (.ifCond .eq 14, 3) := by decide +kernel
theorem dL_law_468 : decode cL_law 468 = .ok (.iload 22, 2) := by decide +kernel
theorem dL_law_470 : decode cL_law 470 = .ok (.ifCond .eq 9, 3) := by decide +kernel
theorem dL_law_473 : decode cL_law 473 = .ok (.aload_n 2, 1) := by decide +kernel
theorem dL_law_474 : decode cL_law 474 = .ok (.iload 18, 2) := by decide +kernel
theorem dL_law_476 : decode cL_law 476 = .ok (.iload 20, 2) := by decide +kernel
theorem dL_law_478 : decode cL_law 478 = .ok (.iastore, 1) := by decide +kernel
theorem dL_law_479 : decode cL_law 479 = .ok (.aload_n 1, 1) := by decide +kernel
theorem dL_law_480 : decode cL_law 480 = .ok (.iconst 1, 1) := by decide +kernel
theorem dL_law_481 : decode cL_law 481 = .ok (.iload 18, 2) := by decide +kernel
theorem dL_law_483 : decode cL_law 483 = .ok (.iload 20, 2) := by decide +kernel
theorem dL_law_485 : decode cL_law 485 = .ok (.iconst 0, 1) := by decide +kernel
theorem dL_law_486 : decode cL_law 486 = .ok (.iconst 0, 1) := by decide +kernel
theorem dL_law_487 : decode cL_law 487 = .ok (.invokestatic 106, 3) := by decide +kernel
theorem dL_law_490 : decode cL_law 490 = .ok (.iload 19, 2) := by decide +kernel
theorem dL_law_492 : decode cL_law 492 = .ok (.ifCond .ne 8, 3) := by decide +kernel
theorem dL_law_495 : decode cL_law 495 = .ok (.ldc 72, 2) := by decide +kernel
theorem dL_law_497 : decode cL_law 497 = .ok (.goto 15, 3) := by decide +kernel
theorem dL_law_500 : decode cL_law 500 = .ok (.iload 22, 2) := by decide +kernel
theorem dL_law_502 : decode cL_law 502 = .ok (.ifCond .eq 8, 3) := by decide +kernel
theorem dL_law_505 : decode cL_law 505 = .ok (.iload 21, 2) := by decide +kernel
theorem dL_law_507 : decode cL_law 507 = .ok (.goto 5, 3) := by decide +kernel
theorem dL_law_510 : decode cL_law 510 = .ok (.ldc 75, 2) := by decide +kernel
theorem dL_law_512 : decode cL_law 512 = .ok (.if_icmp .ne 7, 3) := by decide +kernel
theorem dL_law_515 : decode cL_law 515 = .ok (.iconst 1, 1) := by decide +kernel
theorem dL_law_516 : decode cL_law 516 = .ok (.goto 4, 3) := by decide +kernel
theorem dL_law_519 : decode cL_law 519 = .ok (.iconst 0, 1) := by decide +kernel
theorem dL_law_520 : decode cL_law 520 = .ok (.istore 13, 2) := by decide +kernel
theorem dL_law_522 : decode cL_law 522 = .ok (.goto 709, 3) := by decide +kernel
theorem dL_law_525 : decode cL_law 525 = .ok (.iload 15, 2) := by decide +kernel
theorem dL_law_527 : decode cL_law 527 = .ok (.iconst 2, 1) := by decide +kernel
theorem dL_law_528 : decode cL_law 528 = .ok (.if_icmp .ne 140, 3) := by decide +kernel
theorem dL_law_531 : decode cL_law 531 = .ok (.iload 17, 2) := by decide +kernel
theorem dL_law_533 : decode cL_law 533 = .ok (.iconst 4, 1) := by decide +kernel
theorem dL_law_534 : decode cL_law 534 = .ok (.irem, 1) := by decide +kernel
theorem dL_law_535 : decode cL_law 535 = .ok (.ifCond .ne 7, 3) := by decide +kernel
theorem dL_law_538 : decode cL_law 538 = .ok (.iconst (-1), 1) := by decide +kernel
theorem dL_law_539 : decode cL_law 539 = .ok (.goto 29, 3) := by decide +kernel
theorem dL_law_542 : decode cL_law 542 = .ok (.iload 17, 2) := by decide +kernel
theorem dL_law_544 : decode cL_law 544 = .ok (.iconst 4, 1) := by decide +kernel
theorem dL_law_545 : decode cL_law 545 = .ok (.irem, 1) := by decide +kernel
theorem dL_law_546 : decode cL_law 546 = .ok (.iconst 1, 1) := by decide +kernel
theorem dL_law_547 : decode cL_law 547 = .ok (.if_icmp .ne 14, 3) := by decide +kernel
theorem dL_law_550 : decode cL_law 550 = .ok (.iload 17, 2) := by decide +kernel
theorem dL_law_552 : decode cL_law 552 = .ok (.iconst 4, 1) := by decide +kernel
theorem dL_law_553 : decode cL_law 553 = .ok (.idiv, 1) := by decide +kernel
theorem dL_law_554 : decode cL_law 554 = .ok (.sipush 10002, 3) := by decide +kernel
theorem dL_law_557 : decode cL_law 557 = .ok (.irem, 1) := by decide +kernel
theorem dL_law_558 : decode cL_law 558 = .ok (.goto 10, 3) := by decide +kernel
theorem dL_law_561 : decode cL_law 561 = .ok (.iload 17, 2) := by decide +kernel
theorem dL_law_563 : decode cL_law 563 = .ok (.iconst 4, 1) := by decide +kernel
theorem dL_law_564 : decode cL_law 564 = .ok (.idiv, 1) := by decide +kernel
theorem dL_law_565 : decode cL_law 565 = .ok (.bipush 6, 2) := by decide +kernel
theorem dL_law_567 : decode cL_law 567 = .ok (.irem, 1) := by decide +kernel
theorem dL_law_568 : decode cL_law 568 = .ok (.istore 20, 2) := by decide +kernel
theorem dL_law_570 : decode cL_law 570 = .ok (.iload 20, 2) := by decide +kernel
theorem dL_law_572 : decode cL_law 572 = .ok (.sipush 10001, 3) := by decide +kernel
theorem dL_law_575 : decode cL_law 575 = .ok (.if_icmp .ge 7, 3) := by decide +kernel
theorem dL_law_578 : decode cL_law 578 = .ok (.iconst 1, 1) := by decide +kernel
theorem dL_law_579 : decode cL_law 579 = .ok (.goto 4, 3) := by decide +kernel
theorem dL_law_582 : decode cL_law 582 = .ok (.iconst 0, 1) := by decide +kernel
theorem dL_law_583 : decode cL_law 583 = .ok (.istore 21, 2) := by decide +kernel
theorem dL_law_585 : decode cL_law 585 = .ok (.iload 20, 2) := by decide +kernel
theorem dL_law_587 : decode cL_law 587 = .ok (.ifCond .ge 7, 3) := by decide +kernel
theorem dL_law_590 : decode cL_law 590 = .ok (.iconst (-1), 1) := by decide +kernel
theorem dL_law_591 : decode cL_law 591 = .ok (.goto 10, 3) := by decide +kernel
theorem dL_law_594 : decode cL_law 594 = .ok (.aload 12, 2) := by decide +kernel
theorem dL_law_596 : decode cL_law 596 = .ok (.iconst 0, 1) := by decide +kernel
theorem dL_law_597 : decode cL_law 597 = .ok (.iaload, 1) := by decide +kernel
theorem dL_law_598 : decode cL_law 598 = .ok (.iload 20, 2) := by decide +kernel
theorem dL_law_600 : decode cL_law 600 = .ok (.iadd, 1) := by decide +kernel
theorem dL_law_601 : decode cL_law 601 = .ok (.istore 22, 2) := by decide +kernel
theorem dL_law_603 : decode cL_law 603 = .ok (.iload 19, 2) := by decide +kernel
theorem dL_law_605 : decode cL_law 605 = .ok (.ifCond .eq 17, 3) := by decide +kernel
theorem dL_law_608 : decode cL_law 608 = .ok (.iload 21, 2) := by decide +kernel
theorem dL_law_610 : decode cL_law 610 = .ok (.ifCond .eq 12, 3) := by decide +kernel
theorem dL_law_613 : decode cL_law 613 = .ok (.aload_n 2, 1) := by decide +kernel
theorem dL_law_614 : decode cL_law 614 = .ok (.bipush 8, 2) := by decide +kernel
theorem dL_law_616 : decode cL_law 616 = .ok (.iload 18, 2) := by decide +kernel
theorem dL_law_618 : decode cL_law 618 = .ok (.iadd, 1) := by decide +kernel
theorem dL_law_619 : decode cL_law 619 = .ok (.iload 22, 2) := by decide +kernel
theorem dL_law_621 : decode cL_law 621 = .ok (.iastore, 1) := by decide +kernel
theorem dL_law_622 : decode cL_law 622 = .ok (.aload_n 1, 1) := by decide +kernel
theorem dL_law_623 : decode cL_law 623 = .ok (.iconst 2, 1) := by decide +kernel
theorem dL_law_624 : decode cL_law 624 = .ok (.iload 18, 2) := by decide +kernel
theorem dL_law_626 : decode cL_law 626 = .ok (.iload 20, 2) := by decide +kernel
theorem dL_law_628 : decode cL_law 628 = .ok (.iconst 0, 1) := by decide +kernel
theorem dL_law_629 : decode cL_law 629 = .ok (.iconst 0, 1) := by decide +kernel
theorem dL_law_630 : decode cL_law 630 = .ok (.invokestatic 106, 3) := by decide +kernel
theorem dL_law_633 : decode cL_law 633 = .ok (.iload 19, 2) := by decide +kernel
theorem dL_law_635 : decode cL_law 635 = .ok (.ifCond .ne 8, 3) := by decide +kernel
theorem dL_law_638 : decode cL_law 638 = .ok (.ldc 72, 2) := by decide +kernel
theorem dL_law_640 : decode cL_law 640 = .ok (.goto 15, 3) := by decide +kernel
theorem dL_law_643 : decode cL_law 643 = .ok (.iload 21, 2) := by decide +kernel
theorem dL_law_645 : decode cL_law 645 = .ok (.ifCond .eq 8, 3) := by decide +kernel
theorem dL_law_648 : decode cL_law 648 = .ok (.iload 22, 2) := by decide +kernel
theorem dL_law_650 : decode cL_law 650 = .ok (.goto 5, 3) := by decide +kernel
theorem dL_law_653 : decode cL_law 653 = .ok (.ldc 75, 2) := by decide +kernel
theorem dL_law_655 : decode cL_law 655 = .ok (.if_icmp .ne 7, 3) := by decide +kernel
theorem dL_law_658 : decode cL_law 658 = .ok (.iconst 1, 1) := by decide +kernel
theorem dL_law_659 : decode cL_law 659 = .ok (.goto 4, 3) := by decide +kernel
theorem dL_law_662 : decode cL_law 662 = .ok (.iconst 0, 1) := by decide +kernel
theorem dL_law_663 : decode cL_law 663 = .ok (.istore 13, 2) := by decide +kernel
theorem dL_law_665 : decode cL_law 665 = .ok (.goto 566, 3) := by decide +kernel
theorem dL_law_668 : decode cL_law 668 = .ok (.iload 15, 2) := by decide +kernel
theorem dL_law_670 : decode cL_law 670 = .ok (.iconst 3, 1) := by decide +kernel
theorem dL_law_671 : decode cL_law 671 = .ok (.if_icmp .ne 169, 3) := by decide +kernel
theorem dL_law_674 : decode cL_law 674 = .ok (.iload 14, 2) := by decide +kernel
theorem dL_law_676 : decode cL_law 676 = .ok (.bipush 7, 2) := by decide +kernel
theorem dL_law_678 : decode cL_law 678 = .ok (.if_icmp .ge 10, 3) := by decide +kernel
theorem dL_law_681 : decode cL_law 681 = .ok (.iload 14, 2) := by decide +kernel
theorem dL_law_683 : decode cL_law 683 = .ok (.iconst 2, 1) := by decide +kernel
theorem dL_law_684 : decode cL_law 684 = .ok (.irem, 1) := by decide +kernel
theorem dL_law_685 : decode cL_law 685 = .ok (.goto 8, 3) := by decide +kernel
theorem dL_law_688 : decode cL_law 688 = .ok (.iload 17, 2) := by decide +kernel
theorem dL_law_690 : decode cL_law 690 = .ok (.bipush 7, 2) := by decide +kernel
theorem dL_law_692 : decode cL_law 692 = .ok (.irem, 1) := by decide +kernel
theorem dL_law_693 : decode cL_law 693 = .ok (.istore 20, 2) := by decide +kernel
theorem dL_law_695 : decode cL_law 695 = .ok (.iload 16, 2) := by decide +kernel
theorem dL_law_697 : decode cL_law 697 = .ok (.iconst 3, 1) := by decide +kernel
theorem dL_law_698 : decode cL_law 698 = .ok (.irem, 1) := by decide +kernel
theorem dL_law_699 : decode cL_law 699 = .ok (.ifCond .ne 11, 3) := by decide +kernel
theorem dL_law_702 : decode cL_law 702 = .ok (.iload 16, 2) := by decide +kernel
theorem dL_law_704 : decode cL_law 704 = .ok (.bipush 17, 2) := by decide +kernel
theorem dL_law_706 : decode cL_law 706 = .ok (.imul, 1) := by decide +kernel
theorem dL_law_707 : decode cL_law 707 = .ok (.goto 9, 3) := by decide +kernel
theorem dL_law_710 : decode cL_law 710 = .ok (.iload 16, 2) := by decide +kernel
theorem dL_law_712 : decode cL_law 712 = .ok (.sipush 4000, 3) := by decide +kernel
theorem dL_law_715 : decode cL_law 715 = .ok (.irem, 1) := by decide +kernel
theorem dL_law_716 : decode cL_law 716 = .ok (.istore 21, 2) := by decide +kernel
theorem dL_law_718 : decode cL_law 718 = .ok (.iload 21, 2) := by decide +kernel
theorem dL_law_720 : decode cL_law 720 = .ok (.ldc 112, 2) := by decide +kernel
theorem dL_law_722 : decode cL_law 722 = .ok (.if_icmp .ge 7, 3) := by decide +kernel
theorem dL_law_725 : decode cL_law 725 = .ok (.iconst 1, 1) := by decide +kernel
theorem dL_law_726 : decode cL_law 726 = .ok (.goto 4, 3) := by decide +kernel
theorem dL_law_729 : decode cL_law 729 = .ok (.iconst 0, 1) := by decide +kernel
theorem dL_law_730 : decode cL_law 730 = .ok (.istore 22, 2) := by decide +kernel
theorem dL_law_732 : decode cL_law 732 = .ok (.iload 20, 2) := by decide +kernel
theorem dL_law_734 : decode cL_law 734 = .ok (.bipush 6, 2) := by decide +kernel
theorem dL_law_736 : decode cL_law 736 = .ok (.if_icmp .ge 12, 3) := by decide +kernel
theorem dL_law_739 : decode cL_law 739 = .ok (.iload 22, 2) := by decide +kernel
theorem dL_law_741 : decode cL_law 741 = .ok (.ifCond .eq 7, 3) := by decide +kernel
theorem dL_law_744 : decode cL_law 744 = .ok (.iconst 1, 1) := by decide +kernel
theorem dL_law_745 : decode cL_law 745 = .ok (.goto 4, 3) := by decide +kernel
theorem dL_law_748 : decode cL_law 748 = .ok (.iconst 0, 1) := by decide +kernel
theorem dL_law_749 : decode cL_law 749 = .ok (.istore 23, 2) := by decide +kernel
theorem dL_law_751 : decode cL_law 751 = .ok (.aload 7, 2) := by decide +kernel
theorem dL_law_753 : decode cL_law 753 = .ok (.iload 23, 2) := by decide +kernel
theorem dL_law_755 : decode cL_law 755 = .ok (.ifCond .eq 8, 3) := by decide +kernel
theorem dL_law_758 : decode cL_law 758 = .ok (.iload 20, 2) := by decide +kernel
theorem dL_law_760 : decode cL_law 760 = .ok (.goto 5, 3) := by decide +kernel
theorem dL_law_763 : decode cL_law 763 = .ok (.bipush 7, 2) := by decide +kernel
theorem dL_law_765 : decode cL_law 765 = .ok (.dup2, 1) := by decide +kernel
theorem dL_law_766 : decode cL_law 766 = .ok (.iaload, 1) := by decide +kernel
theorem dL_law_767 : decode cL_law 767 = .ok (.iload 21, 2) := by decide +kernel
theorem dL_law_769 : decode cL_law 769 = .ok (.iadd, 1) := by decide +kernel
theorem dL_law_770 : decode cL_law 770 = .ok (.iastore, 1) := by decide +kernel
theorem dL_law_771 : decode cL_law 771 = .ok (.aload 12, 2) := by decide +kernel
theorem dL_law_773 : decode cL_law 773 = .ok (.iconst 5, 1) := by decide +kernel
theorem dL_law_774 : decode cL_law 774 = .ok (.dup2, 1) := by decide +kernel
theorem dL_law_775 : decode cL_law 775 = .ok (.iaload, 1) := by decide +kernel
theorem dL_law_776 : decode cL_law 776 = .ok (.iload 23, 2) := by decide +kernel
theorem dL_law_778 : decode cL_law 778 = .ok (.ifCond .eq 8, 3) := by decide +kernel
theorem dL_law_781 : decode cL_law 781 = .ok (.iload 21, 2) := by decide +kernel
theorem dL_law_783 : decode cL_law 783 = .ok (.goto 4, 3) := by decide +kernel
theorem dL_law_786 : decode cL_law 786 = .ok (.iconst 0, 1) := by decide +kernel
theorem dL_law_787 : decode cL_law 787 = .ok (.iadd, 1) := by decide +kernel
theorem dL_law_788 : decode cL_law 788 = .ok (.iastore, 1) := by decide +kernel
theorem dL_law_789 : decode cL_law 789 = .ok (.aload_n 1, 1) := by decide +kernel
theorem dL_law_790 : decode cL_law 790 = .ok (.iconst 3, 1) := by decide +kernel
theorem dL_law_791 : decode cL_law 791 = .ok (.iload 20, 2) := by decide +kernel
theorem dL_law_793 : decode cL_law 793 = .ok (.iload 21, 2) := by decide +kernel
theorem dL_law_795 : decode cL_law 795 = .ok (.iconst 0, 1) := by decide +kernel
theorem dL_law_796 : decode cL_law 796 = .ok (.iconst 0, 1) := by decide +kernel
theorem dL_law_797 : decode cL_law 797 = .ok (.invokestatic 106, 3) := by decide +kernel
theorem dL_law_800 : decode cL_law 800 = .ok (.iload 20, 2) := by decide +kernel
theorem dL_law_802 : decode cL_law 802 = .ok (.bipush 6, 2) := by decide +kernel
theorem dL_law_804 : decode cL_law 804 = .ok (.if_icmp .ne 8, 3) := by decide +kernel
theorem dL_law_807 : decode cL_law 807 = .ok (.ldc 72, 2) := by decide +kernel
theorem dL_law_809 : decode cL_law 809 = .ok (.goto 18, 3) := by decide +kernel
theorem dL_law_812 : decode cL_law 812 = .ok (.iload 22, 2) := by decide +kernel
theorem dL_law_814 : decode cL_law 814 = .ok (.ifCond .eq 11, 3) := by decide +kernel
theorem dL_law_817 : decode cL_law 817 = .ok (.aload 7, 2) := by decide +kernel
theorem dL_law_819 : decode cL_law 819 = .ok (.iload 20, 2) := by decide +kernel
theorem dL_law_821 : decode cL_law 821 = .ok (.iaload, 1) := by decide +kernel
theorem dL_law_822 : decode cL_law 822 = .ok (.goto 5, 3) := by decide +kernel
theorem dL_law_825 : decode cL_law 825 = .ok (.ldc 75, 2) := by decide +kernel
theorem dL_law_827 : decode cL_law 827 = .ok (.if_icmp .ne 7, 3) := by decide +kernel
theorem dL_law_830 : decode cL_law 830 = .ok (.iconst 1, 1) := by decide +kernel
theorem dL_law_831 : decode cL_law 831 = .ok (.goto 4, 3) := by decide +kernel
theorem dL_law_834 : decode cL_law 834 = .ok (.iconst 0, 1) := by decide +kernel
theorem dL_law_835 : decode cL_law 835 = .ok (.istore 13, 2) := by decide +kernel
theorem dL_law_837 : decode cL_law 837 = .ok (.goto 394, 3) := by decide +kernel
theorem dL_law_840 : decode cL_law 840 = .ok (.iload 15, 2) := by decide +kernel
theorem dL_law_842 : decode cL_law 842 = .ok (.bipush 17, 2) := by decide +kernel
theorem dL_law_844 : decode cL_law 844 = .ok (.if_icmp .ge 51, 3) := by decide +kernel
theorem dL_law_847 : decode cL_law 847 = .ok (.aload_n 1, 1) := by decide +kernel
theorem dL_law_848 : decode cL_law 848 = .ok (.aload_n 2, 1) := by decide +kernel
theorem dL_law_849 : decode cL_law 849 = .ok (.aload_n 3, 1) := by decide +kernel
