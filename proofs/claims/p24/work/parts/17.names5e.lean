theorem dL_asks_495 : decode cL_asks 495 = .ok (.iconst 3, 1) := by decide +kernel
theorem dL_asks_496 : decode cL_asks 496 = .ok (.iload 13, 2) := by decide +kernel
theorem dL_asks_498 : decode cL_asks 498 = .ok (.imul, 1) := by decide +kernel
theorem dL_asks_499 : decode cL_asks 499 = .ok (.iload 14, 2) := by decide +kernel
theorem dL_asks_501 : decode cL_asks 501 = .ok (.iadd, 1) := by decide +kernel
theorem dL_asks_502 : decode cL_asks 502 = .ok (.iaload, 1) := by decide +kernel
theorem dL_asks_503 : decode cL_asks 503 = .ok (.goto 4, 3) := by decide +kernel
theorem dL_asks_506 : decode cL_asks 506 = .ok (.iconst 0, 1) := by decide +kernel
theorem dL_asks_507 : decode cL_asks 507 = .ok (.istore 17, 2) := by decide +kernel
theorem dL_asks_509 : decode cL_asks 509 = .ok (.iconst 0, 1) := by decide +kernel
theorem dL_asks_510 : decode cL_asks 510 = .ok (.istore 18, 2) := by decide +kernel
theorem dL_asks_512 : decode cL_asks 512 = .ok (.iload 18, 2) := by decide +kernel
theorem dL_asks_514 : decode cL_asks 514 = .ok (.iconst 3, 1) := by decide +kernel
theorem dL_asks_515 : decode cL_asks 515 = .ok (.if_icmp .ge 94, 3) := by decide +kernel
theorem dL_asks_518 : decode cL_asks 518 = .ok (.iload 16, 2) := by decide +kernel
theorem dL_asks_520 : decode cL_asks 520 = .ok (.ifCond .eq 89, 3) := by decide +kernel
theorem dL_asks_523 : decode cL_asks 523 = .ok (.aload 8, 2) := by decide +kernel
theorem dL_asks_525 : decode cL_asks 525 = .ok (.bipush 12, 2) := by decide +kernel
theorem dL_asks_527 : decode cL_asks 527 = .ok (.iconst 3, 1) := by decide +kernel
theorem dL_asks_528 : decode cL_asks 528 = .ok (.iload 18, 2) := by decide +kernel
theorem dL_asks_530 : decode cL_asks 530 = .ok (.imul, 1) := by decide +kernel
theorem dL_asks_531 : decode cL_asks 531 = .ok (.iadd, 1) := by decide +kernel
theorem dL_asks_532 : decode cL_asks 532 = .ok (.iload 14, 2) := by decide +kernel
theorem dL_asks_534 : decode cL_asks 534 = .ok (.iadd, 1) := by decide +kernel
theorem dL_asks_535 : decode cL_asks 535 = .ok (.iaload, 1) := by decide +kernel
theorem dL_asks_536 : decode cL_asks 536 = .ok (.aload 8, 2) := by decide +kernel
theorem dL_asks_538 : decode cL_asks 538 = .ok (.bipush 6, 2) := by decide +kernel
theorem dL_asks_540 : decode cL_asks 540 = .ok (.iconst 3, 1) := by decide +kernel
theorem dL_asks_541 : decode cL_asks 541 = .ok (.iload 13, 2) := by decide +kernel
theorem dL_asks_543 : decode cL_asks 543 = .ok (.imul, 1) := by decide +kernel
theorem dL_asks_544 : decode cL_asks 544 = .ok (.iadd, 1) := by decide +kernel
theorem dL_asks_545 : decode cL_asks 545 = .ok (.iload 18, 2) := by decide +kernel
theorem dL_asks_547 : decode cL_asks 547 = .ok (.iadd, 1) := by decide +kernel
theorem dL_asks_548 : decode cL_asks 548 = .ok (.iaload, 1) := by decide +kernel
theorem dL_asks_549 : decode cL_asks 549 = .ok (.imul, 1) := by decide +kernel
theorem dL_asks_550 : decode cL_asks 550 = .ok (.istore 19, 2) := by decide +kernel
theorem dL_asks_552 : decode cL_asks 552 = .ok (.iload 17, 2) := by decide +kernel
theorem dL_asks_554 : decode cL_asks 554 = .ok (.iload 15, 2) := by decide +kernel
theorem dL_asks_556 : decode cL_asks 556 = .ok (.iload 18, 2) := by decide +kernel
theorem dL_asks_558 : decode cL_asks 558 = .ok (.ishr, 1) := by decide +kernel
theorem dL_asks_559 : decode cL_asks 559 = .ok (.iconst 1, 1) := by decide +kernel
theorem dL_asks_560 : decode cL_asks 560 = .ok (.iand, 1) := by decide +kernel
theorem dL_asks_561 : decode cL_asks 561 = .ok (.iconst 1, 1) := by decide +kernel
theorem dL_asks_562 : decode cL_asks 562 = .ok (.if_icmp .ne 7, 3) := by decide +kernel
theorem dL_asks_565 : decode cL_asks 565 = .ok (.iconst 0, 1) := by decide +kernel
theorem dL_asks_566 : decode cL_asks 566 = .ok (.goto 16, 3) := by decide +kernel
theorem dL_asks_569 : decode cL_asks 569 = .ok (.iload 19, 2) := by decide +kernel
theorem dL_asks_571 : decode cL_asks 571 = .ok (.iload 19, 2) := by decide +kernel
theorem dL_asks_573 : decode cL_asks 573 = .ok (.sipush 255, 3) := by decide +kernel
theorem dL_asks_576 : decode cL_asks 576 = .ok (.irem, 1) := by decide +kernel
theorem dL_asks_577 : decode cL_asks 577 = .ok (.isub, 1) := by decide +kernel
theorem dL_asks_578 : decode cL_asks 578 = .ok (.sipush 255, 3) := by decide +kernel
theorem dL_asks_581 : decode cL_asks 581 = .ok (.idiv, 1) := by decide +kernel
theorem dL_asks_582 : decode cL_asks 582 = .ok (.iadd, 1) := by decide +kernel
theorem dL_asks_583 : decode cL_asks 583 = .ok (.istore 17, 2) := by decide +kernel
theorem dL_asks_585 : decode cL_asks 585 = .ok (.iload 17, 2) := by decide +kernel
theorem dL_asks_587 : decode cL_asks 587 = .ok (.sipush 255, 3) := by decide +kernel
theorem dL_asks_590 : decode cL_asks 590 = .ok (.if_icmp .le 9, 3) := by decide +kernel
theorem dL_asks_593 : decode cL_asks 593 = .ok (.sipush 255, 3) := by decide +kernel
theorem dL_asks_596 : decode cL_asks 596 = .ok (.goto 5, 3) := by decide +kernel
theorem dL_asks_599 : decode cL_asks 599 = .ok (.iload 17, 2) := by decide +kernel
theorem dL_asks_601 : decode cL_asks 601 = .ok (.istore 17, 2) := by decide +kernel
theorem dL_asks_603 : decode cL_asks 603 = .ok (.iinc 18 1, 3) := by decide +kernel
theorem dL_asks_606 : decode cL_asks 606 = .ok (.goto (-94), 3) := by decide +kernel
theorem dL_asks_609 : decode cL_asks 609 = .ok (.aload_n 0, 1) := by decide +kernel
theorem dL_asks_610 : decode cL_asks 610 = .ok (.invokevirtual 125, 3) := by decide +kernel
theorem dL_asks_613 : decode cL_asks 613 = .ok (.iload 11, 2) := by decide +kernel
theorem dL_asks_615 : decode cL_asks 615 = .ok (.if_icmp .ne 73, 3) := by decide +kernel
theorem dL_asks_618 : decode cL_asks 618 = .ok (.aload_n 0, 1) := by decide +kernel
theorem dL_asks_619 : decode cL_asks 619 = .ok (.invokevirtual 129, 3) := by decide +kernel
theorem dL_asks_622 : decode cL_asks 622 = .ok (.aload_n 3, 1) := by decide +kernel
theorem dL_asks_623 : decode cL_asks 623 = .ok (.aload 6, 2) := by decide +kernel
theorem dL_asks_625 : decode cL_asks 625 = .ok (.invokestatic 94, 3) := by decide +kernel
theorem dL_asks_628 : decode cL_asks 628 = .ok (.if_icmp .ne 60, 3) := by decide +kernel
theorem dL_asks_631 : decode cL_asks 631 = .ok (.aload_n 0, 1) := by decide +kernel
theorem dL_asks_632 : decode cL_asks 632 = .ok (.iload 12, 2) := by decide +kernel
theorem dL_asks_634 : decode cL_asks 634 = .ok (.iload 13, 2) := by decide +kernel
theorem dL_asks_636 : decode cL_asks 636 = .ok (.iload 14, 2) := by decide +kernel
theorem dL_asks_638 : decode cL_asks 638 = .ok (.iload 15, 2) := by decide +kernel
theorem dL_asks_640 : decode cL_asks 640 = .ok (.invokestatic 131, 3) := by decide +kernel
theorem dL_asks_643 : decode cL_asks 643 = .ok (.iload 16, 2) := by decide +kernel
theorem dL_asks_645 : decode cL_asks 645 = .ok (.ifCond .ne 8, 3) := by decide +kernel
theorem dL_asks_648 : decode cL_asks 648 = .ok (.bipush (-101), 2) := by decide +kernel
theorem dL_asks_650 : decode cL_asks 650 = .ok (.goto 31, 3) := by decide +kernel
theorem dL_asks_653 : decode cL_asks 653 = .ok (.iload 15, 2) := by decide +kernel
theorem dL_asks_655 : decode cL_asks 655 = .ok (.bipush 7, 2) := by decide +kernel
theorem dL_asks_657 : decode cL_asks 657 = .ok (.if_icmp .le 8, 3) := by decide +kernel
theorem dL_asks_660 : decode cL_asks 660 = .ok (.bipush (-102), 2) := by decide +kernel
theorem dL_asks_662 : decode cL_asks 662 = .ok (.goto 19, 3) := by decide +kernel
theorem dL_asks_665 : decode cL_asks 665 = .ok (.aload_n 3, 1) := by decide +kernel
theorem dL_asks_666 : decode cL_asks 666 = .ok (.aload 4, 2) := by decide +kernel
theorem dL_asks_668 : decode cL_asks 668 = .ok (.aload 5, 2) := by decide +kernel
theorem dL_asks_670 : decode cL_asks 670 = .ok (.aload 6, 2) := by decide +kernel
theorem dL_asks_672 : decode cL_asks 672 = .ok (.iload 12, 2) := by decide +kernel
theorem dL_asks_674 : decode cL_asks 674 = .ok (.iload 14, 2) := by decide +kernel
theorem dL_asks_676 : decode cL_asks 676 = .ok (.iload 17, 2) := by decide +kernel
theorem dL_asks_678 : decode cL_asks 678 = .ok (.invokestatic 23, 3) := by decide +kernel
theorem dL_asks_681 : decode cL_asks 681 = .ok (.if_icmp .ne 7, 3) := by decide +kernel
theorem dL_asks_684 : decode cL_asks 684 = .ok (.iconst 1, 1) := by decide +kernel
theorem dL_asks_685 : decode cL_asks 685 = .ok (.goto 4, 3) := by decide +kernel
theorem dL_asks_688 : decode cL_asks 688 = .ok (.iconst 0, 1) := by decide +kernel
theorem dL_asks_689 : decode cL_asks 689 = .ok (.istore 18, 2) := by decide +kernel
theorem dL_asks_691 : decode cL_asks 691 = .ok (.iload_n 1, 1) := by decide +kernel
theorem dL_asks_692 : decode cL_asks 692 = .ok (.bipush 8, 2) := by decide +kernel
theorem dL_asks_694 : decode cL_asks 694 = .ok (.ishr, 1) := by decide +kernel
theorem dL_asks_695 : decode cL_asks 695 = .ok (.aload_n 3, 1) := by decide +kernel
theorem dL_asks_696 : decode cL_asks 696 = .ok (.iconst 1, 1) := by decide +kernel
theorem dL_asks_697 : decode cL_asks 697 = .ok (.iaload, 1) := by decide +kernel
theorem dL_asks_698 : decode cL_asks 698 = .ok (.iconst 1, 1) := by decide +kernel
theorem dL_asks_699 : decode cL_asks 699 = .ok (.iadd, 1) := by decide +kernel
theorem dL_asks_700 : decode cL_asks 700 = .ok (.invokestatic 91, 3) := by decide +kernel
theorem dL_asks_703 : decode cL_asks 703 = .ok (.istore 19, 2) := by decide +kernel
theorem dL_asks_705 : decode cL_asks 705 = .ok (.iload 18, 2) := by decide +kernel
theorem dL_asks_707 : decode cL_asks 707 = .ok (.ifCond .eq 84, 3) := by decide +kernel
theorem dL_asks_710 : decode cL_asks 710 = .ok (.iload_n 2, 1) := by decide +kernel
theorem dL_asks_711 : decode cL_asks 711 = .ok (.bipush 9, 2) := by decide +kernel
theorem dL_asks_713 : decode cL_asks 713 = .ok (.irem, 1) := by decide +kernel
theorem dL_asks_714 : decode cL_asks 714 = .ok (.ifCond .ne 73, 3) := by decide +kernel
theorem dL_asks_717 : decode cL_asks 717 = .ok (.aload_n 0, 1) := by decide +kernel
theorem dL_asks_718 : decode cL_asks 718 = .ok (.iconst 2, 1) := by decide +kernel
theorem dL_asks_719 : decode cL_asks 719 = .ok (.iload 19, 2) := by decide +kernel
theorem dL_asks_721 : decode cL_asks 721 = .ok (.invokestatic 112, 3) := by decide +kernel
theorem dL_asks_724 : decode cL_asks 724 = .ok (.iload 19, 2) := by decide +kernel
theorem dL_asks_726 : decode cL_asks 726 = .ok (.aload_n 3, 1) := by decide +kernel
theorem dL_asks_727 : decode cL_asks 727 = .ok (.iconst 1, 1) := by decide +kernel
theorem dL_asks_728 : decode cL_asks 728 = .ok (.iaload, 1) := by decide +kernel
theorem dL_asks_729 : decode cL_asks 729 = .ok (.if_icmp .ne 8, 3) := by decide +kernel
theorem dL_asks_732 : decode cL_asks 732 = .ok (.bipush (-101), 2) := by decide +kernel
theorem dL_asks_734 : decode cL_asks 734 = .ok (.goto 15, 3) := by decide +kernel
theorem dL_asks_737 : decode cL_asks 737 = .ok (.aload_n 3, 1) := by decide +kernel
theorem dL_asks_738 : decode cL_asks 738 = .ok (.aload 4, 2) := by decide +kernel
theorem dL_asks_740 : decode cL_asks 740 = .ok (.aload 5, 2) := by decide +kernel
theorem dL_asks_742 : decode cL_asks 742 = .ok (.aload 6, 2) := by decide +kernel
theorem dL_asks_744 : decode cL_asks 744 = .ok (.iload 19, 2) := by decide +kernel
theorem dL_asks_746 : decode cL_asks 746 = .ok (.invokestatic 116, 3) := by decide +kernel
theorem dL_asks_749 : decode cL_asks 749 = .ok (.if_icmp .ne 42, 3) := by decide +kernel
theorem dL_asks_752 : decode cL_asks 752 = .ok (.aload_n 0, 1) := by decide +kernel
theorem dL_asks_753 : decode cL_asks 753 = .ok (.iconst 3, 1) := by decide +kernel
theorem dL_asks_754 : decode cL_asks 754 = .ok (.iload 19, 2) := by decide +kernel
theorem dL_asks_756 : decode cL_asks 756 = .ok (.invokestatic 112, 3) := by decide +kernel
theorem dL_asks_759 : decode cL_asks 759 = .ok (.iload 19, 2) := by decide +kernel
theorem dL_asks_761 : decode cL_asks 761 = .ok (.aload_n 3, 1) := by decide +kernel
theorem dL_asks_762 : decode cL_asks 762 = .ok (.iconst 1, 1) := by decide +kernel
theorem dL_asks_763 : decode cL_asks 763 = .ok (.iaload, 1) := by decide +kernel
theorem dL_asks_764 : decode cL_asks 764 = .ok (.if_icmp .ne 8, 3) := by decide +kernel
theorem dL_asks_767 : decode cL_asks 767 = .ok (.bipush (-101), 2) := by decide +kernel
theorem dL_asks_769 : decode cL_asks 769 = .ok (.goto 15, 3) := by decide +kernel
theorem dL_asks_772 : decode cL_asks 772 = .ok (.aload_n 3, 1) := by decide +kernel
theorem dL_asks_773 : decode cL_asks 773 = .ok (.aload 4, 2) := by decide +kernel
theorem dL_asks_775 : decode cL_asks 775 = .ok (.aload 5, 2) := by decide +kernel
theorem dL_asks_777 : decode cL_asks 777 = .ok (.aload 6, 2) := by decide +kernel
theorem dL_asks_779 : decode cL_asks 779 = .ok (.iload 19, 2) := by decide +kernel
theorem dL_asks_781 : decode cL_asks 781 = .ok (.invokestatic 134, 3) := by decide +kernel
theorem dL_asks_784 : decode cL_asks 784 = .ok (.if_icmp .ne 7, 3) := by decide +kernel
theorem dL_asks_787 : decode cL_asks 787 = .ok (.iconst 1, 1) := by decide +kernel
theorem dL_asks_788 : decode cL_asks 788 = .ok (.goto 4, 3) := by decide +kernel
theorem dL_asks_791 : decode cL_asks 791 = .ok (.iconst 0, 1) := by decide +kernel
theorem dL_asks_792 : decode cL_asks 792 = .ok (.ireturn, 1) := by decide +kernel
