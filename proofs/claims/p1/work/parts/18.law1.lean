theorem dL_law_527 : decode cL_law 527 = .ok (.aload_n 1, 1) := by decide +kernel
theorem dL_law_528 : decode cL_law 528 = .ok (.aload_n 0, 1) := by decide +kernel
theorem dL_law_529 : decode cL_law 529 = .ok (.iload_n 3, 1) := by decide +kernel
theorem dL_law_530 : decode cL_law 530 = .ok (.iconst 1, 1) := by decide +kernel
theorem dL_law_531 : decode cL_law 531 = .ok (.iadd, 1) := by decide +kernel
theorem dL_law_532 : decode cL_law 532 = .ok (.iaload, 1) := by decide +kernel
theorem dL_law_533 : decode cL_law 533 = .ok (.aload_n 0, 1) := by decide +kernel
theorem dL_law_534 : decode cL_law 534 = .ok (.iload_n 3, 1) := by decide +kernel
theorem dL_law_535 : decode cL_law 535 = .ok (.iconst 2, 1) := by decide +kernel
theorem dL_law_536 : decode cL_law 536 = .ok (.iadd, 1) := by decide +kernel
theorem dL_law_537 : decode cL_law 537 = .ok (.iaload, 1) := by decide +kernel
theorem dL_law_538 : decode cL_law 538 = .ok (.aload_n 0, 1) := by decide +kernel
theorem dL_law_539 : decode cL_law 539 = .ok (.iload_n 3, 1) := by decide +kernel
theorem dL_law_540 : decode cL_law 540 = .ok (.iconst 3, 1) := by decide +kernel
theorem dL_law_541 : decode cL_law 541 = .ok (.iadd, 1) := by decide +kernel
theorem dL_law_542 : decode cL_law 542 = .ok (.iaload, 1) := by decide +kernel
theorem dL_law_543 : decode cL_law 543 = .ok (.invokevirtual 70, 3) := by decide +kernel
theorem dL_law_546 : decode cL_law 546 = .ok (.aload_n 2, 1) := by decide +kernel
theorem dL_law_547 : decode cL_law 547 = .ok (.aload_n 0, 1) := by decide +kernel
theorem dL_law_548 : decode cL_law 548 = .ok (.iload_n 3, 1) := by decide +kernel
theorem dL_law_549 : decode cL_law 549 = .ok (.iconst 1, 1) := by decide +kernel
theorem dL_law_550 : decode cL_law 550 = .ok (.iadd, 1) := by decide +kernel
theorem dL_law_551 : decode cL_law 551 = .ok (.iaload, 1) := by decide +kernel
theorem dL_law_552 : decode cL_law 552 = .ok (.aload_n 0, 1) := by decide +kernel
theorem dL_law_553 : decode cL_law 553 = .ok (.iload_n 3, 1) := by decide +kernel
theorem dL_law_554 : decode cL_law 554 = .ok (.iconst 2, 1) := by decide +kernel
theorem dL_law_555 : decode cL_law 555 = .ok (.iadd, 1) := by decide +kernel
theorem dL_law_556 : decode cL_law 556 = .ok (.iaload, 1) := by decide +kernel
theorem dL_law_557 : decode cL_law 557 = .ok (.aload_n 0, 1) := by decide +kernel
theorem dL_law_558 : decode cL_law 558 = .ok (.iload_n 3, 1) := by decide +kernel
theorem dL_law_559 : decode cL_law 559 = .ok (.iconst 3, 1) := by decide +kernel
theorem dL_law_560 : decode cL_law 560 = .ok (.iadd, 1) := by decide +kernel
theorem dL_law_561 : decode cL_law 561 = .ok (.iaload, 1) := by decide +kernel
theorem dL_law_562 : decode cL_law 562 = .ok (.invokevirtual 74, 3) := by decide +kernel
theorem dL_law_565 : decode cL_law 565 = .ok (.if_icmp .eq 852, 3) := by decide +kernel
theorem dL_law_570 : decode cL_law 570 = .ok (.aload_n 1, 1) := by decide +kernel
theorem dL_law_571 : decode cL_law 571 = .ok (.aload_n 0, 1) := by decide +kernel
theorem dL_law_572 : decode cL_law 572 = .ok (.iload_n 3, 1) := by decide +kernel
theorem dL_law_573 : decode cL_law 573 = .ok (.iconst 1, 1) := by decide +kernel
theorem dL_law_574 : decode cL_law 574 = .ok (.iadd, 1) := by decide +kernel
theorem dL_law_575 : decode cL_law 575 = .ok (.iaload, 1) := by decide +kernel
theorem dL_law_576 : decode cL_law 576 = .ok (.invokevirtual 75, 3) := by decide +kernel
theorem dL_law_579 : decode cL_law 579 = .ok (.aload_n 2, 1) := by decide +kernel
theorem dL_law_580 : decode cL_law 580 = .ok (.aload_n 0, 1) := by decide +kernel
theorem dL_law_581 : decode cL_law 581 = .ok (.iload_n 3, 1) := by decide +kernel
theorem dL_law_582 : decode cL_law 582 = .ok (.iconst 1, 1) := by decide +kernel
theorem dL_law_583 : decode cL_law 583 = .ok (.iadd, 1) := by decide +kernel
theorem dL_law_584 : decode cL_law 584 = .ok (.iaload, 1) := by decide +kernel
theorem dL_law_585 : decode cL_law 585 = .ok (.invokevirtual 78, 3) := by decide +kernel
theorem dL_law_588 : decode cL_law 588 = .ok (.lcmp, 1) := by decide +kernel
theorem dL_law_589 : decode cL_law 589 = .ok (.ifCond .eq 828, 3) := by decide +kernel
theorem dL_law_594 : decode cL_law 594 = .ok (.aload_n 1, 1) := by decide +kernel
theorem dL_law_595 : decode cL_law 595 = .ok (.aload_n 0, 1) := by decide +kernel
theorem dL_law_596 : decode cL_law 596 = .ok (.iload_n 3, 1) := by decide +kernel
theorem dL_law_597 : decode cL_law 597 = .ok (.iconst 1, 1) := by decide +kernel
theorem dL_law_598 : decode cL_law 598 = .ok (.iadd, 1) := by decide +kernel
theorem dL_law_599 : decode cL_law 599 = .ok (.iaload, 1) := by decide +kernel
theorem dL_law_600 : decode cL_law 600 = .ok (.aload_n 0, 1) := by decide +kernel
theorem dL_law_601 : decode cL_law 601 = .ok (.iload_n 3, 1) := by decide +kernel
theorem dL_law_602 : decode cL_law 602 = .ok (.iconst 2, 1) := by decide +kernel
theorem dL_law_603 : decode cL_law 603 = .ok (.iadd, 1) := by decide +kernel
theorem dL_law_604 : decode cL_law 604 = .ok (.iaload, 1) := by decide +kernel
theorem dL_law_605 : decode cL_law 605 = .ok (.aload_n 0, 1) := by decide +kernel
theorem dL_law_606 : decode cL_law 606 = .ok (.iload_n 3, 1) := by decide +kernel
theorem dL_law_607 : decode cL_law 607 = .ok (.iconst 3, 1) := by decide +kernel
theorem dL_law_608 : decode cL_law 608 = .ok (.iadd, 1) := by decide +kernel
theorem dL_law_609 : decode cL_law 609 = .ok (.iaload, 1) := by decide +kernel
theorem dL_law_610 : decode cL_law 610 = .ok (.invokevirtual 79, 3) := by decide +kernel
theorem dL_law_613 : decode cL_law 613 = .ok (.aload_n 2, 1) := by decide +kernel
theorem dL_law_614 : decode cL_law 614 = .ok (.aload_n 0, 1) := by decide +kernel
theorem dL_law_615 : decode cL_law 615 = .ok (.iload_n 3, 1) := by decide +kernel
theorem dL_law_616 : decode cL_law 616 = .ok (.iconst 1, 1) := by decide +kernel
theorem dL_law_617 : decode cL_law 617 = .ok (.iadd, 1) := by decide +kernel
theorem dL_law_618 : decode cL_law 618 = .ok (.iaload, 1) := by decide +kernel
theorem dL_law_619 : decode cL_law 619 = .ok (.aload_n 0, 1) := by decide +kernel
theorem dL_law_620 : decode cL_law 620 = .ok (.iload_n 3, 1) := by decide +kernel
theorem dL_law_621 : decode cL_law 621 = .ok (.iconst 2, 1) := by decide +kernel
theorem dL_law_622 : decode cL_law 622 = .ok (.iadd, 1) := by decide +kernel
theorem dL_law_623 : decode cL_law 623 = .ok (.iaload, 1) := by decide +kernel
theorem dL_law_624 : decode cL_law 624 = .ok (.aload_n 0, 1) := by decide +kernel
theorem dL_law_625 : decode cL_law 625 = .ok (.iload_n 3, 1) := by decide +kernel
theorem dL_law_626 : decode cL_law 626 = .ok (.iconst 3, 1) := by decide +kernel
theorem dL_law_627 : decode cL_law 627 = .ok (.iadd, 1) := by decide +kernel
theorem dL_law_628 : decode cL_law 628 = .ok (.iaload, 1) := by decide +kernel
theorem dL_law_629 : decode cL_law 629 = .ok (.invokevirtual 82, 3) := by decide +kernel
theorem dL_law_632 : decode cL_law 632 = .ok (.if_icmp .eq 785, 3) := by decide +kernel
theorem dL_law_637 : decode cL_law 637 = .ok (.aload_n 1, 1) := by decide +kernel
theorem dL_law_638 : decode cL_law 638 = .ok (.aload_n 0, 1) := by decide +kernel
theorem dL_law_639 : decode cL_law 639 = .ok (.iload_n 3, 1) := by decide +kernel
theorem dL_law_640 : decode cL_law 640 = .ok (.iconst 1, 1) := by decide +kernel
theorem dL_law_641 : decode cL_law 641 = .ok (.iadd, 1) := by decide +kernel
theorem dL_law_642 : decode cL_law 642 = .ok (.iaload, 1) := by decide +kernel
theorem dL_law_643 : decode cL_law 643 = .ok (.invokevirtual 83, 3) := by decide +kernel
theorem dL_law_646 : decode cL_law 646 = .ok (.aload_n 2, 1) := by decide +kernel
theorem dL_law_647 : decode cL_law 647 = .ok (.aload_n 0, 1) := by decide +kernel
theorem dL_law_648 : decode cL_law 648 = .ok (.iload_n 3, 1) := by decide +kernel
theorem dL_law_649 : decode cL_law 649 = .ok (.iconst 1, 1) := by decide +kernel
theorem dL_law_650 : decode cL_law 650 = .ok (.iadd, 1) := by decide +kernel
theorem dL_law_651 : decode cL_law 651 = .ok (.iaload, 1) := by decide +kernel
theorem dL_law_652 : decode cL_law 652 = .ok (.invokevirtual 86, 3) := by decide +kernel
theorem dL_law_655 : decode cL_law 655 = .ok (.if_icmp .eq 762, 3) := by decide +kernel
theorem dL_law_660 : decode cL_law 660 = .ok (.aload_n 1, 1) := by decide +kernel
theorem dL_law_661 : decode cL_law 661 = .ok (.aload_n 0, 1) := by decide +kernel
theorem dL_law_662 : decode cL_law 662 = .ok (.iload_n 3, 1) := by decide +kernel
theorem dL_law_663 : decode cL_law 663 = .ok (.iconst 1, 1) := by decide +kernel
theorem dL_law_664 : decode cL_law 664 = .ok (.iadd, 1) := by decide +kernel
theorem dL_law_665 : decode cL_law 665 = .ok (.iaload, 1) := by decide +kernel
theorem dL_law_666 : decode cL_law 666 = .ok (.aload_n 0, 1) := by decide +kernel
theorem dL_law_667 : decode cL_law 667 = .ok (.iload_n 3, 1) := by decide +kernel
theorem dL_law_668 : decode cL_law 668 = .ok (.iconst 2, 1) := by decide +kernel
theorem dL_law_669 : decode cL_law 669 = .ok (.iadd, 1) := by decide +kernel
theorem dL_law_670 : decode cL_law 670 = .ok (.iaload, 1) := by decide +kernel
theorem dL_law_671 : decode cL_law 671 = .ok (.aload_n 0, 1) := by decide +kernel
theorem dL_law_672 : decode cL_law 672 = .ok (.iload_n 3, 1) := by decide +kernel
theorem dL_law_673 : decode cL_law 673 = .ok (.iconst 3, 1) := by decide +kernel
theorem dL_law_674 : decode cL_law 674 = .ok (.iadd, 1) := by decide +kernel
theorem dL_law_675 : decode cL_law 675 = .ok (.iaload, 1) := by decide +kernel
theorem dL_law_676 : decode cL_law 676 = .ok (.aload_n 0, 1) := by decide +kernel
theorem dL_law_677 : decode cL_law 677 = .ok (.iload_n 3, 1) := by decide +kernel
theorem dL_law_678 : decode cL_law 678 = .ok (.iconst 4, 1) := by decide +kernel
theorem dL_law_679 : decode cL_law 679 = .ok (.iadd, 1) := by decide +kernel
theorem dL_law_680 : decode cL_law 680 = .ok (.iaload, 1) := by decide +kernel
theorem dL_law_681 : decode cL_law 681 = .ok (.aload_n 0, 1) := by decide +kernel
theorem dL_law_682 : decode cL_law 682 = .ok (.iload_n 3, 1) := by decide +kernel
theorem dL_law_683 : decode cL_law 683 = .ok (.iconst 5, 1) := by decide +kernel
theorem dL_law_684 : decode cL_law 684 = .ok (.iadd, 1) := by decide +kernel
theorem dL_law_685 : decode cL_law 685 = .ok (.iaload, 1) := by decide +kernel
theorem dL_law_686 : decode cL_law 686 = .ok (.aload_n 0, 1) := by decide +kernel
theorem dL_law_687 : decode cL_law 687 = .ok (.iload_n 3, 1) := by decide +kernel
theorem dL_law_688 : decode cL_law 688 = .ok (.bipush 6, 2) := by decide +kernel
theorem dL_law_690 : decode cL_law 690 = .ok (.iadd, 1) := by decide +kernel
theorem dL_law_691 : decode cL_law 691 = .ok (.iaload, 1) := by decide +kernel
theorem dL_law_692 : decode cL_law 692 = .ok (.invokevirtual 87, 3) := by decide +kernel
theorem dL_law_695 : decode cL_law 695 = .ok (.aload_n 2, 1) := by decide +kernel
theorem dL_law_696 : decode cL_law 696 = .ok (.aload_n 0, 1) := by decide +kernel
theorem dL_law_697 : decode cL_law 697 = .ok (.iload_n 3, 1) := by decide +kernel
theorem dL_law_698 : decode cL_law 698 = .ok (.iconst 1, 1) := by decide +kernel
theorem dL_law_699 : decode cL_law 699 = .ok (.iadd, 1) := by decide +kernel
theorem dL_law_700 : decode cL_law 700 = .ok (.iaload, 1) := by decide +kernel
theorem dL_law_701 : decode cL_law 701 = .ok (.aload_n 0, 1) := by decide +kernel
theorem dL_law_702 : decode cL_law 702 = .ok (.iload_n 3, 1) := by decide +kernel
theorem dL_law_703 : decode cL_law 703 = .ok (.iconst 2, 1) := by decide +kernel
theorem dL_law_704 : decode cL_law 704 = .ok (.iadd, 1) := by decide +kernel
theorem dL_law_705 : decode cL_law 705 = .ok (.iaload, 1) := by decide +kernel
theorem dL_law_706 : decode cL_law 706 = .ok (.aload_n 0, 1) := by decide +kernel
theorem dL_law_707 : decode cL_law 707 = .ok (.iload_n 3, 1) := by decide +kernel
theorem dL_law_708 : decode cL_law 708 = .ok (.iconst 3, 1) := by decide +kernel
theorem dL_law_709 : decode cL_law 709 = .ok (.iadd, 1) := by decide +kernel
theorem dL_law_710 : decode cL_law 710 = .ok (.iaload, 1) := by decide +kernel
theorem dL_law_711 : decode cL_law 711 = .ok (.aload_n 0, 1) := by decide +kernel
theorem dL_law_712 : decode cL_law 712 = .ok (.iload_n 3, 1) := by decide +kernel
theorem dL_law_713 : decode cL_law 713 = .ok (.iconst 4, 1) := by decide +kernel
theorem dL_law_714 : decode cL_law 714 = .ok (.iadd, 1) := by decide +kernel
theorem dL_law_715 : decode cL_law 715 = .ok (.iaload, 1) := by decide +kernel
theorem dL_law_716 : decode cL_law 716 = .ok (.aload_n 0, 1) := by decide +kernel
theorem dL_law_717 : decode cL_law 717 = .ok (.iload_n 3, 1) := by decide +kernel
theorem dL_law_718 : decode cL_law 718 = .ok (.iconst 5, 1) := by decide +kernel
theorem dL_law_719 : decode cL_law 719 = .ok (.iadd, 1) := by decide +kernel
theorem dL_law_720 : decode cL_law 720 = .ok (.iaload, 1) := by decide +kernel
theorem dL_law_721 : decode cL_law 721 = .ok (.aload_n 0, 1) := by decide +kernel
theorem dL_law_722 : decode cL_law 722 = .ok (.iload_n 3, 1) := by decide +kernel
theorem dL_law_723 : decode cL_law 723 = .ok (.bipush 6, 2) := by decide +kernel
theorem dL_law_725 : decode cL_law 725 = .ok (.iadd, 1) := by decide +kernel
theorem dL_law_726 : decode cL_law 726 = .ok (.iaload, 1) := by decide +kernel
theorem dL_law_727 : decode cL_law 727 = .ok (.invokevirtual 91, 3) := by decide +kernel
theorem dL_law_730 : decode cL_law 730 = .ok (.if_icmp .eq 687, 3) := by decide +kernel
theorem dL_law_735 : decode cL_law 735 = .ok (.aload_n 1, 1) := by decide +kernel
theorem dL_law_736 : decode cL_law 736 = .ok (.invokevirtual 92, 3) := by decide +kernel
theorem dL_law_739 : decode cL_law 739 = .ok (.aload_n 2, 1) := by decide +kernel
theorem dL_law_740 : decode cL_law 740 = .ok (.invokevirtual 95, 3) := by decide +kernel
theorem dL_law_743 : decode cL_law 743 = .ok (.if_icmp .eq 674, 3) := by decide +kernel
theorem dL_law_748 : decode cL_law 748 = .ok (.aload_n 1, 1) := by decide +kernel
theorem dL_law_749 : decode cL_law 749 = .ok (.aload_n 0, 1) := by decide +kernel
theorem dL_law_750 : decode cL_law 750 = .ok (.iload_n 3, 1) := by decide +kernel
theorem dL_law_751 : decode cL_law 751 = .ok (.iconst 1, 1) := by decide +kernel
theorem dL_law_752 : decode cL_law 752 = .ok (.iadd, 1) := by decide +kernel
theorem dL_law_753 : decode cL_law 753 = .ok (.iaload, 1) := by decide +kernel
theorem dL_law_754 : decode cL_law 754 = .ok (.aload_n 0, 1) := by decide +kernel
theorem dL_law_755 : decode cL_law 755 = .ok (.iload_n 3, 1) := by decide +kernel
theorem dL_law_756 : decode cL_law 756 = .ok (.iconst 2, 1) := by decide +kernel
theorem dL_law_757 : decode cL_law 757 = .ok (.iadd, 1) := by decide +kernel
theorem dL_law_758 : decode cL_law 758 = .ok (.iaload, 1) := by decide +kernel
theorem dL_law_759 : decode cL_law 759 = .ok (.invokevirtual 96, 3) := by decide +kernel
theorem dL_law_762 : decode cL_law 762 = .ok (.aload_n 2, 1) := by decide +kernel
theorem dL_law_763 : decode cL_law 763 = .ok (.aload_n 0, 1) := by decide +kernel
theorem dL_law_764 : decode cL_law 764 = .ok (.iload_n 3, 1) := by decide +kernel
theorem dL_law_765 : decode cL_law 765 = .ok (.iconst 1, 1) := by decide +kernel
theorem dL_law_766 : decode cL_law 766 = .ok (.iadd, 1) := by decide +kernel
theorem dL_law_767 : decode cL_law 767 = .ok (.iaload, 1) := by decide +kernel
theorem dL_law_768 : decode cL_law 768 = .ok (.aload_n 0, 1) := by decide +kernel
theorem dL_law_769 : decode cL_law 769 = .ok (.iload_n 3, 1) := by decide +kernel
theorem dL_law_770 : decode cL_law 770 = .ok (.iconst 2, 1) := by decide +kernel
theorem dL_law_771 : decode cL_law 771 = .ok (.iadd, 1) := by decide +kernel
theorem dL_law_772 : decode cL_law 772 = .ok (.iaload, 1) := by decide +kernel
theorem dL_law_773 : decode cL_law 773 = .ok (.invokevirtual 99, 3) := by decide +kernel
theorem dL_law_776 : decode cL_law 776 = .ok (.if_icmp .eq 641, 3) := by decide +kernel
theorem dL_law_781 : decode cL_law 781 = .ok (.aload_n 1, 1) := by decide +kernel
theorem dL_law_782 : decode cL_law 782 = .ok (.aload_n 0, 1) := by decide +kernel
theorem dL_law_783 : decode cL_law 783 = .ok (.iload_n 3, 1) := by decide +kernel
theorem dL_law_784 : decode cL_law 784 = .ok (.iconst 1, 1) := by decide +kernel
theorem dL_law_785 : decode cL_law 785 = .ok (.iadd, 1) := by decide +kernel
theorem dL_law_786 : decode cL_law 786 = .ok (.iaload, 1) := by decide +kernel
theorem dL_law_787 : decode cL_law 787 = .ok (.invokevirtual 100, 3) := by decide +kernel
theorem dL_law_790 : decode cL_law 790 = .ok (.aload_n 2, 1) := by decide +kernel
theorem dL_law_791 : decode cL_law 791 = .ok (.aload_n 0, 1) := by decide +kernel
theorem dL_law_792 : decode cL_law 792 = .ok (.iload_n 3, 1) := by decide +kernel
theorem dL_law_793 : decode cL_law 793 = .ok (.iconst 1, 1) := by decide +kernel
theorem dL_law_794 : decode cL_law 794 = .ok (.iadd, 1) := by decide +kernel
theorem dL_law_795 : decode cL_law 795 = .ok (.iaload, 1) := by decide +kernel
theorem dL_law_796 : decode cL_law 796 = .ok (.invokevirtual 103, 3) := by decide +kernel
theorem dL_law_799 : decode cL_law 799 = .ok (.if_icmp .eq 618, 3) := by decide +kernel
theorem dL_law_804 : decode cL_law 804 = .ok (.aload_n 1, 1) := by decide +kernel
theorem dL_law_805 : decode cL_law 805 = .ok (.aload_n 0, 1) := by decide +kernel
theorem dL_law_806 : decode cL_law 806 = .ok (.iload_n 3, 1) := by decide +kernel
theorem dL_law_807 : decode cL_law 807 = .ok (.iconst 1, 1) := by decide +kernel
theorem dL_law_808 : decode cL_law 808 = .ok (.iadd, 1) := by decide +kernel
theorem dL_law_809 : decode cL_law 809 = .ok (.iaload, 1) := by decide +kernel
theorem dL_law_810 : decode cL_law 810 = .ok (.aload_n 0, 1) := by decide +kernel
theorem dL_law_811 : decode cL_law 811 = .ok (.iload_n 3, 1) := by decide +kernel
theorem dL_law_812 : decode cL_law 812 = .ok (.iconst 2, 1) := by decide +kernel
theorem dL_law_813 : decode cL_law 813 = .ok (.iadd, 1) := by decide +kernel
theorem dL_law_814 : decode cL_law 814 = .ok (.iaload, 1) := by decide +kernel
theorem dL_law_815 : decode cL_law 815 = .ok (.invokevirtual 104, 3) := by decide +kernel
theorem dL_law_818 : decode cL_law 818 = .ok (.aload_n 2, 1) := by decide +kernel
theorem dL_law_819 : decode cL_law 819 = .ok (.aload_n 0, 1) := by decide +kernel
theorem dL_law_820 : decode cL_law 820 = .ok (.iload_n 3, 1) := by decide +kernel
theorem dL_law_821 : decode cL_law 821 = .ok (.iconst 1, 1) := by decide +kernel
theorem dL_law_822 : decode cL_law 822 = .ok (.iadd, 1) := by decide +kernel
theorem dL_law_823 : decode cL_law 823 = .ok (.iaload, 1) := by decide +kernel
theorem dL_law_824 : decode cL_law 824 = .ok (.aload_n 0, 1) := by decide +kernel
theorem dL_law_825 : decode cL_law 825 = .ok (.iload_n 3, 1) := by decide +kernel
theorem dL_law_826 : decode cL_law 826 = .ok (.iconst 2, 1) := by decide +kernel
theorem dL_law_827 : decode cL_law 827 = .ok (.iadd, 1) := by decide +kernel
theorem dL_law_828 : decode cL_law 828 = .ok (.iaload, 1) := by decide +kernel
theorem dL_law_829 : decode cL_law 829 = .ok (.invokevirtual 107, 3) := by decide +kernel
theorem dL_law_832 : decode cL_law 832 = .ok (.if_icmp .eq 585, 3) := by decide +kernel
theorem dL_law_837 : decode cL_law 837 = .ok (.aload_n 1, 1) := by decide +kernel
theorem dL_law_838 : decode cL_law 838 = .ok (.aload_n 0, 1) := by decide +kernel
theorem dL_law_839 : decode cL_law 839 = .ok (.iload_n 3, 1) := by decide +kernel
theorem dL_law_840 : decode cL_law 840 = .ok (.iconst 1, 1) := by decide +kernel
theorem dL_law_841 : decode cL_law 841 = .ok (.iadd, 1) := by decide +kernel
theorem dL_law_842 : decode cL_law 842 = .ok (.iaload, 1) := by decide +kernel
theorem dL_law_843 : decode cL_law 843 = .ok (.aload_n 0, 1) := by decide +kernel
theorem dL_law_844 : decode cL_law 844 = .ok (.iload_n 3, 1) := by decide +kernel
theorem dL_law_845 : decode cL_law 845 = .ok (.iconst 2, 1) := by decide +kernel
theorem dL_law_846 : decode cL_law 846 = .ok (.iadd, 1) := by decide +kernel
theorem dL_law_847 : decode cL_law 847 = .ok (.iaload, 1) := by decide +kernel
theorem dL_law_848 : decode cL_law 848 = .ok (.aload_n 0, 1) := by decide +kernel
theorem dL_law_849 : decode cL_law 849 = .ok (.iload_n 3, 1) := by decide +kernel
theorem dL_law_850 : decode cL_law 850 = .ok (.iconst 3, 1) := by decide +kernel
theorem dL_law_851 : decode cL_law 851 = .ok (.iadd, 1) := by decide +kernel
theorem dL_law_852 : decode cL_law 852 = .ok (.iaload, 1) := by decide +kernel
theorem dL_law_853 : decode cL_law 853 = .ok (.invokevirtual 108, 3) := by decide +kernel
theorem dL_law_856 : decode cL_law 856 = .ok (.aload_n 2, 1) := by decide +kernel
theorem dL_law_857 : decode cL_law 857 = .ok (.aload_n 0, 1) := by decide +kernel
theorem dL_law_858 : decode cL_law 858 = .ok (.iload_n 3, 1) := by decide +kernel
theorem dL_law_859 : decode cL_law 859 = .ok (.iconst 1, 1) := by decide +kernel
theorem dL_law_860 : decode cL_law 860 = .ok (.iadd, 1) := by decide +kernel
theorem dL_law_861 : decode cL_law 861 = .ok (.iaload, 1) := by decide +kernel
theorem dL_law_862 : decode cL_law 862 = .ok (.aload_n 0, 1) := by decide +kernel
theorem dL_law_863 : decode cL_law 863 = .ok (.iload_n 3, 1) := by decide +kernel
theorem dL_law_864 : decode cL_law 864 = .ok (.iconst 2, 1) := by decide +kernel
theorem dL_law_865 : decode cL_law 865 = .ok (.iadd, 1) := by decide +kernel
theorem dL_law_866 : decode cL_law 866 = .ok (.iaload, 1) := by decide +kernel
theorem dL_law_867 : decode cL_law 867 = .ok (.aload_n 0, 1) := by decide +kernel
theorem dL_law_868 : decode cL_law 868 = .ok (.iload_n 3, 1) := by decide +kernel
theorem dL_law_869 : decode cL_law 869 = .ok (.iconst 3, 1) := by decide +kernel
theorem dL_law_870 : decode cL_law 870 = .ok (.iadd, 1) := by decide +kernel
theorem dL_law_871 : decode cL_law 871 = .ok (.iaload, 1) := by decide +kernel
theorem dL_law_872 : decode cL_law 872 = .ok (.invokevirtual 111, 3) := by decide +kernel
theorem dL_law_875 : decode cL_law 875 = .ok (.if_icmp .eq 542, 3) := by decide +kernel
theorem dL_law_880 : decode cL_law 880 = .ok (.aload_n 1, 1) := by decide +kernel
theorem dL_law_881 : decode cL_law 881 = .ok (.aload_n 0, 1) := by decide +kernel
theorem dL_law_882 : decode cL_law 882 = .ok (.iload_n 3, 1) := by decide +kernel
theorem dL_law_883 : decode cL_law 883 = .ok (.iconst 1, 1) := by decide +kernel
theorem dL_law_884 : decode cL_law 884 = .ok (.iadd, 1) := by decide +kernel
theorem dL_law_885 : decode cL_law 885 = .ok (.iaload, 1) := by decide +kernel
theorem dL_law_886 : decode cL_law 886 = .ok (.aload_n 0, 1) := by decide +kernel
theorem dL_law_887 : decode cL_law 887 = .ok (.iload_n 3, 1) := by decide +kernel
theorem dL_law_888 : decode cL_law 888 = .ok (.iconst 2, 1) := by decide +kernel
theorem dL_law_889 : decode cL_law 889 = .ok (.iadd, 1) := by decide +kernel
theorem dL_law_890 : decode cL_law 890 = .ok (.iaload, 1) := by decide +kernel
theorem dL_law_891 : decode cL_law 891 = .ok (.aload_n 0, 1) := by decide +kernel
theorem dL_law_892 : decode cL_law 892 = .ok (.iload_n 3, 1) := by decide +kernel
theorem dL_law_893 : decode cL_law 893 = .ok (.iconst 3, 1) := by decide +kernel
theorem dL_law_894 : decode cL_law 894 = .ok (.iadd, 1) := by decide +kernel
theorem dL_law_895 : decode cL_law 895 = .ok (.iaload, 1) := by decide +kernel
theorem dL_law_896 : decode cL_law 896 = .ok (.i2l, 1) := by decide +kernel
theorem dL_law_897 : decode cL_law 897 = .ok (.bipush 32, 2) := by decide +kernel
theorem dL_law_899 : decode cL_law 899 = .ok (.lshl, 1) := by decide +kernel
theorem dL_law_900 : decode cL_law 900 = .ok (.aload_n 0, 1) := by decide +kernel
theorem dL_law_901 : decode cL_law 901 = .ok (.iload_n 3, 1) := by decide +kernel
theorem dL_law_902 : decode cL_law 902 = .ok (.iconst 4, 1) := by decide +kernel
theorem dL_law_903 : decode cL_law 903 = .ok (.iadd, 1) := by decide +kernel
theorem dL_law_904 : decode cL_law 904 = .ok (.iaload, 1) := by decide +kernel
theorem dL_law_905 : decode cL_law 905 = .ok (.i2l, 1) := by decide +kernel
theorem dL_law_906 : decode cL_law 906 = .ok (.ldc2_w 13, 3) := by decide +kernel
theorem dL_law_909 : decode cL_law 909 = .ok (.land, 1) := by decide +kernel
theorem dL_law_910 : decode cL_law 910 = .ok (.lor, 1) := by decide +kernel
theorem dL_law_911 : decode cL_law 911 = .ok (.invokevirtual 112, 3) := by decide +kernel
theorem dL_law_914 : decode cL_law 914 = .ok (.aload_n 2, 1) := by decide +kernel
theorem dL_law_915 : decode cL_law 915 = .ok (.aload_n 0, 1) := by decide +kernel
theorem dL_law_916 : decode cL_law 916 = .ok (.iload_n 3, 1) := by decide +kernel
theorem dL_law_917 : decode cL_law 917 = .ok (.iconst 1, 1) := by decide +kernel
theorem dL_law_918 : decode cL_law 918 = .ok (.iadd, 1) := by decide +kernel
theorem dL_law_919 : decode cL_law 919 = .ok (.iaload, 1) := by decide +kernel
theorem dL_law_920 : decode cL_law 920 = .ok (.aload_n 0, 1) := by decide +kernel
theorem dL_law_921 : decode cL_law 921 = .ok (.iload_n 3, 1) := by decide +kernel
theorem dL_law_922 : decode cL_law 922 = .ok (.iconst 2, 1) := by decide +kernel
theorem dL_law_923 : decode cL_law 923 = .ok (.iadd, 1) := by decide +kernel
theorem dL_law_924 : decode cL_law 924 = .ok (.iaload, 1) := by decide +kernel
theorem dL_law_925 : decode cL_law 925 = .ok (.aload_n 0, 1) := by decide +kernel
theorem dL_law_926 : decode cL_law 926 = .ok (.iload_n 3, 1) := by decide +kernel
theorem dL_law_927 : decode cL_law 927 = .ok (.iconst 3, 1) := by decide +kernel
theorem dL_law_928 : decode cL_law 928 = .ok (.iadd, 1) := by decide +kernel
theorem dL_law_929 : decode cL_law 929 = .ok (.iaload, 1) := by decide +kernel
theorem dL_law_930 : decode cL_law 930 = .ok (.i2l, 1) := by decide +kernel
theorem dL_law_931 : decode cL_law 931 = .ok (.bipush 32, 2) := by decide +kernel
theorem dL_law_933 : decode cL_law 933 = .ok (.lshl, 1) := by decide +kernel
theorem dL_law_934 : decode cL_law 934 = .ok (.aload_n 0, 1) := by decide +kernel
theorem dL_law_935 : decode cL_law 935 = .ok (.iload_n 3, 1) := by decide +kernel
theorem dL_law_936 : decode cL_law 936 = .ok (.iconst 4, 1) := by decide +kernel
theorem dL_law_937 : decode cL_law 937 = .ok (.iadd, 1) := by decide +kernel
theorem dL_law_938 : decode cL_law 938 = .ok (.iaload, 1) := by decide +kernel
theorem dL_law_939 : decode cL_law 939 = .ok (.i2l, 1) := by decide +kernel
theorem dL_law_940 : decode cL_law 940 = .ok (.ldc2_w 13, 3) := by decide +kernel
theorem dL_law_943 : decode cL_law 943 = .ok (.land, 1) := by decide +kernel
theorem dL_law_944 : decode cL_law 944 = .ok (.lor, 1) := by decide +kernel
theorem dL_law_945 : decode cL_law 945 = .ok (.invokevirtual 116, 3) := by decide +kernel
theorem dL_law_948 : decode cL_law 948 = .ok (.if_icmp .eq 469, 3) := by decide +kernel
theorem dL_law_953 : decode cL_law 953 = .ok (.aload_n 1, 1) := by decide +kernel
theorem dL_law_954 : decode cL_law 954 = .ok (.aload_n 0, 1) := by decide +kernel
theorem dL_law_955 : decode cL_law 955 = .ok (.iload_n 3, 1) := by decide +kernel
theorem dL_law_956 : decode cL_law 956 = .ok (.iconst 1, 1) := by decide +kernel
theorem dL_law_957 : decode cL_law 957 = .ok (.iadd, 1) := by decide +kernel
theorem dL_law_958 : decode cL_law 958 = .ok (.iaload, 1) := by decide +kernel
theorem dL_law_959 : decode cL_law 959 = .ok (.aload_n 0, 1) := by decide +kernel
theorem dL_law_960 : decode cL_law 960 = .ok (.iload_n 3, 1) := by decide +kernel
theorem dL_law_961 : decode cL_law 961 = .ok (.iconst 2, 1) := by decide +kernel
theorem dL_law_962 : decode cL_law 962 = .ok (.iadd, 1) := by decide +kernel
theorem dL_law_963 : decode cL_law 963 = .ok (.iaload, 1) := by decide +kernel
theorem dL_law_964 : decode cL_law 964 = .ok (.aload_n 0, 1) := by decide +kernel
theorem dL_law_965 : decode cL_law 965 = .ok (.iload_n 3, 1) := by decide +kernel
theorem dL_law_966 : decode cL_law 966 = .ok (.iconst 3, 1) := by decide +kernel
theorem dL_law_967 : decode cL_law 967 = .ok (.iadd, 1) := by decide +kernel
theorem dL_law_968 : decode cL_law 968 = .ok (.iaload, 1) := by decide +kernel
theorem dL_law_969 : decode cL_law 969 = .ok (.i2l, 1) := by decide +kernel
theorem dL_law_970 : decode cL_law 970 = .ok (.bipush 32, 2) := by decide +kernel
theorem dL_law_972 : decode cL_law 972 = .ok (.lshl, 1) := by decide +kernel
theorem dL_law_973 : decode cL_law 973 = .ok (.aload_n 0, 1) := by decide +kernel
theorem dL_law_974 : decode cL_law 974 = .ok (.iload_n 3, 1) := by decide +kernel
theorem dL_law_975 : decode cL_law 975 = .ok (.iconst 4, 1) := by decide +kernel
theorem dL_law_976 : decode cL_law 976 = .ok (.iadd, 1) := by decide +kernel
theorem dL_law_977 : decode cL_law 977 = .ok (.iaload, 1) := by decide +kernel
theorem dL_law_978 : decode cL_law 978 = .ok (.i2l, 1) := by decide +kernel
theorem dL_law_979 : decode cL_law 979 = .ok (.ldc2_w 13, 3) := by decide +kernel
theorem dL_law_982 : decode cL_law 982 = .ok (.land, 1) := by decide +kernel
theorem dL_law_983 : decode cL_law 983 = .ok (.lor, 1) := by decide +kernel
theorem dL_law_984 : decode cL_law 984 = .ok (.aload_n 0, 1) := by decide +kernel
theorem dL_law_985 : decode cL_law 985 = .ok (.iload_n 3, 1) := by decide +kernel
theorem dL_law_986 : decode cL_law 986 = .ok (.iconst 5, 1) := by decide +kernel
theorem dL_law_987 : decode cL_law 987 = .ok (.iadd, 1) := by decide +kernel
theorem dL_law_988 : decode cL_law 988 = .ok (.iaload, 1) := by decide +kernel
theorem dL_law_989 : decode cL_law 989 = .ok (.invokevirtual 117, 3) := by decide +kernel
theorem dL_law_992 : decode cL_law 992 = .ok (.aload_n 2, 1) := by decide +kernel
theorem dL_law_993 : decode cL_law 993 = .ok (.aload_n 0, 1) := by decide +kernel
theorem dL_law_994 : decode cL_law 994 = .ok (.iload_n 3, 1) := by decide +kernel
theorem dL_law_995 : decode cL_law 995 = .ok (.iconst 1, 1) := by decide +kernel
theorem dL_law_996 : decode cL_law 996 = .ok (.iadd, 1) := by decide +kernel
theorem dL_law_997 : decode cL_law 997 = .ok (.iaload, 1) := by decide +kernel
theorem dL_law_998 : decode cL_law 998 = .ok (.aload_n 0, 1) := by decide +kernel
theorem dL_law_999 : decode cL_law 999 = .ok (.iload_n 3, 1) := by decide +kernel
theorem dL_law_1000 : decode cL_law 1000 = .ok (.iconst 2, 1) := by decide +kernel
theorem dL_law_1001 : decode cL_law 1001 = .ok (.iadd, 1) := by decide +kernel
theorem dL_law_1002 : decode cL_law 1002 = .ok (.iaload, 1) := by decide +kernel
theorem dL_law_1003 : decode cL_law 1003 = .ok (.aload_n 0, 1) := by decide +kernel
theorem dL_law_1004 : decode cL_law 1004 = .ok (.iload_n 3, 1) := by decide +kernel
theorem dL_law_1005 : decode cL_law 1005 = .ok (.iconst 3, 1) := by decide +kernel
theorem dL_law_1006 : decode cL_law 1006 = .ok (.iadd, 1) := by decide +kernel
theorem dL_law_1007 : decode cL_law 1007 = .ok (.iaload, 1) := by decide +kernel
theorem dL_law_1008 : decode cL_law 1008 = .ok (.i2l, 1) := by decide +kernel
theorem dL_law_1009 : decode cL_law 1009 = .ok (.bipush 32, 2) := by decide +kernel
theorem dL_law_1011 : decode cL_law 1011 = .ok (.lshl, 1) := by decide +kernel
theorem dL_law_1012 : decode cL_law 1012 = .ok (.aload_n 0, 1) := by decide +kernel
theorem dL_law_1013 : decode cL_law 1013 = .ok (.iload_n 3, 1) := by decide +kernel
theorem dL_law_1014 : decode cL_law 1014 = .ok (.iconst 4, 1) := by decide +kernel
theorem dL_law_1015 : decode cL_law 1015 = .ok (.iadd, 1) := by decide +kernel
theorem dL_law_1016 : decode cL_law 1016 = .ok (.iaload, 1) := by decide +kernel
theorem dL_law_1017 : decode cL_law 1017 = .ok (.i2l, 1) := by decide +kernel
theorem dL_law_1018 : decode cL_law 1018 = .ok (.ldc2_w 13, 3) := by decide +kernel
theorem dL_law_1021 : decode cL_law 1021 = .ok (.land, 1) := by decide +kernel
theorem dL_law_1022 : decode cL_law 1022 = .ok (.lor, 1) := by decide +kernel
theorem dL_law_1023 : decode cL_law 1023 = .ok (.aload_n 0, 1) := by decide +kernel
theorem dL_law_1024 : decode cL_law 1024 = .ok (.iload_n 3, 1) := by decide +kernel
theorem dL_law_1025 : decode cL_law 1025 = .ok (.iconst 5, 1) := by decide +kernel
theorem dL_law_1026 : decode cL_law 1026 = .ok (.iadd, 1) := by decide +kernel
theorem dL_law_1027 : decode cL_law 1027 = .ok (.iaload, 1) := by decide +kernel
theorem dL_law_1028 : decode cL_law 1028 = .ok (.invokevirtual 121, 3) := by decide +kernel
theorem dL_law_1031 : decode cL_law 1031 = .ok (.if_icmp .eq 386, 3) := by decide +kernel

set_option maxRecDepth 20000 in
theorem gu_L_X9_gauge : GoodIn wsL_law (wsV RL 70 RX9 yX9_gauge uX9_gauge) := goodIn_r _ [604, 605, 606, 2, 607, 608, 609, 2, 168, 169, 530, 223, 531, 532, 533, 401, 402, 403, 400, 274, 610, 170, 224, 534, 23, 404, 275, 1064, 1065, 1066, 1067, 1068, 1069, 1070, 1071, 1072, 1073, 1074, 1075, 1076, 1077, 1078, 1079, 1080, 1081] (by decide +kernel) (by decide +kernel)
set_option maxRecDepth 20000 in
theorem gu_L_X10_gauge : GoodIn wsL_law (wsV RL 74 RX10 yX10_gauge uX10_gauge) := goodIn_r _ [615, 616, 617, 5, 618, 575, 182, 183, 5, 544, 370, 410, 184, 1082, 1083, 1084, 1085, 1086, 1087, 1088, 1089, 1090, 1091, 1092, 1093, 1094, 1095, 1096, 1097, 1098, 1099, 1100, 1101, 1102, 1103, 1104, 1105, 1106, 1107, 1108, 1109, 1110, 1111, 1112, 1113, 1114, 1115, 1116, 1117] (by decide +kernel) (by decide +kernel)
set_option maxHeartbeats 4000000 in
set_option maxRecDepth 100000 in
theorem lc_12 {p : Program} {l : Launch} {e : Env} {s : State} {m : MethodId} {below : List Frame} {meth : Method} {c : Code} {cells slots : Nat} {Q : State → Prop} {b h0 : Nat} {xs : Nat → Int32} {D : va_G} {cI cL cC : ClassId} {t : Nat → Nat} {H : Heap} {locs : List Loc} {ls : Array Slot} (hx : p.tables.exec = Jvm.exec) (hb : c.code = cL_law) (hml : c.maxLocals = 4) (hown : s.vm.findClass RL = some m.cls) (hts : ∀ w ∈ wsL_law, w.before #[Value.ref b] s = true) (hE : EV D cI cL cC s) (hbl : b < h0) (hG : tG D (fF cI cL cC 0 0) t H) (kt : t h0 = 1) (kt2 : t (h0 + 92) = 40) (ht0 : ∀ q : Nat, q < h0 → t q = 0) (uq_gC : ∀ b c : Nat, t b = 2 → t c = 2 → b = c) (uq_gR : ∀ b c : Nat, t b = 40 → t c = 40 → b = c) (hS : cF h0 s.heap H locs) (hX : va_X b 8 xs s H) (hl : lv_has ls 4 [(3, .int 0), (2, .ref (h0 + 92)), (1, .ref h0), (0, .ref b)]) (hcl : cells ≤ 600000) (hsl : slots ≤ 7302250) (kx : ∀ (H1 : Heap) (locs1 : List Loc), cF h0 s.heap H1 locs1 → va_X b 8 xs s H1 → W p l e room_1 s m #[Value.ref b] below meth c H1 locs1 cells slots Q (F0 m 1417 ls [])) : W p l e room_1 s m #[Value.ref b] below meth c H locs cells slots Q (F0 m 527 ls []) := by
  refine lv_aload_n hx hb dL_law_527 rfl (lv_at hl 2 rfl) ?_
  refine lv_aload_n hx hb dL_law_528 rfl (lv_at hl 3 rfl) ?_
  refine lv_iload_n hx hb dL_law_529 rfl (lv_at hl 0 rfl) ?_
  refine lv_iconst (v := 1) hx hb dL_law_530 (by decide) ?_
  refine lv_iadd hx hb dL_law_531 ?_
  refine lv_seti (y := 1) (by decide) ?_
  refine ty_sld hx hb hX (i := 1) (q_in (by decide) (by decide)) dL_law_532 ?_
  refine lv_seti (y := xs 1) rfl ?_
  refine lv_aload_n hx hb dL_law_533 rfl (lv_at hl 3 rfl) ?_
  refine lv_pc (pc2 := 534) rfl ?_
  refine lv_iload_n hx hb dL_law_534 rfl (lv_at hl 0 rfl) ?_
  refine lv_iconst (v := 2) hx hb dL_law_535 (by decide) ?_
  refine lv_iadd hx hb dL_law_536 ?_
  refine lv_seti (y := 2) (by decide) ?_
  refine ty_sld hx hb hX (i := 2) (q_in (by decide) (by decide)) dL_law_537 ?_
  refine lv_seti (y := xs 2) rfl ?_
  refine lv_aload_n hx hb dL_law_538 rfl (lv_at hl 3 rfl) ?_
  refine lv_iload_n hx hb dL_law_539 rfl (lv_at hl 0 rfl) ?_
  refine lv_iconst (v := 3) hx hb dL_law_540 (by decide) ?_
  refine lv_iadd hx hb dL_law_541 ?_
  refine lv_seti (y := 3) (by decide) ?_
  refine lv_pc (pc2 := 542) rfl ?_
  refine ty_sld hx hb hX (i := 3) (q_in (by decide) (by decide)) dL_law_542 ?_
  refine lv_seti (y := xs 3) rfl ?_
  obtain ⟨_, at_1⟩ := rcv1 hG kt
  refine lw_calli (W.runV (As := [.int (xs 1), .int (xs 2), .int (xs 3)]) (rest := []) ⟨hx, hb, hml, hown, hts⟩ (c_X9_gauge l D t cI cL cC h0 (xs 1) (xs 2) (xs 3) kt) (cwV 3 hts gu_L_X9_gauge rfl rfl rfl (by decide +kernel) ⟨Nat.le_of_ble_eq_true rfl, Nat.le_of_ble_eq_true rfl⟩) (tP_V hG hE at_1 rfl) rfl rfl hl.1 rfl (lv_room (Nat.le_of_ble_eq_true rfl)) dL_law_543 ⟨hcl, hsl⟩) hS rfl ht0 (fun r_2 H locs hp_3 _ hS o_4 => ?_)
  replace hX := hX.kept (o_4 b (by rw [ht0 b hbl]; rfl))
  have hG2 := tG.keptW (tG.ref hG) o_4 (fun q h => rfl)
  refine lv_aload_n hx hb dL_law_546 rfl (lv_at hl 1 rfl) ?_
  refine lv_aload_n hx hb dL_law_547 rfl (lv_at hl 3 rfl) ?_
  refine lv_iload_n hx hb dL_law_548 rfl (lv_at hl 0 rfl) ?_
  refine lv_iconst (v := 1) hx hb dL_law_549 (by decide) ?_
  refine lv_iadd hx hb dL_law_550 ?_
  refine lv_seti (y := 1) (by decide) ?_
  refine ty_sld hx hb hX (i := 1) (q_in (by decide) (by decide)) dL_law_551 ?_
  refine lv_seti (y := xs 1) rfl ?_
  refine lv_pc (pc2 := 552) rfl ?_
  refine lv_aload_n hx hb dL_law_552 rfl (lv_at hl 3 rfl) ?_
  refine lv_iload_n hx hb dL_law_553 rfl (lv_at hl 0 rfl) ?_
  refine lv_iconst (v := 2) hx hb dL_law_554 (by decide) ?_
  refine lv_iadd hx hb dL_law_555 ?_
  refine lv_seti (y := 2) (by decide) ?_
  refine ty_sld hx hb hX (i := 2) (q_in (by decide) (by decide)) dL_law_556 ?_
  refine lv_seti (y := xs 2) rfl ?_
  refine lv_aload_n hx hb dL_law_557 rfl (lv_at hl 3 rfl) ?_
  refine lv_iload_n hx hb dL_law_558 rfl (lv_at hl 0 rfl) ?_
  refine lv_iconst (v := 3) hx hb dL_law_559 (by decide) ?_
  refine lv_pc (pc2 := 560) rfl ?_
  refine lv_iadd hx hb dL_law_560 ?_
  refine lv_seti (y := 3) (by decide) ?_
  refine ty_sld hx hb hX (i := 3) (q_in (by decide) (by decide)) dL_law_561 ?_
  refine lv_seti (y := xs 3) rfl ?_
  obtain ⟨_, at_5⟩ := rcv40 hG2 (tM2_40 kt2 (by decide))
  refine lw_calli (W.runV (As := [.int (xs 1), .int (xs 2), .int (xs 3)]) (rest := [.int r_2]) ⟨hx, hb, hml, hown, hts⟩ (c_X10_gauge l D (tM2 t) cI cL cC (h0 + 92) (xs 1) (xs 2) (xs 3) (tM2_40 kt2 (by decide))) (cwV 3 hts gu_L_X10_gauge rfl rfl rfl (by decide +kernel) ⟨Nat.le_of_ble_eq_true rfl, Nat.le_of_ble_eq_true rfl⟩) (tP_V hG2 hE at_5 rfl) rfl rfl hl.1 rfl (lv_room (Nat.le_of_ble_eq_true rfl)) dL_law_562 ⟨hcl, hsl⟩) hS rfl (fun q h => tM2_0 (ht0 q h)) (fun r_6 H locs hp_7 _ hS o_8 => ?_)
  replace hX := hX.kept (o_8 b (by rw [tM2_0 (ht0 b hbl)]; rfl))
  refine lv_icmp_eq (tgt := 1417) hx hb dL_law_565 (by decide) (fun _ => ?_) (fun q => absurd ((by rcases hp_3 with ⟨h1, g1⟩ | ⟨h1, g1⟩ <;> rcases hp_7 with ⟨h2, g2⟩ | ⟨h2, g2⟩ <;> first | exact h1.trans h2.symm | (exfalso; omega))) q)
  exact kx H locs hS hX

set_option maxRecDepth 20000 in
theorem gu_L_X9_reads : GoodIn wsL_law (wsV RL 75 RX9 yX9_reads uX9_reads) := goodIn_r _ [619, 620, 621, 2, 622, 608, 609, 2, 527, 623, 624, 625, 528, 610, 626, 23, 1064, 1065, 1066, 1067, 1068, 1069, 1070, 1071, 1072, 1073, 1074, 1075, 1076, 1077, 1078, 1079, 1080, 1081] (by decide +kernel) (by decide +kernel)
set_option maxRecDepth 20000 in
theorem gu_L_X10_reads : GoodIn wsL_law (wsV RL 78 RX10 yX10_reads uX10_reads) := goodIn_r _ [638, 639, 640, 5, 641, 575, 182, 183, 5, 642, 643, 644, 546, 545, 184, 645, 370, 1082, 1083, 1084, 1085, 1086, 1087, 1088, 1089, 1090, 1091, 1092, 1093, 1094, 1095, 1096, 1097, 1098, 1099, 1100, 1101, 1102, 1103, 1104, 1105, 1106, 1107, 1108, 1109, 1110, 1111, 1112, 1113, 1114, 1115, 1116, 1117] (by decide +kernel) (by decide +kernel)
set_option maxHeartbeats 4000000 in
set_option maxRecDepth 100000 in
theorem lc_13 {p : Program} {l : Launch} {e : Env} {s : State} {m : MethodId} {below : List Frame} {meth : Method} {c : Code} {cells slots : Nat} {Q : State → Prop} {b h0 : Nat} {xs : Nat → Int32} {D : va_G} {cI cL cC : ClassId} {t : Nat → Nat} {H : Heap} {locs : List Loc} {ls : Array Slot} (hx : p.tables.exec = Jvm.exec) (hb : c.code = cL_law) (hml : c.maxLocals = 4) (hown : s.vm.findClass RL = some m.cls) (hts : ∀ w ∈ wsL_law, w.before #[Value.ref b] s = true) (hE : EV D cI cL cC s) (hbl : b < h0) (hG : tG D (fF cI cL cC 0 0) t H) (kt : t h0 = 1) (kt2 : t (h0 + 92) = 40) (ht0 : ∀ q : Nat, q < h0 → t q = 0) (uq_gC : ∀ b c : Nat, t b = 2 → t c = 2 → b = c) (uq_gR : ∀ b c : Nat, t b = 40 → t c = 40 → b = c) (hS : cF h0 s.heap H locs) (hX : va_X b 8 xs s H) (hl : lv_has ls 4 [(3, .int 0), (2, .ref (h0 + 92)), (1, .ref h0), (0, .ref b)]) (hcl : cells ≤ 600000) (hsl : slots ≤ 7302250) (kx : ∀ (H1 : Heap) (locs1 : List Loc), cF h0 s.heap H1 locs1 → va_X b 8 xs s H1 → W p l e room_1 s m #[Value.ref b] below meth c H1 locs1 cells slots Q (F0 m 1417 ls [])) : W p l e room_1 s m #[Value.ref b] below meth c H locs cells slots Q (F0 m 570 ls []) := by
  refine lv_aload_n hx hb dL_law_570 rfl (lv_at hl 2 rfl) ?_
  refine lv_aload_n hx hb dL_law_571 rfl (lv_at hl 3 rfl) ?_
  refine lv_iload_n hx hb dL_law_572 rfl (lv_at hl 0 rfl) ?_
  refine lv_iconst (v := 1) hx hb dL_law_573 (by decide) ?_
  refine lv_iadd hx hb dL_law_574 ?_
  refine lv_seti (y := 1) (by decide) ?_
  refine ty_sld hx hb hX (i := 1) (q_in (by decide) (by decide)) dL_law_575 ?_
  refine lv_seti (y := xs 1) rfl ?_
  obtain ⟨_, at_1⟩ := rcv1 hG kt
  refine lw_calll (W.runV (As := [.int (xs 1)]) (rest := []) ⟨hx, hb, hml, hown, hts⟩ (c_X9_reads l D t cI cL cC h0 (xs 1) kt) (cwV 1 hts gu_L_X9_reads rfl rfl rfl (by decide +kernel) ⟨Nat.le_of_ble_eq_true rfl, Nat.le_of_ble_eq_true rfl⟩) (tP_V hG hE at_1 rfl) rfl rfl hl.1 rfl (lv_room (Nat.le_of_ble_eq_true rfl)) dL_law_576 ⟨hcl, hsl⟩) hS rfl ht0 (fun r_2 H locs hp_3 _ hS o_4 => ?_)
  replace hX := hX.kept (o_4 b (by rw [ht0 b hbl]; rfl))
  have hG2 := tG.keptW (tG.ref hG) o_4 (fun q h => rfl)
  refine lv_pc (pc2 := 579) rfl ?_
  refine lv_aload_n hx hb dL_law_579 rfl (lv_at hl 1 rfl) ?_
  refine lv_aload_n hx hb dL_law_580 rfl (lv_at hl 3 rfl) ?_
  refine lv_iload_n hx hb dL_law_581 rfl (lv_at hl 0 rfl) ?_
  refine lv_iconst (v := 1) hx hb dL_law_582 (by decide) ?_
  refine lv_iadd hx hb dL_law_583 ?_
  refine lv_seti (y := 1) (by decide) ?_
  refine ty_sld hx hb hX (i := 1) (q_in (by decide) (by decide)) dL_law_584 ?_
  refine lv_seti (y := xs 1) rfl ?_
  obtain ⟨_, at_5⟩ := rcv40 hG2 (tM2_40 kt2 (by decide))
  refine lw_calll (W.runV (As := [.int (xs 1)]) (rest := [.long r_2]) ⟨hx, hb, hml, hown, hts⟩ (c_X10_reads l D (tM2 t) cI cL cC (h0 + 92) (xs 1) (tM2_40 kt2 (by decide))) (cwV 1 hts gu_L_X10_reads rfl rfl rfl (by decide +kernel) ⟨Nat.le_of_ble_eq_true rfl, Nat.le_of_ble_eq_true rfl⟩) (tP_V hG2 hE at_5 rfl) rfl rfl hl.1 rfl (lv_room (Nat.le_of_ble_eq_true rfl)) dL_law_585 ⟨hcl, hsl⟩) hS rfl (fun q h => tM2_0 (ht0 q h)) (fun r_6 H locs hp_7 _ hS o_8 => ?_)
  replace hX := hX.kept (o_8 b (by rw [tM2_0 (ht0 b hbl)]; rfl))
  refine W.lcmp hx hb dL_law_588 ?_
  refine lv_pc (pc2 := 589) rfl ?_
  refine lv_if_eq (tgt := 1417) hx hb dL_law_589 (by decide) (fun _ => ?_) (fun q => absurd ((lg_cmp_eq _ _).mpr (by rcases hp_3 with ⟨h1, g1⟩ | ⟨h1, g1⟩ <;> rcases hp_7 with ⟨h2, g2⟩ | ⟨h2, g2⟩ <;> first | exact h1.trans h2.symm | (exfalso; omega))) q)
  exact kx H locs hS hX

set_option maxRecDepth 20000 in
theorem gu_L_X9_see : GoodIn wsL_law (wsV RL 79 RX9 yX9_see uX9_see) := goodIn_r _ [650, 651, 652, 2, 653, 608, 609, 2, 168, 169, 654, 623, 624, 625, 610, 170, 626, 23, 1064, 1065, 1066, 1067, 1068, 1069, 1070, 1071, 1072, 1073, 1074, 1075, 1076, 1077, 1078, 1079, 1080, 1081] (by decide +kernel) (by decide +kernel)
set_option maxRecDepth 20000 in
theorem gu_L_X10_see : GoodIn wsL_law (wsV RL 82 RX10 yX10_see uX10_see) := goodIn_r _ [659, 660, 661, 5, 662, 575, 182, 183, 5, 421, 545, 663, 642, 643, 644, 184, 645, 370, 1082, 1083, 1084, 1085, 1086, 1087, 1088, 1089, 1090, 1091, 1092, 1093, 1094, 1095, 1096, 1097, 1098, 1099, 1100, 1101, 1102, 1103, 1104, 1105, 1106, 1107, 1108, 1109, 1110, 1111, 1112, 1113, 1114, 1115, 1116, 1117] (by decide +kernel) (by decide +kernel)
set_option maxHeartbeats 4000000 in
set_option maxRecDepth 100000 in
theorem lc_14 {p : Program} {l : Launch} {e : Env} {s : State} {m : MethodId} {below : List Frame} {meth : Method} {c : Code} {cells slots : Nat} {Q : State → Prop} {b h0 : Nat} {xs : Nat → Int32} {D : va_G} {cI cL cC : ClassId} {t : Nat → Nat} {H : Heap} {locs : List Loc} {ls : Array Slot} (hx : p.tables.exec = Jvm.exec) (hb : c.code = cL_law) (hml : c.maxLocals = 4) (hown : s.vm.findClass RL = some m.cls) (hts : ∀ w ∈ wsL_law, w.before #[Value.ref b] s = true) (hE : EV D cI cL cC s) (hbl : b < h0) (hG : tG D (fF cI cL cC 0 0) t H) (kt : t h0 = 1) (kt2 : t (h0 + 92) = 40) (ht0 : ∀ q : Nat, q < h0 → t q = 0) (uq_gC : ∀ b c : Nat, t b = 2 → t c = 2 → b = c) (uq_gR : ∀ b c : Nat, t b = 40 → t c = 40 → b = c) (hS : cF h0 s.heap H locs) (hX : va_X b 8 xs s H) (hl : lv_has ls 4 [(3, .int 0), (2, .ref (h0 + 92)), (1, .ref h0), (0, .ref b)]) (hcl : cells ≤ 600000) (hsl : slots ≤ 7302250) (kx : ∀ (H1 : Heap) (locs1 : List Loc), cF h0 s.heap H1 locs1 → va_X b 8 xs s H1 → W p l e room_1 s m #[Value.ref b] below meth c H1 locs1 cells slots Q (F0 m 1417 ls [])) : W p l e room_1 s m #[Value.ref b] below meth c H locs cells slots Q (F0 m 594 ls []) := by
  refine lv_aload_n hx hb dL_law_594 rfl (lv_at hl 2 rfl) ?_
  refine lv_aload_n hx hb dL_law_595 rfl (lv_at hl 3 rfl) ?_
  refine lv_iload_n hx hb dL_law_596 rfl (lv_at hl 0 rfl) ?_
  refine lv_iconst (v := 1) hx hb dL_law_597 (by decide) ?_
  refine lv_iadd hx hb dL_law_598 ?_
  refine lv_seti (y := 1) (by decide) ?_
  refine ty_sld hx hb hX (i := 1) (q_in (by decide) (by decide)) dL_law_599 ?_
  refine lv_seti (y := xs 1) rfl ?_
  refine lv_aload_n hx hb dL_law_600 rfl (lv_at hl 3 rfl) ?_
  refine lv_pc (pc2 := 601) rfl ?_
  refine lv_iload_n hx hb dL_law_601 rfl (lv_at hl 0 rfl) ?_
  refine lv_iconst (v := 2) hx hb dL_law_602 (by decide) ?_
  refine lv_iadd hx hb dL_law_603 ?_
  refine lv_seti (y := 2) (by decide) ?_
  refine ty_sld hx hb hX (i := 2) (q_in (by decide) (by decide)) dL_law_604 ?_
  refine lv_seti (y := xs 2) rfl ?_
  refine lv_aload_n hx hb dL_law_605 rfl (lv_at hl 3 rfl) ?_
  refine lv_iload_n hx hb dL_law_606 rfl (lv_at hl 0 rfl) ?_
  refine lv_iconst (v := 3) hx hb dL_law_607 (by decide) ?_
  refine lv_iadd hx hb dL_law_608 ?_
  refine lv_seti (y := 3) (by decide) ?_
  refine lv_pc (pc2 := 609) rfl ?_
  refine ty_sld hx hb hX (i := 3) (q_in (by decide) (by decide)) dL_law_609 ?_
  refine lv_seti (y := xs 3) rfl ?_
  obtain ⟨_, at_1⟩ := rcv1 hG kt
  refine lw_calli (W.runV (As := [.int (xs 1), .int (xs 2), .int (xs 3)]) (rest := []) ⟨hx, hb, hml, hown, hts⟩ (c_X9_see l D t cI cL cC h0 (xs 1) (xs 2) (xs 3) kt) (cwV 3 hts gu_L_X9_see rfl rfl rfl (by decide +kernel) ⟨Nat.le_of_ble_eq_true rfl, Nat.le_of_ble_eq_true rfl⟩) (tP_V hG hE at_1 rfl) rfl rfl hl.1 rfl (lv_room (Nat.le_of_ble_eq_true rfl)) dL_law_610 ⟨hcl, hsl⟩) hS rfl ht0 (fun r_2 H locs hp_3 _ hS o_4 => ?_)
  replace hX := hX.kept (o_4 b (by rw [ht0 b hbl]; rfl))
  have hG2 := tG.keptW (tG.ref hG) o_4 (fun q h => rfl)
  refine lv_aload_n hx hb dL_law_613 rfl (lv_at hl 1 rfl) ?_
  refine lv_aload_n hx hb dL_law_614 rfl (lv_at hl 3 rfl) ?_
  refine lv_iload_n hx hb dL_law_615 rfl (lv_at hl 0 rfl) ?_
  refine lv_iconst (v := 1) hx hb dL_law_616 (by decide) ?_
  refine lv_iadd hx hb dL_law_617 ?_
  refine lv_seti (y := 1) (by decide) ?_
  refine ty_sld hx hb hX (i := 1) (q_in (by decide) (by decide)) dL_law_618 ?_
  refine lv_seti (y := xs 1) rfl ?_
  refine lv_pc (pc2 := 619) rfl ?_
  refine lv_aload_n hx hb dL_law_619 rfl (lv_at hl 3 rfl) ?_
  refine lv_iload_n hx hb dL_law_620 rfl (lv_at hl 0 rfl) ?_
  refine lv_iconst (v := 2) hx hb dL_law_621 (by decide) ?_
  refine lv_iadd hx hb dL_law_622 ?_
  refine lv_seti (y := 2) (by decide) ?_
  refine ty_sld hx hb hX (i := 2) (q_in (by decide) (by decide)) dL_law_623 ?_
  refine lv_seti (y := xs 2) rfl ?_
  refine lv_aload_n hx hb dL_law_624 rfl (lv_at hl 3 rfl) ?_
  refine lv_iload_n hx hb dL_law_625 rfl (lv_at hl 0 rfl) ?_
  refine lv_iconst (v := 3) hx hb dL_law_626 (by decide) ?_
  refine lv_pc (pc2 := 627) rfl ?_
  refine lv_iadd hx hb dL_law_627 ?_
  refine lv_seti (y := 3) (by decide) ?_
  refine ty_sld hx hb hX (i := 3) (q_in (by decide) (by decide)) dL_law_628 ?_
  refine lv_seti (y := xs 3) rfl ?_
  obtain ⟨_, at_5⟩ := rcv40 hG2 (tM2_40 kt2 (by decide))
  refine lw_calli (W.runV (As := [.int (xs 1), .int (xs 2), .int (xs 3)]) (rest := [.int r_2]) ⟨hx, hb, hml, hown, hts⟩ (c_X10_see l D (tM2 t) cI cL cC (h0 + 92) (xs 1) (xs 2) (xs 3) (tM2_40 kt2 (by decide))) (cwV 3 hts gu_L_X10_see rfl rfl rfl (by decide +kernel) ⟨Nat.le_of_ble_eq_true rfl, Nat.le_of_ble_eq_true rfl⟩) (tP_V hG2 hE at_5 rfl) rfl rfl hl.1 rfl (lv_room (Nat.le_of_ble_eq_true rfl)) dL_law_629 ⟨hcl, hsl⟩) hS rfl (fun q h => tM2_0 (ht0 q h)) (fun r_6 H locs hp_7 _ hS o_8 => ?_)
  replace hX := hX.kept (o_8 b (by rw [tM2_0 (ht0 b hbl)]; rfl))
  refine lv_icmp_eq (tgt := 1417) hx hb dL_law_632 (by decide) (fun _ => ?_) (fun q => absurd ((by rcases hp_3 with ⟨h1, g1⟩ | ⟨h1, g1⟩ <;> rcases hp_7 with ⟨h2, g2⟩ | ⟨h2, g2⟩ <;> first | exact h1.trans h2.symm | (exfalso; omega))) q)
  exact kx H locs hS hX

set_option maxRecDepth 20000 in
theorem gu_L_X9_ends : GoodIn wsL_law (wsV RL 83 RX9 yX9_ends uX9_ends) := goodIn_r _ [664, 665, 666, 2, 667, 668, 168, 169, 2, 43, 669, 170, 1064, 1065, 1066, 1067, 1068, 1069, 1070, 1071, 1072, 1073, 1074, 1075, 1076, 1077, 1078, 1079, 1080, 1081, 1138, 1139, 1140, 1141] (by decide +kernel) (by decide +kernel)
set_option maxRecDepth 20000 in
theorem gu_L_X10_ends : GoodIn wsL_law (wsV RL 86 RX10 yX10_ends uX10_ends) := goodIn_r _ [670, 671, 672, 5, 673, 674, 182, 183, 5, 675, 184, 1082, 1083, 1084, 1085, 1086, 1087, 1088, 1089, 1090, 1091, 1092, 1093, 1094, 1095, 1096, 1097, 1098, 1099, 1100, 1101, 1102, 1103, 1104, 1105, 1106, 1107, 1108, 1109, 1110, 1111, 1112, 1113, 1114, 1115, 1116, 1117] (by decide +kernel) (by decide +kernel)
set_option maxHeartbeats 4000000 in
set_option maxRecDepth 100000 in
theorem lc_15 {p : Program} {l : Launch} {e : Env} {s : State} {m : MethodId} {below : List Frame} {meth : Method} {c : Code} {cells slots : Nat} {Q : State → Prop} {b h0 : Nat} {xs : Nat → Int32} {D : va_G} {cI cL cC : ClassId} {t : Nat → Nat} {H : Heap} {locs : List Loc} {ls : Array Slot} (hx : p.tables.exec = Jvm.exec) (hb : c.code = cL_law) (hml : c.maxLocals = 4) (hown : s.vm.findClass RL = some m.cls) (hts : ∀ w ∈ wsL_law, w.before #[Value.ref b] s = true) (hE : EV D cI cL cC s) (hbl : b < h0) (hG : tG D (fF cI cL cC 0 0) t H) (kt : t h0 = 1) (kt2 : t (h0 + 92) = 40) (ht0 : ∀ q : Nat, q < h0 → t q = 0) (uq_gC : ∀ b c : Nat, t b = 2 → t c = 2 → b = c) (uq_gR : ∀ b c : Nat, t b = 40 → t c = 40 → b = c) (hS : cF h0 s.heap H locs) (hX : va_X b 8 xs s H) (hl : lv_has ls 4 [(3, .int 0), (2, .ref (h0 + 92)), (1, .ref h0), (0, .ref b)]) (hcl : cells ≤ 600000) (hsl : slots ≤ 7302250) (kx : ∀ (H1 : Heap) (locs1 : List Loc), cF h0 s.heap H1 locs1 → va_X b 8 xs s H1 → W p l e room_1 s m #[Value.ref b] below meth c H1 locs1 cells slots Q (F0 m 1417 ls [])) : W p l e room_1 s m #[Value.ref b] below meth c H locs cells slots Q (F0 m 637 ls []) := by
  refine lv_aload_n hx hb dL_law_637 rfl (lv_at hl 2 rfl) ?_
  refine lv_aload_n hx hb dL_law_638 rfl (lv_at hl 3 rfl) ?_
  refine lv_iload_n hx hb dL_law_639 rfl (lv_at hl 0 rfl) ?_
  refine lv_iconst (v := 1) hx hb dL_law_640 (by decide) ?_
  refine lv_iadd hx hb dL_law_641 ?_
  refine lv_seti (y := 1) (by decide) ?_
  refine ty_sld hx hb hX (i := 1) (q_in (by decide) (by decide)) dL_law_642 ?_
  refine lv_seti (y := xs 1) rfl ?_
  obtain ⟨_, at_1⟩ := rcv1 hG kt
  refine lw_calli (W.runV (As := [.int (xs 1)]) (rest := []) ⟨hx, hb, hml, hown, hts⟩ (c_X9_ends l D t cI cL cC h0 (xs 1) kt) (cwV 1 hts gu_L_X9_ends rfl rfl rfl (by decide +kernel) ⟨Nat.le_of_ble_eq_true rfl, Nat.le_of_ble_eq_true rfl⟩) (tP_V hG hE at_1 rfl) rfl rfl hl.1 rfl (lv_room (Nat.le_of_ble_eq_true rfl)) dL_law_643 ⟨hcl, hsl⟩) hS rfl ht0 (fun r_2 H locs hp_3 _ hS o_4 => ?_)
  replace hX := hX.kept (o_4 b (by rw [ht0 b hbl]; rfl))
  have hG2 := tG.keptW (tG.ref hG) o_4 (fun q h => tM2_w h)
  refine lv_pc (pc2 := 646) rfl ?_
  refine lv_aload_n hx hb dL_law_646 rfl (lv_at hl 1 rfl) ?_
  refine lv_aload_n hx hb dL_law_647 rfl (lv_at hl 3 rfl) ?_
  refine lv_iload_n hx hb dL_law_648 rfl (lv_at hl 0 rfl) ?_
  refine lv_iconst (v := 1) hx hb dL_law_649 (by decide) ?_
  refine lv_iadd hx hb dL_law_650 ?_
  refine lv_seti (y := 1) (by decide) ?_
  refine ty_sld hx hb hX (i := 1) (q_in (by decide) (by decide)) dL_law_651 ?_
  refine lv_seti (y := xs 1) rfl ?_
  obtain ⟨_, at_5⟩ := rcv40 hG2 (tM2_40 kt2 (by decide))
  refine lw_calli (W.runV (As := [.int (xs 1)]) (rest := [.int r_2]) ⟨hx, hb, hml, hown, hts⟩ (c_X10_ends l D (tM2 t) cI cL cC (h0 + 92) (xs 1) (tM2_40 kt2 (by decide))) (cwV 1 hts gu_L_X10_ends rfl rfl rfl (by decide +kernel) ⟨Nat.le_of_ble_eq_true rfl, Nat.le_of_ble_eq_true rfl⟩) (tP_V hG2 hE at_5 rfl) rfl rfl hl.1 rfl (lv_room (Nat.le_of_ble_eq_true rfl)) dL_law_652 ⟨hcl, hsl⟩) hS rfl (fun q h => tM2_0 (ht0 q h)) (fun r_6 H locs hp_7 _ hS o_8 => ?_)
  replace hX := hX.kept (o_8 b (by rw [tM2_0 (ht0 b hbl)]; rfl))
  refine lv_icmp_eq (tgt := 1417) hx hb dL_law_655 (by decide) (fun _ => ?_) (fun q => absurd ((by rcases hp_3 with ⟨h1, g1⟩ | ⟨h1, g1⟩ <;> rcases hp_7 with ⟨h2, g2⟩ | ⟨h2, g2⟩ <;> first | exact h1.trans h2.symm | (exfalso; omega))) q)
  exact kx H locs hS hX

set_option maxRecDepth 20000 in
theorem gu_L_X9_knob : GoodIn wsL_law (wsV RL 87 RX9 yX9_knob uX9_knob) := goodIn_r _ [676, 677, 678, 2, 679, 681, 682, 2, 400, 274, 168, 169, 680, 401, 402, 403, 683, 275, 170, 404, 23, 1064, 1065, 1066, 1067, 1068, 1069, 1070, 1071, 1072, 1073, 1074, 1075, 1076, 1077, 1078, 1079, 1080, 1081] (by decide +kernel) (by decide +kernel)
set_option maxRecDepth 20000 in
theorem gu_L_X10_knob : GoodIn wsL_law (wsV RL 91 RX10 yX10_knob uX10_knob) := goodIn_r _ [693, 694, 695, 5, 696, 182, 183, 5, 410, 697, 316, 698, 370, 184, 1082, 1083, 1084, 1085, 1086, 1087, 1088, 1089, 1090, 1091, 1092, 1093, 1094, 1095, 1096, 1097, 1098, 1099, 1100, 1101, 1102, 1103, 1104, 1105, 1106, 1107, 1108, 1109, 1110, 1111, 1112, 1113, 1114, 1115, 1116, 1117] (by decide +kernel) (by decide +kernel)
set_option maxHeartbeats 4000000 in
set_option maxRecDepth 100000 in
theorem lc_16 {p : Program} {l : Launch} {e : Env} {s : State} {m : MethodId} {below : List Frame} {meth : Method} {c : Code} {cells slots : Nat} {Q : State → Prop} {b h0 : Nat} {xs : Nat → Int32} {D : va_G} {cI cL cC : ClassId} {t : Nat → Nat} {H : Heap} {locs : List Loc} {ls : Array Slot} (hx : p.tables.exec = Jvm.exec) (hb : c.code = cL_law) (hml : c.maxLocals = 4) (hown : s.vm.findClass RL = some m.cls) (hts : ∀ w ∈ wsL_law, w.before #[Value.ref b] s = true) (hE : EV D cI cL cC s) (hbl : b < h0) (hG : tG D (fF cI cL cC 0 0) t H) (kt : t h0 = 1) (kt2 : t (h0 + 92) = 40) (ht0 : ∀ q : Nat, q < h0 → t q = 0) (uq_gC : ∀ b c : Nat, t b = 2 → t c = 2 → b = c) (uq_gR : ∀ b c : Nat, t b = 40 → t c = 40 → b = c) (hS : cF h0 s.heap H locs) (hX : va_X b 8 xs s H) (hl : lv_has ls 4 [(3, .int 0), (2, .ref (h0 + 92)), (1, .ref h0), (0, .ref b)]) (hcl : cells ≤ 600000) (hsl : slots ≤ 7302250) (kx : ∀ (H1 : Heap) (locs1 : List Loc), cF h0 s.heap H1 locs1 → va_X b 8 xs s H1 → W p l e room_1 s m #[Value.ref b] below meth c H1 locs1 cells slots Q (F0 m 1417 ls [])) : W p l e room_1 s m #[Value.ref b] below meth c H locs cells slots Q (F0 m 660 ls []) := by
  refine lv_aload_n hx hb dL_law_660 rfl (lv_at hl 2 rfl) ?_
  refine lv_aload_n hx hb dL_law_661 rfl (lv_at hl 3 rfl) ?_
  refine lv_iload_n hx hb dL_law_662 rfl (lv_at hl 0 rfl) ?_
  refine lv_iconst (v := 1) hx hb dL_law_663 (by decide) ?_
  refine lv_iadd hx hb dL_law_664 ?_
  refine lv_seti (y := 1) (by decide) ?_
  refine ty_sld hx hb hX (i := 1) (q_in (by decide) (by decide)) dL_law_665 ?_
  refine lv_seti (y := xs 1) rfl ?_
  refine lv_aload_n hx hb dL_law_666 rfl (lv_at hl 3 rfl) ?_
  refine lv_pc (pc2 := 667) rfl ?_
  refine lv_iload_n hx hb dL_law_667 rfl (lv_at hl 0 rfl) ?_
  refine lv_iconst (v := 2) hx hb dL_law_668 (by decide) ?_
  refine lv_iadd hx hb dL_law_669 ?_
  refine lv_seti (y := 2) (by decide) ?_
  refine ty_sld hx hb hX (i := 2) (q_in (by decide) (by decide)) dL_law_670 ?_
  refine lv_seti (y := xs 2) rfl ?_
  refine lv_aload_n hx hb dL_law_671 rfl (lv_at hl 3 rfl) ?_
  refine lv_iload_n hx hb dL_law_672 rfl (lv_at hl 0 rfl) ?_
  refine lv_iconst (v := 3) hx hb dL_law_673 (by decide) ?_
  refine lv_iadd hx hb dL_law_674 ?_
  refine lv_seti (y := 3) (by decide) ?_
  refine lv_pc (pc2 := 675) rfl ?_
  refine ty_sld hx hb hX (i := 3) (q_in (by decide) (by decide)) dL_law_675 ?_
  refine lv_seti (y := xs 3) rfl ?_
  refine lv_aload_n hx hb dL_law_676 rfl (lv_at hl 3 rfl) ?_
  refine lv_iload_n hx hb dL_law_677 rfl (lv_at hl 0 rfl) ?_
  refine lv_iconst (v := 4) hx hb dL_law_678 (by decide) ?_
  refine lv_iadd hx hb dL_law_679 ?_
  refine lv_seti (y := 4) (by decide) ?_
  refine ty_sld hx hb hX (i := 4) (q_in (by decide) (by decide)) dL_law_680 ?_
  refine lv_seti (y := xs 4) rfl ?_
  refine lv_aload_n hx hb dL_law_681 rfl (lv_at hl 3 rfl) ?_
  refine lv_iload_n hx hb dL_law_682 rfl (lv_at hl 0 rfl) ?_
  refine lv_pc (pc2 := 683) rfl ?_
  refine lv_iconst (v := 5) hx hb dL_law_683 (by decide) ?_
  refine lv_iadd hx hb dL_law_684 ?_
  refine lv_seti (y := 5) (by decide) ?_
  refine ty_sld hx hb hX (i := 5) (q_in (by decide) (by decide)) dL_law_685 ?_
  refine lv_seti (y := xs 5) rfl ?_
  refine lv_aload_n hx hb dL_law_686 rfl (lv_at hl 3 rfl) ?_
  refine lv_iload_n hx hb dL_law_687 rfl (lv_at hl 0 rfl) ?_
  refine lv_bipush (v := 6) hx hb dL_law_688 (by decide) ?_
  refine lv_iadd hx hb dL_law_690 ?_
  refine lv_seti (y := 6) (by decide) ?_
  refine ty_sld hx hb hX (i := 6) (q_in (by decide) (by decide)) dL_law_691 ?_
  refine lv_seti (y := xs 6) rfl ?_
  refine lv_pc (pc2 := 692) rfl ?_
  obtain ⟨_, at_1⟩ := rcv1 hG kt
  refine lw_calli (W.runV (As := [.int (xs 1), .int (xs 2), .int (xs 3), .int (xs 4), .int (xs 5), .int (xs 6)]) (rest := []) ⟨hx, hb, hml, hown, hts⟩ (c_X9_knob l D t cI cL cC h0 (xs 1) (xs 2) (xs 3) (xs 4) (xs 5) (xs 6) kt) (cwV 6 hts gu_L_X9_knob rfl rfl rfl (by decide +kernel) ⟨Nat.le_of_ble_eq_true rfl, Nat.le_of_ble_eq_true rfl⟩) (tP_V hG hE at_1 rfl) rfl rfl hl.1 rfl (lv_room (Nat.le_of_ble_eq_true rfl)) dL_law_692 ⟨hcl, hsl⟩) hS rfl ht0 (fun r_2 H locs hp_3 _ hS o_4 => ?_)
  replace hX := hX.kept (o_4 b (by rw [ht0 b hbl]; rfl))
  have hG2 := tG.keptW (tG.ref hG) o_4 (fun q h => rfl)
  refine lv_aload_n hx hb dL_law_695 rfl (lv_at hl 1 rfl) ?_
  refine lv_aload_n hx hb dL_law_696 rfl (lv_at hl 3 rfl) ?_
  refine lv_iload_n hx hb dL_law_697 rfl (lv_at hl 0 rfl) ?_
  refine lv_iconst (v := 1) hx hb dL_law_698 (by decide) ?_
  refine lv_iadd hx hb dL_law_699 ?_
  refine lv_seti (y := 1) (by decide) ?_
  refine ty_sld hx hb hX (i := 1) (q_in (by decide) (by decide)) dL_law_700 ?_
  refine lv_seti (y := xs 1) rfl ?_
  refine lv_aload_n hx hb dL_law_701 rfl (lv_at hl 3 rfl) ?_
  refine lv_pc (pc2 := 702) rfl ?_
  refine lv_iload_n hx hb dL_law_702 rfl (lv_at hl 0 rfl) ?_
  refine lv_iconst (v := 2) hx hb dL_law_703 (by decide) ?_
  refine lv_iadd hx hb dL_law_704 ?_
  refine lv_seti (y := 2) (by decide) ?_
  refine ty_sld hx hb hX (i := 2) (q_in (by decide) (by decide)) dL_law_705 ?_
  refine lv_seti (y := xs 2) rfl ?_
  refine lv_aload_n hx hb dL_law_706 rfl (lv_at hl 3 rfl) ?_
  refine lv_iload_n hx hb dL_law_707 rfl (lv_at hl 0 rfl) ?_
  refine lv_iconst (v := 3) hx hb dL_law_708 (by decide) ?_
  refine lv_iadd hx hb dL_law_709 ?_
  refine lv_seti (y := 3) (by decide) ?_
  refine lv_pc (pc2 := 710) rfl ?_
  refine ty_sld hx hb hX (i := 3) (q_in (by decide) (by decide)) dL_law_710 ?_
  refine lv_seti (y := xs 3) rfl ?_
  refine lv_aload_n hx hb dL_law_711 rfl (lv_at hl 3 rfl) ?_
  refine lv_iload_n hx hb dL_law_712 rfl (lv_at hl 0 rfl) ?_
  refine lv_iconst (v := 4) hx hb dL_law_713 (by decide) ?_
  refine lv_iadd hx hb dL_law_714 ?_
  refine lv_seti (y := 4) (by decide) ?_
  refine ty_sld hx hb hX (i := 4) (q_in (by decide) (by decide)) dL_law_715 ?_
  refine lv_seti (y := xs 4) rfl ?_
  refine lv_aload_n hx hb dL_law_716 rfl (lv_at hl 3 rfl) ?_
  refine lv_iload_n hx hb dL_law_717 rfl (lv_at hl 0 rfl) ?_
  refine lv_pc (pc2 := 718) rfl ?_
  refine lv_iconst (v := 5) hx hb dL_law_718 (by decide) ?_
  refine lv_iadd hx hb dL_law_719 ?_
  refine lv_seti (y := 5) (by decide) ?_
  refine ty_sld hx hb hX (i := 5) (q_in (by decide) (by decide)) dL_law_720 ?_
  refine lv_seti (y := xs 5) rfl ?_
  refine lv_aload_n hx hb dL_law_721 rfl (lv_at hl 3 rfl) ?_
  refine lv_iload_n hx hb dL_law_722 rfl (lv_at hl 0 rfl) ?_
  refine lv_bipush (v := 6) hx hb dL_law_723 (by decide) ?_
  refine lv_iadd hx hb dL_law_725 ?_
  refine lv_seti (y := 6) (by decide) ?_
  refine ty_sld hx hb hX (i := 6) (q_in (by decide) (by decide)) dL_law_726 ?_
  refine lv_seti (y := xs 6) rfl ?_
  refine lv_pc (pc2 := 727) rfl ?_
  obtain ⟨_, at_5⟩ := rcv40 hG2 (tM2_40 kt2 (by decide))
  refine lw_calli (W.runV (As := [.int (xs 1), .int (xs 2), .int (xs 3), .int (xs 4), .int (xs 5), .int (xs 6)]) (rest := [.int r_2]) ⟨hx, hb, hml, hown, hts⟩ (c_X10_knob l D (tM2 t) cI cL cC (h0 + 92) (xs 1) (xs 2) (xs 3) (xs 4) (xs 5) (xs 6) (tM2_40 kt2 (by decide))) (cwV 6 hts gu_L_X10_knob rfl rfl rfl (by decide +kernel) ⟨Nat.le_of_ble_eq_true rfl, Nat.le_of_ble_eq_true rfl⟩) (tP_V hG2 hE at_5 rfl) rfl rfl hl.1 rfl (lv_room (Nat.le_of_ble_eq_true rfl)) dL_law_727 ⟨hcl, hsl⟩) hS rfl (fun q h => tM2_0 (ht0 q h)) (fun r_6 H locs hp_7 _ hS o_8 => ?_)
  replace hX := hX.kept (o_8 b (by rw [tM2_0 (ht0 b hbl)]; rfl))
  refine lv_icmp_eq (tgt := 1417) hx hb dL_law_730 (by decide) (fun _ => ?_) (fun q => absurd ((by rcases hp_3 with ⟨h1, g1⟩ | ⟨h1, g1⟩ <;> rcases hp_7 with ⟨h2, g2⟩ | ⟨h2, g2⟩ <;> first | exact h1.trans h2.symm | (exfalso; omega))) q)
  exact kx H locs hS hX

set_option maxRecDepth 20000 in
theorem gu_L_X9_fits : GoodIn wsL_law (wsV RL 92 RX9 yX9_fits uX9_fits) := goodIn_r _ [699, 700, 701, 2, 702, 23, 1064, 1065, 1066, 1067, 1068, 1069, 1070, 1071, 1072, 1073, 1074, 1075, 1076, 1077, 1078, 1079, 1080, 1081] (by decide +kernel) (by decide +kernel)
set_option maxRecDepth 20000 in
theorem gu_L_X10_fits : GoodIn wsL_law (wsV RL 95 RX10 yX10_fits uX10_fits) := goodIn_r _ [760, 761, 762, 5, 763, 370, 1082, 1083, 1084, 1085, 1086, 1087, 1088, 1089, 1090, 1091, 1092, 1093, 1094, 1095, 1096, 1097, 1098, 1099, 1100, 1101, 1102, 1103, 1104, 1105, 1106, 1107, 1108, 1109, 1110, 1111, 1112, 1113, 1114, 1115, 1116, 1117] (by decide +kernel) (by decide +kernel)
set_option maxHeartbeats 4000000 in
set_option maxRecDepth 100000 in
theorem lc_17 {p : Program} {l : Launch} {e : Env} {s : State} {m : MethodId} {below : List Frame} {meth : Method} {c : Code} {cells slots : Nat} {Q : State → Prop} {b h0 : Nat} {xs : Nat → Int32} {D : va_G} {cI cL cC : ClassId} {t : Nat → Nat} {H : Heap} {locs : List Loc} {ls : Array Slot} (hx : p.tables.exec = Jvm.exec) (hb : c.code = cL_law) (hml : c.maxLocals = 4) (hown : s.vm.findClass RL = some m.cls) (hts : ∀ w ∈ wsL_law, w.before #[Value.ref b] s = true) (hE : EV D cI cL cC s) (hbl : b < h0) (hG : tG D (fF cI cL cC 0 0) t H) (kt : t h0 = 1) (kt2 : t (h0 + 92) = 40) (ht0 : ∀ q : Nat, q < h0 → t q = 0) (uq_gC : ∀ b c : Nat, t b = 2 → t c = 2 → b = c) (uq_gR : ∀ b c : Nat, t b = 40 → t c = 40 → b = c) (hS : cF h0 s.heap H locs) (hX : va_X b 8 xs s H) (hl : lv_has ls 4 [(3, .int 0), (2, .ref (h0 + 92)), (1, .ref h0), (0, .ref b)]) (hcl : cells ≤ 600000) (hsl : slots ≤ 7302250) (kx : ∀ (H1 : Heap) (locs1 : List Loc), cF h0 s.heap H1 locs1 → va_X b 8 xs s H1 → W p l e room_1 s m #[Value.ref b] below meth c H1 locs1 cells slots Q (F0 m 1417 ls [])) : W p l e room_1 s m #[Value.ref b] below meth c H locs cells slots Q (F0 m 735 ls []) := by
  refine lv_aload_n hx hb dL_law_735 rfl (lv_at hl 2 rfl) ?_
  obtain ⟨_, at_1⟩ := rcv1 hG kt
  refine lw_calli (W.runV (As := []) (rest := []) ⟨hx, hb, hml, hown, hts⟩ (c_X9_fits l D t cI cL cC h0  kt) (cwV 0 hts gu_L_X9_fits rfl rfl rfl (by decide +kernel) ⟨Nat.le_of_ble_eq_true rfl, Nat.le_of_ble_eq_true rfl⟩) (tP_V hG hE at_1 rfl) rfl rfl hl.1 rfl (lv_room (Nat.le_of_ble_eq_true rfl)) dL_law_736 ⟨hcl, hsl⟩) hS rfl ht0 (fun r_2 H locs hp_3 _ hS o_4 => ?_)
  replace hX := hX.kept (o_4 b (by rw [ht0 b hbl]; rfl))
  have hG2 := tG.keptW (tG.ref hG) o_4 (fun q h => rfl)
  refine lv_aload_n hx hb dL_law_739 rfl (lv_at hl 1 rfl) ?_
  obtain ⟨_, at_5⟩ := rcv40 hG2 (tM2_40 kt2 (by decide))
  refine lw_calli (W.runV (As := []) (rest := [.int r_2]) ⟨hx, hb, hml, hown, hts⟩ (c_X10_fits l D (tM2 t) cI cL cC (h0 + 92)  (tM2_40 kt2 (by decide))) (cwV 0 hts gu_L_X10_fits rfl rfl rfl (by decide +kernel) ⟨Nat.le_of_ble_eq_true rfl, Nat.le_of_ble_eq_true rfl⟩) (tP_V hG2 hE at_5 rfl) rfl rfl hl.1 rfl (lv_room (Nat.le_of_ble_eq_true rfl)) dL_law_740 ⟨hcl, hsl⟩) hS rfl (fun q h => tM2_0 (ht0 q h)) (fun r_6 H locs hp_7 _ hS o_8 => ?_)
  replace hX := hX.kept (o_8 b (by rw [tM2_0 (ht0 b hbl)]; rfl))
  refine lv_icmp_eq (tgt := 1417) hx hb dL_law_743 (by decide) (fun _ => ?_) (fun q => absurd ((hp_3.trans hp_7.symm)) q)
  exact kx H locs hS hX

set_option maxRecDepth 20000 in
theorem gu_L_X9_fit : GoodIn wsL_law (wsV RL 96 RX9 yX9_fit uX9_fit) := goodIn_r _ [793, 794, 795, 2, 796, 681, 682, 2, 23, 683, 1064, 1065, 1066, 1067, 1068, 1069, 1070, 1071, 1072, 1073, 1074, 1075, 1076, 1077, 1078, 1079, 1080, 1081] (by decide +kernel) (by decide +kernel)
set_option maxRecDepth 20000 in
theorem gu_L_X10_fit : GoodIn wsL_law (wsV RL 99 RX10 yX10_fit uX10_fit) := goodIn_r _ [803, 804, 805, 5, 806, 182, 183, 5, 370, 184, 1082, 1083, 1084, 1085, 1086, 1087, 1088, 1089, 1090, 1091, 1092, 1093, 1094, 1095, 1096, 1097, 1098, 1099, 1100, 1101, 1102, 1103, 1104, 1105, 1106, 1107, 1108, 1109, 1110, 1111, 1112, 1113, 1114, 1115, 1116, 1117] (by decide +kernel) (by decide +kernel)
set_option maxHeartbeats 4000000 in
set_option maxRecDepth 100000 in
theorem lc_18 {p : Program} {l : Launch} {e : Env} {s : State} {m : MethodId} {below : List Frame} {meth : Method} {c : Code} {cells slots : Nat} {Q : State → Prop} {b h0 : Nat} {xs : Nat → Int32} {D : va_G} {cI cL cC : ClassId} {t : Nat → Nat} {H : Heap} {locs : List Loc} {ls : Array Slot} (hx : p.tables.exec = Jvm.exec) (hb : c.code = cL_law) (hml : c.maxLocals = 4) (hown : s.vm.findClass RL = some m.cls) (hts : ∀ w ∈ wsL_law, w.before #[Value.ref b] s = true) (hE : EV D cI cL cC s) (hbl : b < h0) (hG : tG D (fF cI cL cC 0 0) t H) (kt : t h0 = 1) (kt2 : t (h0 + 92) = 40) (ht0 : ∀ q : Nat, q < h0 → t q = 0) (uq_gC : ∀ b c : Nat, t b = 2 → t c = 2 → b = c) (uq_gR : ∀ b c : Nat, t b = 40 → t c = 40 → b = c) (hS : cF h0 s.heap H locs) (hX : va_X b 8 xs s H) (hl : lv_has ls 4 [(3, .int 0), (2, .ref (h0 + 92)), (1, .ref h0), (0, .ref b)]) (hcl : cells ≤ 600000) (hsl : slots ≤ 7302250) (kx : ∀ (H1 : Heap) (locs1 : List Loc), cF h0 s.heap H1 locs1 → va_X b 8 xs s H1 → W p l e room_1 s m #[Value.ref b] below meth c H1 locs1 cells slots Q (F0 m 1417 ls [])) : W p l e room_1 s m #[Value.ref b] below meth c H locs cells slots Q (F0 m 748 ls []) := by
  refine lv_aload_n hx hb dL_law_748 rfl (lv_at hl 2 rfl) ?_
  refine lv_aload_n hx hb dL_law_749 rfl (lv_at hl 3 rfl) ?_
  refine lv_iload_n hx hb dL_law_750 rfl (lv_at hl 0 rfl) ?_
  refine lv_iconst (v := 1) hx hb dL_law_751 (by decide) ?_
  refine lv_iadd hx hb dL_law_752 ?_
  refine lv_seti (y := 1) (by decide) ?_
  refine ty_sld hx hb hX (i := 1) (q_in (by decide) (by decide)) dL_law_753 ?_
  refine lv_seti (y := xs 1) rfl ?_
  refine lv_aload_n hx hb dL_law_754 rfl (lv_at hl 3 rfl) ?_
  refine lv_pc (pc2 := 755) rfl ?_
  refine lv_iload_n hx hb dL_law_755 rfl (lv_at hl 0 rfl) ?_
  refine lv_iconst (v := 2) hx hb dL_law_756 (by decide) ?_
  refine lv_iadd hx hb dL_law_757 ?_
  refine lv_seti (y := 2) (by decide) ?_
  refine ty_sld hx hb hX (i := 2) (q_in (by decide) (by decide)) dL_law_758 ?_
  refine lv_seti (y := xs 2) rfl ?_
  obtain ⟨_, at_1⟩ := rcv1 hG kt
  refine lw_calli (W.runV (As := [.int (xs 1), .int (xs 2)]) (rest := []) ⟨hx, hb, hml, hown, hts⟩ (c_X9_fit l D t cI cL cC h0 (xs 1) (xs 2) kt) (cwV 2 hts gu_L_X9_fit rfl rfl rfl (by decide +kernel) ⟨Nat.le_of_ble_eq_true rfl, Nat.le_of_ble_eq_true rfl⟩) (tP_V hG hE at_1 rfl) rfl rfl hl.1 rfl (lv_room (Nat.le_of_ble_eq_true rfl)) dL_law_759 ⟨hcl, hsl⟩) hS rfl ht0 (fun r_2 H locs hp_3 _ hS o_4 => ?_)
  replace hX := hX.kept (o_4 b (by rw [ht0 b hbl]; rfl))
  have hG2 := tG.keptW (tG.ref hG) o_4 (fun q h => rfl)
  refine lv_aload_n hx hb dL_law_762 rfl (lv_at hl 1 rfl) ?_
  refine lv_aload_n hx hb dL_law_763 rfl (lv_at hl 3 rfl) ?_
  refine lv_iload_n hx hb dL_law_764 rfl (lv_at hl 0 rfl) ?_
  refine lv_pc (pc2 := 765) rfl ?_
  refine lv_iconst (v := 1) hx hb dL_law_765 (by decide) ?_
  refine lv_iadd hx hb dL_law_766 ?_
  refine lv_seti (y := 1) (by decide) ?_
  refine ty_sld hx hb hX (i := 1) (q_in (by decide) (by decide)) dL_law_767 ?_
  refine lv_seti (y := xs 1) rfl ?_
  refine lv_aload_n hx hb dL_law_768 rfl (lv_at hl 3 rfl) ?_
  refine lv_iload_n hx hb dL_law_769 rfl (lv_at hl 0 rfl) ?_
  refine lv_iconst (v := 2) hx hb dL_law_770 (by decide) ?_
  refine lv_iadd hx hb dL_law_771 ?_
  refine lv_seti (y := 2) (by decide) ?_
  refine ty_sld hx hb hX (i := 2) (q_in (by decide) (by decide)) dL_law_772 ?_
  refine lv_seti (y := xs 2) rfl ?_
  refine lv_pc (pc2 := 773) rfl ?_
  obtain ⟨_, at_5⟩ := rcv40 hG2 (tM2_40 kt2 (by decide))
  refine lw_calli (W.runV (As := [.int (xs 1), .int (xs 2)]) (rest := [.int r_2]) ⟨hx, hb, hml, hown, hts⟩ (c_X10_fit l D (tM2 t) cI cL cC (h0 + 92) (xs 1) (xs 2) (tM2_40 kt2 (by decide))) (cwV 2 hts gu_L_X10_fit rfl rfl rfl (by decide +kernel) ⟨Nat.le_of_ble_eq_true rfl, Nat.le_of_ble_eq_true rfl⟩) (tP_V hG2 hE at_5 rfl) rfl rfl hl.1 rfl (lv_room (Nat.le_of_ble_eq_true rfl)) dL_law_773 ⟨hcl, hsl⟩) hS rfl (fun q h => tM2_0 (ht0 q h)) (fun r_6 H locs hp_7 _ hS o_8 => ?_)
  replace hX := hX.kept (o_8 b (by rw [tM2_0 (ht0 b hbl)]; rfl))
  refine lv_icmp_eq (tgt := 1417) hx hb dL_law_776 (by decide) (fun _ => ?_) (fun q => absurd ((by rcases hp_3 with ⟨h1, g1⟩ | ⟨h1, g1⟩ <;> rcases hp_7 with ⟨h2, g2⟩ | ⟨h2, g2⟩ <;> first | exact h1.trans h2.symm | (exfalso; omega))) q)
  exact kx H locs hS hX

set_option maxRecDepth 20000 in
theorem gu_L_X9_take : GoodIn wsL_law (wsV RL 100 RX9 yX9_take uX9_take) := goodIn_r _ [807, 808, 809, 2, 810, 23, 1064, 1065, 1066, 1067, 1068, 1069, 1070, 1071, 1072, 1073, 1074, 1075, 1076, 1077, 1078, 1079, 1080, 1081] (by decide +kernel) (by decide +kernel)
set_option maxRecDepth 20000 in
theorem gu_L_X10_take : GoodIn wsL_law (wsV RL 103 RX10 yX10_take uX10_take) := goodIn_r _ [811, 812, 813, 5, 814, 370, 1082, 1083, 1084, 1085, 1086, 1087, 1088, 1089, 1090, 1091, 1092, 1093, 1094, 1095, 1096, 1097, 1098, 1099, 1100, 1101, 1102, 1103, 1104, 1105, 1106, 1107, 1108, 1109, 1110, 1111, 1112, 1113, 1114, 1115, 1116, 1117] (by decide +kernel) (by decide +kernel)
set_option maxHeartbeats 4000000 in
set_option maxRecDepth 100000 in
theorem lc_19 {p : Program} {l : Launch} {e : Env} {s : State} {m : MethodId} {below : List Frame} {meth : Method} {c : Code} {cells slots : Nat} {Q : State → Prop} {b h0 : Nat} {xs : Nat → Int32} {D : va_G} {cI cL cC : ClassId} {t : Nat → Nat} {H : Heap} {locs : List Loc} {ls : Array Slot} (hx : p.tables.exec = Jvm.exec) (hb : c.code = cL_law) (hml : c.maxLocals = 4) (hown : s.vm.findClass RL = some m.cls) (hts : ∀ w ∈ wsL_law, w.before #[Value.ref b] s = true) (hE : EV D cI cL cC s) (hbl : b < h0) (hG : tG D (fF cI cL cC 0 0) t H) (kt : t h0 = 1) (kt2 : t (h0 + 92) = 40) (ht0 : ∀ q : Nat, q < h0 → t q = 0) (uq_gC : ∀ b c : Nat, t b = 2 → t c = 2 → b = c) (uq_gR : ∀ b c : Nat, t b = 40 → t c = 40 → b = c) (hS : cF h0 s.heap H locs) (hX : va_X b 8 xs s H) (hl : lv_has ls 4 [(3, .int 0), (2, .ref (h0 + 92)), (1, .ref h0), (0, .ref b)]) (hcl : cells ≤ 600000) (hsl : slots ≤ 7302250) (kx : ∀ (H1 : Heap) (locs1 : List Loc), cF h0 s.heap H1 locs1 → va_X b 8 xs s H1 → W p l e room_1 s m #[Value.ref b] below meth c H1 locs1 cells slots Q (F0 m 1417 ls [])) : W p l e room_1 s m #[Value.ref b] below meth c H locs cells slots Q (F0 m 781 ls []) := by
  refine lv_aload_n hx hb dL_law_781 rfl (lv_at hl 2 rfl) ?_
  refine lv_aload_n hx hb dL_law_782 rfl (lv_at hl 3 rfl) ?_
  refine lv_iload_n hx hb dL_law_783 rfl (lv_at hl 0 rfl) ?_
  refine lv_iconst (v := 1) hx hb dL_law_784 (by decide) ?_
  refine lv_iadd hx hb dL_law_785 ?_
  refine lv_seti (y := 1) (by decide) ?_
  refine ty_sld hx hb hX (i := 1) (q_in (by decide) (by decide)) dL_law_786 ?_
  refine lv_seti (y := xs 1) rfl ?_
  obtain ⟨_, at_1⟩ := rcv1 hG kt
  refine lw_calli (W.runV (As := [.int (xs 1)]) (rest := []) ⟨hx, hb, hml, hown, hts⟩ (c_X9_take l D t cI cL cC h0 (xs 1) kt) (cwV 1 hts gu_L_X9_take rfl rfl rfl (by decide +kernel) ⟨Nat.le_of_ble_eq_true rfl, Nat.le_of_ble_eq_true rfl⟩) (tP_V hG hE at_1 rfl) rfl rfl hl.1 rfl (lv_room (Nat.le_of_ble_eq_true rfl)) dL_law_787 ⟨hcl, hsl⟩) hS rfl ht0 (fun r_2 H locs hp_3 _ hS o_4 => ?_)
  replace hX := hX.kept (o_4 b (by rw [ht0 b hbl]; rfl))
  have hG2 := tG.keptW (tG.ref hG) o_4 (fun q h => rfl)
  refine lv_pc (pc2 := 790) rfl ?_
  refine lv_aload_n hx hb dL_law_790 rfl (lv_at hl 1 rfl) ?_
  refine lv_aload_n hx hb dL_law_791 rfl (lv_at hl 3 rfl) ?_
  refine lv_iload_n hx hb dL_law_792 rfl (lv_at hl 0 rfl) ?_
  refine lv_iconst (v := 1) hx hb dL_law_793 (by decide) ?_
  refine lv_iadd hx hb dL_law_794 ?_
  refine lv_seti (y := 1) (by decide) ?_
  refine ty_sld hx hb hX (i := 1) (q_in (by decide) (by decide)) dL_law_795 ?_
  refine lv_seti (y := xs 1) rfl ?_
  obtain ⟨_, at_5⟩ := rcv40 hG2 (tM2_40 kt2 (by decide))
  refine lw_calli (W.runV (As := [.int (xs 1)]) (rest := [.int r_2]) ⟨hx, hb, hml, hown, hts⟩ (c_X10_take l D (tM2 t) cI cL cC (h0 + 92) (xs 1) (tM2_40 kt2 (by decide))) (cwV 1 hts gu_L_X10_take rfl rfl rfl (by decide +kernel) ⟨Nat.le_of_ble_eq_true rfl, Nat.le_of_ble_eq_true rfl⟩) (tP_V hG2 hE at_5 rfl) rfl rfl hl.1 rfl (lv_room (Nat.le_of_ble_eq_true rfl)) dL_law_796 ⟨hcl, hsl⟩) hS rfl (fun q h => tM2_0 (ht0 q h)) (fun r_6 H locs hp_7 _ hS o_8 => ?_)
  replace hX := hX.kept (o_8 b (by rw [tM2_0 (ht0 b hbl)]; rfl))
  refine lv_icmp_eq (tgt := 1417) hx hb dL_law_799 (by decide) (fun _ => ?_) (fun q => absurd ((by rcases hp_3 with ⟨h1, g1⟩ | ⟨h1, g1⟩ <;> rcases hp_7 with ⟨h2, g2⟩ | ⟨h2, g2⟩ <;> first | exact h1.trans h2.symm | (exfalso; omega))) q)
  exact kx H locs hS hX

set_option maxRecDepth 20000 in
theorem gu_L_X9_weigh : GoodIn wsL_law (wsV RL 104 RX9 yX9_weigh uX9_weigh) := goodIn_r _ [815, 816, 817, 2, 818, 820, 821, 2, 168, 169, 51, 819, 822, 170, 1064, 1065, 1066, 1067, 1068, 1069, 1070, 1071, 1072, 1073, 1074, 1075, 1076, 1077, 1078, 1079, 1080, 1081, 1147, 1148, 1149] (by decide +kernel) (by decide +kernel)
set_option maxRecDepth 20000 in
theorem gu_L_X10_weigh : GoodIn wsL_law (wsV RL 107 RX10 yX10_weigh uX10_weigh) := goodIn_r _ [823, 824, 825, 5, 826, 575, 182, 183, 5, 320, 153, 184, 1082, 1083, 1084, 1085, 1086, 1087, 1088, 1089, 1090, 1091, 1092, 1093, 1094, 1095, 1096, 1097, 1098, 1099, 1100, 1101, 1102, 1103, 1104, 1105, 1106, 1107, 1108, 1109, 1110, 1111, 1112, 1113, 1114, 1115, 1116, 1117] (by decide +kernel) (by decide +kernel)
set_option maxHeartbeats 4000000 in
set_option maxRecDepth 100000 in
theorem lc_20 {p : Program} {l : Launch} {e : Env} {s : State} {m : MethodId} {below : List Frame} {meth : Method} {c : Code} {cells slots : Nat} {Q : State → Prop} {b h0 : Nat} {xs : Nat → Int32} {D : va_G} {cI cL cC : ClassId} {t : Nat → Nat} {H : Heap} {locs : List Loc} {ls : Array Slot} (hx : p.tables.exec = Jvm.exec) (hb : c.code = cL_law) (hml : c.maxLocals = 4) (hown : s.vm.findClass RL = some m.cls) (hts : ∀ w ∈ wsL_law, w.before #[Value.ref b] s = true) (hE : EV D cI cL cC s) (hbl : b < h0) (hG : tG D (fF cI cL cC 0 0) t H) (kt : t h0 = 1) (kt2 : t (h0 + 92) = 40) (ht0 : ∀ q : Nat, q < h0 → t q = 0) (uq_gC : ∀ b c : Nat, t b = 2 → t c = 2 → b = c) (uq_gR : ∀ b c : Nat, t b = 40 → t c = 40 → b = c) (hS : cF h0 s.heap H locs) (hX : va_X b 8 xs s H) (hl : lv_has ls 4 [(3, .int 0), (2, .ref (h0 + 92)), (1, .ref h0), (0, .ref b)]) (hcl : cells ≤ 600000) (hsl : slots ≤ 7302250) (kx : ∀ (H1 : Heap) (locs1 : List Loc), cF h0 s.heap H1 locs1 → va_X b 8 xs s H1 → W p l e room_1 s m #[Value.ref b] below meth c H1 locs1 cells slots Q (F0 m 1417 ls [])) : W p l e room_1 s m #[Value.ref b] below meth c H locs cells slots Q (F0 m 804 ls []) := by
  refine lv_aload_n hx hb dL_law_804 rfl (lv_at hl 2 rfl) ?_
  refine lv_aload_n hx hb dL_law_805 rfl (lv_at hl 3 rfl) ?_
  refine lv_iload_n hx hb dL_law_806 rfl (lv_at hl 0 rfl) ?_
  refine lv_iconst (v := 1) hx hb dL_law_807 (by decide) ?_
  refine lv_iadd hx hb dL_law_808 ?_
  refine lv_seti (y := 1) (by decide) ?_
  refine ty_sld hx hb hX (i := 1) (q_in (by decide) (by decide)) dL_law_809 ?_
  refine lv_seti (y := xs 1) rfl ?_
  refine lv_aload_n hx hb dL_law_810 rfl (lv_at hl 3 rfl) ?_
  refine lv_pc (pc2 := 811) rfl ?_
  refine lv_iload_n hx hb dL_law_811 rfl (lv_at hl 0 rfl) ?_
  refine lv_iconst (v := 2) hx hb dL_law_812 (by decide) ?_
  refine lv_iadd hx hb dL_law_813 ?_
  refine lv_seti (y := 2) (by decide) ?_
  refine ty_sld hx hb hX (i := 2) (q_in (by decide) (by decide)) dL_law_814 ?_
  refine lv_seti (y := xs 2) rfl ?_
  obtain ⟨_, at_1⟩ := rcv1 hG kt
  refine lw_calli (W.runV (As := [.int (xs 1), .int (xs 2)]) (rest := []) ⟨hx, hb, hml, hown, hts⟩ (c_X9_weigh l D t cI cL cC h0 (xs 1) (xs 2) kt) (cwV 2 hts gu_L_X9_weigh rfl rfl rfl (by decide +kernel) ⟨Nat.le_of_ble_eq_true rfl, Nat.le_of_ble_eq_true rfl⟩) (tP_V hG hE at_1 rfl) rfl rfl hl.1 rfl (lv_room (Nat.le_of_ble_eq_true rfl)) dL_law_815 ⟨hcl, hsl⟩) hS rfl ht0 (fun r_2 H locs hp_3 _ hS o_4 => ?_)
  replace hX := hX.kept (o_4 b (by rw [ht0 b hbl]; rfl))
  have hG2 := tG.keptW (tG.ref hG) o_4 (fun q h => tM2_w h)
  refine lv_aload_n hx hb dL_law_818 rfl (lv_at hl 1 rfl) ?_
  refine lv_aload_n hx hb dL_law_819 rfl (lv_at hl 3 rfl) ?_
  refine lv_iload_n hx hb dL_law_820 rfl (lv_at hl 0 rfl) ?_
  refine lv_pc (pc2 := 821) rfl ?_
  refine lv_iconst (v := 1) hx hb dL_law_821 (by decide) ?_
  refine lv_iadd hx hb dL_law_822 ?_
  refine lv_seti (y := 1) (by decide) ?_
  refine ty_sld hx hb hX (i := 1) (q_in (by decide) (by decide)) dL_law_823 ?_
  refine lv_seti (y := xs 1) rfl ?_
  refine lv_aload_n hx hb dL_law_824 rfl (lv_at hl 3 rfl) ?_
  refine lv_iload_n hx hb dL_law_825 rfl (lv_at hl 0 rfl) ?_
  refine lv_iconst (v := 2) hx hb dL_law_826 (by decide) ?_
  refine lv_iadd hx hb dL_law_827 ?_
  refine lv_seti (y := 2) (by decide) ?_
  refine ty_sld hx hb hX (i := 2) (q_in (by decide) (by decide)) dL_law_828 ?_
  refine lv_seti (y := xs 2) rfl ?_
  refine lv_pc (pc2 := 829) rfl ?_
  obtain ⟨_, at_5⟩ := rcv40 hG2 (tM2_40 kt2 (by decide))
  refine lw_calli (W.runV (As := [.int (xs 1), .int (xs 2)]) (rest := [.int r_2]) ⟨hx, hb, hml, hown, hts⟩ (c_X10_weigh l D (tM2 t) cI cL cC (h0 + 92) (xs 1) (xs 2) (tM2_40 kt2 (by decide))) (cwV 2 hts gu_L_X10_weigh rfl rfl rfl (by decide +kernel) ⟨Nat.le_of_ble_eq_true rfl, Nat.le_of_ble_eq_true rfl⟩) (tP_V hG2 hE at_5 rfl) rfl rfl hl.1 rfl (lv_room (Nat.le_of_ble_eq_true rfl)) dL_law_829 ⟨hcl, hsl⟩) hS rfl (fun q h => tM2_0 (ht0 q h)) (fun r_6 H locs hp_7 _ hS o_8 => ?_)
  replace hX := hX.kept (o_8 b (by rw [tM2_0 (ht0 b hbl)]; rfl))
  refine lv_icmp_eq (tgt := 1417) hx hb dL_law_832 (by decide) (fun _ => ?_) (fun q => absurd ((by rcases hp_3 with ⟨h1, g1⟩ | ⟨h1, g1⟩ <;> rcases hp_7 with ⟨h2, g2⟩ | ⟨h2, g2⟩ <;> first | exact h1.trans h2.symm | (exfalso; omega))) q)
  exact kx H locs hS hX

set_option maxRecDepth 20000 in
theorem gu_L_X9_rain : GoodIn wsL_law (wsV RL 108 RX9 yX9_rain uX9_rain) := goodIn_r _ [827, 828, 829, 2, 830, 820, 821, 2, 168, 169, 51, 831, 832, 833, 50, 822, 170, 834, 835, 836, 837, 116, 838, 1064, 1065, 1066, 1067, 1068, 1069, 1070, 1071, 1072, 1073, 1074, 1075, 1076, 1077, 1078, 1079, 1080, 1081, 1147, 1148, 1149] (by decide +kernel) (by decide +kernel)
set_option maxRecDepth 20000 in
theorem gu_L_X10_rain : GoodIn wsL_law (wsV RL 111 RX10 yX10_rain uX10_rain) := goodIn_r _ [839, 840, 841, 5, 842, 575, 182, 183, 5, 843, 318, 154, 184, 1082, 1083, 1084, 1085, 1086, 1087, 1088, 1089, 1090, 1091, 1092, 1093, 1094, 1095, 1096, 1097, 1098, 1099, 1100, 1101, 1102, 1103, 1104, 1105, 1106, 1107, 1108, 1109, 1110, 1111, 1112, 1113, 1114, 1115, 1116, 1117] (by decide +kernel) (by decide +kernel)
set_option maxHeartbeats 4000000 in
set_option maxRecDepth 100000 in
theorem lc_21 {p : Program} {l : Launch} {e : Env} {s : State} {m : MethodId} {below : List Frame} {meth : Method} {c : Code} {cells slots : Nat} {Q : State → Prop} {b h0 : Nat} {xs : Nat → Int32} {D : va_G} {cI cL cC : ClassId} {t : Nat → Nat} {H : Heap} {locs : List Loc} {ls : Array Slot} (hx : p.tables.exec = Jvm.exec) (hb : c.code = cL_law) (hml : c.maxLocals = 4) (hown : s.vm.findClass RL = some m.cls) (hts : ∀ w ∈ wsL_law, w.before #[Value.ref b] s = true) (hE : EV D cI cL cC s) (hbl : b < h0) (hG : tG D (fF cI cL cC 0 0) t H) (kt : t h0 = 1) (kt2 : t (h0 + 92) = 40) (ht0 : ∀ q : Nat, q < h0 → t q = 0) (uq_gC : ∀ b c : Nat, t b = 2 → t c = 2 → b = c) (uq_gR : ∀ b c : Nat, t b = 40 → t c = 40 → b = c) (hS : cF h0 s.heap H locs) (hX : va_X b 8 xs s H) (hl : lv_has ls 4 [(3, .int 0), (2, .ref (h0 + 92)), (1, .ref h0), (0, .ref b)]) (hcl : cells ≤ 600000) (hsl : slots ≤ 7302250) (kx : ∀ (H1 : Heap) (locs1 : List Loc), cF h0 s.heap H1 locs1 → va_X b 8 xs s H1 → W p l e room_1 s m #[Value.ref b] below meth c H1 locs1 cells slots Q (F0 m 1417 ls [])) : W p l e room_1 s m #[Value.ref b] below meth c H locs cells slots Q (F0 m 837 ls []) := by
  refine lv_aload_n hx hb dL_law_837 rfl (lv_at hl 2 rfl) ?_
  refine lv_aload_n hx hb dL_law_838 rfl (lv_at hl 3 rfl) ?_
  refine lv_iload_n hx hb dL_law_839 rfl (lv_at hl 0 rfl) ?_
  refine lv_iconst (v := 1) hx hb dL_law_840 (by decide) ?_
  refine lv_iadd hx hb dL_law_841 ?_
  refine lv_seti (y := 1) (by decide) ?_
  refine ty_sld hx hb hX (i := 1) (q_in (by decide) (by decide)) dL_law_842 ?_
  refine lv_seti (y := xs 1) rfl ?_
  refine lv_aload_n hx hb dL_law_843 rfl (lv_at hl 3 rfl) ?_
  refine lv_pc (pc2 := 844) rfl ?_
  refine lv_iload_n hx hb dL_law_844 rfl (lv_at hl 0 rfl) ?_
  refine lv_iconst (v := 2) hx hb dL_law_845 (by decide) ?_
  refine lv_iadd hx hb dL_law_846 ?_
  refine lv_seti (y := 2) (by decide) ?_
  refine ty_sld hx hb hX (i := 2) (q_in (by decide) (by decide)) dL_law_847 ?_
  refine lv_seti (y := xs 2) rfl ?_
  refine lv_aload_n hx hb dL_law_848 rfl (lv_at hl 3 rfl) ?_
  refine lv_iload_n hx hb dL_law_849 rfl (lv_at hl 0 rfl) ?_
  refine lv_iconst (v := 3) hx hb dL_law_850 (by decide) ?_
  refine lv_iadd hx hb dL_law_851 ?_
  refine lv_seti (y := 3) (by decide) ?_
  refine lv_pc (pc2 := 852) rfl ?_
  refine ty_sld hx hb hX (i := 3) (q_in (by decide) (by decide)) dL_law_852 ?_
  refine lv_seti (y := xs 3) rfl ?_
  obtain ⟨_, at_1⟩ := rcv1 hG kt
  refine lw_calli (W.runV (As := [.int (xs 1), .int (xs 2), .int (xs 3)]) (rest := []) ⟨hx, hb, hml, hown, hts⟩ (c_X9_rain l D t cI cL cC h0 (xs 1) (xs 2) (xs 3) kt) (cwV 3 hts gu_L_X9_rain rfl rfl rfl (by decide +kernel) ⟨Nat.le_of_ble_eq_true rfl, Nat.le_of_ble_eq_true rfl⟩) (tP_V hG hE at_1 rfl) rfl rfl hl.1 rfl (lv_room (Nat.le_of_ble_eq_true rfl)) dL_law_853 ⟨hcl, hsl⟩) hS rfl ht0 (fun r_2 H locs hp_3 _ hS o_4 => ?_)
  replace hX := hX.kept (o_4 b (by rw [ht0 b hbl]; rfl))
  have hG2 := tG.keptW (tG.ref hG) o_4 (fun q h => tM2_w h)
  refine lv_aload_n hx hb dL_law_856 rfl (lv_at hl 1 rfl) ?_
  refine lv_aload_n hx hb dL_law_857 rfl (lv_at hl 3 rfl) ?_
  refine lv_iload_n hx hb dL_law_858 rfl (lv_at hl 0 rfl) ?_
  refine lv_iconst (v := 1) hx hb dL_law_859 (by decide) ?_
  refine lv_iadd hx hb dL_law_860 ?_
  refine lv_seti (y := 1) (by decide) ?_
  refine ty_sld hx hb hX (i := 1) (q_in (by decide) (by decide)) dL_law_861 ?_
  refine lv_seti (y := xs 1) rfl ?_
  refine lv_pc (pc2 := 862) rfl ?_
  refine lv_aload_n hx hb dL_law_862 rfl (lv_at hl 3 rfl) ?_
  refine lv_iload_n hx hb dL_law_863 rfl (lv_at hl 0 rfl) ?_
  refine lv_iconst (v := 2) hx hb dL_law_864 (by decide) ?_
  refine lv_iadd hx hb dL_law_865 ?_
  refine lv_seti (y := 2) (by decide) ?_
  refine ty_sld hx hb hX (i := 2) (q_in (by decide) (by decide)) dL_law_866 ?_
  refine lv_seti (y := xs 2) rfl ?_
  refine lv_aload_n hx hb dL_law_867 rfl (lv_at hl 3 rfl) ?_
  refine lv_iload_n hx hb dL_law_868 rfl (lv_at hl 0 rfl) ?_
  refine lv_iconst (v := 3) hx hb dL_law_869 (by decide) ?_
  refine lv_pc (pc2 := 870) rfl ?_
  refine lv_iadd hx hb dL_law_870 ?_
  refine lv_seti (y := 3) (by decide) ?_
  refine ty_sld hx hb hX (i := 3) (q_in (by decide) (by decide)) dL_law_871 ?_
  refine lv_seti (y := xs 3) rfl ?_
  obtain ⟨_, at_5⟩ := rcv40 hG2 (tM2_40 kt2 (by decide))
  refine lw_calli (W.runV (As := [.int (xs 1), .int (xs 2), .int (xs 3)]) (rest := [.int r_2]) ⟨hx, hb, hml, hown, hts⟩ (c_X10_rain l D (tM2 t) cI cL cC (h0 + 92) (xs 1) (xs 2) (xs 3) (tM2_40 kt2 (by decide))) (cwV 3 hts gu_L_X10_rain rfl rfl rfl (by decide +kernel) ⟨Nat.le_of_ble_eq_true rfl, Nat.le_of_ble_eq_true rfl⟩) (tP_V hG2 hE at_5 rfl) rfl rfl hl.1 rfl (lv_room (Nat.le_of_ble_eq_true rfl)) dL_law_872 ⟨hcl, hsl⟩) hS rfl (fun q h => tM2_0 (ht0 q h)) (fun r_6 H locs hp_7 _ hS o_8 => ?_)
  replace hX := hX.kept (o_8 b (by rw [tM2_0 (ht0 b hbl)]; rfl))
  refine lv_icmp_eq (tgt := 1417) hx hb dL_law_875 (by decide) (fun _ => ?_) (fun q => absurd ((by rcases hp_3 with ⟨h1, g1⟩ | ⟨h1, g1⟩ <;> rcases hp_7 with ⟨h2, g2⟩ | ⟨h2, g2⟩ <;> first | exact h1.trans h2.symm | (exfalso; omega))) q)
  exact kx H locs hS hX

set_option maxRecDepth 20000 in
theorem gu_L_X9_chance : GoodIn wsL_law (wsV RL 112 RX9 yX9_chance uX9_chance) := goodIn_r _ [844, 845, 846, 2, 847, 608, 609, 2, 168, 169, 623, 624, 625, 610, 170, 626, 23, 1064, 1065, 1066, 1067, 1068, 1069, 1070, 1071, 1072, 1073, 1074, 1075, 1076, 1077, 1078, 1079, 1080, 1081] (by decide +kernel) (by decide +kernel)
set_option maxRecDepth 20000 in
theorem gu_L_X10_chance : GoodIn wsL_law (wsV RL 116 RX10 yX10_chance uX10_chance) := goodIn_r _ [867, 868, 869, 5, 870, 575, 182, 183, 5, 871, 872, 873, 874, 184, 875, 642, 643, 644, 645, 370, 1082, 1083, 1084, 1085, 1086, 1087, 1088, 1089, 1090, 1091, 1092, 1093, 1094, 1095, 1096, 1097, 1098, 1099, 1100, 1101, 1102, 1103, 1104, 1105, 1106, 1107, 1108, 1109, 1110, 1111, 1112, 1113, 1114, 1115, 1116, 1117] (by decide +kernel) (by decide +kernel)
set_option maxHeartbeats 4000000 in
set_option maxRecDepth 100000 in
theorem lc_22 {p : Program} {l : Launch} {e : Env} {s : State} {m : MethodId} {below : List Frame} {meth : Method} {c : Code} {cells slots : Nat} {Q : State → Prop} {b h0 : Nat} {xs : Nat → Int32} {D : va_G} {cI cL cC : ClassId} {t : Nat → Nat} {H : Heap} {locs : List Loc} {ls : Array Slot} (hx : p.tables.exec = Jvm.exec) (hb : c.code = cL_law) (hml : c.maxLocals = 4) (hown : s.vm.findClass RL = some m.cls) (hts : ∀ w ∈ wsL_law, w.before #[Value.ref b] s = true) (hE : EV D cI cL cC s) (hbl : b < h0) (hG : tG D (fF cI cL cC 0 0) t H) (kt : t h0 = 1) (kt2 : t (h0 + 92) = 40) (ht0 : ∀ q : Nat, q < h0 → t q = 0) (uq_gC : ∀ b c : Nat, t b = 2 → t c = 2 → b = c) (uq_gR : ∀ b c : Nat, t b = 40 → t c = 40 → b = c) (hS : cF h0 s.heap H locs) (hX : va_X b 8 xs s H) (hl : lv_has ls 4 [(3, .int 0), (2, .ref (h0 + 92)), (1, .ref h0), (0, .ref b)]) (hcl : cells ≤ 600000) (hsl : slots ≤ 7302250) (kx : ∀ (H1 : Heap) (locs1 : List Loc), cF h0 s.heap H1 locs1 → va_X b 8 xs s H1 → W p l e room_1 s m #[Value.ref b] below meth c H1 locs1 cells slots Q (F0 m 1417 ls [])) : W p l e room_1 s m #[Value.ref b] below meth c H locs cells slots Q (F0 m 880 ls []) := by
  refine lv_aload_n hx hb dL_law_880 rfl (lv_at hl 2 rfl) ?_
  refine lv_aload_n hx hb dL_law_881 rfl (lv_at hl 3 rfl) ?_
  refine lv_iload_n hx hb dL_law_882 rfl (lv_at hl 0 rfl) ?_
  refine lv_iconst (v := 1) hx hb dL_law_883 (by decide) ?_
  refine lv_iadd hx hb dL_law_884 ?_
  refine lv_seti (y := 1) (by decide) ?_
  refine ty_sld hx hb hX (i := 1) (q_in (by decide) (by decide)) dL_law_885 ?_
  refine lv_seti (y := xs 1) rfl ?_
  refine lv_aload_n hx hb dL_law_886 rfl (lv_at hl 3 rfl) ?_
  refine lv_pc (pc2 := 887) rfl ?_
  refine lv_iload_n hx hb dL_law_887 rfl (lv_at hl 0 rfl) ?_
  refine lv_iconst (v := 2) hx hb dL_law_888 (by decide) ?_
  refine lv_iadd hx hb dL_law_889 ?_
  refine lv_seti (y := 2) (by decide) ?_
  refine ty_sld hx hb hX (i := 2) (q_in (by decide) (by decide)) dL_law_890 ?_
  refine lv_seti (y := xs 2) rfl ?_
  refine lv_aload_n hx hb dL_law_891 rfl (lv_at hl 3 rfl) ?_
  refine lv_iload_n hx hb dL_law_892 rfl (lv_at hl 0 rfl) ?_
  refine lv_iconst (v := 3) hx hb dL_law_893 (by decide) ?_
  refine lv_iadd hx hb dL_law_894 ?_
  refine lv_seti (y := 3) (by decide) ?_
  refine lv_pc (pc2 := 895) rfl ?_
  refine ty_sld hx hb hX (i := 3) (q_in (by decide) (by decide)) dL_law_895 ?_
  refine lv_seti (y := xs 3) rfl ?_
  refine lv_i2l (v := (xs 3).toInt64) hx hb dL_law_896 rfl ?_
  refine lv_bipush (v := 32) hx hb dL_law_897 (by decide) ?_
  refine lv_lshl hx hb dL_law_899 rfl ?_
  refine lv_topl (fun z_1 e_2 => ?_)
  refine lv_aload_n hx hb dL_law_900 rfl (lv_at hl 3 rfl) ?_
  refine lv_iload_n hx hb dL_law_901 rfl (lv_at hl 0 rfl) ?_
  refine lv_iconst (v := 4) hx hb dL_law_902 (by decide) ?_
  refine lv_iadd hx hb dL_law_903 ?_
  refine lv_seti (y := 4) (by decide) ?_
  refine lv_pc (pc2 := 904) rfl ?_
  refine ty_sld hx hb hX (i := 4) (q_in (by decide) (by decide)) dL_law_904 ?_
  refine lv_seti (y := xs 4) rfl ?_
  refine lv_i2l (v := (xs 4).toInt64) hx hb dL_law_905 rfl ?_
  refine lv_ldc2 hx hb hown (hts (.constantLong RL 13 (4294967295)) (List.mem_of_getElem? (i := 6) rfl)) dL_law_906 ?_
  refine lv_land hx hb dL_law_909 ?_
  refine lv_topl (fun z_3 e_4 => ?_)
  refine lv_lor hx hb dL_law_910 ?_
  refine lv_topl (fun z_5 e_6 => ?_)
  obtain ⟨_, at_7⟩ := rcv1 hG kt
  refine lw_calli (W.runV (As := [.int (xs 1), .int (xs 2), .long z_5]) (rest := []) ⟨hx, hb, hml, hown, hts⟩ (c_X9_chance l D t cI cL cC h0 (xs 1) (xs 2) z_5 kt) (cwV 3 hts gu_L_X9_chance rfl rfl rfl (by decide +kernel) ⟨Nat.le_of_ble_eq_true rfl, Nat.le_of_ble_eq_true rfl⟩) (tP_V hG hE at_7 rfl) rfl rfl hl.1 rfl (lv_room (Nat.le_of_ble_eq_true rfl)) dL_law_911 ⟨hcl, hsl⟩) hS rfl ht0 (fun r_8 H locs hp_9 _ hS o_10 => ?_)
  replace hX := hX.kept (o_10 b (by rw [ht0 b hbl]; rfl))
  have hG2 := tG.keptW (tG.ref hG) o_10 (fun q h => rfl)
  refine lv_aload_n hx hb dL_law_914 rfl (lv_at hl 1 rfl) ?_
  refine lv_aload_n hx hb dL_law_915 rfl (lv_at hl 3 rfl) ?_
  refine lv_pc (pc2 := 916) rfl ?_
  refine lv_iload_n hx hb dL_law_916 rfl (lv_at hl 0 rfl) ?_
  refine lv_iconst (v := 1) hx hb dL_law_917 (by decide) ?_
  refine lv_iadd hx hb dL_law_918 ?_
  refine lv_seti (y := 1) (by decide) ?_
  refine ty_sld hx hb hX (i := 1) (q_in (by decide) (by decide)) dL_law_919 ?_
  refine lv_seti (y := xs 1) rfl ?_
  refine lv_aload_n hx hb dL_law_920 rfl (lv_at hl 3 rfl) ?_
  refine lv_iload_n hx hb dL_law_921 rfl (lv_at hl 0 rfl) ?_
  refine lv_iconst (v := 2) hx hb dL_law_922 (by decide) ?_
  refine lv_iadd hx hb dL_law_923 ?_
  refine lv_seti (y := 2) (by decide) ?_
  refine lv_pc (pc2 := 924) rfl ?_
  refine ty_sld hx hb hX (i := 2) (q_in (by decide) (by decide)) dL_law_924 ?_
  refine lv_seti (y := xs 2) rfl ?_
  refine lv_aload_n hx hb dL_law_925 rfl (lv_at hl 3 rfl) ?_
  refine lv_iload_n hx hb dL_law_926 rfl (lv_at hl 0 rfl) ?_
  refine lv_iconst (v := 3) hx hb dL_law_927 (by decide) ?_
  refine lv_iadd hx hb dL_law_928 ?_
  refine lv_seti (y := 3) (by decide) ?_
  refine ty_sld hx hb hX (i := 3) (q_in (by decide) (by decide)) dL_law_929 ?_
  refine lv_seti (y := xs 3) rfl ?_
  refine lv_i2l (v := (xs 3).toInt64) hx hb dL_law_930 rfl ?_
  refine lv_bipush (v := 32) hx hb dL_law_931 (by decide) ?_
  refine lv_pc (pc2 := 933) rfl ?_
  refine lv_lshl hx hb dL_law_933 rfl ?_
  refine lv_topl (fun z_11 e_12 => ?_)
  refine lv_aload_n hx hb dL_law_934 rfl (lv_at hl 3 rfl) ?_
  refine lv_iload_n hx hb dL_law_935 rfl (lv_at hl 0 rfl) ?_
  refine lv_iconst (v := 4) hx hb dL_law_936 (by decide) ?_
  refine lv_iadd hx hb dL_law_937 ?_
  refine lv_seti (y := 4) (by decide) ?_
  refine ty_sld hx hb hX (i := 4) (q_in (by decide) (by decide)) dL_law_938 ?_
  refine lv_seti (y := xs 4) rfl ?_
  refine lv_i2l (v := (xs 4).toInt64) hx hb dL_law_939 rfl ?_
  refine lv_ldc2 hx hb hown (hts (.constantLong RL 13 (4294967295)) (List.mem_of_getElem? (i := 6) rfl)) dL_law_940 ?_
  refine lv_pc (pc2 := 943) rfl ?_
  refine lv_land hx hb dL_law_943 ?_
  refine lv_topl (fun z_13 e_14 => ?_)
  refine lv_lor hx hb dL_law_944 ?_
  refine lv_topl (fun z_15 e_16 => ?_)
  obtain ⟨_, at_17⟩ := rcv40 hG2 (tM2_40 kt2 (by decide))
  refine lw_calli (W.runV (As := [.int (xs 1), .int (xs 2), .long z_15]) (rest := [.int r_8]) ⟨hx, hb, hml, hown, hts⟩ (c_X10_chance l D (tM2 t) cI cL cC (h0 + 92) (xs 1) (xs 2) z_15 (tM2_40 kt2 (by decide))) (cwV 3 hts gu_L_X10_chance rfl rfl rfl (by decide +kernel) ⟨Nat.le_of_ble_eq_true rfl, Nat.le_of_ble_eq_true rfl⟩) (tP_V hG2 hE at_17 rfl) rfl rfl hl.1 rfl (lv_room (Nat.le_of_ble_eq_true rfl)) dL_law_945 ⟨hcl, hsl⟩) hS rfl (fun q h => tM2_0 (ht0 q h)) (fun r_18 H locs hp_19 _ hS o_20 => ?_)
  replace hX := hX.kept (o_20 b (by rw [tM2_0 (ht0 b hbl)]; rfl))
  refine lv_icmp_eq (tgt := 1417) hx hb dL_law_948 (by decide) (fun _ => ?_) (fun q => absurd ((by rcases hp_9 with ⟨h1, g1⟩ | ⟨h1, g1⟩ <;> rcases hp_19 with ⟨h2, g2⟩ | ⟨h2, g2⟩ <;> first | exact h1.trans h2.symm | (exfalso; omega))) q)
  exact kx H locs hS hX

set_option maxRecDepth 20000 in
theorem gu_L_X9_warn : GoodIn wsL_law (wsV RL 117 RX9 yX9_warn uX9_warn) := goodIn_r _ [884, 885, 886, 2, 887, 608, 609, 2, 168, 169, 623, 624, 625, 610, 170, 626, 23, 1064, 1065, 1066, 1067, 1068, 1069, 1070, 1071, 1072, 1073, 1074, 1075, 1076, 1077, 1078, 1079, 1080, 1081] (by decide +kernel) (by decide +kernel)
set_option maxRecDepth 20000 in
theorem gu_L_X10_warn : GoodIn wsL_law (wsV RL 121 RX10 yX10_warn uX10_warn) := goodIn_r _ [896, 897, 898, 5, 899, 575, 182, 183, 5, 871, 320, 872, 873, 874, 184, 875, 642, 643, 644, 645, 370, 1082, 1083, 1084, 1085, 1086, 1087, 1088, 1089, 1090, 1091, 1092, 1093, 1094, 1095, 1096, 1097, 1098, 1099, 1100, 1101, 1102, 1103, 1104, 1105, 1106, 1107, 1108, 1109, 1110, 1111, 1112, 1113, 1114, 1115, 1116, 1117] (by decide +kernel) (by decide +kernel)
set_option maxHeartbeats 4000000 in
set_option maxRecDepth 100000 in
theorem lc_23 {p : Program} {l : Launch} {e : Env} {s : State} {m : MethodId} {below : List Frame} {meth : Method} {c : Code} {cells slots : Nat} {Q : State → Prop} {b h0 : Nat} {xs : Nat → Int32} {D : va_G} {cI cL cC : ClassId} {t : Nat → Nat} {H : Heap} {locs : List Loc} {ls : Array Slot} (hx : p.tables.exec = Jvm.exec) (hb : c.code = cL_law) (hml : c.maxLocals = 4) (hown : s.vm.findClass RL = some m.cls) (hts : ∀ w ∈ wsL_law, w.before #[Value.ref b] s = true) (hE : EV D cI cL cC s) (hbl : b < h0) (hG : tG D (fF cI cL cC 0 0) t H) (kt : t h0 = 1) (kt2 : t (h0 + 92) = 40) (ht0 : ∀ q : Nat, q < h0 → t q = 0) (uq_gC : ∀ b c : Nat, t b = 2 → t c = 2 → b = c) (uq_gR : ∀ b c : Nat, t b = 40 → t c = 40 → b = c) (hS : cF h0 s.heap H locs) (hX : va_X b 8 xs s H) (hl : lv_has ls 4 [(3, .int 0), (2, .ref (h0 + 92)), (1, .ref h0), (0, .ref b)]) (hcl : cells ≤ 600000) (hsl : slots ≤ 7302250) (kx : ∀ (H1 : Heap) (locs1 : List Loc), cF h0 s.heap H1 locs1 → va_X b 8 xs s H1 → W p l e room_1 s m #[Value.ref b] below meth c H1 locs1 cells slots Q (F0 m 1417 ls [])) : W p l e room_1 s m #[Value.ref b] below meth c H locs cells slots Q (F0 m 953 ls []) := by
  refine lv_aload_n hx hb dL_law_953 rfl (lv_at hl 2 rfl) ?_
  refine lv_aload_n hx hb dL_law_954 rfl (lv_at hl 3 rfl) ?_
  refine lv_iload_n hx hb dL_law_955 rfl (lv_at hl 0 rfl) ?_
  refine lv_iconst (v := 1) hx hb dL_law_956 (by decide) ?_
  refine lv_iadd hx hb dL_law_957 ?_
  refine lv_seti (y := 1) (by decide) ?_
  refine ty_sld hx hb hX (i := 1) (q_in (by decide) (by decide)) dL_law_958 ?_
  refine lv_seti (y := xs 1) rfl ?_
  refine lv_aload_n hx hb dL_law_959 rfl (lv_at hl 3 rfl) ?_
  refine lv_pc (pc2 := 960) rfl ?_
  refine lv_iload_n hx hb dL_law_960 rfl (lv_at hl 0 rfl) ?_
  refine lv_iconst (v := 2) hx hb dL_law_961 (by decide) ?_
  refine lv_iadd hx hb dL_law_962 ?_
  refine lv_seti (y := 2) (by decide) ?_
  refine ty_sld hx hb hX (i := 2) (q_in (by decide) (by decide)) dL_law_963 ?_
  refine lv_seti (y := xs 2) rfl ?_
  refine lv_aload_n hx hb dL_law_964 rfl (lv_at hl 3 rfl) ?_
  refine lv_iload_n hx hb dL_law_965 rfl (lv_at hl 0 rfl) ?_
  refine lv_iconst (v := 3) hx hb dL_law_966 (by decide) ?_
  refine lv_iadd hx hb dL_law_967 ?_
  refine lv_seti (y := 3) (by decide) ?_
  refine lv_pc (pc2 := 968) rfl ?_
  refine ty_sld hx hb hX (i := 3) (q_in (by decide) (by decide)) dL_law_968 ?_
  refine lv_seti (y := xs 3) rfl ?_
  refine lv_i2l (v := (xs 3).toInt64) hx hb dL_law_969 rfl ?_
  refine lv_bipush (v := 32) hx hb dL_law_970 (by decide) ?_
  refine lv_lshl hx hb dL_law_972 rfl ?_
  refine lv_topl (fun z_1 e_2 => ?_)
  refine lv_aload_n hx hb dL_law_973 rfl (lv_at hl 3 rfl) ?_
  refine lv_iload_n hx hb dL_law_974 rfl (lv_at hl 0 rfl) ?_
  refine lv_iconst (v := 4) hx hb dL_law_975 (by decide) ?_
  refine lv_iadd hx hb dL_law_976 ?_
  refine lv_seti (y := 4) (by decide) ?_
  refine lv_pc (pc2 := 977) rfl ?_
  refine ty_sld hx hb hX (i := 4) (q_in (by decide) (by decide)) dL_law_977 ?_
  refine lv_seti (y := xs 4) rfl ?_
  refine lv_i2l (v := (xs 4).toInt64) hx hb dL_law_978 rfl ?_
  refine lv_ldc2 hx hb hown (hts (.constantLong RL 13 (4294967295)) (List.mem_of_getElem? (i := 6) rfl)) dL_law_979 ?_
  refine lv_land hx hb dL_law_982 ?_
  refine lv_topl (fun z_3 e_4 => ?_)
  refine lv_lor hx hb dL_law_983 ?_
  refine lv_topl (fun z_5 e_6 => ?_)
  refine lv_aload_n hx hb dL_law_984 rfl (lv_at hl 3 rfl) ?_
  refine lv_iload_n hx hb dL_law_985 rfl (lv_at hl 0 rfl) ?_
  refine lv_iconst (v := 5) hx hb dL_law_986 (by decide) ?_
  refine lv_pc (pc2 := 987) rfl ?_
  refine lv_iadd hx hb dL_law_987 ?_
  refine lv_seti (y := 5) (by decide) ?_
  refine ty_sld hx hb hX (i := 5) (q_in (by decide) (by decide)) dL_law_988 ?_
  refine lv_seti (y := xs 5) rfl ?_
  obtain ⟨_, at_7⟩ := rcv1 hG kt
  refine lw_calli (W.runV (As := [.int (xs 1), .int (xs 2), .long z_5, .int (xs 5)]) (rest := []) ⟨hx, hb, hml, hown, hts⟩ (c_X9_warn l D t cI cL cC h0 (xs 1) (xs 2) z_5 (xs 5) kt) (cwV 4 hts gu_L_X9_warn rfl rfl rfl (by decide +kernel) ⟨Nat.le_of_ble_eq_true rfl, Nat.le_of_ble_eq_true rfl⟩) (tP_V hG hE at_7 rfl) rfl rfl hl.1 rfl (lv_room (Nat.le_of_ble_eq_true rfl)) dL_law_989 ⟨hcl, hsl⟩) hS rfl ht0 (fun r_8 H locs hp_9 _ hS o_10 => ?_)
  replace hX := hX.kept (o_10 b (by rw [ht0 b hbl]; rfl))
  have hG2 := tG.keptW (tG.ref hG) o_10 (fun q h => rfl)
  refine lv_aload_n hx hb dL_law_992 rfl (lv_at hl 1 rfl) ?_
  refine lv_aload_n hx hb dL_law_993 rfl (lv_at hl 3 rfl) ?_
  refine lv_iload_n hx hb dL_law_994 rfl (lv_at hl 0 rfl) ?_
  refine lv_iconst (v := 1) hx hb dL_law_995 (by decide) ?_
  refine lv_iadd hx hb dL_law_996 ?_
  refine lv_seti (y := 1) (by decide) ?_
  refine lv_pc (pc2 := 997) rfl ?_
  refine ty_sld hx hb hX (i := 1) (q_in (by decide) (by decide)) dL_law_997 ?_
  refine lv_seti (y := xs 1) rfl ?_
  refine lv_aload_n hx hb dL_law_998 rfl (lv_at hl 3 rfl) ?_
  refine lv_iload_n hx hb dL_law_999 rfl (lv_at hl 0 rfl) ?_
  refine lv_iconst (v := 2) hx hb dL_law_1000 (by decide) ?_
  refine lv_iadd hx hb dL_law_1001 ?_
  refine lv_seti (y := 2) (by decide) ?_
  refine ty_sld hx hb hX (i := 2) (q_in (by decide) (by decide)) dL_law_1002 ?_
  refine lv_seti (y := xs 2) rfl ?_
  refine lv_aload_n hx hb dL_law_1003 rfl (lv_at hl 3 rfl) ?_
  refine lv_iload_n hx hb dL_law_1004 rfl (lv_at hl 0 rfl) ?_
  refine lv_pc (pc2 := 1005) rfl ?_
  refine lv_iconst (v := 3) hx hb dL_law_1005 (by decide) ?_
  refine lv_iadd hx hb dL_law_1006 ?_
  refine lv_seti (y := 3) (by decide) ?_
  refine ty_sld hx hb hX (i := 3) (q_in (by decide) (by decide)) dL_law_1007 ?_
  refine lv_seti (y := xs 3) rfl ?_
  refine lv_i2l (v := (xs 3).toInt64) hx hb dL_law_1008 rfl ?_
  refine lv_bipush (v := 32) hx hb dL_law_1009 (by decide) ?_
  refine lv_lshl hx hb dL_law_1011 rfl ?_
  refine lv_topl (fun z_11 e_12 => ?_)
  refine lv_aload_n hx hb dL_law_1012 rfl (lv_at hl 3 rfl) ?_
  refine lv_iload_n hx hb dL_law_1013 rfl (lv_at hl 0 rfl) ?_
  refine lv_pc (pc2 := 1014) rfl ?_
  refine lv_iconst (v := 4) hx hb dL_law_1014 (by decide) ?_
  refine lv_iadd hx hb dL_law_1015 ?_
  refine lv_seti (y := 4) (by decide) ?_
  refine ty_sld hx hb hX (i := 4) (q_in (by decide) (by decide)) dL_law_1016 ?_
  refine lv_seti (y := xs 4) rfl ?_
  refine lv_i2l (v := (xs 4).toInt64) hx hb dL_law_1017 rfl ?_
  refine lv_ldc2 hx hb hown (hts (.constantLong RL 13 (4294967295)) (List.mem_of_getElem? (i := 6) rfl)) dL_law_1018 ?_
  refine lv_land hx hb dL_law_1021 ?_
  refine lv_topl (fun z_13 e_14 => ?_)
  refine lv_lor hx hb dL_law_1022 ?_
  refine lv_topl (fun z_15 e_16 => ?_)
  refine lv_aload_n hx hb dL_law_1023 rfl (lv_at hl 3 rfl) ?_
  refine lv_pc (pc2 := 1024) rfl ?_
  refine lv_iload_n hx hb dL_law_1024 rfl (lv_at hl 0 rfl) ?_
  refine lv_iconst (v := 5) hx hb dL_law_1025 (by decide) ?_
  refine lv_iadd hx hb dL_law_1026 ?_
  refine lv_seti (y := 5) (by decide) ?_
  refine ty_sld hx hb hX (i := 5) (q_in (by decide) (by decide)) dL_law_1027 ?_
  refine lv_seti (y := xs 5) rfl ?_
  obtain ⟨_, at_17⟩ := rcv40 hG2 (tM2_40 kt2 (by decide))
  refine lw_calli (W.runV (As := [.int (xs 1), .int (xs 2), .long z_15, .int (xs 5)]) (rest := [.int r_8]) ⟨hx, hb, hml, hown, hts⟩ (c_X10_warn l D (tM2 t) cI cL cC (h0 + 92) (xs 1) (xs 2) z_15 (xs 5) (tM2_40 kt2 (by decide))) (cwV 4 hts gu_L_X10_warn rfl rfl rfl (by decide +kernel) ⟨Nat.le_of_ble_eq_true rfl, Nat.le_of_ble_eq_true rfl⟩) (tP_V hG2 hE at_17 rfl) rfl rfl hl.1 rfl (lv_room (Nat.le_of_ble_eq_true rfl)) dL_law_1028 ⟨hcl, hsl⟩) hS rfl (fun q h => tM2_0 (ht0 q h)) (fun r_18 H locs hp_19 _ hS o_20 => ?_)
  replace hX := hX.kept (o_20 b (by rw [tM2_0 (ht0 b hbl)]; rfl))
  refine lv_icmp_eq (tgt := 1417) hx hb dL_law_1031 (by decide) (fun _ => ?_) (fun q => absurd ((by rcases hp_9 with ⟨h1, g1⟩ | ⟨h1, g1⟩ <;> rcases hp_19 with ⟨h2, g2⟩ | ⟨h2, g2⟩ <;> first | exact h1.trans h2.symm | (exfalso; omega))) q)
  exact kx H locs hS hX
