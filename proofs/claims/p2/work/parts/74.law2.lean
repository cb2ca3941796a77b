theorem dL_law_590 : decode cL_law 590 = .ok (.aload_n 1, 1) := by decide +kernel
theorem dL_law_591 : decode cL_law 591 = .ok (.aload_n 0, 1) := by decide +kernel
theorem dL_law_592 : decode cL_law 592 = .ok (.iload_n 3, 1) := by decide +kernel
theorem dL_law_593 : decode cL_law 593 = .ok (.iconst 1, 1) := by decide +kernel
theorem dL_law_594 : decode cL_law 594 = .ok (.iadd, 1) := by decide +kernel
theorem dL_law_595 : decode cL_law 595 = .ok (.iaload, 1) := by decide +kernel
theorem dL_law_596 : decode cL_law 596 = .ok (.aload_n 0, 1) := by decide +kernel
theorem dL_law_597 : decode cL_law 597 = .ok (.iload_n 3, 1) := by decide +kernel
theorem dL_law_598 : decode cL_law 598 = .ok (.iconst 2, 1) := by decide +kernel
theorem dL_law_599 : decode cL_law 599 = .ok (.iadd, 1) := by decide +kernel
theorem dL_law_600 : decode cL_law 600 = .ok (.iaload, 1) := by decide +kernel
theorem dL_law_601 : decode cL_law 601 = .ok (.aload_n 0, 1) := by decide +kernel
theorem dL_law_602 : decode cL_law 602 = .ok (.iload_n 3, 1) := by decide +kernel
theorem dL_law_603 : decode cL_law 603 = .ok (.iconst 3, 1) := by decide +kernel
theorem dL_law_604 : decode cL_law 604 = .ok (.iadd, 1) := by decide +kernel
theorem dL_law_605 : decode cL_law 605 = .ok (.iaload, 1) := by decide +kernel
theorem dL_law_606 : decode cL_law 606 = .ok (.invokevirtual 79, 3) := by decide +kernel
theorem dL_law_609 : decode cL_law 609 = .ok (.pop, 1) := by decide +kernel
theorem dL_law_610 : decode cL_law 610 = .ok (.aload_n 2, 1) := by decide +kernel
theorem dL_law_611 : decode cL_law 611 = .ok (.aload_n 0, 1) := by decide +kernel
theorem dL_law_612 : decode cL_law 612 = .ok (.iload_n 3, 1) := by decide +kernel
theorem dL_law_613 : decode cL_law 613 = .ok (.iconst 1, 1) := by decide +kernel
theorem dL_law_614 : decode cL_law 614 = .ok (.iadd, 1) := by decide +kernel
theorem dL_law_615 : decode cL_law 615 = .ok (.iaload, 1) := by decide +kernel
theorem dL_law_616 : decode cL_law 616 = .ok (.aload_n 0, 1) := by decide +kernel
theorem dL_law_617 : decode cL_law 617 = .ok (.iload_n 3, 1) := by decide +kernel
theorem dL_law_618 : decode cL_law 618 = .ok (.iconst 2, 1) := by decide +kernel
theorem dL_law_619 : decode cL_law 619 = .ok (.iadd, 1) := by decide +kernel
theorem dL_law_620 : decode cL_law 620 = .ok (.iaload, 1) := by decide +kernel
theorem dL_law_621 : decode cL_law 621 = .ok (.aload_n 0, 1) := by decide +kernel
theorem dL_law_622 : decode cL_law 622 = .ok (.iload_n 3, 1) := by decide +kernel
theorem dL_law_623 : decode cL_law 623 = .ok (.iconst 3, 1) := by decide +kernel
theorem dL_law_624 : decode cL_law 624 = .ok (.iadd, 1) := by decide +kernel
theorem dL_law_625 : decode cL_law 625 = .ok (.iaload, 1) := by decide +kernel
theorem dL_law_626 : decode cL_law 626 = .ok (.invokevirtual 82, 3) := by decide +kernel
theorem dL_law_629 : decode cL_law 629 = .ok (.pop, 1) := by decide +kernel
theorem dL_law_630 : decode cL_law 630 = .ok (.goto 779, 3) := by decide +kernel
theorem dL_law_633 : decode cL_law 633 = .ok (.aload_n 1, 1) := by decide +kernel
theorem dL_law_634 : decode cL_law 634 = .ok (.aload_n 0, 1) := by decide +kernel
theorem dL_law_635 : decode cL_law 635 = .ok (.iload_n 3, 1) := by decide +kernel
theorem dL_law_636 : decode cL_law 636 = .ok (.iconst 1, 1) := by decide +kernel
theorem dL_law_637 : decode cL_law 637 = .ok (.iadd, 1) := by decide +kernel
theorem dL_law_638 : decode cL_law 638 = .ok (.iaload, 1) := by decide +kernel
theorem dL_law_639 : decode cL_law 639 = .ok (.invokevirtual 83, 3) := by decide +kernel
theorem dL_law_642 : decode cL_law 642 = .ok (.pop, 1) := by decide +kernel
theorem dL_law_643 : decode cL_law 643 = .ok (.aload_n 2, 1) := by decide +kernel
theorem dL_law_644 : decode cL_law 644 = .ok (.aload_n 0, 1) := by decide +kernel
theorem dL_law_645 : decode cL_law 645 = .ok (.iload_n 3, 1) := by decide +kernel
theorem dL_law_646 : decode cL_law 646 = .ok (.iconst 1, 1) := by decide +kernel
theorem dL_law_647 : decode cL_law 647 = .ok (.iadd, 1) := by decide +kernel
theorem dL_law_648 : decode cL_law 648 = .ok (.iaload, 1) := by decide +kernel
theorem dL_law_649 : decode cL_law 649 = .ok (.invokevirtual 86, 3) := by decide +kernel
theorem dL_law_652 : decode cL_law 652 = .ok (.pop, 1) := by decide +kernel
theorem dL_law_653 : decode cL_law 653 = .ok (.goto 756, 3) := by decide +kernel
theorem dL_law_656 : decode cL_law 656 = .ok (.aload_n 1, 1) := by decide +kernel
theorem dL_law_657 : decode cL_law 657 = .ok (.aload_n 0, 1) := by decide +kernel
theorem dL_law_658 : decode cL_law 658 = .ok (.iload_n 3, 1) := by decide +kernel
theorem dL_law_659 : decode cL_law 659 = .ok (.iconst 1, 1) := by decide +kernel
theorem dL_law_660 : decode cL_law 660 = .ok (.iadd, 1) := by decide +kernel
theorem dL_law_661 : decode cL_law 661 = .ok (.iaload, 1) := by decide +kernel
theorem dL_law_662 : decode cL_law 662 = .ok (.aload_n 0, 1) := by decide +kernel
theorem dL_law_663 : decode cL_law 663 = .ok (.iload_n 3, 1) := by decide +kernel
theorem dL_law_664 : decode cL_law 664 = .ok (.iconst 2, 1) := by decide +kernel
theorem dL_law_665 : decode cL_law 665 = .ok (.iadd, 1) := by decide +kernel
theorem dL_law_666 : decode cL_law 666 = .ok (.iaload, 1) := by decide +kernel
theorem dL_law_667 : decode cL_law 667 = .ok (.aload_n 0, 1) := by decide +kernel
theorem dL_law_668 : decode cL_law 668 = .ok (.iload_n 3, 1) := by decide +kernel
theorem dL_law_669 : decode cL_law 669 = .ok (.iconst 3, 1) := by decide +kernel
theorem dL_law_670 : decode cL_law 670 = .ok (.iadd, 1) := by decide +kernel
theorem dL_law_671 : decode cL_law 671 = .ok (.iaload, 1) := by decide +kernel
theorem dL_law_672 : decode cL_law 672 = .ok (.aload_n 0, 1) := by decide +kernel
theorem dL_law_673 : decode cL_law 673 = .ok (.iload_n 3, 1) := by decide +kernel
theorem dL_law_674 : decode cL_law 674 = .ok (.iconst 4, 1) := by decide +kernel
theorem dL_law_675 : decode cL_law 675 = .ok (.iadd, 1) := by decide +kernel
theorem dL_law_676 : decode cL_law 676 = .ok (.iaload, 1) := by decide +kernel
theorem dL_law_677 : decode cL_law 677 = .ok (.aload_n 0, 1) := by decide +kernel
theorem dL_law_678 : decode cL_law 678 = .ok (.iload_n 3, 1) := by decide +kernel
theorem dL_law_679 : decode cL_law 679 = .ok (.iconst 5, 1) := by decide +kernel
theorem dL_law_680 : decode cL_law 680 = .ok (.iadd, 1) := by decide +kernel
theorem dL_law_681 : decode cL_law 681 = .ok (.iaload, 1) := by decide +kernel
theorem dL_law_682 : decode cL_law 682 = .ok (.aload_n 0, 1) := by decide +kernel
theorem dL_law_683 : decode cL_law 683 = .ok (.iload_n 3, 1) := by decide +kernel
theorem dL_law_684 : decode cL_law 684 = .ok (.bipush 6, 2) := by decide +kernel
theorem dL_law_686 : decode cL_law 686 = .ok (.iadd, 1) := by decide +kernel
theorem dL_law_687 : decode cL_law 687 = .ok (.iaload, 1) := by decide +kernel
theorem dL_law_688 : decode cL_law 688 = .ok (.invokevirtual 87, 3) := by decide +kernel
theorem dL_law_691 : decode cL_law 691 = .ok (.pop, 1) := by decide +kernel
theorem dL_law_692 : decode cL_law 692 = .ok (.aload_n 2, 1) := by decide +kernel
theorem dL_law_693 : decode cL_law 693 = .ok (.aload_n 0, 1) := by decide +kernel
theorem dL_law_694 : decode cL_law 694 = .ok (.iload_n 3, 1) := by decide +kernel
theorem dL_law_695 : decode cL_law 695 = .ok (.iconst 1, 1) := by decide +kernel
theorem dL_law_696 : decode cL_law 696 = .ok (.iadd, 1) := by decide +kernel
theorem dL_law_697 : decode cL_law 697 = .ok (.iaload, 1) := by decide +kernel
theorem dL_law_698 : decode cL_law 698 = .ok (.aload_n 0, 1) := by decide +kernel
theorem dL_law_699 : decode cL_law 699 = .ok (.iload_n 3, 1) := by decide +kernel
theorem dL_law_700 : decode cL_law 700 = .ok (.iconst 2, 1) := by decide +kernel
theorem dL_law_701 : decode cL_law 701 = .ok (.iadd, 1) := by decide +kernel
theorem dL_law_702 : decode cL_law 702 = .ok (.iaload, 1) := by decide +kernel
theorem dL_law_703 : decode cL_law 703 = .ok (.aload_n 0, 1) := by decide +kernel
theorem dL_law_704 : decode cL_law 704 = .ok (.iload_n 3, 1) := by decide +kernel
theorem dL_law_705 : decode cL_law 705 = .ok (.iconst 3, 1) := by decide +kernel
theorem dL_law_706 : decode cL_law 706 = .ok (.iadd, 1) := by decide +kernel
theorem dL_law_707 : decode cL_law 707 = .ok (.iaload, 1) := by decide +kernel
theorem dL_law_708 : decode cL_law 708 = .ok (.aload_n 0, 1) := by decide +kernel
theorem dL_law_709 : decode cL_law 709 = .ok (.iload_n 3, 1) := by decide +kernel
theorem dL_law_710 : decode cL_law 710 = .ok (.iconst 4, 1) := by decide +kernel
theorem dL_law_711 : decode cL_law 711 = .ok (.iadd, 1) := by decide +kernel
theorem dL_law_712 : decode cL_law 712 = .ok (.iaload, 1) := by decide +kernel
theorem dL_law_713 : decode cL_law 713 = .ok (.aload_n 0, 1) := by decide +kernel
theorem dL_law_714 : decode cL_law 714 = .ok (.iload_n 3, 1) := by decide +kernel
theorem dL_law_715 : decode cL_law 715 = .ok (.iconst 5, 1) := by decide +kernel
theorem dL_law_716 : decode cL_law 716 = .ok (.iadd, 1) := by decide +kernel
theorem dL_law_717 : decode cL_law 717 = .ok (.iaload, 1) := by decide +kernel
theorem dL_law_718 : decode cL_law 718 = .ok (.aload_n 0, 1) := by decide +kernel
theorem dL_law_719 : decode cL_law 719 = .ok (.iload_n 3, 1) := by decide +kernel
theorem dL_law_720 : decode cL_law 720 = .ok (.bipush 6, 2) := by decide +kernel
theorem dL_law_722 : decode cL_law 722 = .ok (.iadd, 1) := by decide +kernel
theorem dL_law_723 : decode cL_law 723 = .ok (.iaload, 1) := by decide +kernel
theorem dL_law_724 : decode cL_law 724 = .ok (.invokevirtual 91, 3) := by decide +kernel
theorem dL_law_727 : decode cL_law 727 = .ok (.pop, 1) := by decide +kernel
theorem dL_law_728 : decode cL_law 728 = .ok (.goto 681, 3) := by decide +kernel
theorem dL_law_731 : decode cL_law 731 = .ok (.aload_n 1, 1) := by decide +kernel
theorem dL_law_732 : decode cL_law 732 = .ok (.invokevirtual 92, 3) := by decide +kernel
theorem dL_law_735 : decode cL_law 735 = .ok (.pop, 1) := by decide +kernel
theorem dL_law_736 : decode cL_law 736 = .ok (.aload_n 2, 1) := by decide +kernel
theorem dL_law_737 : decode cL_law 737 = .ok (.invokevirtual 95, 3) := by decide +kernel
theorem dL_law_740 : decode cL_law 740 = .ok (.pop, 1) := by decide +kernel
theorem dL_law_741 : decode cL_law 741 = .ok (.goto 668, 3) := by decide +kernel
theorem dL_law_744 : decode cL_law 744 = .ok (.aload_n 1, 1) := by decide +kernel
theorem dL_law_745 : decode cL_law 745 = .ok (.aload_n 0, 1) := by decide +kernel
theorem dL_law_746 : decode cL_law 746 = .ok (.iload_n 3, 1) := by decide +kernel
theorem dL_law_747 : decode cL_law 747 = .ok (.iconst 1, 1) := by decide +kernel
theorem dL_law_748 : decode cL_law 748 = .ok (.iadd, 1) := by decide +kernel
theorem dL_law_749 : decode cL_law 749 = .ok (.iaload, 1) := by decide +kernel
theorem dL_law_750 : decode cL_law 750 = .ok (.aload_n 0, 1) := by decide +kernel
theorem dL_law_751 : decode cL_law 751 = .ok (.iload_n 3, 1) := by decide +kernel
theorem dL_law_752 : decode cL_law 752 = .ok (.iconst 2, 1) := by decide +kernel
theorem dL_law_753 : decode cL_law 753 = .ok (.iadd, 1) := by decide +kernel
theorem dL_law_754 : decode cL_law 754 = .ok (.iaload, 1) := by decide +kernel
theorem dL_law_755 : decode cL_law 755 = .ok (.invokevirtual 96, 3) := by decide +kernel
theorem dL_law_758 : decode cL_law 758 = .ok (.pop, 1) := by decide +kernel
theorem dL_law_759 : decode cL_law 759 = .ok (.aload_n 2, 1) := by decide +kernel
theorem dL_law_760 : decode cL_law 760 = .ok (.aload_n 0, 1) := by decide +kernel
theorem dL_law_761 : decode cL_law 761 = .ok (.iload_n 3, 1) := by decide +kernel
theorem dL_law_762 : decode cL_law 762 = .ok (.iconst 1, 1) := by decide +kernel
theorem dL_law_763 : decode cL_law 763 = .ok (.iadd, 1) := by decide +kernel
theorem dL_law_764 : decode cL_law 764 = .ok (.iaload, 1) := by decide +kernel
theorem dL_law_765 : decode cL_law 765 = .ok (.aload_n 0, 1) := by decide +kernel
theorem dL_law_766 : decode cL_law 766 = .ok (.iload_n 3, 1) := by decide +kernel
theorem dL_law_767 : decode cL_law 767 = .ok (.iconst 2, 1) := by decide +kernel
theorem dL_law_768 : decode cL_law 768 = .ok (.iadd, 1) := by decide +kernel
theorem dL_law_769 : decode cL_law 769 = .ok (.iaload, 1) := by decide +kernel
theorem dL_law_770 : decode cL_law 770 = .ok (.invokevirtual 99, 3) := by decide +kernel
theorem dL_law_773 : decode cL_law 773 = .ok (.pop, 1) := by decide +kernel
theorem dL_law_774 : decode cL_law 774 = .ok (.goto 635, 3) := by decide +kernel
theorem dL_law_777 : decode cL_law 777 = .ok (.aload_n 1, 1) := by decide +kernel
theorem dL_law_778 : decode cL_law 778 = .ok (.aload_n 0, 1) := by decide +kernel
theorem dL_law_779 : decode cL_law 779 = .ok (.iload_n 3, 1) := by decide +kernel
theorem dL_law_780 : decode cL_law 780 = .ok (.iconst 1, 1) := by decide +kernel
theorem dL_law_781 : decode cL_law 781 = .ok (.iadd, 1) := by decide +kernel
theorem dL_law_782 : decode cL_law 782 = .ok (.iaload, 1) := by decide +kernel
theorem dL_law_783 : decode cL_law 783 = .ok (.invokevirtual 100, 3) := by decide +kernel
theorem dL_law_786 : decode cL_law 786 = .ok (.pop, 1) := by decide +kernel
theorem dL_law_787 : decode cL_law 787 = .ok (.aload_n 2, 1) := by decide +kernel
theorem dL_law_788 : decode cL_law 788 = .ok (.aload_n 0, 1) := by decide +kernel
theorem dL_law_789 : decode cL_law 789 = .ok (.iload_n 3, 1) := by decide +kernel
theorem dL_law_790 : decode cL_law 790 = .ok (.iconst 1, 1) := by decide +kernel
theorem dL_law_791 : decode cL_law 791 = .ok (.iadd, 1) := by decide +kernel
theorem dL_law_792 : decode cL_law 792 = .ok (.iaload, 1) := by decide +kernel
theorem dL_law_793 : decode cL_law 793 = .ok (.invokevirtual 103, 3) := by decide +kernel
theorem dL_law_796 : decode cL_law 796 = .ok (.pop, 1) := by decide +kernel
theorem dL_law_797 : decode cL_law 797 = .ok (.goto 612, 3) := by decide +kernel
theorem dL_law_800 : decode cL_law 800 = .ok (.aload_n 1, 1) := by decide +kernel
theorem dL_law_801 : decode cL_law 801 = .ok (.aload_n 0, 1) := by decide +kernel
theorem dL_law_802 : decode cL_law 802 = .ok (.iload_n 3, 1) := by decide +kernel
theorem dL_law_803 : decode cL_law 803 = .ok (.iconst 1, 1) := by decide +kernel
theorem dL_law_804 : decode cL_law 804 = .ok (.iadd, 1) := by decide +kernel
theorem dL_law_805 : decode cL_law 805 = .ok (.iaload, 1) := by decide +kernel
theorem dL_law_806 : decode cL_law 806 = .ok (.aload_n 0, 1) := by decide +kernel
theorem dL_law_807 : decode cL_law 807 = .ok (.iload_n 3, 1) := by decide +kernel
theorem dL_law_808 : decode cL_law 808 = .ok (.iconst 2, 1) := by decide +kernel
theorem dL_law_809 : decode cL_law 809 = .ok (.iadd, 1) := by decide +kernel
theorem dL_law_810 : decode cL_law 810 = .ok (.iaload, 1) := by decide +kernel
theorem dL_law_811 : decode cL_law 811 = .ok (.invokevirtual 104, 3) := by decide +kernel
theorem dL_law_814 : decode cL_law 814 = .ok (.pop, 1) := by decide +kernel
theorem dL_law_815 : decode cL_law 815 = .ok (.aload_n 2, 1) := by decide +kernel
theorem dL_law_816 : decode cL_law 816 = .ok (.aload_n 0, 1) := by decide +kernel
theorem dL_law_817 : decode cL_law 817 = .ok (.iload_n 3, 1) := by decide +kernel
theorem dL_law_818 : decode cL_law 818 = .ok (.iconst 1, 1) := by decide +kernel
theorem dL_law_819 : decode cL_law 819 = .ok (.iadd, 1) := by decide +kernel
theorem dL_law_820 : decode cL_law 820 = .ok (.iaload, 1) := by decide +kernel
theorem dL_law_821 : decode cL_law 821 = .ok (.aload_n 0, 1) := by decide +kernel
theorem dL_law_822 : decode cL_law 822 = .ok (.iload_n 3, 1) := by decide +kernel
theorem dL_law_823 : decode cL_law 823 = .ok (.iconst 2, 1) := by decide +kernel
theorem dL_law_824 : decode cL_law 824 = .ok (.iadd, 1) := by decide +kernel
theorem dL_law_825 : decode cL_law 825 = .ok (.iaload, 1) := by decide +kernel
theorem dL_law_826 : decode cL_law 826 = .ok (.invokevirtual 107, 3) := by decide +kernel
theorem dL_law_829 : decode cL_law 829 = .ok (.pop, 1) := by decide +kernel
theorem dL_law_830 : decode cL_law 830 = .ok (.goto 579, 3) := by decide +kernel
set_option maxRecDepth 20000 in
theorem gu_L_X9_see : GoodIn wsL_law (wsV RL 79 RX9 yX9_see uX9_see) := goodIn_r _ [650, 651, 652, 2, 653, 608, 609, 2, 168, 169, 654, 623, 624, 625, 43, 655, 656, 657, 42, 610, 170, 626, 23, 627, 628, 629, 630, 98, 658, 100, 1064, 1065, 1066, 1067, 1068, 1069, 1070, 1071, 1072, 1073, 1074, 1075, 1076, 1077, 1078, 1079, 1080, 1081, 1138, 1139, 1140, 1141] rfl (by decide +kernel)
set_option maxRecDepth 20000 in
theorem gu_L_X10_see : GoodIn wsL_law (wsV RL 82 RX10 yX10_see uX10_see) := goodIn_r _ [659, 660, 661, 5, 662, 575, 182, 183, 5, 421, 545, 663, 642, 643, 644, 147, 184, 645, 370, 145, 1082, 1083, 1084, 1085, 1086, 1087, 1088, 1089, 1090, 1091, 1092, 1093, 1094, 1095, 1096, 1097, 1098, 1099, 1100, 1101, 1102, 1103, 1104, 1105, 1106, 1107, 1108, 1109, 1110, 1111, 1112, 1113, 1114, 1115, 1116, 1117] rfl (by decide +kernel)
set_option maxHeartbeats 4000000 in
set_option maxRecDepth 100000 in
theorem lc_14 {p : Program} {l : Launch} {e : Env} {s : State} {m : MethodId} {below : List Frame} {meth : Method} {c : Code} {cells slots : Nat} {Q : State → Prop} {b h0 L : Nat} {xs : Nat → Int32} {yi : Int32} {D : va_G} {cI cL cC : ClassId} {tx tm : Nat → Nat} {H : Heap} {locs : List Loc} {ls : Array Slot} {gC : Int32} {gE : Int32} {G : Nat} {gW : Nat → Int32} {gA : Nat → Int32} {gT : Nat → Int32} {gI : Int32} {gS : Int32} {gM : Int32} {K : Nat → Int32} {F : Nat → Int32} {S : Nat → Int32} {N : Nat → Int32} {gH : Int} {gJ : Int} {ge : Int32} {gk : Int32} {gf : Int32} {gs : Int32} {gg : Int32} {gr : Int32} {RN : Nat → Int32} (hx : p.tables.exec = Jvm.exec) (hb : c.code = cL_law) (hml : c.maxLocals = 4) (hown : s.vm.findClass RL = some m.cls) (hts : ∀ w ∈ wsL_law, w.before #[Value.ref b] s = true) (hE : EV D cI cL cC s) (hbl : b < h0) (hG : tG D (gF cI cL cC gC gE G gW gA) tx H) (hM : tG D (mF cI cL cC gC gE gW gA gT gI gS gM K F S N gH gJ ge gk gf gs gg gr RN) tm H) (kt : tx h0 = 1) (kt2 : tm (h0 + 92) = 40) (hx0 : ∀ q : Nat, q < h0 → tx q = 0) (hm00 : ∀ q : Nat, q < h0 → tm q = 0) (dj : ∀ q : Nat, tm q ≠ 0 → tx q = 0) (dj2 : ∀ q : Nat, tx q ≠ 0 → tm q = 0) (uq_gC : ∀ b c : Nat, tx b = 2 → tx c = 2 → b = c) (uq_gE : ∀ b c : Nat, tx b = 6 → tx c = 6 → b = c) (uq_gW : ∀ b c : Nat, tx b = 29 → tx c = 29 → b = c) (uq_gA : ∀ b c : Nat, tx b = 31 → tx c = 31 → b = c) (uqm : ∀ b c : Nat, tm b = tm c → tm b ≠ 0 → b = c) (hC0 : 0 ≤ gC.toInt) (hC4 : gC.toInt ≤ 400) (hI0 : 0 ≤ gI.toInt) (hI4 : gI.toInt ≤ 40) (hH0 : 0 ≤ gH) (hH9 : gH ≤ 96) (hm0 : 0 ≤ gM.toInt) (hm3 : gM.toInt ≤ 3) (hO0 : okM K F S N 0 gI.toInt) (hW : swM gS K F S N gI.toInt) (hGb : (G : Int) ≤ 3072 * yi.toInt) (hy0 : 0 ≤ yi.toInt) (hy8 : yi.toInt + 8 ≤ (L : Int)) (hL : L ≤ 4096) (hS : cF h0 s.heap H locs) (hX : va_X b L xs s H) (hl : lv_has ls 4 [(3, .int yi), (2, .ref (h0 + 92)), (1, .ref h0), (0, .ref b)]) (hcl : cells ≤ 600000) (hsl : slots ≤ 7302250) (kx : ∀ (H1 : Heap) (locs1 : List Loc) (gC' : Int32) (gE' : Int32) (G' : Nat) (gW' : Nat → Int32) (gA' : Nat → Int32) (gT' : Nat → Int32) (gI' : Int32) (gS' : Int32) (gM' : Int32) (K' : Nat → Int32) (F' : Nat → Int32) (S' : Nat → Int32) (N' : Nat → Int32) (gH' : Int) (gJ' : Int) (ge' : Int32) (gk' : Int32) (gf' : Int32) (gs' : Int32) (gg' : Int32) (gr' : Int32) (RN' : Nat → Int32), tG D (gF cI cL cC gC' gE' G' gW' gA') tx H1 → tG D (mF cI cL cC gC' gE' gW' gA' gT' gI' gS' gM' K' F' S' N' gH' gJ' ge' gk' gf' gs' gg' gr' RN') tm H1 → 0 ≤ gC'.toInt → gC'.toInt ≤ 400 → 0 ≤ gI'.toInt → gI'.toInt ≤ 40 → 0 ≤ gH' → gH' ≤ 96 → 0 ≤ gM'.toInt → gM'.toInt ≤ 3 → okM K' F' S' N' 0 gI'.toInt → swM gS' K' F' S' N' gI'.toInt → (G' : Int) ≤ 3072 * yi.toInt + 24576 → cF h0 s.heap H1 locs1 → va_X b L xs s H1 → W p l e room_1 s m #[Value.ref b] below meth c H1 locs1 cells slots Q (F0 m 1409 ls [])) : W p l e room_1 s m #[Value.ref b] below meth c H locs cells slots Q (F0 m 590 ls []) := by
  refine lv_aload_n hx hb dL_law_590 rfl (lv_at hl 2 rfl) ?_
  refine lw_argC hx hb hX hl hy0 hy8 hL 1 (by decide) (by decide) dL_law_591 dL_law_592 dL_law_593 dL_law_594 dL_law_595 ?_
  refine lv_pc (pc2 := 596) rfl ?_
  refine lw_argC hx hb hX hl hy0 hy8 hL 2 (by decide) (by decide) dL_law_596 dL_law_597 dL_law_598 dL_law_599 dL_law_600 ?_
  refine lv_pc (pc2 := 601) rfl ?_
  refine lw_argC hx hb hX hl hy0 hy8 hL 3 (by decide) (by decide) dL_law_601 dL_law_602 dL_law_603 dL_law_604 dL_law_605 ?_
  refine lv_pc (pc2 := 606) rfl ?_
  obtain ⟨_, at_1⟩ := rcv1 hG kt
  refine lw_calli (W.runV (As := [.int (xs (yi.toInt + 1).toNat), .int (xs (yi.toInt + 2).toNat), .int (xs (yi.toInt + 3).toNat)]) (rest := []) ⟨hx, hb, hml, hown, hts⟩ (s_X9_see l D tx cI cL cC gC gE G gW gA h0 (xs (yi.toInt + 1).toNat) (xs (yi.toInt + 2).toNat) (xs (yi.toInt + 3).toNat) kt) (cwV 3 hts gu_L_X9_see rfl rfl rfl (by decide +kernel) ⟨Nat.le_of_ble_eq_true rfl, Nat.le_of_ble_eq_true rfl⟩) (tP_V hG hE at_1 rfl) rfl rfl hl.1 rfl (lv_room (Nat.le_of_ble_eq_true rfl)) dL_law_606 ⟨hcl, hsl⟩) hS rfl hx0 (fun r_2 H locs hp_3 hG hS o_4 => ?_)
  replace hX := hX.kept (o_4 b (by rw [hx0 b hbl]; rfl))
  replace hM := tG.keptW hM o_4 (fun q h => by rw [dj q h]; rfl)
  refine lv_pop hx hb dL_law_609 rfl ?_
  refine lv_aload_n hx hb dL_law_610 rfl (lv_at hl 1 rfl) ?_
  refine lv_pc (pc2 := 611) rfl ?_
  refine lw_argC hx hb hX hl hy0 hy8 hL 1 (by decide) (by decide) dL_law_611 dL_law_612 dL_law_613 dL_law_614 dL_law_615 ?_
  refine lv_pc (pc2 := 616) rfl ?_
  refine lw_argC hx hb hX hl hy0 hy8 hL 2 (by decide) (by decide) dL_law_616 dL_law_617 dL_law_618 dL_law_619 dL_law_620 ?_
  refine lv_pc (pc2 := 621) rfl ?_
  refine lw_argC hx hb hX hl hy0 hy8 hL 3 (by decide) (by decide) dL_law_621 dL_law_622 dL_law_623 dL_law_624 dL_law_625 ?_
  refine lv_pc (pc2 := 626) rfl ?_
  obtain ⟨_, at_5⟩ := rcv40 hM kt2
  refine lw_calli (W.runV (As := [.int (xs (yi.toInt + 1).toNat), .int (xs (yi.toInt + 2).toNat), .int (xs (yi.toInt + 3).toNat)]) (rest := []) ⟨hx, hb, hml, hown, hts⟩ (m_X10_see l D tm cI cL cC gC gE gW gA gT gI gS gM K F S N gH gJ ge gk gf gs gg gr RN (h0 + 92) (xs (yi.toInt + 1).toNat) (xs (yi.toInt + 2).toNat) (xs (yi.toInt + 3).toNat) uqm hC0 hC4 hI0 hI4 hH0 hH9 hm0 hm3 hO0 hW kt2) (cwV 3 hts gu_L_X10_see rfl rfl rfl (by decide +kernel) ⟨Nat.le_of_ble_eq_true rfl, Nat.le_of_ble_eq_true rfl⟩) (tP_V hM hE at_5 rfl) rfl rfl hl.1 rfl (lv_room (Nat.le_of_ble_eq_true rfl)) dL_law_626 ⟨hcl, hsl⟩) hS rfl hm00 (fun r_6 H locs hp_7 hM hS o_8 => ?_)
  replace hX := hX.kept (o_8 b (by rw [hm00 b hbl]; rfl))
  replace hG := tG.keptW hG o_8 (fun q h => by rw [dj2 q h]; rfl)
  refine lv_pop hx hb dL_law_629 rfl ?_
  refine lv_goto (tgt := 1409) hx hb dL_law_630 (by decide) ?_
  exact kx H locs _ _ _ _ _ _ _ _ _ _ _ _ _ _ _ _ _ _ _ _ _ _ hG hM hC0 hC4 hI0 hI4 hH0 hH9 hm0 hm3 hO0 hW (by omega) hS hX

set_option maxRecDepth 20000 in
theorem gu_L_X9_ends : GoodIn wsL_law (wsV RL 83 RX9 yX9_ends uX9_ends) := goodIn_r _ [664, 665, 666, 2, 667, 668, 168, 169, 2, 43, 669, 170, 1064, 1065, 1066, 1067, 1068, 1069, 1070, 1071, 1072, 1073, 1074, 1075, 1076, 1077, 1078, 1079, 1080, 1081, 1138, 1139, 1140, 1141] rfl (by decide +kernel)
set_option maxRecDepth 20000 in
theorem gu_L_X10_ends : GoodIn wsL_law (wsV RL 86 RX10 yX10_ends uX10_ends) := goodIn_r _ [670, 671, 672, 5, 673, 674, 182, 183, 5, 675, 184, 1082, 1083, 1084, 1085, 1086, 1087, 1088, 1089, 1090, 1091, 1092, 1093, 1094, 1095, 1096, 1097, 1098, 1099, 1100, 1101, 1102, 1103, 1104, 1105, 1106, 1107, 1108, 1109, 1110, 1111, 1112, 1113, 1114, 1115, 1116, 1117] rfl (by decide +kernel)
set_option maxHeartbeats 4000000 in
set_option maxRecDepth 100000 in
theorem lc_15 {p : Program} {l : Launch} {e : Env} {s : State} {m : MethodId} {below : List Frame} {meth : Method} {c : Code} {cells slots : Nat} {Q : State → Prop} {b h0 L : Nat} {xs : Nat → Int32} {yi : Int32} {D : va_G} {cI cL cC : ClassId} {tx tm : Nat → Nat} {H : Heap} {locs : List Loc} {ls : Array Slot} {gC : Int32} {gE : Int32} {G : Nat} {gW : Nat → Int32} {gA : Nat → Int32} {gT : Nat → Int32} {gI : Int32} {gS : Int32} {gM : Int32} {K : Nat → Int32} {F : Nat → Int32} {S : Nat → Int32} {N : Nat → Int32} {gH : Int} {gJ : Int} {ge : Int32} {gk : Int32} {gf : Int32} {gs : Int32} {gg : Int32} {gr : Int32} {RN : Nat → Int32} (hx : p.tables.exec = Jvm.exec) (hb : c.code = cL_law) (hml : c.maxLocals = 4) (hown : s.vm.findClass RL = some m.cls) (hts : ∀ w ∈ wsL_law, w.before #[Value.ref b] s = true) (hE : EV D cI cL cC s) (hbl : b < h0) (hG : tG D (gF cI cL cC gC gE G gW gA) tx H) (hM : tG D (mF cI cL cC gC gE gW gA gT gI gS gM K F S N gH gJ ge gk gf gs gg gr RN) tm H) (kt : tx h0 = 1) (kt2 : tm (h0 + 92) = 40) (hx0 : ∀ q : Nat, q < h0 → tx q = 0) (hm00 : ∀ q : Nat, q < h0 → tm q = 0) (dj : ∀ q : Nat, tm q ≠ 0 → tx q = 0) (dj2 : ∀ q : Nat, tx q ≠ 0 → tm q = 0) (uq_gC : ∀ b c : Nat, tx b = 2 → tx c = 2 → b = c) (uq_gE : ∀ b c : Nat, tx b = 6 → tx c = 6 → b = c) (uq_gW : ∀ b c : Nat, tx b = 29 → tx c = 29 → b = c) (uq_gA : ∀ b c : Nat, tx b = 31 → tx c = 31 → b = c) (uqm : ∀ b c : Nat, tm b = tm c → tm b ≠ 0 → b = c) (hC0 : 0 ≤ gC.toInt) (hC4 : gC.toInt ≤ 400) (hI0 : 0 ≤ gI.toInt) (hI4 : gI.toInt ≤ 40) (hH0 : 0 ≤ gH) (hH9 : gH ≤ 96) (hm0 : 0 ≤ gM.toInt) (hm3 : gM.toInt ≤ 3) (hO0 : okM K F S N 0 gI.toInt) (hW : swM gS K F S N gI.toInt) (hGb : (G : Int) ≤ 3072 * yi.toInt) (hy0 : 0 ≤ yi.toInt) (hy8 : yi.toInt + 8 ≤ (L : Int)) (hL : L ≤ 4096) (hS : cF h0 s.heap H locs) (hX : va_X b L xs s H) (hl : lv_has ls 4 [(3, .int yi), (2, .ref (h0 + 92)), (1, .ref h0), (0, .ref b)]) (hcl : cells ≤ 600000) (hsl : slots ≤ 7302250) (kx : ∀ (H1 : Heap) (locs1 : List Loc) (gC' : Int32) (gE' : Int32) (G' : Nat) (gW' : Nat → Int32) (gA' : Nat → Int32) (gT' : Nat → Int32) (gI' : Int32) (gS' : Int32) (gM' : Int32) (K' : Nat → Int32) (F' : Nat → Int32) (S' : Nat → Int32) (N' : Nat → Int32) (gH' : Int) (gJ' : Int) (ge' : Int32) (gk' : Int32) (gf' : Int32) (gs' : Int32) (gg' : Int32) (gr' : Int32) (RN' : Nat → Int32), tG D (gF cI cL cC gC' gE' G' gW' gA') tx H1 → tG D (mF cI cL cC gC' gE' gW' gA' gT' gI' gS' gM' K' F' S' N' gH' gJ' ge' gk' gf' gs' gg' gr' RN') tm H1 → 0 ≤ gC'.toInt → gC'.toInt ≤ 400 → 0 ≤ gI'.toInt → gI'.toInt ≤ 40 → 0 ≤ gH' → gH' ≤ 96 → 0 ≤ gM'.toInt → gM'.toInt ≤ 3 → okM K' F' S' N' 0 gI'.toInt → swM gS' K' F' S' N' gI'.toInt → (G' : Int) ≤ 3072 * yi.toInt + 24576 → cF h0 s.heap H1 locs1 → va_X b L xs s H1 → W p l e room_1 s m #[Value.ref b] below meth c H1 locs1 cells slots Q (F0 m 1409 ls [])) : W p l e room_1 s m #[Value.ref b] below meth c H locs cells slots Q (F0 m 633 ls []) := by
  refine lv_aload_n hx hb dL_law_633 rfl (lv_at hl 2 rfl) ?_
  refine lw_argC hx hb hX hl hy0 hy8 hL 1 (by decide) (by decide) dL_law_634 dL_law_635 dL_law_636 dL_law_637 dL_law_638 ?_
  refine lv_pc (pc2 := 639) rfl ?_
  obtain ⟨_, at_1⟩ := rcv1 hG kt
  refine lw_calli (W.runV (As := [.int (xs (yi.toInt + 1).toNat)]) (rest := []) ⟨hx, hb, hml, hown, hts⟩ (s_X9_ends l D tx cI cL cC gC gE G gW gA h0 (xs (yi.toInt + 1).toNat) uq_gE kt) (cwV 1 hts gu_L_X9_ends rfl rfl rfl (by decide +kernel) ⟨Nat.le_of_ble_eq_true rfl, Nat.le_of_ble_eq_true rfl⟩) (tP_V hG hE at_1 rfl) rfl rfl hl.1 rfl (lv_room (Nat.le_of_ble_eq_true rfl)) dL_law_639 ⟨hcl, hsl⟩) hS rfl hx0 (fun r_2 H locs hp_3 hG hS o_4 => ?_)
  replace hX := hX.kept (o_4 b (by rw [hx0 b hbl]; rfl))
  replace hM := tG.keptW hM o_4 (fun q h => by rw [dj q h]; rfl)
  refine lv_pop hx hb dL_law_642 rfl ?_
  refine lv_aload_n hx hb dL_law_643 rfl (lv_at hl 1 rfl) ?_
  refine lw_argC hx hb hX hl hy0 hy8 hL 1 (by decide) (by decide) dL_law_644 dL_law_645 dL_law_646 dL_law_647 dL_law_648 ?_
  refine lv_pc (pc2 := 649) rfl ?_
  obtain ⟨_, at_5⟩ := rcv40 hM kt2
  refine lx_calli (W.runV (As := [.int (xs (yi.toInt + 1).toNat)]) (rest := []) ⟨hx, hb, hml, hown, hts⟩ (m_X10_ends l D tm cI cL cC gC gE gW gA gT gI gS gM K F S N gH gJ ge gk gf gs gg gr RN (h0 + 92) (xs (yi.toInt + 1).toNat) uqm hC0 hC4 hI0 hI4 hH0 hH9 hm0 hm3 hO0 hW kt2) (cwV 1 hts gu_L_X10_ends rfl rfl rfl (by decide +kernel) ⟨Nat.le_of_ble_eq_true rfl, Nat.le_of_ble_eq_true rfl⟩) (tP_V hM hE at_5 rfl) rfl rfl hl.1 rfl (lv_room (Nat.le_of_ble_eq_true rfl)) dL_law_649 ⟨hcl, hsl⟩) hS rfl hm00 (fun r_6 gE_9 H locs hp_7 hM hS o_8 => ?_)
  replace hX := hX.kept (o_8 b (by rw [hm00 b hbl]; rfl))
  replace hG := tG.keptW hG o_8 (fun q h => by rw [dj2 q h]; rfl)
  replace hM : tG D (mF cI cL cC gC gE_9 gW gA gT gI gS gM K F S N gH gJ ge gk gf gs gg gr RN) tm H := hM
  have hp_7 : r_6 = aen gE (xs (yi.toInt + 1).toNat) ∧ gE_9 = nen gE (xs (yi.toInt + 1).toNat) := hp_7
  obtain ⟨p_11, p_12⟩ := hp_7
  refine lv_pc (pc2 := 652) rfl ?_
  refine lv_pop hx hb dL_law_652 rfl ?_
  refine lv_goto (tgt := 1409) hx hb dL_law_653 (by decide) ?_
  subst p_12
  exact kx H locs _ _ _ _ _ _ _ _ _ _ _ _ _ _ _ _ _ _ _ _ _ _ hG hM hC0 hC4 hI0 hI4 hH0 hH9 hm0 hm3 hO0 hW (by omega) hS hX

set_option maxRecDepth 20000 in
theorem gu_L_X9_knob : GoodIn wsL_law (wsV RL 87 RX9 yX9_knob uX9_knob) := goodIn_r _ [676, 677, 678, 2, 679, 681, 682, 2, 400, 274, 168, 169, 680, 401, 402, 403, 20, 684, 685, 686, 19, 47, 689, 690, 691, 46, 683, 275, 170, 404, 23, 330, 687, 352, 353, 354, 688, 226, 217, 355, 66, 227, 692, 106, 107, 108, 109, 110, 1064, 1065, 1066, 1067, 1068, 1069, 1070, 1071, 1072, 1073, 1074, 1075, 1076, 1077, 1078, 1079, 1080, 1081, 1122, 1123, 1124, 1125, 1126, 1127, 1142, 1143, 1144, 1145, 1146] rfl (by decide +kernel)
set_option maxRecDepth 20000 in
theorem gu_L_X10_knob : GoodIn wsL_law (wsV RL 91 RX10 yX10_knob uX10_knob) := goodIn_r _ [693, 694, 695, 5, 696, 182, 183, 5, 410, 697, 316, 698, 370, 365, 140, 148, 149, 150, 151, 152, 184, 1082, 1083, 1084, 1085, 1086, 1087, 1088, 1089, 1090, 1091, 1092, 1093, 1094, 1095, 1096, 1097, 1098, 1099, 1100, 1101, 1102, 1103, 1104, 1105, 1106, 1107, 1108, 1109, 1110, 1111, 1112, 1113, 1114, 1115, 1116, 1117] rfl (by decide +kernel)
set_option maxHeartbeats 4000000 in
set_option maxRecDepth 100000 in
theorem lc_16 {p : Program} {l : Launch} {e : Env} {s : State} {m : MethodId} {below : List Frame} {meth : Method} {c : Code} {cells slots : Nat} {Q : State → Prop} {b h0 L : Nat} {xs : Nat → Int32} {yi : Int32} {D : va_G} {cI cL cC : ClassId} {tx tm : Nat → Nat} {H : Heap} {locs : List Loc} {ls : Array Slot} {gC : Int32} {gE : Int32} {G : Nat} {gW : Nat → Int32} {gA : Nat → Int32} {gT : Nat → Int32} {gI : Int32} {gS : Int32} {gM : Int32} {K : Nat → Int32} {F : Nat → Int32} {S : Nat → Int32} {N : Nat → Int32} {gH : Int} {gJ : Int} {ge : Int32} {gk : Int32} {gf : Int32} {gs : Int32} {gg : Int32} {gr : Int32} {RN : Nat → Int32} (hx : p.tables.exec = Jvm.exec) (hb : c.code = cL_law) (hml : c.maxLocals = 4) (hown : s.vm.findClass RL = some m.cls) (hts : ∀ w ∈ wsL_law, w.before #[Value.ref b] s = true) (hE : EV D cI cL cC s) (hbl : b < h0) (hG : tG D (gF cI cL cC gC gE G gW gA) tx H) (hM : tG D (mF cI cL cC gC gE gW gA gT gI gS gM K F S N gH gJ ge gk gf gs gg gr RN) tm H) (kt : tx h0 = 1) (kt2 : tm (h0 + 92) = 40) (hx0 : ∀ q : Nat, q < h0 → tx q = 0) (hm00 : ∀ q : Nat, q < h0 → tm q = 0) (dj : ∀ q : Nat, tm q ≠ 0 → tx q = 0) (dj2 : ∀ q : Nat, tx q ≠ 0 → tm q = 0) (uq_gC : ∀ b c : Nat, tx b = 2 → tx c = 2 → b = c) (uq_gE : ∀ b c : Nat, tx b = 6 → tx c = 6 → b = c) (uq_gW : ∀ b c : Nat, tx b = 29 → tx c = 29 → b = c) (uq_gA : ∀ b c : Nat, tx b = 31 → tx c = 31 → b = c) (uqm : ∀ b c : Nat, tm b = tm c → tm b ≠ 0 → b = c) (hC0 : 0 ≤ gC.toInt) (hC4 : gC.toInt ≤ 400) (hI0 : 0 ≤ gI.toInt) (hI4 : gI.toInt ≤ 40) (hH0 : 0 ≤ gH) (hH9 : gH ≤ 96) (hm0 : 0 ≤ gM.toInt) (hm3 : gM.toInt ≤ 3) (hO0 : okM K F S N 0 gI.toInt) (hW : swM gS K F S N gI.toInt) (hGb : (G : Int) ≤ 3072 * yi.toInt) (hy0 : 0 ≤ yi.toInt) (hy8 : yi.toInt + 8 ≤ (L : Int)) (hL : L ≤ 4096) (hS : cF h0 s.heap H locs) (hX : va_X b L xs s H) (hl : lv_has ls 4 [(3, .int yi), (2, .ref (h0 + 92)), (1, .ref h0), (0, .ref b)]) (hcl : cells ≤ 600000) (hsl : slots ≤ 7302250) (kx : ∀ (H1 : Heap) (locs1 : List Loc) (gC' : Int32) (gE' : Int32) (G' : Nat) (gW' : Nat → Int32) (gA' : Nat → Int32) (gT' : Nat → Int32) (gI' : Int32) (gS' : Int32) (gM' : Int32) (K' : Nat → Int32) (F' : Nat → Int32) (S' : Nat → Int32) (N' : Nat → Int32) (gH' : Int) (gJ' : Int) (ge' : Int32) (gk' : Int32) (gf' : Int32) (gs' : Int32) (gg' : Int32) (gr' : Int32) (RN' : Nat → Int32), tG D (gF cI cL cC gC' gE' G' gW' gA') tx H1 → tG D (mF cI cL cC gC' gE' gW' gA' gT' gI' gS' gM' K' F' S' N' gH' gJ' ge' gk' gf' gs' gg' gr' RN') tm H1 → 0 ≤ gC'.toInt → gC'.toInt ≤ 400 → 0 ≤ gI'.toInt → gI'.toInt ≤ 40 → 0 ≤ gH' → gH' ≤ 96 → 0 ≤ gM'.toInt → gM'.toInt ≤ 3 → okM K' F' S' N' 0 gI'.toInt → swM gS' K' F' S' N' gI'.toInt → (G' : Int) ≤ 3072 * yi.toInt + 24576 → cF h0 s.heap H1 locs1 → va_X b L xs s H1 → W p l e room_1 s m #[Value.ref b] below meth c H1 locs1 cells slots Q (F0 m 1409 ls [])) : W p l e room_1 s m #[Value.ref b] below meth c H locs cells slots Q (F0 m 656 ls []) := by
  refine lv_aload_n hx hb dL_law_656 rfl (lv_at hl 2 rfl) ?_
  refine lw_argC hx hb hX hl hy0 hy8 hL 1 (by decide) (by decide) dL_law_657 dL_law_658 dL_law_659 dL_law_660 dL_law_661 ?_
  refine lv_pc (pc2 := 662) rfl ?_
  refine lw_argC hx hb hX hl hy0 hy8 hL 2 (by decide) (by decide) dL_law_662 dL_law_663 dL_law_664 dL_law_665 dL_law_666 ?_
  refine lv_pc (pc2 := 667) rfl ?_
  refine lw_argC hx hb hX hl hy0 hy8 hL 3 (by decide) (by decide) dL_law_667 dL_law_668 dL_law_669 dL_law_670 dL_law_671 ?_
  refine lv_pc (pc2 := 672) rfl ?_
  refine lw_argC hx hb hX hl hy0 hy8 hL 4 (by decide) (by decide) dL_law_672 dL_law_673 dL_law_674 dL_law_675 dL_law_676 ?_
  refine lv_pc (pc2 := 677) rfl ?_
  refine lw_argC hx hb hX hl hy0 hy8 hL 5 (by decide) (by decide) dL_law_677 dL_law_678 dL_law_679 dL_law_680 dL_law_681 ?_
  refine lv_pc (pc2 := 682) rfl ?_
  refine lw_argB hx hb hX hl hy0 hy8 hL 6 (by decide) (by decide) dL_law_682 dL_law_683 dL_law_684 dL_law_686 dL_law_687 ?_
  refine lv_pc (pc2 := 688) rfl ?_
  refine lv_pc (pc2 := 688) rfl ?_
  obtain ⟨_, at_1⟩ := rcv1 hG kt
  refine lw_calli (W.runV (As := [.int (xs (yi.toInt + 1).toNat), .int (xs (yi.toInt + 2).toNat), .int (xs (yi.toInt + 3).toNat), .int (xs (yi.toInt + 4).toNat), .int (xs (yi.toInt + 5).toNat), .int (xs (yi.toInt + 6).toNat)]) (rest := []) ⟨hx, hb, hml, hown, hts⟩ (s_X9_knob l D tx cI cL cC gC gE G gW gA h0 (xs (yi.toInt + 1).toNat) (xs (yi.toInt + 2).toNat) (xs (yi.toInt + 3).toNat) (xs (yi.toInt + 4).toNat) (xs (yi.toInt + 5).toNat) (xs (yi.toInt + 6).toNat) kt) (cwV 6 hts gu_L_X9_knob rfl rfl rfl (by decide +kernel) ⟨Nat.le_of_ble_eq_true rfl, Nat.le_of_ble_eq_true rfl⟩) (tP_V hG hE at_1 rfl) rfl rfl hl.1 rfl (lv_room (Nat.le_of_ble_eq_true rfl)) dL_law_688 ⟨hcl, hsl⟩) hS rfl hx0 (fun r_2 H locs hp_3 hG hS o_4 => ?_)
  replace hX := hX.kept (o_4 b (by rw [hx0 b hbl]; rfl))
  replace hM := tG.keptW hM o_4 (fun q h => by rw [dj q h]; rfl)
  refine lv_pop hx hb dL_law_691 rfl ?_
  refine lv_aload_n hx hb dL_law_692 rfl (lv_at hl 1 rfl) ?_
  refine lw_argC hx hb hX hl hy0 hy8 hL 1 (by decide) (by decide) dL_law_693 dL_law_694 dL_law_695 dL_law_696 dL_law_697 ?_
  refine lv_pc (pc2 := 698) rfl ?_
  refine lw_argC hx hb hX hl hy0 hy8 hL 2 (by decide) (by decide) dL_law_698 dL_law_699 dL_law_700 dL_law_701 dL_law_702 ?_
  refine lv_pc (pc2 := 703) rfl ?_
  refine lw_argC hx hb hX hl hy0 hy8 hL 3 (by decide) (by decide) dL_law_703 dL_law_704 dL_law_705 dL_law_706 dL_law_707 ?_
  refine lv_pc (pc2 := 708) rfl ?_
  refine lw_argC hx hb hX hl hy0 hy8 hL 4 (by decide) (by decide) dL_law_708 dL_law_709 dL_law_710 dL_law_711 dL_law_712 ?_
  refine lv_pc (pc2 := 713) rfl ?_
  refine lw_argC hx hb hX hl hy0 hy8 hL 5 (by decide) (by decide) dL_law_713 dL_law_714 dL_law_715 dL_law_716 dL_law_717 ?_
  refine lv_pc (pc2 := 718) rfl ?_
  refine lv_pc (pc2 := 718) rfl ?_
  refine lw_argB hx hb hX hl hy0 hy8 hL 6 (by decide) (by decide) dL_law_718 dL_law_719 dL_law_720 dL_law_722 dL_law_723 ?_
  refine lv_pc (pc2 := 724) rfl ?_
  obtain ⟨_, at_5⟩ := rcv40 hM kt2
  refine lw_calli (W.runV (As := [.int (xs (yi.toInt + 1).toNat), .int (xs (yi.toInt + 2).toNat), .int (xs (yi.toInt + 3).toNat), .int (xs (yi.toInt + 4).toNat), .int (xs (yi.toInt + 5).toNat), .int (xs (yi.toInt + 6).toNat)]) (rest := []) ⟨hx, hb, hml, hown, hts⟩ (m_X10_knob l D tm cI cL cC gC gE gW gA gT gI gS gM K F S N gH gJ ge gk gf gs gg gr RN (h0 + 92) (xs (yi.toInt + 1).toNat) (xs (yi.toInt + 2).toNat) (xs (yi.toInt + 3).toNat) (xs (yi.toInt + 4).toNat) (xs (yi.toInt + 5).toNat) (xs (yi.toInt + 6).toNat) uqm hC0 hC4 hI0 hI4 hH0 hH9 hm0 hm3 hO0 hW kt2) (cwV 6 hts gu_L_X10_knob rfl rfl rfl (by decide +kernel) ⟨Nat.le_of_ble_eq_true rfl, Nat.le_of_ble_eq_true rfl⟩) (tP_V hM hE at_5 rfl) rfl rfl hl.1 rfl (lv_room (Nat.le_of_ble_eq_true rfl)) dL_law_724 ⟨hcl, hsl⟩) hS rfl hm00 (fun r_6 H locs hp_7 hM hS o_8 => ?_)
  replace hX := hX.kept (o_8 b (by rw [hm00 b hbl]; rfl))
  replace hG := tG.keptW hG o_8 (fun q h => by rw [dj2 q h]; rfl)
  refine lv_pop hx hb dL_law_727 rfl ?_
  refine lv_goto (tgt := 1409) hx hb dL_law_728 (by decide) ?_
  exact kx H locs _ _ _ _ _ _ _ _ _ _ _ _ _ _ _ _ _ _ _ _ _ _ hG hM hC0 hC4 hI0 hI4 hH0 hH9 hm0 hm3 hO0 hW (by omega) hS hX

set_option maxRecDepth 20000 in
theorem gu_L_X9_fits : GoodIn wsL_law (wsV RL 92 RX9 yX9_fits uX9_fits) := goodIn_r _ [699, 700, 701, 2, 702, 23, 47, 703, 704, 705, 46, 715, 716, 717, 2, 706, 707, 708, 709, 710, 711, 712, 713, 110, 714, 718, 21, 20, 719, 720, 721, 19, 727, 728, 729, 36, 344, 345, 346, 34, 43, 744, 745, 746, 42, 28, 749, 442, 443, 27, 750, 446, 447, 751, 450, 451, 752, 753, 754, 722, 66, 723, 724, 725, 726, 67, 68, 69, 70, 71, 730, 106, 740, 741, 742, 107, 731, 685, 686, 732, 733, 734, 739, 271, 272, 743, 352, 353, 354, 243, 244, 217, 355, 245, 247, 248, 246, 249, 687, 688, 226, 227, 735, 682, 736, 737, 464, 738, 108, 109, 683, 273, 274, 169, 275, 170, 347, 87, 356, 357, 80, 88, 359, 79, 89, 90, 91, 92, 93, 86, 348, 349, 350, 358, 81, 351, 250, 251, 252, 253, 747, 100, 748, 444, 76, 448, 77, 452, 454, 455, 456, 453, 458, 459, 460, 489, 490, 491, 457, 461, 471, 223, 479, 480, 481, 483, 484, 485, 466, 467, 468, 472, 473, 469, 475, 476, 477, 462, 463, 465, 470, 224, 482, 486, 487, 488, 474, 478, 492, 493, 494, 495, 496, 755, 759, 632, 633, 756, 757, 758, 101, 634, 637, 628, 629, 99, 98, 636, 635, 630, 1064, 1065, 1066, 1067, 1068, 1069, 1070, 1071, 1072, 1073, 1074, 1075, 1076, 1077, 1078, 1079, 1080, 1081, 1142, 1143, 1144, 1145, 1146, 1122, 1123, 1124, 1125, 1126, 1127, 1130, 1131, 1132, 1133, 1134, 1135, 1136, 1137, 1138, 1139, 1140, 1141, 1128, 1129] rfl (by decide +kernel)
set_option maxRecDepth 20000 in
theorem gu_L_X10_fits : GoodIn wsL_law (wsV RL 95 RX10 yX10_fits uX10_fits) := goodIn_r _ [760, 761, 762, 5, 763, 370, 764, 765, 766, 5, 767, 769, 770, 771, 773, 774, 775, 768, 772, 152, 776, 373, 374, 375, 781, 782, 783, 785, 786, 787, 385, 386, 387, 789, 790, 791, 502, 503, 504, 147, 646, 647, 648, 675, 182, 183, 365, 137, 140, 313, 314, 148, 149, 777, 778, 779, 376, 138, 139, 784, 788, 143, 142, 388, 377, 378, 379, 392, 393, 394, 156, 389, 390, 391, 380, 381, 382, 383, 384, 395, 184, 792, 505, 141, 506, 507, 508, 509, 510, 511, 512, 513, 514, 519, 520, 521, 320, 515, 516, 517, 522, 518, 649, 145, 146, 315, 317, 318, 316, 319, 780, 150, 151, 1082, 1083, 1084, 1085, 1086, 1087, 1088, 1089, 1090, 1091, 1092, 1093, 1094, 1095, 1096, 1097, 1098, 1099, 1100, 1101, 1102, 1103, 1104, 1105, 1106, 1107, 1108, 1109, 1110, 1111, 1112, 1113, 1114, 1115, 1116, 1117] rfl (by decide +kernel)
set_option maxHeartbeats 4000000 in
set_option maxRecDepth 100000 in
theorem lc_17 {p : Program} {l : Launch} {e : Env} {s : State} {m : MethodId} {below : List Frame} {meth : Method} {c : Code} {cells slots : Nat} {Q : State → Prop} {b h0 L : Nat} {xs : Nat → Int32} {yi : Int32} {D : va_G} {cI cL cC : ClassId} {tx tm : Nat → Nat} {H : Heap} {locs : List Loc} {ls : Array Slot} {gC : Int32} {gE : Int32} {G : Nat} {gW : Nat → Int32} {gA : Nat → Int32} {gT : Nat → Int32} {gI : Int32} {gS : Int32} {gM : Int32} {K : Nat → Int32} {F : Nat → Int32} {S : Nat → Int32} {N : Nat → Int32} {gH : Int} {gJ : Int} {ge : Int32} {gk : Int32} {gf : Int32} {gs : Int32} {gg : Int32} {gr : Int32} {RN : Nat → Int32} (hx : p.tables.exec = Jvm.exec) (hb : c.code = cL_law) (hml : c.maxLocals = 4) (hown : s.vm.findClass RL = some m.cls) (hts : ∀ w ∈ wsL_law, w.before #[Value.ref b] s = true) (hE : EV D cI cL cC s) (hbl : b < h0) (hG : tG D (gF cI cL cC gC gE G gW gA) tx H) (hM : tG D (mF cI cL cC gC gE gW gA gT gI gS gM K F S N gH gJ ge gk gf gs gg gr RN) tm H) (kt : tx h0 = 1) (kt2 : tm (h0 + 92) = 40) (hx0 : ∀ q : Nat, q < h0 → tx q = 0) (hm00 : ∀ q : Nat, q < h0 → tm q = 0) (dj : ∀ q : Nat, tm q ≠ 0 → tx q = 0) (dj2 : ∀ q : Nat, tx q ≠ 0 → tm q = 0) (uq_gC : ∀ b c : Nat, tx b = 2 → tx c = 2 → b = c) (uq_gE : ∀ b c : Nat, tx b = 6 → tx c = 6 → b = c) (uq_gW : ∀ b c : Nat, tx b = 29 → tx c = 29 → b = c) (uq_gA : ∀ b c : Nat, tx b = 31 → tx c = 31 → b = c) (uqm : ∀ b c : Nat, tm b = tm c → tm b ≠ 0 → b = c) (hC0 : 0 ≤ gC.toInt) (hC4 : gC.toInt ≤ 400) (hI0 : 0 ≤ gI.toInt) (hI4 : gI.toInt ≤ 40) (hH0 : 0 ≤ gH) (hH9 : gH ≤ 96) (hm0 : 0 ≤ gM.toInt) (hm3 : gM.toInt ≤ 3) (hO0 : okM K F S N 0 gI.toInt) (hW : swM gS K F S N gI.toInt) (hGb : (G : Int) ≤ 3072 * yi.toInt) (hy0 : 0 ≤ yi.toInt) (hy8 : yi.toInt + 8 ≤ (L : Int)) (hL : L ≤ 4096) (hS : cF h0 s.heap H locs) (hX : va_X b L xs s H) (hl : lv_has ls 4 [(3, .int yi), (2, .ref (h0 + 92)), (1, .ref h0), (0, .ref b)]) (hcl : cells ≤ 600000) (hsl : slots ≤ 7302250) (kx : ∀ (H1 : Heap) (locs1 : List Loc) (gC' : Int32) (gE' : Int32) (G' : Nat) (gW' : Nat → Int32) (gA' : Nat → Int32) (gT' : Nat → Int32) (gI' : Int32) (gS' : Int32) (gM' : Int32) (K' : Nat → Int32) (F' : Nat → Int32) (S' : Nat → Int32) (N' : Nat → Int32) (gH' : Int) (gJ' : Int) (ge' : Int32) (gk' : Int32) (gf' : Int32) (gs' : Int32) (gg' : Int32) (gr' : Int32) (RN' : Nat → Int32), tG D (gF cI cL cC gC' gE' G' gW' gA') tx H1 → tG D (mF cI cL cC gC' gE' gW' gA' gT' gI' gS' gM' K' F' S' N' gH' gJ' ge' gk' gf' gs' gg' gr' RN') tm H1 → 0 ≤ gC'.toInt → gC'.toInt ≤ 400 → 0 ≤ gI'.toInt → gI'.toInt ≤ 40 → 0 ≤ gH' → gH' ≤ 96 → 0 ≤ gM'.toInt → gM'.toInt ≤ 3 → okM K' F' S' N' 0 gI'.toInt → swM gS' K' F' S' N' gI'.toInt → (G' : Int) ≤ 3072 * yi.toInt + 24576 → cF h0 s.heap H1 locs1 → va_X b L xs s H1 → W p l e room_1 s m #[Value.ref b] below meth c H1 locs1 cells slots Q (F0 m 1409 ls [])) : W p l e room_1 s m #[Value.ref b] below meth c H locs cells slots Q (F0 m 731 ls []) := by
  refine lv_aload_n hx hb dL_law_731 rfl (lv_at hl 2 rfl) ?_
  obtain ⟨_, at_1⟩ := rcv1 hG kt
  refine lw_calli (W.runV (As := []) (rest := []) ⟨hx, hb, hml, hown, hts⟩ (s_X9_fits l D tx cI cL cC gC gE G gW gA h0  (by omega) kt) (cwV 0 hts gu_L_X9_fits rfl rfl rfl (by decide +kernel) ⟨Nat.le_of_ble_eq_true rfl, Nat.le_of_ble_eq_true rfl⟩) (tP_V hG hE at_1 rfl) rfl rfl hl.1 rfl (lv_room (Nat.le_of_ble_eq_true rfl)) dL_law_732 ⟨hcl, hsl⟩) hS rfl hx0 (fun r_2 H locs hp_3 hG hS o_4 => ?_)
  replace hX := hX.kept (o_4 b (by rw [hx0 b hbl]; rfl))
  replace hM := tG.keptW hM o_4 (fun q h => by rw [dj q h]; rfl)
  refine lv_pop hx hb dL_law_735 rfl ?_
  refine lv_aload_n hx hb dL_law_736 rfl (lv_at hl 1 rfl) ?_
  obtain ⟨_, at_5⟩ := rcv40 hM kt2
  refine lx_calli (W.runV (As := []) (rest := []) ⟨hx, hb, hml, hown, hts⟩ (m_X10_fits l D tm cI cL cC gC gE gW gA gT gI gS gM K F S N gH gJ ge gk gf gs gg gr RN (h0 + 92)  uqm hC0 hC4 hI0 hI4 hH0 hH9 hm0 hm3 hO0 hW kt2) (cwV 0 hts gu_L_X10_fits rfl rfl rfl (by decide +kernel) ⟨Nat.le_of_ble_eq_true rfl, Nat.le_of_ble_eq_true rfl⟩) (tP_V hM hE at_5 rfl) rfl rfl hl.1 rfl (lv_room (Nat.le_of_ble_eq_true rfl)) dL_law_737 ⟨hcl, hsl⟩) hS rfl hm00 (fun r_6 zz_15 H locs hp_7 hM hS o_8 => ?_)
  obtain ⟨K_9, F_10, S_11, N_12, gH_13, gJ_14⟩ := zz_15
  replace hX := hX.kept (o_8 b (by rw [hm00 b hbl]; rfl))
  replace hG := tG.keptW hG o_8 (fun q h => by rw [dj2 q h]; rfl)
  replace hM : tG D (mF cI cL cC gC gE gW gA gT gI gS gM K_9 F_10 S_11 N_12 gH_13 gJ_14 ge gk gf gs gg gr RN) tm H := hM
  have hp_7 : 0 ≤ gH_13 ∧ gH_13 ≤ 96 ∧ okM K_9 F_10 S_11 N_12 0 gI.toInt ∧ swM gS K_9 F_10 S_11 N_12 gI.toInt := hp_7
  obtain ⟨p_16, p_17, p_18, p_19⟩ := hp_7
  refine lv_pop hx hb dL_law_740 rfl ?_
  refine lv_goto (tgt := 1409) hx hb dL_law_741 (by decide) ?_
  exact kx H locs _ _ _ _ _ _ _ _ _ _ _ _ _ _ _ _ _ _ _ _ _ _ hG hM hC0 hC4 hI0 hI4 p_16 p_17 hm0 hm3 p_18 p_19 (by omega) hS hX

set_option maxRecDepth 20000 in
theorem gu_L_X9_fit : GoodIn wsL_law (wsV RL 96 RX9 yX9_fit uX9_fit) := goodIn_r _ [793, 794, 795, 2, 796, 681, 682, 2, 23, 47, 797, 712, 713, 46, 798, 799, 800, 802, 733, 734, 683, 714, 110, 801, 703, 704, 705, 715, 716, 717, 706, 707, 708, 709, 710, 711, 718, 21, 20, 719, 720, 721, 19, 727, 728, 729, 36, 344, 345, 346, 34, 43, 744, 745, 746, 42, 28, 749, 442, 443, 27, 750, 446, 447, 751, 450, 451, 752, 753, 754, 722, 66, 723, 724, 725, 726, 67, 68, 69, 70, 71, 730, 106, 740, 741, 742, 107, 731, 685, 686, 732, 739, 271, 272, 743, 352, 353, 354, 243, 244, 217, 355, 245, 247, 248, 246, 249, 687, 688, 226, 227, 735, 736, 737, 464, 738, 108, 109, 273, 274, 169, 275, 170, 347, 87, 356, 357, 80, 88, 359, 79, 89, 90, 91, 92, 93, 86, 348, 349, 350, 358, 81, 351, 250, 251, 252, 253, 747, 100, 748, 444, 76, 448, 77, 452, 454, 455, 456, 453, 458, 459, 460, 489, 490, 491, 457, 461, 471, 223, 479, 480, 481, 483, 484, 485, 466, 467, 468, 472, 473, 469, 475, 476, 477, 462, 463, 465, 470, 224, 482, 486, 487, 488, 474, 478, 492, 493, 494, 495, 496, 755, 759, 632, 633, 756, 757, 758, 101, 634, 637, 628, 629, 99, 98, 636, 635, 630, 1064, 1065, 1066, 1067, 1068, 1069, 1070, 1071, 1072, 1073, 1074, 1075, 1076, 1077, 1078, 1079, 1080, 1081, 1142, 1143, 1144, 1145, 1146, 1122, 1123, 1124, 1125, 1126, 1127, 1130, 1131, 1132, 1133, 1134, 1135, 1136, 1137, 1138, 1139, 1140, 1141, 1128, 1129] rfl (by decide +kernel)
set_option maxRecDepth 20000 in
theorem gu_L_X10_fit : GoodIn wsL_law (wsV RL 99 RX10 yX10_fit uX10_fit) := goodIn_r _ [803, 804, 805, 5, 806, 182, 183, 5, 370, 152, 764, 765, 766, 768, 777, 778, 779, 184, 767, 769, 770, 771, 773, 774, 775, 772, 776, 373, 374, 375, 781, 782, 783, 785, 786, 787, 385, 386, 387, 789, 790, 791, 502, 503, 504, 147, 646, 647, 648, 675, 365, 137, 140, 313, 314, 148, 149, 376, 138, 139, 784, 788, 143, 142, 388, 377, 378, 379, 392, 393, 394, 156, 389, 390, 391, 380, 381, 382, 383, 384, 395, 792, 505, 141, 506, 507, 508, 509, 510, 511, 512, 513, 514, 519, 520, 521, 320, 515, 516, 517, 522, 518, 649, 145, 146, 315, 317, 318, 316, 319, 780, 150, 151, 1082, 1083, 1084, 1085, 1086, 1087, 1088, 1089, 1090, 1091, 1092, 1093, 1094, 1095, 1096, 1097, 1098, 1099, 1100, 1101, 1102, 1103, 1104, 1105, 1106, 1107, 1108, 1109, 1110, 1111, 1112, 1113, 1114, 1115, 1116, 1117] rfl (by decide +kernel)
set_option maxHeartbeats 4000000 in
set_option maxRecDepth 100000 in
theorem lc_18 {p : Program} {l : Launch} {e : Env} {s : State} {m : MethodId} {below : List Frame} {meth : Method} {c : Code} {cells slots : Nat} {Q : State → Prop} {b h0 L : Nat} {xs : Nat → Int32} {yi : Int32} {D : va_G} {cI cL cC : ClassId} {tx tm : Nat → Nat} {H : Heap} {locs : List Loc} {ls : Array Slot} {gC : Int32} {gE : Int32} {G : Nat} {gW : Nat → Int32} {gA : Nat → Int32} {gT : Nat → Int32} {gI : Int32} {gS : Int32} {gM : Int32} {K : Nat → Int32} {F : Nat → Int32} {S : Nat → Int32} {N : Nat → Int32} {gH : Int} {gJ : Int} {ge : Int32} {gk : Int32} {gf : Int32} {gs : Int32} {gg : Int32} {gr : Int32} {RN : Nat → Int32} (hx : p.tables.exec = Jvm.exec) (hb : c.code = cL_law) (hml : c.maxLocals = 4) (hown : s.vm.findClass RL = some m.cls) (hts : ∀ w ∈ wsL_law, w.before #[Value.ref b] s = true) (hE : EV D cI cL cC s) (hbl : b < h0) (hG : tG D (gF cI cL cC gC gE G gW gA) tx H) (hM : tG D (mF cI cL cC gC gE gW gA gT gI gS gM K F S N gH gJ ge gk gf gs gg gr RN) tm H) (kt : tx h0 = 1) (kt2 : tm (h0 + 92) = 40) (hx0 : ∀ q : Nat, q < h0 → tx q = 0) (hm00 : ∀ q : Nat, q < h0 → tm q = 0) (dj : ∀ q : Nat, tm q ≠ 0 → tx q = 0) (dj2 : ∀ q : Nat, tx q ≠ 0 → tm q = 0) (uq_gC : ∀ b c : Nat, tx b = 2 → tx c = 2 → b = c) (uq_gE : ∀ b c : Nat, tx b = 6 → tx c = 6 → b = c) (uq_gW : ∀ b c : Nat, tx b = 29 → tx c = 29 → b = c) (uq_gA : ∀ b c : Nat, tx b = 31 → tx c = 31 → b = c) (uqm : ∀ b c : Nat, tm b = tm c → tm b ≠ 0 → b = c) (hC0 : 0 ≤ gC.toInt) (hC4 : gC.toInt ≤ 400) (hI0 : 0 ≤ gI.toInt) (hI4 : gI.toInt ≤ 40) (hH0 : 0 ≤ gH) (hH9 : gH ≤ 96) (hm0 : 0 ≤ gM.toInt) (hm3 : gM.toInt ≤ 3) (hO0 : okM K F S N 0 gI.toInt) (hW : swM gS K F S N gI.toInt) (hGb : (G : Int) ≤ 3072 * yi.toInt) (hy0 : 0 ≤ yi.toInt) (hy8 : yi.toInt + 8 ≤ (L : Int)) (hL : L ≤ 4096) (hS : cF h0 s.heap H locs) (hX : va_X b L xs s H) (hl : lv_has ls 4 [(3, .int yi), (2, .ref (h0 + 92)), (1, .ref h0), (0, .ref b)]) (hcl : cells ≤ 600000) (hsl : slots ≤ 7302250) (kx : ∀ (H1 : Heap) (locs1 : List Loc) (gC' : Int32) (gE' : Int32) (G' : Nat) (gW' : Nat → Int32) (gA' : Nat → Int32) (gT' : Nat → Int32) (gI' : Int32) (gS' : Int32) (gM' : Int32) (K' : Nat → Int32) (F' : Nat → Int32) (S' : Nat → Int32) (N' : Nat → Int32) (gH' : Int) (gJ' : Int) (ge' : Int32) (gk' : Int32) (gf' : Int32) (gs' : Int32) (gg' : Int32) (gr' : Int32) (RN' : Nat → Int32), tG D (gF cI cL cC gC' gE' G' gW' gA') tx H1 → tG D (mF cI cL cC gC' gE' gW' gA' gT' gI' gS' gM' K' F' S' N' gH' gJ' ge' gk' gf' gs' gg' gr' RN') tm H1 → 0 ≤ gC'.toInt → gC'.toInt ≤ 400 → 0 ≤ gI'.toInt → gI'.toInt ≤ 40 → 0 ≤ gH' → gH' ≤ 96 → 0 ≤ gM'.toInt → gM'.toInt ≤ 3 → okM K' F' S' N' 0 gI'.toInt → swM gS' K' F' S' N' gI'.toInt → (G' : Int) ≤ 3072 * yi.toInt + 24576 → cF h0 s.heap H1 locs1 → va_X b L xs s H1 → W p l e room_1 s m #[Value.ref b] below meth c H1 locs1 cells slots Q (F0 m 1409 ls [])) : W p l e room_1 s m #[Value.ref b] below meth c H locs cells slots Q (F0 m 744 ls []) := by
  refine lv_aload_n hx hb dL_law_744 rfl (lv_at hl 2 rfl) ?_
  refine lw_argC hx hb hX hl hy0 hy8 hL 1 (by decide) (by decide) dL_law_745 dL_law_746 dL_law_747 dL_law_748 dL_law_749 ?_
  refine lv_pc (pc2 := 750) rfl ?_
  refine lw_argC hx hb hX hl hy0 hy8 hL 2 (by decide) (by decide) dL_law_750 dL_law_751 dL_law_752 dL_law_753 dL_law_754 ?_
  refine lv_pc (pc2 := 755) rfl ?_
  obtain ⟨_, at_1⟩ := rcv1 hG kt
  refine lw_calli (W.runV (As := [.int (xs (yi.toInt + 1).toNat), .int (xs (yi.toInt + 2).toNat)]) (rest := []) ⟨hx, hb, hml, hown, hts⟩ (s_X9_fit l D tx cI cL cC gC gE G gW gA h0 (xs (yi.toInt + 1).toNat) (xs (yi.toInt + 2).toNat) (by omega) kt) (cwV 2 hts gu_L_X9_fit rfl rfl rfl (by decide +kernel) ⟨Nat.le_of_ble_eq_true rfl, Nat.le_of_ble_eq_true rfl⟩) (tP_V hG hE at_1 rfl) rfl rfl hl.1 rfl (lv_room (Nat.le_of_ble_eq_true rfl)) dL_law_755 ⟨hcl, hsl⟩) hS rfl hx0 (fun r_2 H locs hp_3 hG hS o_4 => ?_)
  replace hX := hX.kept (o_4 b (by rw [hx0 b hbl]; rfl))
  replace hM := tG.keptW hM o_4 (fun q h => by rw [dj q h]; rfl)
  refine lv_pop hx hb dL_law_758 rfl ?_
  refine lv_aload_n hx hb dL_law_759 rfl (lv_at hl 1 rfl) ?_
  refine lw_argC hx hb hX hl hy0 hy8 hL 1 (by decide) (by decide) dL_law_760 dL_law_761 dL_law_762 dL_law_763 dL_law_764 ?_
  refine lv_pc (pc2 := 765) rfl ?_
  refine lv_pc (pc2 := 765) rfl ?_
  refine lw_argC hx hb hX hl hy0 hy8 hL 2 (by decide) (by decide) dL_law_765 dL_law_766 dL_law_767 dL_law_768 dL_law_769 ?_
  refine lv_pc (pc2 := 770) rfl ?_
  obtain ⟨_, at_5⟩ := rcv40 hM kt2
  refine lx_calli (W.runV (As := [.int (xs (yi.toInt + 1).toNat), .int (xs (yi.toInt + 2).toNat)]) (rest := []) ⟨hx, hb, hml, hown, hts⟩ (m_X10_fit l D tm cI cL cC gC gE gW gA gT gI gS gM K F S N gH gJ ge gk gf gs gg gr RN (h0 + 92) (xs (yi.toInt + 1).toNat) (xs (yi.toInt + 2).toNat) uqm hC0 hC4 hI0 hI4 hH0 hH9 hm0 hm3 hO0 hW kt2) (cwV 2 hts gu_L_X10_fit rfl rfl rfl (by decide +kernel) ⟨Nat.le_of_ble_eq_true rfl, Nat.le_of_ble_eq_true rfl⟩) (tP_V hM hE at_5 rfl) rfl rfl hl.1 rfl (lv_room (Nat.le_of_ble_eq_true rfl)) dL_law_770 ⟨hcl, hsl⟩) hS rfl hm00 (fun r_6 zz_15 H locs hp_7 hM hS o_8 => ?_)
  obtain ⟨K_9, F_10, S_11, N_12, gH_13, gJ_14⟩ := zz_15
  replace hX := hX.kept (o_8 b (by rw [hm00 b hbl]; rfl))
  replace hG := tG.keptW hG o_8 (fun q h => by rw [dj2 q h]; rfl)
  replace hM : tG D (mF cI cL cC gC gE gW gA gT gI gS gM K_9 F_10 S_11 N_12 gH_13 gJ_14 ge gk gf gs gg gr RN) tm H := hM
  have hp_7 : 0 ≤ gH_13 ∧ gH_13 ≤ 96 ∧ okM K_9 F_10 S_11 N_12 0 gI.toInt ∧ swM gS K_9 F_10 S_11 N_12 gI.toInt := hp_7
  obtain ⟨p_16, p_17, p_18, p_19⟩ := hp_7
  refine lv_pop hx hb dL_law_773 rfl ?_
  refine lv_goto (tgt := 1409) hx hb dL_law_774 (by decide) ?_
  exact kx H locs _ _ _ _ _ _ _ _ _ _ _ _ _ _ _ _ _ _ _ _ _ _ hG hM hC0 hC4 hI0 hI4 p_16 p_17 hm0 hm3 p_18 p_19 (by omega) hS hX

set_option maxRecDepth 20000 in
theorem gu_L_X9_take : GoodIn wsL_law (wsV RL 100 RX9 yX9_take uX9_take) := goodIn_r _ [807, 808, 809, 2, 810, 23, 798, 799, 800, 2, 340, 341, 342, 801, 47, 703, 704, 705, 46, 715, 716, 717, 706, 707, 708, 709, 710, 711, 712, 713, 110, 714, 718, 21, 20, 719, 720, 721, 19, 727, 728, 729, 36, 344, 345, 346, 34, 43, 744, 745, 746, 42, 28, 749, 442, 443, 27, 750, 446, 447, 751, 450, 451, 752, 753, 754, 722, 66, 723, 724, 725, 726, 67, 68, 69, 70, 71, 730, 106, 740, 741, 742, 107, 731, 685, 686, 732, 733, 734, 739, 271, 272, 743, 352, 353, 354, 243, 244, 217, 355, 245, 247, 248, 246, 249, 687, 688, 226, 227, 735, 682, 736, 737, 464, 738, 108, 109, 683, 273, 274, 169, 275, 170, 347, 87, 356, 357, 80, 88, 359, 79, 89, 90, 91, 92, 93, 86, 348, 349, 350, 358, 81, 351, 250, 251, 252, 253, 747, 100, 748, 444, 76, 448, 77, 452, 454, 455, 456, 453, 458, 459, 460, 489, 490, 491, 457, 461, 471, 223, 479, 480, 481, 483, 484, 485, 466, 467, 468, 472, 473, 469, 475, 476, 477, 462, 463, 465, 470, 224, 482, 486, 487, 488, 474, 478, 492, 493, 494, 495, 496, 755, 759, 632, 633, 756, 757, 758, 101, 634, 637, 628, 629, 99, 98, 636, 635, 630, 343, 24, 39, 35, 31, 360, 1064, 1065, 1066, 1067, 1068, 1069, 1070, 1071, 1072, 1073, 1074, 1075, 1076, 1077, 1078, 1079, 1080, 1081, 1142, 1143, 1144, 1145, 1146, 1122, 1123, 1124, 1125, 1126, 1127, 1130, 1131, 1132, 1133, 1134, 1135, 1136, 1137, 1138, 1139, 1140, 1141, 1128, 1129] rfl (by decide +kernel)
set_option maxRecDepth 20000 in
theorem gu_L_X10_take : GoodIn wsL_law (wsV RL 103 RX10 yX10_take uX10_take) := goodIn_r _ [811, 812, 813, 5, 814, 370, 764, 765, 766, 5, 366, 367, 368, 767, 769, 770, 771, 773, 774, 775, 768, 772, 152, 776, 373, 374, 375, 781, 782, 783, 785, 786, 787, 385, 386, 387, 789, 790, 791, 502, 503, 504, 147, 646, 647, 648, 675, 182, 183, 365, 137, 140, 313, 314, 148, 149, 777, 778, 779, 376, 138, 139, 784, 788, 143, 142, 388, 377, 378, 379, 392, 393, 394, 156, 389, 390, 391, 380, 381, 382, 383, 384, 395, 184, 792, 505, 141, 506, 507, 508, 509, 510, 511, 512, 513, 514, 519, 520, 521, 320, 515, 516, 517, 522, 518, 649, 145, 146, 315, 317, 318, 316, 319, 780, 150, 151, 369, 371, 372, 1082, 1083, 1084, 1085, 1086, 1087, 1088, 1089, 1090, 1091, 1092, 1093, 1094, 1095, 1096, 1097, 1098, 1099, 1100, 1101, 1102, 1103, 1104, 1105, 1106, 1107, 1108, 1109, 1110, 1111, 1112, 1113, 1114, 1115, 1116, 1117] rfl (by decide +kernel)
set_option maxHeartbeats 4000000 in
set_option maxRecDepth 100000 in
theorem lc_19 {p : Program} {l : Launch} {e : Env} {s : State} {m : MethodId} {below : List Frame} {meth : Method} {c : Code} {cells slots : Nat} {Q : State → Prop} {b h0 L : Nat} {xs : Nat → Int32} {yi : Int32} {D : va_G} {cI cL cC : ClassId} {tx tm : Nat → Nat} {H : Heap} {locs : List Loc} {ls : Array Slot} {gC : Int32} {gE : Int32} {G : Nat} {gW : Nat → Int32} {gA : Nat → Int32} {gT : Nat → Int32} {gI : Int32} {gS : Int32} {gM : Int32} {K : Nat → Int32} {F : Nat → Int32} {S : Nat → Int32} {N : Nat → Int32} {gH : Int} {gJ : Int} {ge : Int32} {gk : Int32} {gf : Int32} {gs : Int32} {gg : Int32} {gr : Int32} {RN : Nat → Int32} (hx : p.tables.exec = Jvm.exec) (hb : c.code = cL_law) (hml : c.maxLocals = 4) (hown : s.vm.findClass RL = some m.cls) (hts : ∀ w ∈ wsL_law, w.before #[Value.ref b] s = true) (hE : EV D cI cL cC s) (hbl : b < h0) (hG : tG D (gF cI cL cC gC gE G gW gA) tx H) (hM : tG D (mF cI cL cC gC gE gW gA gT gI gS gM K F S N gH gJ ge gk gf gs gg gr RN) tm H) (kt : tx h0 = 1) (kt2 : tm (h0 + 92) = 40) (hx0 : ∀ q : Nat, q < h0 → tx q = 0) (hm00 : ∀ q : Nat, q < h0 → tm q = 0) (dj : ∀ q : Nat, tm q ≠ 0 → tx q = 0) (dj2 : ∀ q : Nat, tx q ≠ 0 → tm q = 0) (uq_gC : ∀ b c : Nat, tx b = 2 → tx c = 2 → b = c) (uq_gE : ∀ b c : Nat, tx b = 6 → tx c = 6 → b = c) (uq_gW : ∀ b c : Nat, tx b = 29 → tx c = 29 → b = c) (uq_gA : ∀ b c : Nat, tx b = 31 → tx c = 31 → b = c) (uqm : ∀ b c : Nat, tm b = tm c → tm b ≠ 0 → b = c) (hC0 : 0 ≤ gC.toInt) (hC4 : gC.toInt ≤ 400) (hI0 : 0 ≤ gI.toInt) (hI4 : gI.toInt ≤ 40) (hH0 : 0 ≤ gH) (hH9 : gH ≤ 96) (hm0 : 0 ≤ gM.toInt) (hm3 : gM.toInt ≤ 3) (hO0 : okM K F S N 0 gI.toInt) (hW : swM gS K F S N gI.toInt) (hGb : (G : Int) ≤ 3072 * yi.toInt) (hy0 : 0 ≤ yi.toInt) (hy8 : yi.toInt + 8 ≤ (L : Int)) (hL : L ≤ 4096) (hS : cF h0 s.heap H locs) (hX : va_X b L xs s H) (hl : lv_has ls 4 [(3, .int yi), (2, .ref (h0 + 92)), (1, .ref h0), (0, .ref b)]) (hcl : cells ≤ 600000) (hsl : slots ≤ 7302250) (kx : ∀ (H1 : Heap) (locs1 : List Loc) (gC' : Int32) (gE' : Int32) (G' : Nat) (gW' : Nat → Int32) (gA' : Nat → Int32) (gT' : Nat → Int32) (gI' : Int32) (gS' : Int32) (gM' : Int32) (K' : Nat → Int32) (F' : Nat → Int32) (S' : Nat → Int32) (N' : Nat → Int32) (gH' : Int) (gJ' : Int) (ge' : Int32) (gk' : Int32) (gf' : Int32) (gs' : Int32) (gg' : Int32) (gr' : Int32) (RN' : Nat → Int32), tG D (gF cI cL cC gC' gE' G' gW' gA') tx H1 → tG D (mF cI cL cC gC' gE' gW' gA' gT' gI' gS' gM' K' F' S' N' gH' gJ' ge' gk' gf' gs' gg' gr' RN') tm H1 → 0 ≤ gC'.toInt → gC'.toInt ≤ 400 → 0 ≤ gI'.toInt → gI'.toInt ≤ 40 → 0 ≤ gH' → gH' ≤ 96 → 0 ≤ gM'.toInt → gM'.toInt ≤ 3 → okM K' F' S' N' 0 gI'.toInt → swM gS' K' F' S' N' gI'.toInt → (G' : Int) ≤ 3072 * yi.toInt + 24576 → cF h0 s.heap H1 locs1 → va_X b L xs s H1 → W p l e room_1 s m #[Value.ref b] below meth c H1 locs1 cells slots Q (F0 m 1409 ls [])) : W p l e room_1 s m #[Value.ref b] below meth c H locs cells slots Q (F0 m 777 ls []) := by
  refine lv_aload_n hx hb dL_law_777 rfl (lv_at hl 2 rfl) ?_
  refine lw_argC hx hb hX hl hy0 hy8 hL 1 (by decide) (by decide) dL_law_778 dL_law_779 dL_law_780 dL_law_781 dL_law_782 ?_
  refine lv_pc (pc2 := 783) rfl ?_
  obtain ⟨_, at_1⟩ := rcv1 hG kt
  refine lw_calli (W.runV (As := [.int (xs (yi.toInt + 1).toNat)]) (rest := []) ⟨hx, hb, hml, hown, hts⟩ (s_X9_take l D tx cI cL cC gC gE G gW gA h0 (xs (yi.toInt + 1).toNat) (by omega) kt) (cwV 1 hts gu_L_X9_take rfl rfl rfl (by decide +kernel) ⟨Nat.le_of_ble_eq_true rfl, Nat.le_of_ble_eq_true rfl⟩) (tP_V hG hE at_1 rfl) rfl rfl hl.1 rfl (lv_room (Nat.le_of_ble_eq_true rfl)) dL_law_783 ⟨hcl, hsl⟩) hS rfl hx0 (fun r_2 H locs hp_3 hG hS o_4 => ?_)
  replace hX := hX.kept (o_4 b (by rw [hx0 b hbl]; rfl))
  replace hM := tG.keptW hM o_4 (fun q h => by rw [dj q h]; rfl)
  refine lv_pop hx hb dL_law_786 rfl ?_
  refine lv_aload_n hx hb dL_law_787 rfl (lv_at hl 1 rfl) ?_
  refine lw_argC hx hb hX hl hy0 hy8 hL 1 (by decide) (by decide) dL_law_788 dL_law_789 dL_law_790 dL_law_791 dL_law_792 ?_
  refine lv_pc (pc2 := 793) rfl ?_
  obtain ⟨_, at_5⟩ := rcv40 hM kt2
  refine lx_calli (W.runV (As := [.int (xs (yi.toInt + 1).toNat)]) (rest := []) ⟨hx, hb, hml, hown, hts⟩ (m_X10_take l D tm cI cL cC gC gE gW gA gT gI gS gM K F S N gH gJ ge gk gf gs gg gr RN (h0 + 92) (xs (yi.toInt + 1).toNat) uqm hC0 hC4 hI0 hI4 hH0 hH9 hm0 hm3 hO0 hW kt2) (cwV 1 hts gu_L_X10_take rfl rfl rfl (by decide +kernel) ⟨Nat.le_of_ble_eq_true rfl, Nat.le_of_ble_eq_true rfl⟩) (tP_V hM hE at_5 rfl) rfl rfl hl.1 rfl (lv_room (Nat.le_of_ble_eq_true rfl)) dL_law_793 ⟨hcl, hsl⟩) hS rfl hm00 (fun r_6 zz_17 H locs hp_7 hM hS o_8 => ?_)
  obtain ⟨K_9, F_10, S_11, N_12, gH_13, gJ_14, gS_15, gM_16⟩ := zz_17
  replace hX := hX.kept (o_8 b (by rw [hm00 b hbl]; rfl))
  replace hG := tG.keptW hG o_8 (fun q h => by rw [dj2 q h]; rfl)
  replace hM : tG D (mF cI cL cC gC gE gW gA gT gI gS_15 gM_16 K_9 F_10 S_11 N_12 gH_13 gJ_14 ge gk gf gs gg gr RN) tm H := hM
  have hp_7 : 0 ≤ gH_13 ∧ gH_13 ≤ 96 ∧ 0 ≤ gM_16.toInt ∧ gM_16.toInt ≤ 3 ∧ okM K_9 F_10 S_11 N_12 0 gI.toInt ∧ swM gS_15 K_9 F_10 S_11 N_12 gI.toInt := hp_7
  obtain ⟨p_18, p_19, p_20, p_21, p_22, p_23⟩ := hp_7
  refine lv_pc (pc2 := 796) rfl ?_
  refine lv_pop hx hb dL_law_796 rfl ?_
  refine lv_goto (tgt := 1409) hx hb dL_law_797 (by decide) ?_
  exact kx H locs _ _ _ _ _ _ _ _ _ _ _ _ _ _ _ _ _ _ _ _ _ _ hG hM hC0 hC4 hI0 hI4 p_18 p_19 p_20 p_21 p_22 p_23 (by omega) hS hX

set_option maxRecDepth 20000 in
theorem gu_L_X9_weigh : GoodIn wsL_law (wsV RL 104 RX9 yX9_weigh uX9_weigh) := goodIn_r _ [815, 816, 817, 2, 818, 820, 821, 2, 168, 169, 51, 819, 822, 170, 1064, 1065, 1066, 1067, 1068, 1069, 1070, 1071, 1072, 1073, 1074, 1075, 1076, 1077, 1078, 1079, 1080, 1081, 1147, 1148, 1149] rfl (by decide +kernel)
set_option maxRecDepth 20000 in
theorem gu_L_X10_weigh : GoodIn wsL_law (wsV RL 107 RX10 yX10_weigh uX10_weigh) := goodIn_r _ [823, 824, 825, 5, 826, 575, 182, 183, 5, 320, 153, 184, 1082, 1083, 1084, 1085, 1086, 1087, 1088, 1089, 1090, 1091, 1092, 1093, 1094, 1095, 1096, 1097, 1098, 1099, 1100, 1101, 1102, 1103, 1104, 1105, 1106, 1107, 1108, 1109, 1110, 1111, 1112, 1113, 1114, 1115, 1116, 1117] rfl (by decide +kernel)
set_option maxHeartbeats 4000000 in
set_option maxRecDepth 100000 in
theorem lc_20 {p : Program} {l : Launch} {e : Env} {s : State} {m : MethodId} {below : List Frame} {meth : Method} {c : Code} {cells slots : Nat} {Q : State → Prop} {b h0 L : Nat} {xs : Nat → Int32} {yi : Int32} {D : va_G} {cI cL cC : ClassId} {tx tm : Nat → Nat} {H : Heap} {locs : List Loc} {ls : Array Slot} {gC : Int32} {gE : Int32} {G : Nat} {gW : Nat → Int32} {gA : Nat → Int32} {gT : Nat → Int32} {gI : Int32} {gS : Int32} {gM : Int32} {K : Nat → Int32} {F : Nat → Int32} {S : Nat → Int32} {N : Nat → Int32} {gH : Int} {gJ : Int} {ge : Int32} {gk : Int32} {gf : Int32} {gs : Int32} {gg : Int32} {gr : Int32} {RN : Nat → Int32} (hx : p.tables.exec = Jvm.exec) (hb : c.code = cL_law) (hml : c.maxLocals = 4) (hown : s.vm.findClass RL = some m.cls) (hts : ∀ w ∈ wsL_law, w.before #[Value.ref b] s = true) (hE : EV D cI cL cC s) (hbl : b < h0) (hG : tG D (gF cI cL cC gC gE G gW gA) tx H) (hM : tG D (mF cI cL cC gC gE gW gA gT gI gS gM K F S N gH gJ ge gk gf gs gg gr RN) tm H) (kt : tx h0 = 1) (kt2 : tm (h0 + 92) = 40) (hx0 : ∀ q : Nat, q < h0 → tx q = 0) (hm00 : ∀ q : Nat, q < h0 → tm q = 0) (dj : ∀ q : Nat, tm q ≠ 0 → tx q = 0) (dj2 : ∀ q : Nat, tx q ≠ 0 → tm q = 0) (uq_gC : ∀ b c : Nat, tx b = 2 → tx c = 2 → b = c) (uq_gE : ∀ b c : Nat, tx b = 6 → tx c = 6 → b = c) (uq_gW : ∀ b c : Nat, tx b = 29 → tx c = 29 → b = c) (uq_gA : ∀ b c : Nat, tx b = 31 → tx c = 31 → b = c) (uqm : ∀ b c : Nat, tm b = tm c → tm b ≠ 0 → b = c) (hC0 : 0 ≤ gC.toInt) (hC4 : gC.toInt ≤ 400) (hI0 : 0 ≤ gI.toInt) (hI4 : gI.toInt ≤ 40) (hH0 : 0 ≤ gH) (hH9 : gH ≤ 96) (hm0 : 0 ≤ gM.toInt) (hm3 : gM.toInt ≤ 3) (hO0 : okM K F S N 0 gI.toInt) (hW : swM gS K F S N gI.toInt) (hGb : (G : Int) ≤ 3072 * yi.toInt) (hy0 : 0 ≤ yi.toInt) (hy8 : yi.toInt + 8 ≤ (L : Int)) (hL : L ≤ 4096) (hS : cF h0 s.heap H locs) (hX : va_X b L xs s H) (hl : lv_has ls 4 [(3, .int yi), (2, .ref (h0 + 92)), (1, .ref h0), (0, .ref b)]) (hcl : cells ≤ 600000) (hsl : slots ≤ 7302250) (kx : ∀ (H1 : Heap) (locs1 : List Loc) (gC' : Int32) (gE' : Int32) (G' : Nat) (gW' : Nat → Int32) (gA' : Nat → Int32) (gT' : Nat → Int32) (gI' : Int32) (gS' : Int32) (gM' : Int32) (K' : Nat → Int32) (F' : Nat → Int32) (S' : Nat → Int32) (N' : Nat → Int32) (gH' : Int) (gJ' : Int) (ge' : Int32) (gk' : Int32) (gf' : Int32) (gs' : Int32) (gg' : Int32) (gr' : Int32) (RN' : Nat → Int32), tG D (gF cI cL cC gC' gE' G' gW' gA') tx H1 → tG D (mF cI cL cC gC' gE' gW' gA' gT' gI' gS' gM' K' F' S' N' gH' gJ' ge' gk' gf' gs' gg' gr' RN') tm H1 → 0 ≤ gC'.toInt → gC'.toInt ≤ 400 → 0 ≤ gI'.toInt → gI'.toInt ≤ 40 → 0 ≤ gH' → gH' ≤ 96 → 0 ≤ gM'.toInt → gM'.toInt ≤ 3 → okM K' F' S' N' 0 gI'.toInt → swM gS' K' F' S' N' gI'.toInt → (G' : Int) ≤ 3072 * yi.toInt + 24576 → cF h0 s.heap H1 locs1 → va_X b L xs s H1 → W p l e room_1 s m #[Value.ref b] below meth c H1 locs1 cells slots Q (F0 m 1409 ls [])) : W p l e room_1 s m #[Value.ref b] below meth c H locs cells slots Q (F0 m 800 ls []) := by
  refine lv_aload_n hx hb dL_law_800 rfl (lv_at hl 2 rfl) ?_
  refine lw_argC hx hb hX hl hy0 hy8 hL 1 (by decide) (by decide) dL_law_801 dL_law_802 dL_law_803 dL_law_804 dL_law_805 ?_
  refine lv_pc (pc2 := 806) rfl ?_
  refine lw_argC hx hb hX hl hy0 hy8 hL 2 (by decide) (by decide) dL_law_806 dL_law_807 dL_law_808 dL_law_809 dL_law_810 ?_
  refine lv_pc (pc2 := 811) rfl ?_
  obtain ⟨_, at_1⟩ := rcv1 hG kt
  refine lw_calli (W.runV (As := [.int (xs (yi.toInt + 1).toNat), .int (xs (yi.toInt + 2).toNat)]) (rest := []) ⟨hx, hb, hml, hown, hts⟩ (s_X9_weigh l D tx cI cL cC gC gE G gW gA h0 (xs (yi.toInt + 1).toNat) (xs (yi.toInt + 2).toNat) uq_gW kt) (cwV 2 hts gu_L_X9_weigh rfl rfl rfl (by decide +kernel) ⟨Nat.le_of_ble_eq_true rfl, Nat.le_of_ble_eq_true rfl⟩) (tP_V hG hE at_1 rfl) rfl rfl hl.1 rfl (lv_room (Nat.le_of_ble_eq_true rfl)) dL_law_811 ⟨hcl, hsl⟩) hS rfl hx0 (fun r_2 H locs hp_3 hG hS o_4 => ?_)
  replace hX := hX.kept (o_4 b (by rw [hx0 b hbl]; rfl))
  replace hM := tG.keptW hM o_4 (fun q h => by rw [dj q h]; rfl)
  refine lv_pop hx hb dL_law_814 rfl ?_
  refine lv_aload_n hx hb dL_law_815 rfl (lv_at hl 1 rfl) ?_
  refine lw_argC hx hb hX hl hy0 hy8 hL 1 (by decide) (by decide) dL_law_816 dL_law_817 dL_law_818 dL_law_819 dL_law_820 ?_
  refine lv_pc (pc2 := 821) rfl ?_
  refine lv_pc (pc2 := 821) rfl ?_
  refine lw_argC hx hb hX hl hy0 hy8 hL 2 (by decide) (by decide) dL_law_821 dL_law_822 dL_law_823 dL_law_824 dL_law_825 ?_
  refine lv_pc (pc2 := 826) rfl ?_
  obtain ⟨_, at_5⟩ := rcv40 hM kt2
  refine lx_calli (W.runV (As := [.int (xs (yi.toInt + 1).toNat), .int (xs (yi.toInt + 2).toNat)]) (rest := []) ⟨hx, hb, hml, hown, hts⟩ (m_X10_weigh l D tm cI cL cC gC gE gW gA gT gI gS gM K F S N gH gJ ge gk gf gs gg gr RN (h0 + 92) (xs (yi.toInt + 1).toNat) (xs (yi.toInt + 2).toNat) uqm hC0 hC4 hI0 hI4 hH0 hH9 hm0 hm3 hO0 hW kt2) (cwV 2 hts gu_L_X10_weigh rfl rfl rfl (by decide +kernel) ⟨Nat.le_of_ble_eq_true rfl, Nat.le_of_ble_eq_true rfl⟩) (tP_V hM hE at_5 rfl) rfl rfl hl.1 rfl (lv_room (Nat.le_of_ble_eq_true rfl)) dL_law_826 ⟨hcl, hsl⟩) hS rfl hm00 (fun r_6 gW_9 H locs hp_7 hM hS o_8 => ?_)
  replace hX := hX.kept (o_8 b (by rw [hm00 b hbl]; rfl))
  replace hG := tG.keptW hG o_8 (fun q h => by rw [dj2 q h]; rfl)
  replace hM : tG D (mF cI cL cC gC gE gW_9 gA gT gI gS gM K F S N gH gJ ge gk gf gs gg gr RN) tm H := hM
  have hp_7 : r_6 = awe gW (xs (yi.toInt + 1).toNat) (xs (yi.toInt + 2).toNat) ∧ gW_9 = nwe gW (xs (yi.toInt + 1).toNat) (xs (yi.toInt + 2).toNat) := hp_7
  obtain ⟨p_11, p_12⟩ := hp_7
  refine lv_pop hx hb dL_law_829 rfl ?_
  refine lv_goto (tgt := 1409) hx hb dL_law_830 (by decide) ?_
  subst p_12
  exact kx H locs _ _ _ _ _ _ _ _ _ _ _ _ _ _ _ _ _ _ _ _ _ _ hG hM hC0 hC4 hI0 hI4 hH0 hH9 hm0 hm3 hO0 hW (by omega) hS hX
