theorem dK_629 : decode code 629 = .ok (.iload 5, 2) := by decide +kernel
theorem dK_631 : decode code 631 = .ok (.ifCond .ne 15, 3) := by decide +kernel
theorem dK_634 : decode code 634 = .ok (.aload_n 3, 1) := by decide +kernel
theorem dK_635 : decode code 635 = .ok (.iconst 0, 1) := by decide +kernel
theorem dK_636 : decode code 636 = .ok (.laload, 1) := by decide +kernel
theorem dK_637 : decode code 637 = .ok (.iload 6, 2) := by decide +kernel
theorem dK_639 : decode code 639 = .ok (.i2l, 1) := by decide +kernel
theorem dK_640 : decode code 640 = .ok (.lcmp, 1) := by decide +kernel
theorem dK_641 : decode code 641 = .ok (.ifCond .eq 5, 3) := by decide +kernel
theorem dK_644 : decode code 644 = .ok (.iconst 0, 1) := by decide +kernel
theorem dK_645 : decode code 645 = .ok (.ireturn, 1) := by decide +kernel
theorem dK_646 : decode code 646 = .ok (.goto 712, 3) := by decide +kernel
theorem dK_649 : decode code 649 = .ok (.aload_n 1, 1) := by decide +kernel
theorem dK_650 : decode code 650 = .ok (.aload_n 0, 1) := by decide +kernel
theorem dK_651 : decode code 651 = .ok (.iload 4, 2) := by decide +kernel
theorem dK_653 : decode code 653 = .ok (.iconst 1, 1) := by decide +kernel
theorem dK_654 : decode code 654 = .ok (.iadd, 1) := by decide +kernel
theorem dK_655 : decode code 655 = .ok (.iaload, 1) := by decide +kernel
theorem dK_656 : decode code 656 = .ok (.aload_n 3, 1) := by decide +kernel
theorem dK_657 : decode code 657 = .ok (.invokestatic 113, 3) := by decide +kernel
theorem dK_660 : decode code 660 = .ok (.istore 5, 2) := by decide +kernel
theorem dK_662 : decode code 662 = .ok (.aload_n 2, 1) := by decide +kernel
theorem dK_663 : decode code 663 = .ok (.aload_n 0, 1) := by decide +kernel
theorem dK_664 : decode code 664 = .ok (.iload 4, 2) := by decide +kernel
theorem dK_666 : decode code 666 = .ok (.iconst 1, 1) := by decide +kernel
theorem dK_667 : decode code 667 = .ok (.iadd, 1) := by decide +kernel
theorem dK_668 : decode code 668 = .ok (.iaload, 1) := by decide +kernel
theorem dK_669 : decode code 669 = .ok (.invokevirtual 115, 3) := by decide +kernel
theorem dK_672 : decode code 672 = .ok (.istore 6, 2) := by decide +kernel
theorem dK_674 : decode code 674 = .ok (.aload_n 2, 1) := by decide +kernel
theorem dK_675 : decode code 675 = .ok (.invokevirtual 90, 3) := by decide +kernel
theorem dK_678 : decode code 678 = .ok (.iload 5, 2) := by decide +kernel
theorem dK_680 : decode code 680 = .ok (.if_icmp .eq 5, 3) := by decide +kernel
theorem dK_683 : decode code 683 = .ok (.iconst 0, 1) := by decide +kernel
theorem dK_684 : decode code 684 = .ok (.ireturn, 1) := by decide +kernel
theorem dK_685 : decode code 685 = .ok (.iload 5, 2) := by decide +kernel
theorem dK_687 : decode code 687 = .ok (.ifCond .ne 22, 3) := by decide +kernel
theorem dK_690 : decode code 690 = .ok (.aload_n 3, 1) := by decide +kernel
theorem dK_691 : decode code 691 = .ok (.iconst 0, 1) := by decide +kernel
theorem dK_692 : decode code 692 = .ok (.laload, 1) := by decide +kernel
theorem dK_693 : decode code 693 = .ok (.iload 6, 2) := by decide +kernel
theorem dK_695 : decode code 695 = .ok (.ifCond .eq 7, 3) := by decide +kernel
theorem dK_698 : decode code 698 = .ok (.lconst 1, 1) := by decide +kernel
theorem dK_699 : decode code 699 = .ok (.goto 4, 3) := by decide +kernel
theorem dK_702 : decode code 702 = .ok (.lconst 0, 1) := by decide +kernel
theorem dK_703 : decode code 703 = .ok (.lcmp, 1) := by decide +kernel
theorem dK_704 : decode code 704 = .ok (.ifCond .eq 5, 3) := by decide +kernel
theorem dK_707 : decode code 707 = .ok (.iconst 0, 1) := by decide +kernel
theorem dK_708 : decode code 708 = .ok (.ireturn, 1) := by decide +kernel
theorem dK_709 : decode code 709 = .ok (.goto 649, 3) := by decide +kernel
theorem dK_712 : decode code 712 = .ok (.aload_n 1, 1) := by decide +kernel
theorem dK_713 : decode code 713 = .ok (.aload_n 0, 1) := by decide +kernel
theorem dK_714 : decode code 714 = .ok (.iload 4, 2) := by decide +kernel
theorem dK_716 : decode code 716 = .ok (.iconst 1, 1) := by decide +kernel
theorem dK_717 : decode code 717 = .ok (.iadd, 1) := by decide +kernel
theorem dK_718 : decode code 718 = .ok (.iaload, 1) := by decide +kernel
theorem dK_719 : decode code 719 = .ok (.aload_n 0, 1) := by decide +kernel
theorem dK_720 : decode code 720 = .ok (.iload 4, 2) := by decide +kernel
theorem dK_722 : decode code 722 = .ok (.iconst 2, 1) := by decide +kernel
theorem dK_723 : decode code 723 = .ok (.iadd, 1) := by decide +kernel
theorem dK_724 : decode code 724 = .ok (.iaload, 1) := by decide +kernel
theorem dK_725 : decode code 725 = .ok (.aload_n 3, 1) := by decide +kernel
theorem dK_726 : decode code 726 = .ok (.invokestatic 116, 3) := by decide +kernel
theorem dK_729 : decode code 729 = .ok (.istore 5, 2) := by decide +kernel
theorem dK_731 : decode code 731 = .ok (.aload_n 2, 1) := by decide +kernel
theorem dK_732 : decode code 732 = .ok (.aload_n 0, 1) := by decide +kernel
theorem dK_733 : decode code 733 = .ok (.iload 4, 2) := by decide +kernel
theorem dK_735 : decode code 735 = .ok (.iconst 1, 1) := by decide +kernel
theorem dK_736 : decode code 736 = .ok (.iadd, 1) := by decide +kernel
theorem dK_737 : decode code 737 = .ok (.iaload, 1) := by decide +kernel
theorem dK_738 : decode code 738 = .ok (.aload_n 0, 1) := by decide +kernel
theorem dK_739 : decode code 739 = .ok (.iload 4, 2) := by decide +kernel
theorem dK_741 : decode code 741 = .ok (.iconst 2, 1) := by decide +kernel
theorem dK_742 : decode code 742 = .ok (.iadd, 1) := by decide +kernel
theorem dK_743 : decode code 743 = .ok (.iaload, 1) := by decide +kernel
theorem dK_744 : decode code 744 = .ok (.invokevirtual 118, 3) := by decide +kernel
theorem dK_747 : decode code 747 = .ok (.istore 6, 2) := by decide +kernel
theorem dK_749 : decode code 749 = .ok (.aload_n 2, 1) := by decide +kernel
theorem dK_750 : decode code 750 = .ok (.invokevirtual 90, 3) := by decide +kernel
theorem dK_753 : decode code 753 = .ok (.iload 5, 2) := by decide +kernel
theorem dK_755 : decode code 755 = .ok (.if_icmp .eq 5, 3) := by decide +kernel
theorem dK_758 : decode code 758 = .ok (.iconst 0, 1) := by decide +kernel
theorem dK_759 : decode code 759 = .ok (.ireturn, 1) := by decide +kernel
theorem dK_760 : decode code 760 = .ok (.iload 5, 2) := by decide +kernel
theorem dK_762 : decode code 762 = .ok (.ifCond .ne 22, 3) := by decide +kernel
theorem dK_765 : decode code 765 = .ok (.aload_n 3, 1) := by decide +kernel
theorem dK_766 : decode code 766 = .ok (.iconst 0, 1) := by decide +kernel
theorem dK_767 : decode code 767 = .ok (.laload, 1) := by decide +kernel
theorem dK_768 : decode code 768 = .ok (.iload 6, 2) := by decide +kernel
theorem dK_770 : decode code 770 = .ok (.ifCond .eq 7, 3) := by decide +kernel
theorem dK_773 : decode code 773 = .ok (.lconst 1, 1) := by decide +kernel
theorem dK_774 : decode code 774 = .ok (.goto 4, 3) := by decide +kernel
theorem dK_777 : decode code 777 = .ok (.lconst 0, 1) := by decide +kernel
theorem dK_778 : decode code 778 = .ok (.lcmp, 1) := by decide +kernel
theorem dK_779 : decode code 779 = .ok (.ifCond .eq 5, 3) := by decide +kernel
theorem dK_782 : decode code 782 = .ok (.iconst 0, 1) := by decide +kernel
theorem dK_783 : decode code 783 = .ok (.ireturn, 1) := by decide +kernel
theorem dK_784 : decode code 784 = .ok (.goto 574, 3) := by decide +kernel
theorem dK_787 : decode code 787 = .ok (.aload_n 1, 1) := by decide +kernel
theorem dK_788 : decode code 788 = .ok (.invokevirtual 119, 3) := by decide +kernel
theorem dK_791 : decode code 791 = .ok (.aload_n 2, 1) := by decide +kernel
theorem dK_792 : decode code 792 = .ok (.invokevirtual 122, 3) := by decide +kernel
theorem dK_795 : decode code 795 = .ok (.if_icmp .eq 563, 3) := by decide +kernel
theorem dK_798 : decode code 798 = .ok (.iconst 0, 1) := by decide +kernel
theorem dK_799 : decode code 799 = .ok (.ireturn, 1) := by decide +kernel
theorem dK_800 : decode code 800 = .ok (.aload_n 1, 1) := by decide +kernel
theorem dK_801 : decode code 801 = .ok (.aload_n 0, 1) := by decide +kernel
theorem dK_802 : decode code 802 = .ok (.iload 4, 2) := by decide +kernel
theorem dK_804 : decode code 804 = .ok (.iconst 1, 1) := by decide +kernel
theorem dK_805 : decode code 805 = .ok (.iadd, 1) := by decide +kernel
theorem dK_806 : decode code 806 = .ok (.iaload, 1) := by decide +kernel
theorem dK_807 : decode code 807 = .ok (.aload_n 3, 1) := by decide +kernel
theorem dK_808 : decode code 808 = .ok (.invokestatic 123, 3) := by decide +kernel
theorem dK_811 : decode code 811 = .ok (.istore 5, 2) := by decide +kernel
theorem dK_813 : decode code 813 = .ok (.aload_n 2, 1) := by decide +kernel
theorem dK_814 : decode code 814 = .ok (.aload_n 0, 1) := by decide +kernel
theorem dK_815 : decode code 815 = .ok (.iload 4, 2) := by decide +kernel
theorem dK_817 : decode code 817 = .ok (.iconst 1, 1) := by decide +kernel
theorem dK_818 : decode code 818 = .ok (.iadd, 1) := by decide +kernel
theorem dK_819 : decode code 819 = .ok (.iaload, 1) := by decide +kernel
