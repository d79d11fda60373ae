theorem d_LW_law_654 : decode code 654 = .ok (.iadd, 1) := by decide +kernel
theorem d_LW_law_655 : decode code 655 = .ok (.iaload, 1) := by decide +kernel
theorem d_LW_law_656 : decode code 656 = .ok (.aload_n 0, 1) := by decide +kernel
theorem d_LW_law_657 : decode code 657 = .ok (.iload 4, 2) := by decide +kernel
theorem d_LW_law_659 : decode code 659 = .ok (.iconst 2, 1) := by decide +kernel
theorem d_LW_law_660 : decode code 660 = .ok (.iadd, 1) := by decide +kernel
theorem d_LW_law_661 : decode code 661 = .ok (.iaload, 1) := by decide +kernel
theorem d_LW_law_662 : decode code 662 = .ok (.aload_n 0, 1) := by decide +kernel
theorem d_LW_law_663 : decode code 663 = .ok (.iload 4, 2) := by decide +kernel
theorem d_LW_law_665 : decode code 665 = .ok (.iconst 3, 1) := by decide +kernel
theorem d_LW_law_666 : decode code 666 = .ok (.iadd, 1) := by decide +kernel
theorem d_LW_law_667 : decode code 667 = .ok (.iaload, 1) := by decide +kernel
theorem d_LW_law_668 : decode code 668 = .ok (.aload_n 3, 1) := by decide +kernel
theorem d_LW_law_669 : decode code 669 = .ok (.invokestatic 90, 3) := by decide +kernel
theorem d_LW_law_672 : decode code 672 = .ok (.istore 5, 2) := by decide +kernel
theorem d_LW_law_674 : decode code 674 = .ok (.aload_n 2, 1) := by decide +kernel
theorem d_LW_law_675 : decode code 675 = .ok (.aload_n 0, 1) := by decide +kernel
theorem d_LW_law_676 : decode code 676 = .ok (.iload 4, 2) := by decide +kernel
theorem d_LW_law_678 : decode code 678 = .ok (.iconst 1, 1) := by decide +kernel
theorem d_LW_law_679 : decode code 679 = .ok (.iadd, 1) := by decide +kernel
theorem d_LW_law_680 : decode code 680 = .ok (.iaload, 1) := by decide +kernel
theorem d_LW_law_681 : decode code 681 = .ok (.aload_n 0, 1) := by decide +kernel
theorem d_LW_law_682 : decode code 682 = .ok (.iload 4, 2) := by decide +kernel
theorem d_LW_law_684 : decode code 684 = .ok (.iconst 2, 1) := by decide +kernel
theorem d_LW_law_685 : decode code 685 = .ok (.iadd, 1) := by decide +kernel
theorem d_LW_law_686 : decode code 686 = .ok (.iaload, 1) := by decide +kernel
theorem d_LW_law_687 : decode code 687 = .ok (.aload_n 0, 1) := by decide +kernel
theorem d_LW_law_688 : decode code 688 = .ok (.iload 4, 2) := by decide +kernel
theorem d_LW_law_690 : decode code 690 = .ok (.iconst 3, 1) := by decide +kernel
theorem d_LW_law_691 : decode code 691 = .ok (.iadd, 1) := by decide +kernel
theorem d_LW_law_692 : decode code 692 = .ok (.iaload, 1) := by decide +kernel
theorem d_LW_law_693 : decode code 693 = .ok (.invokevirtual 92, 3) := by decide +kernel
theorem d_LW_law_696 : decode code 696 = .ok (.istore 6, 2) := by decide +kernel
theorem d_LW_law_698 : decode code 698 = .ok (.aload_n 2, 1) := by decide +kernel
theorem d_LW_law_699 : decode code 699 = .ok (.invokevirtual 64, 3) := by decide +kernel
theorem d_LW_law_702 : decode code 702 = .ok (.iload 5, 2) := by decide +kernel
theorem d_LW_law_704 : decode code 704 = .ok (.if_icmp .eq 5, 3) := by decide +kernel
theorem d_LW_law_707 : decode code 707 = .ok (.iconst 0, 1) := by decide +kernel
theorem d_LW_law_708 : decode code 708 = .ok (.ireturn, 1) := by decide +kernel
theorem d_LW_law_709 : decode code 709 = .ok (.iload 5, 2) := by decide +kernel
theorem d_LW_law_711 : decode code 711 = .ok (.ifCond .ne 15, 3) := by decide +kernel
theorem d_LW_law_714 : decode code 714 = .ok (.aload_n 3, 1) := by decide +kernel
theorem d_LW_law_715 : decode code 715 = .ok (.iconst 0, 1) := by decide +kernel
theorem d_LW_law_716 : decode code 716 = .ok (.laload, 1) := by decide +kernel
theorem d_LW_law_717 : decode code 717 = .ok (.iload 6, 2) := by decide +kernel
theorem d_LW_law_719 : decode code 719 = .ok (.i2l, 1) := by decide +kernel
theorem d_LW_law_720 : decode code 720 = .ok (.lcmp, 1) := by decide +kernel
theorem d_LW_law_721 : decode code 721 = .ok (.ifCond .eq 5, 3) := by decide +kernel
theorem d_LW_law_724 : decode code 724 = .ok (.iconst 0, 1) := by decide +kernel
theorem d_LW_law_725 : decode code 725 = .ok (.ireturn, 1) := by decide +kernel
theorem d_LW_law_726 : decode code 726 = .ok (.goto 127, 3) := by decide +kernel
theorem d_LW_law_729 : decode code 729 = .ok (.aload_n 1, 1) := by decide +kernel
theorem d_LW_law_730 : decode code 730 = .ok (.aload_n 0, 1) := by decide +kernel
theorem d_LW_law_731 : decode code 731 = .ok (.iload 4, 2) := by decide +kernel
theorem d_LW_law_733 : decode code 733 = .ok (.iconst 1, 1) := by decide +kernel
theorem d_LW_law_734 : decode code 734 = .ok (.iadd, 1) := by decide +kernel
theorem d_LW_law_735 : decode code 735 = .ok (.iaload, 1) := by decide +kernel
theorem d_LW_law_736 : decode code 736 = .ok (.aload_n 3, 1) := by decide +kernel
theorem d_LW_law_737 : decode code 737 = .ok (.invokestatic 93, 3) := by decide +kernel
theorem d_LW_law_740 : decode code 740 = .ok (.istore 5, 2) := by decide +kernel
theorem d_LW_law_742 : decode code 742 = .ok (.aload_n 2, 1) := by decide +kernel
theorem d_LW_law_743 : decode code 743 = .ok (.aload_n 0, 1) := by decide +kernel
theorem d_LW_law_744 : decode code 744 = .ok (.iload 4, 2) := by decide +kernel
theorem d_LW_law_746 : decode code 746 = .ok (.iconst 1, 1) := by decide +kernel
theorem d_LW_law_747 : decode code 747 = .ok (.iadd, 1) := by decide +kernel
theorem d_LW_law_748 : decode code 748 = .ok (.iaload, 1) := by decide +kernel
theorem d_LW_law_749 : decode code 749 = .ok (.invokevirtual 96, 3) := by decide +kernel
theorem d_LW_law_752 : decode code 752 = .ok (.istore 6, 2) := by decide +kernel
theorem d_LW_law_754 : decode code 754 = .ok (.aload_n 2, 1) := by decide +kernel
theorem d_LW_law_755 : decode code 755 = .ok (.invokevirtual 64, 3) := by decide +kernel
theorem d_LW_law_758 : decode code 758 = .ok (.iload 5, 2) := by decide +kernel
theorem d_LW_law_760 : decode code 760 = .ok (.if_icmp .eq 5, 3) := by decide +kernel
theorem d_LW_law_763 : decode code 763 = .ok (.iconst 0, 1) := by decide +kernel
theorem d_LW_law_764 : decode code 764 = .ok (.ireturn, 1) := by decide +kernel
theorem d_LW_law_765 : decode code 765 = .ok (.iload 5, 2) := by decide +kernel
theorem d_LW_law_767 : decode code 767 = .ok (.ifCond .ne 15, 3) := by decide +kernel
theorem d_LW_law_770 : decode code 770 = .ok (.aload_n 3, 1) := by decide +kernel
theorem d_LW_law_771 : decode code 771 = .ok (.iconst 0, 1) := by decide +kernel
theorem d_LW_law_772 : decode code 772 = .ok (.laload, 1) := by decide +kernel
theorem d_LW_law_773 : decode code 773 = .ok (.iload 6, 2) := by decide +kernel
theorem d_LW_law_775 : decode code 775 = .ok (.i2l, 1) := by decide +kernel
theorem d_LW_law_776 : decode code 776 = .ok (.lcmp, 1) := by decide +kernel
theorem d_LW_law_777 : decode code 777 = .ok (.ifCond .eq 5, 3) := by decide +kernel
theorem d_LW_law_780 : decode code 780 = .ok (.iconst 0, 1) := by decide +kernel
theorem d_LW_law_781 : decode code 781 = .ok (.ireturn, 1) := by decide +kernel
theorem d_LW_law_782 : decode code 782 = .ok (.goto 71, 3) := by decide +kernel
theorem d_LW_law_785 : decode code 785 = .ok (.aload_n 1, 1) := by decide +kernel
theorem d_LW_law_786 : decode code 786 = .ok (.aload_n 0, 1) := by decide +kernel
theorem d_LW_law_787 : decode code 787 = .ok (.iload 4, 2) := by decide +kernel
theorem d_LW_law_789 : decode code 789 = .ok (.iconst 1, 1) := by decide +kernel
theorem d_LW_law_790 : decode code 790 = .ok (.iadd, 1) := by decide +kernel
theorem d_LW_law_791 : decode code 791 = .ok (.iaload, 1) := by decide +kernel
theorem d_LW_law_792 : decode code 792 = .ok (.aload_n 3, 1) := by decide +kernel
theorem d_LW_law_793 : decode code 793 = .ok (.invokestatic 97, 3) := by decide +kernel
theorem d_LW_law_796 : decode code 796 = .ok (.istore 5, 2) := by decide +kernel
theorem d_LW_law_798 : decode code 798 = .ok (.aload_n 2, 1) := by decide +kernel
theorem d_LW_law_799 : decode code 799 = .ok (.aload_n 0, 1) := by decide +kernel
theorem d_LW_law_800 : decode code 800 = .ok (.iload 4, 2) := by decide +kernel
theorem d_LW_law_802 : decode code 802 = .ok (.iconst 1, 1) := by decide +kernel
theorem d_LW_law_803 : decode code 803 = .ok (.iadd, 1) := by decide +kernel
theorem d_LW_law_804 : decode code 804 = .ok (.iaload, 1) := by decide +kernel
theorem d_LW_law_805 : decode code 805 = .ok (.invokevirtual 99, 3) := by decide +kernel
theorem d_LW_law_808 : decode code 808 = .ok (.lstore 6, 2) := by decide +kernel
theorem d_LW_law_810 : decode code 810 = .ok (.aload_n 2, 1) := by decide +kernel
theorem d_LW_law_811 : decode code 811 = .ok (.invokevirtual 64, 3) := by decide +kernel
theorem d_LW_law_814 : decode code 814 = .ok (.iload 5, 2) := by decide +kernel
theorem d_LW_law_816 : decode code 816 = .ok (.if_icmp .eq 5, 3) := by decide +kernel
theorem d_LW_law_819 : decode code 819 = .ok (.iconst 0, 1) := by decide +kernel
theorem d_LW_law_820 : decode code 820 = .ok (.ireturn, 1) := by decide +kernel
theorem d_LW_law_821 : decode code 821 = .ok (.iload 5, 2) := by decide +kernel
theorem d_LW_law_823 : decode code 823 = .ok (.ifCond .ne 14, 3) := by decide +kernel
theorem d_LW_law_826 : decode code 826 = .ok (.aload_n 3, 1) := by decide +kernel
theorem d_LW_law_827 : decode code 827 = .ok (.iconst 0, 1) := by decide +kernel
theorem d_LW_law_828 : decode code 828 = .ok (.laload, 1) := by decide +kernel
theorem d_LW_law_829 : decode code 829 = .ok (.lload 6, 2) := by decide +kernel
theorem d_LW_law_831 : decode code 831 = .ok (.lcmp, 1) := by decide +kernel
theorem d_LW_law_832 : decode code 832 = .ok (.ifCond .eq 5, 3) := by decide +kernel
theorem d_LW_law_835 : decode code 835 = .ok (.iconst 0, 1) := by decide +kernel
theorem d_LW_law_836 : decode code 836 = .ok (.ireturn, 1) := by decide +kernel
theorem d_LW_law_837 : decode code 837 = .ok (.goto 16, 3) := by decide +kernel
theorem d_LW_law_840 : decode code 840 = .ok (.aload_n 1, 1) := by decide +kernel
theorem d_LW_law_841 : decode code 841 = .ok (.invokevirtual 100, 3) := by decide +kernel
theorem d_LW_law_844 : decode code 844 = .ok (.aload_n 2, 1) := by decide +kernel
theorem d_LW_law_845 : decode code 845 = .ok (.invokevirtual 103, 3) := by decide +kernel
theorem d_LW_law_848 : decode code 848 = .ok (.if_icmp .eq 5, 3) := by decide +kernel
theorem d_LW_law_851 : decode code 851 = .ok (.iconst 0, 1) := by decide +kernel
theorem d_LW_law_852 : decode code 852 = .ok (.ireturn, 1) := by decide +kernel
theorem d_LW_law_853 : decode code 853 = .ok (.iinc 4 5, 3) := by decide +kernel
theorem d_LW_law_856 : decode code 856 = .ok (.goto (-803), 3) := by decide +kernel
theorem d_LW_law_859 : decode code 859 = .ok (.iconst 1, 1) := by decide +kernel
theorem d_LW_law_860 : decode code 860 = .ok (.ireturn, 1) := by decide +kernel
