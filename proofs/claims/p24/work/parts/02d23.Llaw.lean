theorem dL_law_684 : decode cL_law 684 = .ok (.if_icmp .ne 7, 3) := by decide +kernel
theorem dL_law_687 : decode cL_law 687 = .ok (.iconst (-1), 1) := by decide +kernel
theorem dL_law_688 : decode cL_law 688 = .ok (.goto 23, 3) := by decide +kernel
theorem dL_law_691 : decode cL_law 691 = .ok (.iload 9, 2) := by decide +kernel
theorem dL_law_693 : decode cL_law 693 = .ok (.bipush 16, 2) := by decide +kernel
theorem dL_law_695 : decode cL_law 695 = .ok (.idiv, 1) := by decide +kernel
theorem dL_law_696 : decode cL_law 696 = .ok (.iload 9, 2) := by decide +kernel
theorem dL_law_698 : decode cL_law 698 = .ok (.iconst 3, 1) := by decide +kernel
theorem dL_law_699 : decode cL_law 699 = .ok (.irem, 1) := by decide +kernel
theorem dL_law_700 : decode cL_law 700 = .ok (.ifCond .ne 8, 3) := by decide +kernel
theorem dL_law_703 : decode cL_law 703 = .ok (.bipush 48, 2) := by decide +kernel
theorem dL_law_705 : decode cL_law 705 = .ok (.goto 5, 3) := by decide +kernel
theorem dL_law_708 : decode cL_law 708 = .ok (.bipush 14, 2) := by decide +kernel
theorem dL_law_710 : decode cL_law 710 = .ok (.irem, 1) := by decide +kernel
theorem dL_law_711 : decode cL_law 711 = .ok (.istore 15, 2) := by decide +kernel
theorem dL_law_713 : decode cL_law 713 = .ok (.aload_n 1, 1) := by decide +kernel
theorem dL_law_714 : decode cL_law 714 = .ok (.iconst 1, 1) := by decide +kernel
theorem dL_law_715 : decode cL_law 715 = .ok (.iload 13, 2) := by decide +kernel
theorem dL_law_717 : decode cL_law 717 = .ok (.iload 15, 2) := by decide +kernel
theorem dL_law_719 : decode cL_law 719 = .ok (.invokestatic 127, 3) := by decide +kernel
theorem dL_law_722 : decode cL_law 722 = .ok (.iload 14, 2) := by decide +kernel
theorem dL_law_724 : decode cL_law 724 = .ok (.if_icmp .ne 18, 3) := by decide +kernel
theorem dL_law_727 : decode cL_law 727 = .ok (.aload_n 1, 1) := by decide +kernel
theorem dL_law_728 : decode cL_law 728 = .ok (.iload 13, 2) := by decide +kernel
theorem dL_law_730 : decode cL_law 730 = .ok (.invokevirtual 40, 3) := by decide +kernel
theorem dL_law_733 : decode cL_law 733 = .ok (.iload 15, 2) := by decide +kernel
theorem dL_law_735 : decode cL_law 735 = .ok (.if_icmp .ne 7, 3) := by decide +kernel
theorem dL_law_738 : decode cL_law 738 = .ok (.iconst 1, 1) := by decide +kernel
theorem dL_law_739 : decode cL_law 739 = .ok (.goto 4, 3) := by decide +kernel
theorem dL_law_742 : decode cL_law 742 = .ok (.iconst 0, 1) := by decide +kernel
theorem dL_law_743 : decode cL_law 743 = .ok (.istore 6, 2) := by decide +kernel
theorem dL_law_745 : decode cL_law 745 = .ok (.iload 6, 2) := by decide +kernel
theorem dL_law_747 : decode cL_law 747 = .ok (.ifCond .eq 82, 3) := by decide +kernel
theorem dL_law_750 : decode cL_law 750 = .ok (.aload_n 1, 1) := by decide +kernel
theorem dL_law_751 : decode cL_law 751 = .ok (.aload_n 2, 1) := by decide +kernel
theorem dL_law_752 : decode cL_law 752 = .ok (.aload_n 3, 1) := by decide +kernel
theorem dL_law_753 : decode cL_law 753 = .ok (.aload 4, 2) := by decide +kernel
theorem dL_law_755 : decode cL_law 755 = .ok (.aload 5, 2) := by decide +kernel
theorem dL_law_757 : decode cL_law 757 = .ok (.invokestatic 144, 3) := by decide +kernel
theorem dL_law_760 : decode cL_law 760 = .ok (.ifCond .eq 69, 3) := by decide +kernel
theorem dL_law_763 : decode cL_law 763 = .ok (.aload 5, 2) := by decide +kernel
theorem dL_law_765 : decode cL_law 765 = .ok (.iconst 0, 1) := by decide +kernel
theorem dL_law_766 : decode cL_law 766 = .ok (.iaload, 1) := by decide +kernel
theorem dL_law_767 : decode cL_law 767 = .ok (.ifCond .eq 28, 3) := by decide +kernel
theorem dL_law_770 : decode cL_law 770 = .ok (.aload_n 1, 1) := by decide +kernel
theorem dL_law_771 : decode cL_law 771 = .ok (.iload 9, 2) := by decide +kernel
theorem dL_law_773 : decode cL_law 773 = .ok (.bipush 7, 2) := by decide +kernel
theorem dL_law_775 : decode cL_law 775 = .ok (.idiv, 1) := by decide +kernel
theorem dL_law_776 : decode cL_law 776 = .ok (.aload 5, 2) := by decide +kernel
theorem dL_law_778 : decode cL_law 778 = .ok (.iconst 0, 1) := by decide +kernel
theorem dL_law_779 : decode cL_law 779 = .ok (.iaload, 1) := by decide +kernel
theorem dL_law_780 : decode cL_law 780 = .ok (.irem, 1) := by decide +kernel
theorem dL_law_781 : decode cL_law 781 = .ok (.iload 9, 2) := by decide +kernel
theorem dL_law_783 : decode cL_law 783 = .ok (.bipush 90, 2) := by decide +kernel
theorem dL_law_785 : decode cL_law 785 = .ok (.idiv, 1) := by decide +kernel
theorem dL_law_786 : decode cL_law 786 = .ok (.bipush 48, 2) := by decide +kernel
theorem dL_law_788 : decode cL_law 788 = .ok (.irem, 1) := by decide +kernel
theorem dL_law_789 : decode cL_law 789 = .ok (.invokestatic 148, 3) := by decide +kernel
theorem dL_law_792 : decode cL_law 792 = .ok (.ifCond .eq 37, 3) := by decide +kernel
theorem dL_law_795 : decode cL_law 795 = .ok (.aload_n 1, 1) := by decide +kernel
theorem dL_law_796 : decode cL_law 796 = .ok (.aload 5, 2) := by decide +kernel
theorem dL_law_798 : decode cL_law 798 = .ok (.invokestatic 152, 3) := by decide +kernel
theorem dL_law_801 : decode cL_law 801 = .ok (.ifCond .eq 28, 3) := by decide +kernel
theorem dL_law_804 : decode cL_law 804 = .ok (.iload 7, 2) := by decide +kernel
theorem dL_law_806 : decode cL_law 806 = .ok (.bipush 20, 2) := by decide +kernel
theorem dL_law_808 : decode cL_law 808 = .ok (.irem, 1) := by decide +kernel
theorem dL_law_809 : decode cL_law 809 = .ok (.ifCond .gt 16, 3) := by decide +kernel
theorem dL_law_812 : decode cL_law 812 = .ok (.aload_n 1, 1) := by decide +kernel
theorem dL_law_813 : decode cL_law 813 = .ok (.aload 5, 2) := by decide +kernel
theorem dL_law_815 : decode cL_law 815 = .ok (.iload 8, 2) := by decide +kernel
theorem dL_law_817 : decode cL_law 817 = .ok (.iconst 3, 1) := by decide +kernel
theorem dL_law_818 : decode cL_law 818 = .ok (.idiv, 1) := by decide +kernel
theorem dL_law_819 : decode cL_law 819 = .ok (.invokestatic 131, 3) := by decide +kernel
theorem dL_law_822 : decode cL_law 822 = .ok (.ifCond .eq 7, 3) := by decide +kernel
theorem dL_law_825 : decode cL_law 825 = .ok (.iconst 1, 1) := by decide +kernel
theorem dL_law_826 : decode cL_law 826 = .ok (.goto 4, 3) := by decide +kernel
theorem dL_law_829 : decode cL_law 829 = .ok (.iconst 0, 1) := by decide +kernel
theorem dL_law_830 : decode cL_law 830 = .ok (.istore 6, 2) := by decide +kernel
theorem dL_law_832 : decode cL_law 832 = .ok (.iinc 7 1, 3) := by decide +kernel
theorem dL_law_835 : decode cL_law 835 = .ok (.goto (-769), 3) := by decide +kernel
theorem dL_law_838 : decode cL_law 838 = .ok (.iload 6, 2) := by decide +kernel
theorem dL_law_840 : decode cL_law 840 = .ok (.ireturn, 1) := by decide +kernel
