/-! the law, decoded -/
theorem dl_690 : decode code 690 = .ok (.iaload, 1) := by decide +kernel
theorem dl_691 : decode code 691 = .ok (.invokevirtual 99, 3) := by decide +kernel
theorem dl_694 : decode code 694 = .ok (.if_icmp .eq 136, 3) := by decide +kernel
theorem dl_697 : decode code 697 = .ok (.iconst 0, 1) := by decide +kernel
theorem dl_698 : decode code 698 = .ok (.ireturn, 1) := by decide +kernel
theorem dl_699 : decode code 699 = .ok (.aload_n 1, 1) := by decide +kernel
theorem dl_700 : decode code 700 = .ok (.invokevirtual 100, 3) := by decide +kernel
theorem dl_703 : decode code 703 = .ok (.aload_n 2, 1) := by decide +kernel
theorem dl_704 : decode code 704 = .ok (.invokevirtual 103, 3) := by decide +kernel
theorem dl_707 : decode code 707 = .ok (.if_icmp .eq 123, 3) := by decide +kernel
theorem dl_710 : decode code 710 = .ok (.iconst 0, 1) := by decide +kernel
theorem dl_711 : decode code 711 = .ok (.ireturn, 1) := by decide +kernel
theorem dl_712 : decode code 712 = .ok (.aload_n 1, 1) := by decide +kernel
theorem dl_713 : decode code 713 = .ok (.aload_n 0, 1) := by decide +kernel
theorem dl_714 : decode code 714 = .ok (.iload_n 3, 1) := by decide +kernel
theorem dl_715 : decode code 715 = .ok (.iconst 1, 1) := by decide +kernel
theorem dl_716 : decode code 716 = .ok (.iadd, 1) := by decide +kernel
theorem dl_717 : decode code 717 = .ok (.iaload, 1) := by decide +kernel
theorem dl_718 : decode code 718 = .ok (.invokevirtual 104, 3) := by decide +kernel
theorem dl_721 : decode code 721 = .ok (.aload_n 2, 1) := by decide +kernel
theorem dl_722 : decode code 722 = .ok (.aload_n 0, 1) := by decide +kernel
theorem dl_723 : decode code 723 = .ok (.iload_n 3, 1) := by decide +kernel
theorem dl_724 : decode code 724 = .ok (.iconst 1, 1) := by decide +kernel
theorem dl_725 : decode code 725 = .ok (.iadd, 1) := by decide +kernel
theorem dl_726 : decode code 726 = .ok (.iaload, 1) := by decide +kernel
theorem dl_727 : decode code 727 = .ok (.invokevirtual 107, 3) := by decide +kernel
theorem dl_730 : decode code 730 = .ok (.if_icmp .eq 100, 3) := by decide +kernel
theorem dl_733 : decode code 733 = .ok (.iconst 0, 1) := by decide +kernel
theorem dl_734 : decode code 734 = .ok (.ireturn, 1) := by decide +kernel
theorem dl_735 : decode code 735 = .ok (.aload_n 1, 1) := by decide +kernel
theorem dl_736 : decode code 736 = .ok (.aload_n 0, 1) := by decide +kernel
theorem dl_737 : decode code 737 = .ok (.iload_n 3, 1) := by decide +kernel
theorem dl_738 : decode code 738 = .ok (.iconst 1, 1) := by decide +kernel
theorem dl_739 : decode code 739 = .ok (.iadd, 1) := by decide +kernel
theorem dl_740 : decode code 740 = .ok (.iaload, 1) := by decide +kernel
theorem dl_741 : decode code 741 = .ok (.invokevirtual 108, 3) := by decide +kernel
theorem dl_744 : decode code 744 = .ok (.aload_n 2, 1) := by decide +kernel
theorem dl_745 : decode code 745 = .ok (.aload_n 0, 1) := by decide +kernel
theorem dl_746 : decode code 746 = .ok (.iload_n 3, 1) := by decide +kernel
theorem dl_747 : decode code 747 = .ok (.iconst 1, 1) := by decide +kernel
theorem dl_748 : decode code 748 = .ok (.iadd, 1) := by decide +kernel
theorem dl_749 : decode code 749 = .ok (.iaload, 1) := by decide +kernel
theorem dl_750 : decode code 750 = .ok (.invokevirtual 111, 3) := by decide +kernel
theorem dl_753 : decode code 753 = .ok (.if_icmp .eq 77, 3) := by decide +kernel
theorem dl_756 : decode code 756 = .ok (.iconst 0, 1) := by decide +kernel
theorem dl_757 : decode code 757 = .ok (.ireturn, 1) := by decide +kernel
theorem dl_758 : decode code 758 = .ok (.aload_n 1, 1) := by decide +kernel
theorem dl_759 : decode code 759 = .ok (.aload_n 0, 1) := by decide +kernel
theorem dl_760 : decode code 760 = .ok (.iload_n 3, 1) := by decide +kernel
theorem dl_761 : decode code 761 = .ok (.iconst 1, 1) := by decide +kernel
theorem dl_762 : decode code 762 = .ok (.iadd, 1) := by decide +kernel
theorem dl_763 : decode code 763 = .ok (.iaload, 1) := by decide +kernel
theorem dl_764 : decode code 764 = .ok (.invokevirtual 112, 3) := by decide +kernel
theorem dl_767 : decode code 767 = .ok (.aload_n 2, 1) := by decide +kernel
theorem dl_768 : decode code 768 = .ok (.aload_n 0, 1) := by decide +kernel
theorem dl_769 : decode code 769 = .ok (.iload_n 3, 1) := by decide +kernel
theorem dl_770 : decode code 770 = .ok (.iconst 1, 1) := by decide +kernel
theorem dl_771 : decode code 771 = .ok (.iadd, 1) := by decide +kernel
theorem dl_772 : decode code 772 = .ok (.iaload, 1) := by decide +kernel
theorem dl_773 : decode code 773 = .ok (.invokevirtual 115, 3) := by decide +kernel
theorem dl_776 : decode code 776 = .ok (.if_icmp .eq 54, 3) := by decide +kernel
theorem dl_779 : decode code 779 = .ok (.iconst 0, 1) := by decide +kernel
theorem dl_780 : decode code 780 = .ok (.ireturn, 1) := by decide +kernel
theorem dl_781 : decode code 781 = .ok (.aload_n 1, 1) := by decide +kernel
theorem dl_782 : decode code 782 = .ok (.invokevirtual 116, 3) := by decide +kernel
theorem dl_785 : decode code 785 = .ok (.aload_n 2, 1) := by decide +kernel
theorem dl_786 : decode code 786 = .ok (.invokevirtual 119, 3) := by decide +kernel
theorem dl_789 : decode code 789 = .ok (.if_icmp .eq 41, 3) := by decide +kernel
theorem dl_792 : decode code 792 = .ok (.iconst 0, 1) := by decide +kernel
theorem dl_793 : decode code 793 = .ok (.ireturn, 1) := by decide +kernel
theorem dl_794 : decode code 794 = .ok (.aload_n 1, 1) := by decide +kernel
theorem dl_795 : decode code 795 = .ok (.invokevirtual 120, 3) := by decide +kernel
theorem dl_798 : decode code 798 = .ok (.aload_n 2, 1) := by decide +kernel
theorem dl_799 : decode code 799 = .ok (.invokevirtual 123, 3) := by decide +kernel
theorem dl_802 : decode code 802 = .ok (.if_icmp .eq 28, 3) := by decide +kernel
theorem dl_805 : decode code 805 = .ok (.iconst 0, 1) := by decide +kernel
theorem dl_806 : decode code 806 = .ok (.ireturn, 1) := by decide +kernel
theorem dl_807 : decode code 807 = .ok (.aload_n 1, 1) := by decide +kernel
theorem dl_808 : decode code 808 = .ok (.aload_n 0, 1) := by decide +kernel
theorem dl_809 : decode code 809 = .ok (.iload_n 3, 1) := by decide +kernel
theorem dl_810 : decode code 810 = .ok (.iconst 1, 1) := by decide +kernel
theorem dl_811 : decode code 811 = .ok (.iadd, 1) := by decide +kernel
theorem dl_812 : decode code 812 = .ok (.iaload, 1) := by decide +kernel
theorem dl_813 : decode code 813 = .ok (.invokevirtual 124, 3) := by decide +kernel
theorem dl_816 : decode code 816 = .ok (.aload_n 2, 1) := by decide +kernel
theorem dl_817 : decode code 817 = .ok (.aload_n 0, 1) := by decide +kernel
theorem dl_818 : decode code 818 = .ok (.iload_n 3, 1) := by decide +kernel
theorem dl_819 : decode code 819 = .ok (.iconst 1, 1) := by decide +kernel
theorem dl_820 : decode code 820 = .ok (.iadd, 1) := by decide +kernel
theorem dl_821 : decode code 821 = .ok (.iaload, 1) := by decide +kernel
theorem dl_822 : decode code 822 = .ok (.invokevirtual 127, 3) := by decide +kernel
theorem dl_825 : decode code 825 = .ok (.if_icmp .eq 5, 3) := by decide +kernel
theorem dl_828 : decode code 828 = .ok (.iconst 0, 1) := by decide +kernel
theorem dl_829 : decode code 829 = .ok (.ireturn, 1) := by decide +kernel
theorem dl_830 : decode code 830 = .ok (.iinc 3 6, 3) := by decide +kernel
theorem dl_833 : decode code 833 = .ok (.goto (-815), 3) := by decide +kernel
theorem dl_836 : decode code 836 = .ok (.iconst 1, 1) := by decide +kernel
theorem dl_837 : decode code 837 = .ok (.ireturn, 1) := by decide +kernel
