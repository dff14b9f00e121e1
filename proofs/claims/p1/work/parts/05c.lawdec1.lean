theorem ydb_1_0 : (decode cL_law 682 = .ok (.i2c, 1)) ∧ (decode cL_law 683 = .ok (.aload_n 0, 1)) ∧ (decode cL_law 684 = .ok (.iload 5, 2)) ∧ (decode cL_law 686 = .ok (.iconst 2, 1)) ∧ (decode cL_law 687 = .ok (.iadd, 1)) ∧ (decode cL_law 688 = .ok (.iaload, 1)) ∧ (decode cL_law 689 = .ok (.aload_n 0, 1)) ∧ (decode cL_law 690 = .ok (.iload 5, 2)) ∧ (decode cL_law 692 = .ok (.iconst 3, 1)) ∧ (decode cL_law 693 = .ok (.iadd, 1)) ∧ (decode cL_law 694 = .ok (.iaload, 1)) ∧ (decode cL_law 695 = .ok (.invokevirtual 193, 3)) := by decide +kernel
theorem dL_law_682 : decode cL_law 682 = .ok (.i2c, 1) := ydb_1_0.1
theorem dL_law_683 : decode cL_law 683 = .ok (.aload_n 0, 1) := ydb_1_0.2.1
theorem dL_law_684 : decode cL_law 684 = .ok (.iload 5, 2) := ydb_1_0.2.2.1
theorem dL_law_686 : decode cL_law 686 = .ok (.iconst 2, 1) := ydb_1_0.2.2.2.1
theorem dL_law_687 : decode cL_law 687 = .ok (.iadd, 1) := ydb_1_0.2.2.2.2.1
theorem dL_law_688 : decode cL_law 688 = .ok (.iaload, 1) := ydb_1_0.2.2.2.2.2.1
theorem dL_law_689 : decode cL_law 689 = .ok (.aload_n 0, 1) := ydb_1_0.2.2.2.2.2.2.1
theorem dL_law_690 : decode cL_law 690 = .ok (.iload 5, 2) := ydb_1_0.2.2.2.2.2.2.2.1
theorem dL_law_692 : decode cL_law 692 = .ok (.iconst 3, 1) := ydb_1_0.2.2.2.2.2.2.2.2.1
theorem dL_law_693 : decode cL_law 693 = .ok (.iadd, 1) := ydb_1_0.2.2.2.2.2.2.2.2.2.1
theorem dL_law_694 : decode cL_law 694 = .ok (.iaload, 1) := ydb_1_0.2.2.2.2.2.2.2.2.2.2.1
theorem dL_law_695 : decode cL_law 695 = .ok (.invokevirtual 193, 3) := ydb_1_0.2.2.2.2.2.2.2.2.2.2.2
theorem ydb_1_12 : (decode cL_law 698 = .ok (.istore 7, 2)) ∧ (decode cL_law 700 = .ok (.aload_n 2, 1)) ∧ (decode cL_law 701 = .ok (.invokevirtual 165, 3)) ∧ (decode cL_law 704 = .ok (.iload 6, 2)) ∧ (decode cL_law 706 = .ok (.if_icmp .eq 5, 3)) ∧ (decode cL_law 711 = .ok (.iload 6, 2)) ∧ (decode cL_law 713 = .ok (.ifCond .ne 15, 3)) ∧ (decode cL_law 728 = .ok (.goto 2409, 3)) ∧ (decode cL_law 731 = .ok (.aload_n 1, 1)) ∧ (decode cL_law 732 = .ok (.aload_n 0, 1)) ∧ (decode cL_law 733 = .ok (.iload 5, 2)) ∧ (decode cL_law 735 = .ok (.iconst 1, 1)) := by decide +kernel
theorem dL_law_698 : decode cL_law 698 = .ok (.istore 7, 2) := ydb_1_12.1
theorem dL_law_700 : decode cL_law 700 = .ok (.aload_n 2, 1) := ydb_1_12.2.1
theorem dL_law_701 : decode cL_law 701 = .ok (.invokevirtual 165, 3) := ydb_1_12.2.2.1
theorem dL_law_704 : decode cL_law 704 = .ok (.iload 6, 2) := ydb_1_12.2.2.2.1
theorem dL_law_706 : decode cL_law 706 = .ok (.if_icmp .eq 5, 3) := ydb_1_12.2.2.2.2.1
theorem dL_law_711 : decode cL_law 711 = .ok (.iload 6, 2) := ydb_1_12.2.2.2.2.2.1
theorem dL_law_713 : decode cL_law 713 = .ok (.ifCond .ne 15, 3) := ydb_1_12.2.2.2.2.2.2.1
theorem dL_law_728 : decode cL_law 728 = .ok (.goto 2409, 3) := ydb_1_12.2.2.2.2.2.2.2.1
theorem dL_law_731 : decode cL_law 731 = .ok (.aload_n 1, 1) := ydb_1_12.2.2.2.2.2.2.2.2.1
theorem dL_law_732 : decode cL_law 732 = .ok (.aload_n 0, 1) := ydb_1_12.2.2.2.2.2.2.2.2.2.1
theorem dL_law_733 : decode cL_law 733 = .ok (.iload 5, 2) := ydb_1_12.2.2.2.2.2.2.2.2.2.2.1
theorem dL_law_735 : decode cL_law 735 = .ok (.iconst 1, 1) := ydb_1_12.2.2.2.2.2.2.2.2.2.2.2
theorem ydb_1_24 : (decode cL_law 736 = .ok (.iadd, 1)) ∧ (decode cL_law 737 = .ok (.iaload, 1)) ∧ (decode cL_law 738 = .ok (.i2c, 1)) ∧ (decode cL_law 739 = .ok (.aload_n 0, 1)) ∧ (decode cL_law 740 = .ok (.iload 5, 2)) ∧ (decode cL_law 742 = .ok (.iconst 2, 1)) ∧ (decode cL_law 743 = .ok (.iadd, 1)) ∧ (decode cL_law 744 = .ok (.iaload, 1)) ∧ (decode cL_law 745 = .ok (.aload_n 0, 1)) ∧ (decode cL_law 746 = .ok (.iload 5, 2)) ∧ (decode cL_law 748 = .ok (.iconst 3, 1)) ∧ (decode cL_law 749 = .ok (.iadd, 1)) := by decide +kernel
theorem dL_law_736 : decode cL_law 736 = .ok (.iadd, 1) := ydb_1_24.1
theorem dL_law_737 : decode cL_law 737 = .ok (.iaload, 1) := ydb_1_24.2.1
theorem dL_law_738 : decode cL_law 738 = .ok (.i2c, 1) := ydb_1_24.2.2.1
theorem dL_law_739 : decode cL_law 739 = .ok (.aload_n 0, 1) := ydb_1_24.2.2.2.1
theorem dL_law_740 : decode cL_law 740 = .ok (.iload 5, 2) := ydb_1_24.2.2.2.2.1
theorem dL_law_742 : decode cL_law 742 = .ok (.iconst 2, 1) := ydb_1_24.2.2.2.2.2.1
theorem dL_law_743 : decode cL_law 743 = .ok (.iadd, 1) := ydb_1_24.2.2.2.2.2.2.1
theorem dL_law_744 : decode cL_law 744 = .ok (.iaload, 1) := ydb_1_24.2.2.2.2.2.2.2.1
theorem dL_law_745 : decode cL_law 745 = .ok (.aload_n 0, 1) := ydb_1_24.2.2.2.2.2.2.2.2.1
theorem dL_law_746 : decode cL_law 746 = .ok (.iload 5, 2) := ydb_1_24.2.2.2.2.2.2.2.2.2.1
theorem dL_law_748 : decode cL_law 748 = .ok (.iconst 3, 1) := ydb_1_24.2.2.2.2.2.2.2.2.2.2.1
theorem dL_law_749 : decode cL_law 749 = .ok (.iadd, 1) := ydb_1_24.2.2.2.2.2.2.2.2.2.2.2
theorem ydb_1_36 : (decode cL_law 750 = .ok (.iaload, 1)) ∧ (decode cL_law 751 = .ok (.aload_n 3, 1)) ∧ (decode cL_law 752 = .ok (.invokestatic 194, 3)) ∧ (decode cL_law 755 = .ok (.istore 6, 2)) ∧ (decode cL_law 757 = .ok (.aload_n 2, 1)) ∧ (decode cL_law 758 = .ok (.aload_n 0, 1)) ∧ (decode cL_law 759 = .ok (.iload 5, 2)) ∧ (decode cL_law 761 = .ok (.iconst 1, 1)) ∧ (decode cL_law 762 = .ok (.iadd, 1)) ∧ (decode cL_law 763 = .ok (.iaload, 1)) ∧ (decode cL_law 764 = .ok (.i2c, 1)) ∧ (decode cL_law 765 = .ok (.aload_n 0, 1)) := by decide +kernel
theorem dL_law_750 : decode cL_law 750 = .ok (.iaload, 1) := ydb_1_36.1
theorem dL_law_751 : decode cL_law 751 = .ok (.aload_n 3, 1) := ydb_1_36.2.1
theorem dL_law_752 : decode cL_law 752 = .ok (.invokestatic 194, 3) := ydb_1_36.2.2.1
theorem dL_law_755 : decode cL_law 755 = .ok (.istore 6, 2) := ydb_1_36.2.2.2.1
theorem dL_law_757 : decode cL_law 757 = .ok (.aload_n 2, 1) := ydb_1_36.2.2.2.2.1
theorem dL_law_758 : decode cL_law 758 = .ok (.aload_n 0, 1) := ydb_1_36.2.2.2.2.2.1
theorem dL_law_759 : decode cL_law 759 = .ok (.iload 5, 2) := ydb_1_36.2.2.2.2.2.2.1
theorem dL_law_761 : decode cL_law 761 = .ok (.iconst 1, 1) := ydb_1_36.2.2.2.2.2.2.2.1
theorem dL_law_762 : decode cL_law 762 = .ok (.iadd, 1) := ydb_1_36.2.2.2.2.2.2.2.2.1
theorem dL_law_763 : decode cL_law 763 = .ok (.iaload, 1) := ydb_1_36.2.2.2.2.2.2.2.2.2.1
theorem dL_law_764 : decode cL_law 764 = .ok (.i2c, 1) := ydb_1_36.2.2.2.2.2.2.2.2.2.2.1
theorem dL_law_765 : decode cL_law 765 = .ok (.aload_n 0, 1) := ydb_1_36.2.2.2.2.2.2.2.2.2.2.2
theorem ydb_1_48 : (decode cL_law 766 = .ok (.iload 5, 2)) ∧ (decode cL_law 768 = .ok (.iconst 2, 1)) ∧ (decode cL_law 769 = .ok (.iadd, 1)) ∧ (decode cL_law 770 = .ok (.iaload, 1)) ∧ (decode cL_law 771 = .ok (.aload_n 0, 1)) ∧ (decode cL_law 772 = .ok (.iload 5, 2)) ∧ (decode cL_law 774 = .ok (.iconst 3, 1)) ∧ (decode cL_law 775 = .ok (.iadd, 1)) ∧ (decode cL_law 776 = .ok (.iaload, 1)) ∧ (decode cL_law 777 = .ok (.invokevirtual 196, 3)) ∧ (decode cL_law 780 = .ok (.istore 7, 2)) ∧ (decode cL_law 782 = .ok (.aload_n 2, 1)) := by decide +kernel
theorem dL_law_766 : decode cL_law 766 = .ok (.iload 5, 2) := ydb_1_48.1
theorem dL_law_768 : decode cL_law 768 = .ok (.iconst 2, 1) := ydb_1_48.2.1
theorem dL_law_769 : decode cL_law 769 = .ok (.iadd, 1) := ydb_1_48.2.2.1
theorem dL_law_770 : decode cL_law 770 = .ok (.iaload, 1) := ydb_1_48.2.2.2.1
theorem dL_law_771 : decode cL_law 771 = .ok (.aload_n 0, 1) := ydb_1_48.2.2.2.2.1
theorem dL_law_772 : decode cL_law 772 = .ok (.iload 5, 2) := ydb_1_48.2.2.2.2.2.1
theorem dL_law_774 : decode cL_law 774 = .ok (.iconst 3, 1) := ydb_1_48.2.2.2.2.2.2.1
theorem dL_law_775 : decode cL_law 775 = .ok (.iadd, 1) := ydb_1_48.2.2.2.2.2.2.2.1
theorem dL_law_776 : decode cL_law 776 = .ok (.iaload, 1) := ydb_1_48.2.2.2.2.2.2.2.2.1
theorem dL_law_777 : decode cL_law 777 = .ok (.invokevirtual 196, 3) := ydb_1_48.2.2.2.2.2.2.2.2.2.1
theorem dL_law_780 : decode cL_law 780 = .ok (.istore 7, 2) := ydb_1_48.2.2.2.2.2.2.2.2.2.2.1
theorem dL_law_782 : decode cL_law 782 = .ok (.aload_n 2, 1) := ydb_1_48.2.2.2.2.2.2.2.2.2.2.2
theorem ydb_1_60 : (decode cL_law 783 = .ok (.invokevirtual 165, 3)) ∧ (decode cL_law 786 = .ok (.iload 6, 2)) ∧ (decode cL_law 788 = .ok (.if_icmp .eq 5, 3)) ∧ (decode cL_law 793 = .ok (.iload 6, 2)) ∧ (decode cL_law 795 = .ok (.ifCond .ne 15, 3)) ∧ (decode cL_law 810 = .ok (.goto 2327, 3)) ∧ (decode cL_law 813 = .ok (.aload_n 1, 1)) ∧ (decode cL_law 814 = .ok (.aload_n 0, 1)) ∧ (decode cL_law 815 = .ok (.iload 5, 2)) ∧ (decode cL_law 817 = .ok (.iconst 1, 1)) ∧ (decode cL_law 818 = .ok (.iadd, 1)) ∧ (decode cL_law 819 = .ok (.iaload, 1)) := by decide +kernel
theorem dL_law_783 : decode cL_law 783 = .ok (.invokevirtual 165, 3) := ydb_1_60.1
theorem dL_law_786 : decode cL_law 786 = .ok (.iload 6, 2) := ydb_1_60.2.1
theorem dL_law_788 : decode cL_law 788 = .ok (.if_icmp .eq 5, 3) := ydb_1_60.2.2.1
theorem dL_law_793 : decode cL_law 793 = .ok (.iload 6, 2) := ydb_1_60.2.2.2.1
theorem dL_law_795 : decode cL_law 795 = .ok (.ifCond .ne 15, 3) := ydb_1_60.2.2.2.2.1
theorem dL_law_810 : decode cL_law 810 = .ok (.goto 2327, 3) := ydb_1_60.2.2.2.2.2.1
theorem dL_law_813 : decode cL_law 813 = .ok (.aload_n 1, 1) := ydb_1_60.2.2.2.2.2.2.1
theorem dL_law_814 : decode cL_law 814 = .ok (.aload_n 0, 1) := ydb_1_60.2.2.2.2.2.2.2.1
theorem dL_law_815 : decode cL_law 815 = .ok (.iload 5, 2) := ydb_1_60.2.2.2.2.2.2.2.2.1
theorem dL_law_817 : decode cL_law 817 = .ok (.iconst 1, 1) := ydb_1_60.2.2.2.2.2.2.2.2.2.1
theorem dL_law_818 : decode cL_law 818 = .ok (.iadd, 1) := ydb_1_60.2.2.2.2.2.2.2.2.2.2.1
theorem dL_law_819 : decode cL_law 819 = .ok (.iaload, 1) := ydb_1_60.2.2.2.2.2.2.2.2.2.2.2
theorem ydb_1_72 : (decode cL_law 820 = .ok (.i2c, 1)) ∧ (decode cL_law 821 = .ok (.aload_n 0, 1)) ∧ (decode cL_law 822 = .ok (.iload 5, 2)) ∧ (decode cL_law 824 = .ok (.iconst 2, 1)) ∧ (decode cL_law 825 = .ok (.iadd, 1)) ∧ (decode cL_law 826 = .ok (.iaload, 1)) ∧ (decode cL_law 827 = .ok (.aload_n 0, 1)) ∧ (decode cL_law 828 = .ok (.iload 5, 2)) ∧ (decode cL_law 830 = .ok (.iconst 3, 1)) ∧ (decode cL_law 831 = .ok (.iadd, 1)) ∧ (decode cL_law 832 = .ok (.iaload, 1)) ∧ (decode cL_law 833 = .ok (.aload_n 3, 1)) := by decide +kernel
theorem dL_law_820 : decode cL_law 820 = .ok (.i2c, 1) := ydb_1_72.1
theorem dL_law_821 : decode cL_law 821 = .ok (.aload_n 0, 1) := ydb_1_72.2.1
theorem dL_law_822 : decode cL_law 822 = .ok (.iload 5, 2) := ydb_1_72.2.2.1
theorem dL_law_824 : decode cL_law 824 = .ok (.iconst 2, 1) := ydb_1_72.2.2.2.1
theorem dL_law_825 : decode cL_law 825 = .ok (.iadd, 1) := ydb_1_72.2.2.2.2.1
theorem dL_law_826 : decode cL_law 826 = .ok (.iaload, 1) := ydb_1_72.2.2.2.2.2.1
theorem dL_law_827 : decode cL_law 827 = .ok (.aload_n 0, 1) := ydb_1_72.2.2.2.2.2.2.1
theorem dL_law_828 : decode cL_law 828 = .ok (.iload 5, 2) := ydb_1_72.2.2.2.2.2.2.2.1
theorem dL_law_830 : decode cL_law 830 = .ok (.iconst 3, 1) := ydb_1_72.2.2.2.2.2.2.2.2.1
theorem dL_law_831 : decode cL_law 831 = .ok (.iadd, 1) := ydb_1_72.2.2.2.2.2.2.2.2.2.1
theorem dL_law_832 : decode cL_law 832 = .ok (.iaload, 1) := ydb_1_72.2.2.2.2.2.2.2.2.2.2.1
theorem dL_law_833 : decode cL_law 833 = .ok (.aload_n 3, 1) := ydb_1_72.2.2.2.2.2.2.2.2.2.2.2
theorem ydb_1_84 : (decode cL_law 834 = .ok (.invokestatic 197, 3)) ∧ (decode cL_law 837 = .ok (.istore 6, 2)) ∧ (decode cL_law 839 = .ok (.aload_n 2, 1)) ∧ (decode cL_law 840 = .ok (.aload_n 0, 1)) ∧ (decode cL_law 841 = .ok (.iload 5, 2)) ∧ (decode cL_law 843 = .ok (.iconst 1, 1)) ∧ (decode cL_law 844 = .ok (.iadd, 1)) ∧ (decode cL_law 845 = .ok (.iaload, 1)) ∧ (decode cL_law 846 = .ok (.i2c, 1)) ∧ (decode cL_law 847 = .ok (.aload_n 0, 1)) ∧ (decode cL_law 848 = .ok (.iload 5, 2)) ∧ (decode cL_law 850 = .ok (.iconst 2, 1)) := by decide +kernel
theorem dL_law_834 : decode cL_law 834 = .ok (.invokestatic 197, 3) := ydb_1_84.1
theorem dL_law_837 : decode cL_law 837 = .ok (.istore 6, 2) := ydb_1_84.2.1
theorem dL_law_839 : decode cL_law 839 = .ok (.aload_n 2, 1) := ydb_1_84.2.2.1
theorem dL_law_840 : decode cL_law 840 = .ok (.aload_n 0, 1) := ydb_1_84.2.2.2.1
theorem dL_law_841 : decode cL_law 841 = .ok (.iload 5, 2) := ydb_1_84.2.2.2.2.1
theorem dL_law_843 : decode cL_law 843 = .ok (.iconst 1, 1) := ydb_1_84.2.2.2.2.2.1
theorem dL_law_844 : decode cL_law 844 = .ok (.iadd, 1) := ydb_1_84.2.2.2.2.2.2.1
theorem dL_law_845 : decode cL_law 845 = .ok (.iaload, 1) := ydb_1_84.2.2.2.2.2.2.2.1
theorem dL_law_846 : decode cL_law 846 = .ok (.i2c, 1) := ydb_1_84.2.2.2.2.2.2.2.2.1
theorem dL_law_847 : decode cL_law 847 = .ok (.aload_n 0, 1) := ydb_1_84.2.2.2.2.2.2.2.2.2.1
theorem dL_law_848 : decode cL_law 848 = .ok (.iload 5, 2) := ydb_1_84.2.2.2.2.2.2.2.2.2.2.1
theorem dL_law_850 : decode cL_law 850 = .ok (.iconst 2, 1) := ydb_1_84.2.2.2.2.2.2.2.2.2.2.2
theorem ydb_1_96 : (decode cL_law 851 = .ok (.iadd, 1)) ∧ (decode cL_law 852 = .ok (.iaload, 1)) ∧ (decode cL_law 853 = .ok (.aload_n 0, 1)) ∧ (decode cL_law 854 = .ok (.iload 5, 2)) ∧ (decode cL_law 856 = .ok (.iconst 3, 1)) ∧ (decode cL_law 857 = .ok (.iadd, 1)) ∧ (decode cL_law 858 = .ok (.iaload, 1)) ∧ (decode cL_law 859 = .ok (.invokevirtual 199, 3)) ∧ (decode cL_law 862 = .ok (.istore 7, 2)) ∧ (decode cL_law 864 = .ok (.aload_n 2, 1)) ∧ (decode cL_law 865 = .ok (.invokevirtual 165, 3)) ∧ (decode cL_law 868 = .ok (.iload 6, 2)) := by decide +kernel
theorem dL_law_851 : decode cL_law 851 = .ok (.iadd, 1) := ydb_1_96.1
theorem dL_law_852 : decode cL_law 852 = .ok (.iaload, 1) := ydb_1_96.2.1
theorem dL_law_853 : decode cL_law 853 = .ok (.aload_n 0, 1) := ydb_1_96.2.2.1
theorem dL_law_854 : decode cL_law 854 = .ok (.iload 5, 2) := ydb_1_96.2.2.2.1
theorem dL_law_856 : decode cL_law 856 = .ok (.iconst 3, 1) := ydb_1_96.2.2.2.2.1
theorem dL_law_857 : decode cL_law 857 = .ok (.iadd, 1) := ydb_1_96.2.2.2.2.2.1
theorem dL_law_858 : decode cL_law 858 = .ok (.iaload, 1) := ydb_1_96.2.2.2.2.2.2.1
theorem dL_law_859 : decode cL_law 859 = .ok (.invokevirtual 199, 3) := ydb_1_96.2.2.2.2.2.2.2.1
theorem dL_law_862 : decode cL_law 862 = .ok (.istore 7, 2) := ydb_1_96.2.2.2.2.2.2.2.2.1
theorem dL_law_864 : decode cL_law 864 = .ok (.aload_n 2, 1) := ydb_1_96.2.2.2.2.2.2.2.2.2.1
theorem dL_law_865 : decode cL_law 865 = .ok (.invokevirtual 165, 3) := ydb_1_96.2.2.2.2.2.2.2.2.2.2.1
theorem dL_law_868 : decode cL_law 868 = .ok (.iload 6, 2) := ydb_1_96.2.2.2.2.2.2.2.2.2.2.2
theorem ydb_1_108 : (decode cL_law 870 = .ok (.if_icmp .eq 5, 3)) ∧ (decode cL_law 875 = .ok (.iload 6, 2)) ∧ (decode cL_law 877 = .ok (.ifCond .ne 15, 3)) ∧ (decode cL_law 892 = .ok (.goto 2245, 3)) ∧ (decode cL_law 895 = .ok (.aload_n 1, 1)) ∧ (decode cL_law 896 = .ok (.aload_n 0, 1)) ∧ (decode cL_law 897 = .ok (.iload 5, 2)) ∧ (decode cL_law 899 = .ok (.iconst 1, 1)) ∧ (decode cL_law 900 = .ok (.iadd, 1)) ∧ (decode cL_law 901 = .ok (.iaload, 1)) ∧ (decode cL_law 902 = .ok (.i2c, 1)) ∧ (decode cL_law 903 = .ok (.aload_n 0, 1)) := by decide +kernel
theorem dL_law_870 : decode cL_law 870 = .ok (.if_icmp .eq 5, 3) := ydb_1_108.1
theorem dL_law_875 : decode cL_law 875 = .ok (.iload 6, 2) := ydb_1_108.2.1
theorem dL_law_877 : decode cL_law 877 = .ok (.ifCond .ne 15, 3) := ydb_1_108.2.2.1
theorem dL_law_892 : decode cL_law 892 = .ok (.goto 2245, 3) := ydb_1_108.2.2.2.1
theorem dL_law_895 : decode cL_law 895 = .ok (.aload_n 1, 1) := ydb_1_108.2.2.2.2.1
theorem dL_law_896 : decode cL_law 896 = .ok (.aload_n 0, 1) := ydb_1_108.2.2.2.2.2.1
theorem dL_law_897 : decode cL_law 897 = .ok (.iload 5, 2) := ydb_1_108.2.2.2.2.2.2.1
theorem dL_law_899 : decode cL_law 899 = .ok (.iconst 1, 1) := ydb_1_108.2.2.2.2.2.2.2.1
theorem dL_law_900 : decode cL_law 900 = .ok (.iadd, 1) := ydb_1_108.2.2.2.2.2.2.2.2.1
theorem dL_law_901 : decode cL_law 901 = .ok (.iaload, 1) := ydb_1_108.2.2.2.2.2.2.2.2.2.1
theorem dL_law_902 : decode cL_law 902 = .ok (.i2c, 1) := ydb_1_108.2.2.2.2.2.2.2.2.2.2.1
theorem dL_law_903 : decode cL_law 903 = .ok (.aload_n 0, 1) := ydb_1_108.2.2.2.2.2.2.2.2.2.2.2
theorem ydb_1_120 : (decode cL_law 904 = .ok (.iload 5, 2)) ∧ (decode cL_law 906 = .ok (.iconst 2, 1)) ∧ (decode cL_law 907 = .ok (.iadd, 1)) ∧ (decode cL_law 908 = .ok (.iaload, 1)) ∧ (decode cL_law 909 = .ok (.aload_n 0, 1)) ∧ (decode cL_law 910 = .ok (.iload 5, 2)) ∧ (decode cL_law 912 = .ok (.iconst 3, 1)) ∧ (decode cL_law 913 = .ok (.iadd, 1)) ∧ (decode cL_law 914 = .ok (.iaload, 1)) ∧ (decode cL_law 915 = .ok (.aload_n 0, 1)) ∧ (decode cL_law 916 = .ok (.iload 5, 2)) ∧ (decode cL_law 918 = .ok (.iconst 4, 1)) := by decide +kernel
theorem dL_law_904 : decode cL_law 904 = .ok (.iload 5, 2) := ydb_1_120.1
theorem dL_law_906 : decode cL_law 906 = .ok (.iconst 2, 1) := ydb_1_120.2.1
theorem dL_law_907 : decode cL_law 907 = .ok (.iadd, 1) := ydb_1_120.2.2.1
theorem dL_law_908 : decode cL_law 908 = .ok (.iaload, 1) := ydb_1_120.2.2.2.1
theorem dL_law_909 : decode cL_law 909 = .ok (.aload_n 0, 1) := ydb_1_120.2.2.2.2.1
theorem dL_law_910 : decode cL_law 910 = .ok (.iload 5, 2) := ydb_1_120.2.2.2.2.2.1
theorem dL_law_912 : decode cL_law 912 = .ok (.iconst 3, 1) := ydb_1_120.2.2.2.2.2.2.1
theorem dL_law_913 : decode cL_law 913 = .ok (.iadd, 1) := ydb_1_120.2.2.2.2.2.2.2.1
theorem dL_law_914 : decode cL_law 914 = .ok (.iaload, 1) := ydb_1_120.2.2.2.2.2.2.2.2.1
theorem dL_law_915 : decode cL_law 915 = .ok (.aload_n 0, 1) := ydb_1_120.2.2.2.2.2.2.2.2.2.1
theorem dL_law_916 : decode cL_law 916 = .ok (.iload 5, 2) := ydb_1_120.2.2.2.2.2.2.2.2.2.2.1
theorem dL_law_918 : decode cL_law 918 = .ok (.iconst 4, 1) := ydb_1_120.2.2.2.2.2.2.2.2.2.2.2
theorem ydb_1_132 : (decode cL_law 919 = .ok (.iadd, 1)) ∧ (decode cL_law 920 = .ok (.iaload, 1)) ∧ (decode cL_law 921 = .ok (.aload_n 3, 1)) ∧ (decode cL_law 922 = .ok (.invokestatic 200, 3)) ∧ (decode cL_law 925 = .ok (.istore 6, 2)) ∧ (decode cL_law 927 = .ok (.aload_n 2, 1)) ∧ (decode cL_law 928 = .ok (.aload_n 0, 1)) ∧ (decode cL_law 929 = .ok (.iload 5, 2)) ∧ (decode cL_law 931 = .ok (.iconst 1, 1)) ∧ (decode cL_law 932 = .ok (.iadd, 1)) ∧ (decode cL_law 933 = .ok (.iaload, 1)) ∧ (decode cL_law 934 = .ok (.i2c, 1)) := by decide +kernel
theorem dL_law_919 : decode cL_law 919 = .ok (.iadd, 1) := ydb_1_132.1
theorem dL_law_920 : decode cL_law 920 = .ok (.iaload, 1) := ydb_1_132.2.1
theorem dL_law_921 : decode cL_law 921 = .ok (.aload_n 3, 1) := ydb_1_132.2.2.1
theorem dL_law_922 : decode cL_law 922 = .ok (.invokestatic 200, 3) := ydb_1_132.2.2.2.1
theorem dL_law_925 : decode cL_law 925 = .ok (.istore 6, 2) := ydb_1_132.2.2.2.2.1
theorem dL_law_927 : decode cL_law 927 = .ok (.aload_n 2, 1) := ydb_1_132.2.2.2.2.2.1
theorem dL_law_928 : decode cL_law 928 = .ok (.aload_n 0, 1) := ydb_1_132.2.2.2.2.2.2.1
theorem dL_law_929 : decode cL_law 929 = .ok (.iload 5, 2) := ydb_1_132.2.2.2.2.2.2.2.1
theorem dL_law_931 : decode cL_law 931 = .ok (.iconst 1, 1) := ydb_1_132.2.2.2.2.2.2.2.2.1
theorem dL_law_932 : decode cL_law 932 = .ok (.iadd, 1) := ydb_1_132.2.2.2.2.2.2.2.2.2.1
theorem dL_law_933 : decode cL_law 933 = .ok (.iaload, 1) := ydb_1_132.2.2.2.2.2.2.2.2.2.2.1
theorem dL_law_934 : decode cL_law 934 = .ok (.i2c, 1) := ydb_1_132.2.2.2.2.2.2.2.2.2.2.2
theorem ydb_1_144 : (decode cL_law 935 = .ok (.aload_n 0, 1)) ∧ (decode cL_law 936 = .ok (.iload 5, 2)) ∧ (decode cL_law 938 = .ok (.iconst 2, 1)) ∧ (decode cL_law 939 = .ok (.iadd, 1)) ∧ (decode cL_law 940 = .ok (.iaload, 1)) ∧ (decode cL_law 941 = .ok (.aload_n 0, 1)) ∧ (decode cL_law 942 = .ok (.iload 5, 2)) ∧ (decode cL_law 944 = .ok (.iconst 3, 1)) ∧ (decode cL_law 945 = .ok (.iadd, 1)) ∧ (decode cL_law 946 = .ok (.iaload, 1)) ∧ (decode cL_law 947 = .ok (.aload_n 0, 1)) ∧ (decode cL_law 948 = .ok (.iload 5, 2)) := by decide +kernel
theorem dL_law_935 : decode cL_law 935 = .ok (.aload_n 0, 1) := ydb_1_144.1
theorem dL_law_936 : decode cL_law 936 = .ok (.iload 5, 2) := ydb_1_144.2.1
theorem dL_law_938 : decode cL_law 938 = .ok (.iconst 2, 1) := ydb_1_144.2.2.1
theorem dL_law_939 : decode cL_law 939 = .ok (.iadd, 1) := ydb_1_144.2.2.2.1
theorem dL_law_940 : decode cL_law 940 = .ok (.iaload, 1) := ydb_1_144.2.2.2.2.1
theorem dL_law_941 : decode cL_law 941 = .ok (.aload_n 0, 1) := ydb_1_144.2.2.2.2.2.1
theorem dL_law_942 : decode cL_law 942 = .ok (.iload 5, 2) := ydb_1_144.2.2.2.2.2.2.1
theorem dL_law_944 : decode cL_law 944 = .ok (.iconst 3, 1) := ydb_1_144.2.2.2.2.2.2.2.1
theorem dL_law_945 : decode cL_law 945 = .ok (.iadd, 1) := ydb_1_144.2.2.2.2.2.2.2.2.1
theorem dL_law_946 : decode cL_law 946 = .ok (.iaload, 1) := ydb_1_144.2.2.2.2.2.2.2.2.2.1
theorem dL_law_947 : decode cL_law 947 = .ok (.aload_n 0, 1) := ydb_1_144.2.2.2.2.2.2.2.2.2.2.1
theorem dL_law_948 : decode cL_law 948 = .ok (.iload 5, 2) := ydb_1_144.2.2.2.2.2.2.2.2.2.2.2
theorem ydb_1_156 : (decode cL_law 950 = .ok (.iconst 4, 1)) ∧ (decode cL_law 951 = .ok (.iadd, 1)) ∧ (decode cL_law 952 = .ok (.iaload, 1)) ∧ (decode cL_law 953 = .ok (.invokevirtual 203, 3)) ∧ (decode cL_law 956 = .ok (.istore 7, 2)) ∧ (decode cL_law 958 = .ok (.aload_n 2, 1)) ∧ (decode cL_law 959 = .ok (.invokevirtual 165, 3)) ∧ (decode cL_law 962 = .ok (.iload 6, 2)) ∧ (decode cL_law 964 = .ok (.if_icmp .eq 5, 3)) ∧ (decode cL_law 969 = .ok (.iload 6, 2)) ∧ (decode cL_law 971 = .ok (.ifCond .ne 15, 3)) ∧ (decode cL_law 986 = .ok (.goto 2151, 3)) := by decide +kernel
theorem dL_law_950 : decode cL_law 950 = .ok (.iconst 4, 1) := ydb_1_156.1
theorem dL_law_951 : decode cL_law 951 = .ok (.iadd, 1) := ydb_1_156.2.1
theorem dL_law_952 : decode cL_law 952 = .ok (.iaload, 1) := ydb_1_156.2.2.1
theorem dL_law_953 : decode cL_law 953 = .ok (.invokevirtual 203, 3) := ydb_1_156.2.2.2.1
theorem dL_law_956 : decode cL_law 956 = .ok (.istore 7, 2) := ydb_1_156.2.2.2.2.1
theorem dL_law_958 : decode cL_law 958 = .ok (.aload_n 2, 1) := ydb_1_156.2.2.2.2.2.1
theorem dL_law_959 : decode cL_law 959 = .ok (.invokevirtual 165, 3) := ydb_1_156.2.2.2.2.2.2.1
theorem dL_law_962 : decode cL_law 962 = .ok (.iload 6, 2) := ydb_1_156.2.2.2.2.2.2.2.1
theorem dL_law_964 : decode cL_law 964 = .ok (.if_icmp .eq 5, 3) := ydb_1_156.2.2.2.2.2.2.2.2.1
theorem dL_law_969 : decode cL_law 969 = .ok (.iload 6, 2) := ydb_1_156.2.2.2.2.2.2.2.2.2.1
theorem dL_law_971 : decode cL_law 971 = .ok (.ifCond .ne 15, 3) := ydb_1_156.2.2.2.2.2.2.2.2.2.2.1
theorem dL_law_986 : decode cL_law 986 = .ok (.goto 2151, 3) := ydb_1_156.2.2.2.2.2.2.2.2.2.2.2
theorem ydb_1_168 : (decode cL_law 989 = .ok (.aload_n 1, 1)) ∧ (decode cL_law 990 = .ok (.aload_n 0, 1)) ∧ (decode cL_law 991 = .ok (.iload 5, 2)) ∧ (decode cL_law 993 = .ok (.iconst 1, 1)) ∧ (decode cL_law 994 = .ok (.iadd, 1)) ∧ (decode cL_law 995 = .ok (.iaload, 1)) ∧ (decode cL_law 996 = .ok (.aload_n 0, 1)) ∧ (decode cL_law 997 = .ok (.iload 5, 2)) ∧ (decode cL_law 999 = .ok (.iconst 2, 1)) ∧ (decode cL_law 1000 = .ok (.iadd, 1)) ∧ (decode cL_law 1001 = .ok (.iaload, 1)) ∧ (decode cL_law 1002 = .ok (.aload_n 0, 1)) := by decide +kernel
theorem dL_law_989 : decode cL_law 989 = .ok (.aload_n 1, 1) := ydb_1_168.1
theorem dL_law_990 : decode cL_law 990 = .ok (.aload_n 0, 1) := ydb_1_168.2.1
theorem dL_law_991 : decode cL_law 991 = .ok (.iload 5, 2) := ydb_1_168.2.2.1
theorem dL_law_993 : decode cL_law 993 = .ok (.iconst 1, 1) := ydb_1_168.2.2.2.1
theorem dL_law_994 : decode cL_law 994 = .ok (.iadd, 1) := ydb_1_168.2.2.2.2.1
theorem dL_law_995 : decode cL_law 995 = .ok (.iaload, 1) := ydb_1_168.2.2.2.2.2.1
theorem dL_law_996 : decode cL_law 996 = .ok (.aload_n 0, 1) := ydb_1_168.2.2.2.2.2.2.1
theorem dL_law_997 : decode cL_law 997 = .ok (.iload 5, 2) := ydb_1_168.2.2.2.2.2.2.2.1
theorem dL_law_999 : decode cL_law 999 = .ok (.iconst 2, 1) := ydb_1_168.2.2.2.2.2.2.2.2.1
theorem dL_law_1000 : decode cL_law 1000 = .ok (.iadd, 1) := ydb_1_168.2.2.2.2.2.2.2.2.2.1
theorem dL_law_1001 : decode cL_law 1001 = .ok (.iaload, 1) := ydb_1_168.2.2.2.2.2.2.2.2.2.2.1
theorem dL_law_1002 : decode cL_law 1002 = .ok (.aload_n 0, 1) := ydb_1_168.2.2.2.2.2.2.2.2.2.2.2
theorem ydb_1_180 : (decode cL_law 1003 = .ok (.iload 5, 2)) ∧ (decode cL_law 1005 = .ok (.iconst 3, 1)) ∧ (decode cL_law 1006 = .ok (.iadd, 1)) ∧ (decode cL_law 1007 = .ok (.iaload, 1)) ∧ (decode cL_law 1008 = .ok (.aload_n 3, 1)) ∧ (decode cL_law 1009 = .ok (.invokestatic 204, 3)) ∧ (decode cL_law 1012 = .ok (.istore 6, 2)) ∧ (decode cL_law 1014 = .ok (.aload_n 2, 1)) ∧ (decode cL_law 1015 = .ok (.aload_n 0, 1)) ∧ (decode cL_law 1016 = .ok (.iload 5, 2)) ∧ (decode cL_law 1018 = .ok (.iconst 1, 1)) ∧ (decode cL_law 1019 = .ok (.iadd, 1)) := by decide +kernel
theorem dL_law_1003 : decode cL_law 1003 = .ok (.iload 5, 2) := ydb_1_180.1
theorem dL_law_1005 : decode cL_law 1005 = .ok (.iconst 3, 1) := ydb_1_180.2.1
theorem dL_law_1006 : decode cL_law 1006 = .ok (.iadd, 1) := ydb_1_180.2.2.1
theorem dL_law_1007 : decode cL_law 1007 = .ok (.iaload, 1) := ydb_1_180.2.2.2.1
theorem dL_law_1008 : decode cL_law 1008 = .ok (.aload_n 3, 1) := ydb_1_180.2.2.2.2.1
theorem dL_law_1009 : decode cL_law 1009 = .ok (.invokestatic 204, 3) := ydb_1_180.2.2.2.2.2.1
theorem dL_law_1012 : decode cL_law 1012 = .ok (.istore 6, 2) := ydb_1_180.2.2.2.2.2.2.1
theorem dL_law_1014 : decode cL_law 1014 = .ok (.aload_n 2, 1) := ydb_1_180.2.2.2.2.2.2.2.1
theorem dL_law_1015 : decode cL_law 1015 = .ok (.aload_n 0, 1) := ydb_1_180.2.2.2.2.2.2.2.2.1
theorem dL_law_1016 : decode cL_law 1016 = .ok (.iload 5, 2) := ydb_1_180.2.2.2.2.2.2.2.2.2.1
theorem dL_law_1018 : decode cL_law 1018 = .ok (.iconst 1, 1) := ydb_1_180.2.2.2.2.2.2.2.2.2.2.1
theorem dL_law_1019 : decode cL_law 1019 = .ok (.iadd, 1) := ydb_1_180.2.2.2.2.2.2.2.2.2.2.2
theorem ydb_1_192 : (decode cL_law 1020 = .ok (.iaload, 1)) ∧ (decode cL_law 1021 = .ok (.aload_n 0, 1)) ∧ (decode cL_law 1022 = .ok (.iload 5, 2)) ∧ (decode cL_law 1024 = .ok (.iconst 2, 1)) ∧ (decode cL_law 1025 = .ok (.iadd, 1)) ∧ (decode cL_law 1026 = .ok (.iaload, 1)) ∧ (decode cL_law 1027 = .ok (.aload_n 0, 1)) ∧ (decode cL_law 1028 = .ok (.iload 5, 2)) ∧ (decode cL_law 1030 = .ok (.iconst 3, 1)) ∧ (decode cL_law 1031 = .ok (.iadd, 1)) ∧ (decode cL_law 1032 = .ok (.iaload, 1)) ∧ (decode cL_law 1033 = .ok (.invokevirtual 206, 3)) := by decide +kernel
theorem dL_law_1020 : decode cL_law 1020 = .ok (.iaload, 1) := ydb_1_192.1
theorem dL_law_1021 : decode cL_law 1021 = .ok (.aload_n 0, 1) := ydb_1_192.2.1
theorem dL_law_1022 : decode cL_law 1022 = .ok (.iload 5, 2) := ydb_1_192.2.2.1
theorem dL_law_1024 : decode cL_law 1024 = .ok (.iconst 2, 1) := ydb_1_192.2.2.2.1
theorem dL_law_1025 : decode cL_law 1025 = .ok (.iadd, 1) := ydb_1_192.2.2.2.2.1
theorem dL_law_1026 : decode cL_law 1026 = .ok (.iaload, 1) := ydb_1_192.2.2.2.2.2.1
theorem dL_law_1027 : decode cL_law 1027 = .ok (.aload_n 0, 1) := ydb_1_192.2.2.2.2.2.2.1
theorem dL_law_1028 : decode cL_law 1028 = .ok (.iload 5, 2) := ydb_1_192.2.2.2.2.2.2.2.1
theorem dL_law_1030 : decode cL_law 1030 = .ok (.iconst 3, 1) := ydb_1_192.2.2.2.2.2.2.2.2.1
theorem dL_law_1031 : decode cL_law 1031 = .ok (.iadd, 1) := ydb_1_192.2.2.2.2.2.2.2.2.2.1
theorem dL_law_1032 : decode cL_law 1032 = .ok (.iaload, 1) := ydb_1_192.2.2.2.2.2.2.2.2.2.2.1
theorem dL_law_1033 : decode cL_law 1033 = .ok (.invokevirtual 206, 3) := ydb_1_192.2.2.2.2.2.2.2.2.2.2.2
theorem ydb_1_204 : (decode cL_law 1036 = .ok (.istore 7, 2)) ∧ (decode cL_law 1038 = .ok (.aload_n 2, 1)) ∧ (decode cL_law 1039 = .ok (.invokevirtual 165, 3)) ∧ (decode cL_law 1042 = .ok (.iload 6, 2)) ∧ (decode cL_law 1044 = .ok (.if_icmp .eq 5, 3)) ∧ (decode cL_law 1049 = .ok (.iload 6, 2)) ∧ (decode cL_law 1051 = .ok (.ifCond .ne 15, 3)) ∧ (decode cL_law 1054 = .ok (.aload_n 3, 1)) ∧ (decode cL_law 1055 = .ok (.iconst 0, 1)) ∧ (decode cL_law 1056 = .ok (.laload, 1)) ∧ (decode cL_law 1057 = .ok (.iload 7, 2)) ∧ (decode cL_law 1059 = .ok (.i2l, 1)) := by decide +kernel
theorem dL_law_1036 : decode cL_law 1036 = .ok (.istore 7, 2) := ydb_1_204.1
theorem dL_law_1038 : decode cL_law 1038 = .ok (.aload_n 2, 1) := ydb_1_204.2.1
theorem dL_law_1039 : decode cL_law 1039 = .ok (.invokevirtual 165, 3) := ydb_1_204.2.2.1
theorem dL_law_1042 : decode cL_law 1042 = .ok (.iload 6, 2) := ydb_1_204.2.2.2.1
theorem dL_law_1044 : decode cL_law 1044 = .ok (.if_icmp .eq 5, 3) := ydb_1_204.2.2.2.2.1
theorem dL_law_1049 : decode cL_law 1049 = .ok (.iload 6, 2) := ydb_1_204.2.2.2.2.2.1
theorem dL_law_1051 : decode cL_law 1051 = .ok (.ifCond .ne 15, 3) := ydb_1_204.2.2.2.2.2.2.1
theorem dL_law_1054 : decode cL_law 1054 = .ok (.aload_n 3, 1) := ydb_1_204.2.2.2.2.2.2.2.1
theorem dL_law_1055 : decode cL_law 1055 = .ok (.iconst 0, 1) := ydb_1_204.2.2.2.2.2.2.2.2.1
theorem dL_law_1056 : decode cL_law 1056 = .ok (.laload, 1) := ydb_1_204.2.2.2.2.2.2.2.2.2.1
theorem dL_law_1057 : decode cL_law 1057 = .ok (.iload 7, 2) := ydb_1_204.2.2.2.2.2.2.2.2.2.2.1
theorem dL_law_1059 : decode cL_law 1059 = .ok (.i2l, 1) := ydb_1_204.2.2.2.2.2.2.2.2.2.2.2
theorem ydb_1_216 : (decode cL_law 1060 = .ok (.lcmp, 1)) ∧ (decode cL_law 1061 = .ok (.ifCond .eq 5, 3)) ∧ (decode cL_law 1066 = .ok (.goto 2071, 3)) ∧ (decode cL_law 1069 = .ok (.aload_n 1, 1)) ∧ (decode cL_law 1070 = .ok (.aload_n 0, 1)) ∧ (decode cL_law 1071 = .ok (.iload 5, 2)) ∧ (decode cL_law 1073 = .ok (.iconst 1, 1)) ∧ (decode cL_law 1074 = .ok (.iadd, 1)) ∧ (decode cL_law 1075 = .ok (.iaload, 1)) ∧ (decode cL_law 1076 = .ok (.i2c, 1)) ∧ (decode cL_law 1077 = .ok (.aload_n 0, 1)) ∧ (decode cL_law 1078 = .ok (.iload 5, 2)) := by decide +kernel
theorem dL_law_1060 : decode cL_law 1060 = .ok (.lcmp, 1) := ydb_1_216.1
theorem dL_law_1061 : decode cL_law 1061 = .ok (.ifCond .eq 5, 3) := ydb_1_216.2.1
theorem dL_law_1066 : decode cL_law 1066 = .ok (.goto 2071, 3) := ydb_1_216.2.2.1
theorem dL_law_1069 : decode cL_law 1069 = .ok (.aload_n 1, 1) := ydb_1_216.2.2.2.1
theorem dL_law_1070 : decode cL_law 1070 = .ok (.aload_n 0, 1) := ydb_1_216.2.2.2.2.1
theorem dL_law_1071 : decode cL_law 1071 = .ok (.iload 5, 2) := ydb_1_216.2.2.2.2.2.1
theorem dL_law_1073 : decode cL_law 1073 = .ok (.iconst 1, 1) := ydb_1_216.2.2.2.2.2.2.1
theorem dL_law_1074 : decode cL_law 1074 = .ok (.iadd, 1) := ydb_1_216.2.2.2.2.2.2.2.1
theorem dL_law_1075 : decode cL_law 1075 = .ok (.iaload, 1) := ydb_1_216.2.2.2.2.2.2.2.2.1
theorem dL_law_1076 : decode cL_law 1076 = .ok (.i2c, 1) := ydb_1_216.2.2.2.2.2.2.2.2.2.1
theorem dL_law_1077 : decode cL_law 1077 = .ok (.aload_n 0, 1) := ydb_1_216.2.2.2.2.2.2.2.2.2.2.1
theorem dL_law_1078 : decode cL_law 1078 = .ok (.iload 5, 2) := ydb_1_216.2.2.2.2.2.2.2.2.2.2.2
theorem ydb_1_228 : (decode cL_law 1080 = .ok (.iconst 2, 1)) ∧ (decode cL_law 1081 = .ok (.iadd, 1)) ∧ (decode cL_law 1082 = .ok (.iaload, 1)) ∧ (decode cL_law 1083 = .ok (.aload_n 3, 1)) ∧ (decode cL_law 1084 = .ok (.invokestatic 207, 3)) ∧ (decode cL_law 1087 = .ok (.istore 6, 2)) ∧ (decode cL_law 1089 = .ok (.aload_n 2, 1)) ∧ (decode cL_law 1090 = .ok (.aload_n 0, 1)) ∧ (decode cL_law 1091 = .ok (.iload 5, 2)) ∧ (decode cL_law 1093 = .ok (.iconst 1, 1)) ∧ (decode cL_law 1094 = .ok (.iadd, 1)) ∧ (decode cL_law 1095 = .ok (.iaload, 1)) := by decide +kernel
theorem dL_law_1080 : decode cL_law 1080 = .ok (.iconst 2, 1) := ydb_1_228.1
theorem dL_law_1081 : decode cL_law 1081 = .ok (.iadd, 1) := ydb_1_228.2.1
theorem dL_law_1082 : decode cL_law 1082 = .ok (.iaload, 1) := ydb_1_228.2.2.1
theorem dL_law_1083 : decode cL_law 1083 = .ok (.aload_n 3, 1) := ydb_1_228.2.2.2.1
theorem dL_law_1084 : decode cL_law 1084 = .ok (.invokestatic 207, 3) := ydb_1_228.2.2.2.2.1
theorem dL_law_1087 : decode cL_law 1087 = .ok (.istore 6, 2) := ydb_1_228.2.2.2.2.2.1
theorem dL_law_1089 : decode cL_law 1089 = .ok (.aload_n 2, 1) := ydb_1_228.2.2.2.2.2.2.1
theorem dL_law_1090 : decode cL_law 1090 = .ok (.aload_n 0, 1) := ydb_1_228.2.2.2.2.2.2.2.1
theorem dL_law_1091 : decode cL_law 1091 = .ok (.iload 5, 2) := ydb_1_228.2.2.2.2.2.2.2.2.1
theorem dL_law_1093 : decode cL_law 1093 = .ok (.iconst 1, 1) := ydb_1_228.2.2.2.2.2.2.2.2.2.1
theorem dL_law_1094 : decode cL_law 1094 = .ok (.iadd, 1) := ydb_1_228.2.2.2.2.2.2.2.2.2.2.1
theorem dL_law_1095 : decode cL_law 1095 = .ok (.iaload, 1) := ydb_1_228.2.2.2.2.2.2.2.2.2.2.2
theorem ydb_1_240 : (decode cL_law 1096 = .ok (.i2c, 1)) ∧ (decode cL_law 1097 = .ok (.aload_n 0, 1)) ∧ (decode cL_law 1098 = .ok (.iload 5, 2)) ∧ (decode cL_law 1100 = .ok (.iconst 2, 1)) ∧ (decode cL_law 1101 = .ok (.iadd, 1)) ∧ (decode cL_law 1102 = .ok (.iaload, 1)) ∧ (decode cL_law 1103 = .ok (.invokevirtual 210, 3)) ∧ (decode cL_law 1106 = .ok (.istore 7, 2)) ∧ (decode cL_law 1108 = .ok (.aload_n 2, 1)) ∧ (decode cL_law 1109 = .ok (.invokevirtual 165, 3)) := by decide +kernel
theorem dL_law_1096 : decode cL_law 1096 = .ok (.i2c, 1) := ydb_1_240.1
theorem dL_law_1097 : decode cL_law 1097 = .ok (.aload_n 0, 1) := ydb_1_240.2.1
theorem dL_law_1098 : decode cL_law 1098 = .ok (.iload 5, 2) := ydb_1_240.2.2.1
theorem dL_law_1100 : decode cL_law 1100 = .ok (.iconst 2, 1) := ydb_1_240.2.2.2.1
theorem dL_law_1101 : decode cL_law 1101 = .ok (.iadd, 1) := ydb_1_240.2.2.2.2.1
theorem dL_law_1102 : decode cL_law 1102 = .ok (.iaload, 1) := ydb_1_240.2.2.2.2.2.1
theorem dL_law_1103 : decode cL_law 1103 = .ok (.invokevirtual 210, 3) := ydb_1_240.2.2.2.2.2.2.1
theorem dL_law_1106 : decode cL_law 1106 = .ok (.istore 7, 2) := ydb_1_240.2.2.2.2.2.2.2.1
theorem dL_law_1108 : decode cL_law 1108 = .ok (.aload_n 2, 1) := ydb_1_240.2.2.2.2.2.2.2.2.1
theorem dL_law_1109 : decode cL_law 1109 = .ok (.invokevirtual 165, 3) := ydb_1_240.2.2.2.2.2.2.2.2.2
