theorem dLaw_753 : decode code 753 = .ok (.aload_n 0, 1) := by decide +kernel
theorem dLaw_754 : decode code 754 = .ok (.iload 4, 2) := by decide +kernel
theorem dLaw_756 : decode code 756 = .ok (.iconst 2, 1) := by decide +kernel
theorem dLaw_757 : decode code 757 = .ok (.iadd, 1) := by decide +kernel
theorem dLaw_758 : decode code 758 = .ok (.iaload, 1) := by decide +kernel
theorem dLaw_759 : decode code 759 = .ok (.i2l, 1) := by decide +kernel
theorem dLaw_760 : decode code 760 = .ok (.ldc2_w 51, 3) := by decide +kernel
theorem dLaw_763 : decode code 763 = .ok (.land, 1) := by decide +kernel
theorem dLaw_764 : decode code 764 = .ok (.lor, 1) := by decide +kernel
theorem dLaw_765 : decode code 765 = .ok (.aload_n 0, 1) := by decide +kernel
theorem dLaw_766 : decode code 766 = .ok (.iload 4, 2) := by decide +kernel
theorem dLaw_768 : decode code 768 = .ok (.iconst 3, 1) := by decide +kernel
theorem dLaw_769 : decode code 769 = .ok (.iadd, 1) := by decide +kernel
theorem dLaw_770 : decode code 770 = .ok (.iaload, 1) := by decide +kernel
theorem dLaw_771 : decode code 771 = .ok (.i2l, 1) := by decide +kernel
theorem dLaw_772 : decode code 772 = .ok (.bipush 32, 2) := by decide +kernel
theorem dLaw_774 : decode code 774 = .ok (.lshl, 1) := by decide +kernel
theorem dLaw_775 : decode code 775 = .ok (.aload_n 0, 1) := by decide +kernel
theorem dLaw_776 : decode code 776 = .ok (.iload 4, 2) := by decide +kernel
theorem dLaw_778 : decode code 778 = .ok (.iconst 4, 1) := by decide +kernel
theorem dLaw_779 : decode code 779 = .ok (.iadd, 1) := by decide +kernel
theorem dLaw_780 : decode code 780 = .ok (.iaload, 1) := by decide +kernel
theorem dLaw_781 : decode code 781 = .ok (.i2l, 1) := by decide +kernel
theorem dLaw_782 : decode code 782 = .ok (.ldc2_w 51, 3) := by decide +kernel
theorem dLaw_785 : decode code 785 = .ok (.land, 1) := by decide +kernel
theorem dLaw_786 : decode code 786 = .ok (.lor, 1) := by decide +kernel
theorem dLaw_787 : decode code 787 = .ok (.aload_n 3, 1) := by decide +kernel
theorem dLaw_788 : decode code 788 = .ok (.invokestatic 99, 3) := by decide +kernel
theorem dLaw_791 : decode code 791 = .ok (.istore 5, 2) := by decide +kernel
theorem dLaw_793 : decode code 793 = .ok (.aload_n 2, 1) := by decide +kernel
theorem dLaw_794 : decode code 794 = .ok (.aload_n 0, 1) := by decide +kernel
theorem dLaw_795 : decode code 795 = .ok (.iload 4, 2) := by decide +kernel
theorem dLaw_797 : decode code 797 = .ok (.iconst 1, 1) := by decide +kernel
theorem dLaw_798 : decode code 798 = .ok (.iadd, 1) := by decide +kernel
theorem dLaw_799 : decode code 799 = .ok (.iaload, 1) := by decide +kernel
theorem dLaw_800 : decode code 800 = .ok (.i2l, 1) := by decide +kernel
theorem dLaw_801 : decode code 801 = .ok (.bipush 32, 2) := by decide +kernel
theorem dLaw_803 : decode code 803 = .ok (.lshl, 1) := by decide +kernel
theorem dLaw_804 : decode code 804 = .ok (.aload_n 0, 1) := by decide +kernel
theorem dLaw_805 : decode code 805 = .ok (.iload 4, 2) := by decide +kernel
theorem dLaw_807 : decode code 807 = .ok (.iconst 2, 1) := by decide +kernel
theorem dLaw_808 : decode code 808 = .ok (.iadd, 1) := by decide +kernel
theorem dLaw_809 : decode code 809 = .ok (.iaload, 1) := by decide +kernel
theorem dLaw_810 : decode code 810 = .ok (.i2l, 1) := by decide +kernel
theorem dLaw_811 : decode code 811 = .ok (.ldc2_w 51, 3) := by decide +kernel
theorem dLaw_814 : decode code 814 = .ok (.land, 1) := by decide +kernel
theorem dLaw_815 : decode code 815 = .ok (.lor, 1) := by decide +kernel
theorem dLaw_816 : decode code 816 = .ok (.aload_n 0, 1) := by decide +kernel
theorem dLaw_817 : decode code 817 = .ok (.iload 4, 2) := by decide +kernel
theorem dLaw_819 : decode code 819 = .ok (.iconst 3, 1) := by decide +kernel
theorem dLaw_820 : decode code 820 = .ok (.iadd, 1) := by decide +kernel
theorem dLaw_821 : decode code 821 = .ok (.iaload, 1) := by decide +kernel
theorem dLaw_822 : decode code 822 = .ok (.i2l, 1) := by decide +kernel
theorem dLaw_823 : decode code 823 = .ok (.bipush 32, 2) := by decide +kernel
theorem dLaw_825 : decode code 825 = .ok (.lshl, 1) := by decide +kernel
theorem dLaw_826 : decode code 826 = .ok (.aload_n 0, 1) := by decide +kernel
theorem dLaw_827 : decode code 827 = .ok (.iload 4, 2) := by decide +kernel
theorem dLaw_829 : decode code 829 = .ok (.iconst 4, 1) := by decide +kernel
theorem dLaw_830 : decode code 830 = .ok (.iadd, 1) := by decide +kernel
theorem dLaw_831 : decode code 831 = .ok (.iaload, 1) := by decide +kernel
theorem dLaw_832 : decode code 832 = .ok (.i2l, 1) := by decide +kernel
theorem dLaw_833 : decode code 833 = .ok (.ldc2_w 51, 3) := by decide +kernel
theorem dLaw_836 : decode code 836 = .ok (.land, 1) := by decide +kernel
theorem dLaw_837 : decode code 837 = .ok (.lor, 1) := by decide +kernel
theorem dLaw_838 : decode code 838 = .ok (.invokevirtual 102, 3) := by decide +kernel
theorem dLaw_841 : decode code 841 = .ok (.lstore 6, 2) := by decide +kernel
theorem dLaw_843 : decode code 843 = .ok (.aload_n 2, 1) := by decide +kernel
theorem dLaw_844 : decode code 844 = .ok (.invokevirtual 59, 3) := by decide +kernel
theorem dLaw_847 : decode code 847 = .ok (.iload 5, 2) := by decide +kernel
theorem dLaw_849 : decode code 849 = .ok (.if_icmp .eq 5, 3) := by decide +kernel
theorem dLaw_852 : decode code 852 = .ok (.iconst 0, 1) := by decide +kernel
theorem dLaw_853 : decode code 853 = .ok (.ireturn, 1) := by decide +kernel
theorem dLaw_854 : decode code 854 = .ok (.iload 5, 2) := by decide +kernel
theorem dLaw_856 : decode code 856 = .ok (.ifCond .ne 14, 3) := by decide +kernel
theorem dLaw_859 : decode code 859 = .ok (.aload_n 3, 1) := by decide +kernel
theorem dLaw_860 : decode code 860 = .ok (.iconst 0, 1) := by decide +kernel
theorem dLaw_861 : decode code 861 = .ok (.laload, 1) := by decide +kernel
theorem dLaw_862 : decode code 862 = .ok (.lload 6, 2) := by decide +kernel
theorem dLaw_864 : decode code 864 = .ok (.lcmp, 1) := by decide +kernel
theorem dLaw_865 : decode code 865 = .ok (.ifCond .eq 5, 3) := by decide +kernel
theorem dLaw_868 : decode code 868 = .ok (.iconst 0, 1) := by decide +kernel
theorem dLaw_869 : decode code 869 = .ok (.ireturn, 1) := by decide +kernel
theorem dLaw_870 : decode code 870 = .ok (.goto 3, 3) := by decide +kernel
theorem dLaw_873 : decode code 873 = .ok (.iinc 4 6, 3) := by decide +kernel
theorem dLaw_876 : decode code 876 = .ok (.goto (-853), 3) := by decide +kernel
theorem dLaw_879 : decode code 879 = .ok (.iconst 1, 1) := by decide +kernel
theorem dLaw_880 : decode code 880 = .ok (.ireturn, 1) := by decide +kernel
