theorem dW_745 : decode code 745 = .ok (.aload_n 1, 1) := by decide +kernel
theorem dW_746 : decode code 746 = .ok (.aload_n 0, 1) := by decide +kernel
theorem dW_747 : decode code 747 = .ok (.iload 4, 2) := by decide +kernel
theorem dW_749 : decode code 749 = .ok (.iconst 1, 1) := by decide +kernel
theorem dW_750 : decode code 750 = .ok (.iadd, 1) := by decide +kernel
theorem dW_751 : decode code 751 = .ok (.iaload, 1) := by decide +kernel
theorem dW_752 : decode code 752 = .ok (.aload_n 0, 1) := by decide +kernel
theorem dW_753 : decode code 753 = .ok (.iload 4, 2) := by decide +kernel
theorem dW_755 : decode code 755 = .ok (.iconst 2, 1) := by decide +kernel
theorem dW_756 : decode code 756 = .ok (.iadd, 1) := by decide +kernel
theorem dW_757 : decode code 757 = .ok (.iaload, 1) := by decide +kernel
theorem dW_758 : decode code 758 = .ok (.aload_n 0, 1) := by decide +kernel
theorem dW_759 : decode code 759 = .ok (.iload 4, 2) := by decide +kernel
theorem dW_761 : decode code 761 = .ok (.iconst 3, 1) := by decide +kernel
theorem dW_762 : decode code 762 = .ok (.iadd, 1) := by decide +kernel
theorem dW_763 : decode code 763 = .ok (.iaload, 1) := by decide +kernel
theorem dW_764 : decode code 764 = .ok (.aload_n 3, 1) := by decide +kernel
theorem dW_765 : decode code 765 = .ok (.invokestatic 96, 3) := by decide +kernel
theorem dW_768 : decode code 768 = .ok (.istore 5, 2) := by decide +kernel
theorem dW_770 : decode code 770 = .ok (.aload_n 2, 1) := by decide +kernel
theorem dW_771 : decode code 771 = .ok (.aload_n 0, 1) := by decide +kernel
theorem dW_772 : decode code 772 = .ok (.iload 4, 2) := by decide +kernel
theorem dW_774 : decode code 774 = .ok (.iconst 1, 1) := by decide +kernel
theorem dW_775 : decode code 775 = .ok (.iadd, 1) := by decide +kernel
theorem dW_776 : decode code 776 = .ok (.iaload, 1) := by decide +kernel
theorem dW_777 : decode code 777 = .ok (.aload_n 0, 1) := by decide +kernel
theorem dW_778 : decode code 778 = .ok (.iload 4, 2) := by decide +kernel
theorem dW_780 : decode code 780 = .ok (.iconst 2, 1) := by decide +kernel
theorem dW_781 : decode code 781 = .ok (.iadd, 1) := by decide +kernel
theorem dW_782 : decode code 782 = .ok (.iaload, 1) := by decide +kernel
theorem dW_783 : decode code 783 = .ok (.aload_n 0, 1) := by decide +kernel
theorem dW_784 : decode code 784 = .ok (.iload 4, 2) := by decide +kernel
theorem dW_786 : decode code 786 = .ok (.iconst 3, 1) := by decide +kernel
theorem dW_787 : decode code 787 = .ok (.iadd, 1) := by decide +kernel
theorem dW_788 : decode code 788 = .ok (.iaload, 1) := by decide +kernel
theorem dW_789 : decode code 789 = .ok (.invokevirtual 98, 3) := by decide +kernel
theorem dW_792 : decode code 792 = .ok (.istore 6, 2) := by decide +kernel
theorem dW_794 : decode code 794 = .ok (.aload_n 2, 1) := by decide +kernel
theorem dW_795 : decode code 795 = .ok (.invokevirtual 63, 3) := by decide +kernel
theorem dW_798 : decode code 798 = .ok (.iload 5, 2) := by decide +kernel
theorem dW_800 : decode code 800 = .ok (.if_icmp .eq 5, 3) := by decide +kernel
theorem dW_803 : decode code 803 = .ok (.iconst 0, 1) := by decide +kernel
theorem dW_804 : decode code 804 = .ok (.ireturn, 1) := by decide +kernel
theorem dW_805 : decode code 805 = .ok (.iload 5, 2) := by decide +kernel
theorem dW_807 : decode code 807 = .ok (.ifCond .ne 15, 3) := by decide +kernel
theorem dW_810 : decode code 810 = .ok (.aload_n 3, 1) := by decide +kernel
theorem dW_811 : decode code 811 = .ok (.iconst 0, 1) := by decide +kernel
theorem dW_812 : decode code 812 = .ok (.laload, 1) := by decide +kernel
theorem dW_813 : decode code 813 = .ok (.iload 6, 2) := by decide +kernel
theorem dW_815 : decode code 815 = .ok (.i2l, 1) := by decide +kernel
theorem dW_816 : decode code 816 = .ok (.lcmp, 1) := by decide +kernel
theorem dW_817 : decode code 817 = .ok (.ifCond .eq 5, 3) := by decide +kernel
theorem dW_820 : decode code 820 = .ok (.iconst 0, 1) := by decide +kernel
theorem dW_821 : decode code 821 = .ok (.ireturn, 1) := by decide +kernel
theorem dW_822 : decode code 822 = .ok (.goto 229, 3) := by decide +kernel
theorem dW_825 : decode code 825 = .ok (.aload_n 1, 1) := by decide +kernel
theorem dW_826 : decode code 826 = .ok (.invokevirtual 99, 3) := by decide +kernel
theorem dW_829 : decode code 829 = .ok (.aload_n 2, 1) := by decide +kernel
theorem dW_830 : decode code 830 = .ok (.invokevirtual 102, 3) := by decide +kernel
theorem dW_833 : decode code 833 = .ok (.if_icmp .eq 218, 3) := by decide +kernel
theorem dW_836 : decode code 836 = .ok (.iconst 0, 1) := by decide +kernel
theorem dW_837 : decode code 837 = .ok (.ireturn, 1) := by decide +kernel
theorem dW_838 : decode code 838 = .ok (.aload_n 1, 1) := by decide +kernel
theorem dW_839 : decode code 839 = .ok (.aload_n 0, 1) := by decide +kernel
theorem dW_840 : decode code 840 = .ok (.iload 4, 2) := by decide +kernel
theorem dW_842 : decode code 842 = .ok (.iconst 1, 1) := by decide +kernel
theorem dW_843 : decode code 843 = .ok (.iadd, 1) := by decide +kernel
theorem dW_844 : decode code 844 = .ok (.iaload, 1) := by decide +kernel
theorem dW_845 : decode code 845 = .ok (.aload_n 3, 1) := by decide +kernel
theorem dW_846 : decode code 846 = .ok (.invokestatic 103, 3) := by decide +kernel
theorem dW_849 : decode code 849 = .ok (.istore 5, 2) := by decide +kernel
theorem dW_851 : decode code 851 = .ok (.aload_n 2, 1) := by decide +kernel
theorem dW_852 : decode code 852 = .ok (.aload_n 0, 1) := by decide +kernel
theorem dW_853 : decode code 853 = .ok (.iload 4, 2) := by decide +kernel
theorem dW_855 : decode code 855 = .ok (.iconst 1, 1) := by decide +kernel
theorem dW_856 : decode code 856 = .ok (.iadd, 1) := by decide +kernel
theorem dW_857 : decode code 857 = .ok (.iaload, 1) := by decide +kernel
theorem dW_858 : decode code 858 = .ok (.invokevirtual 105, 3) := by decide +kernel
theorem dW_861 : decode code 861 = .ok (.istore 6, 2) := by decide +kernel
theorem dW_863 : decode code 863 = .ok (.aload_n 2, 1) := by decide +kernel
theorem dW_864 : decode code 864 = .ok (.invokevirtual 63, 3) := by decide +kernel
theorem dW_867 : decode code 867 = .ok (.iload 5, 2) := by decide +kernel
theorem dW_869 : decode code 869 = .ok (.if_icmp .eq 5, 3) := by decide +kernel
theorem dW_872 : decode code 872 = .ok (.iconst 0, 1) := by decide +kernel
theorem dW_873 : decode code 873 = .ok (.ireturn, 1) := by decide +kernel
theorem dW_874 : decode code 874 = .ok (.iload 5, 2) := by decide +kernel
theorem dW_876 : decode code 876 = .ok (.ifCond .ne 15, 3) := by decide +kernel
theorem dW_879 : decode code 879 = .ok (.aload_n 3, 1) := by decide +kernel
theorem dW_880 : decode code 880 = .ok (.iconst 0, 1) := by decide +kernel
theorem dW_881 : decode code 881 = .ok (.laload, 1) := by decide +kernel
theorem dW_882 : decode code 882 = .ok (.iload 6, 2) := by decide +kernel
theorem dW_884 : decode code 884 = .ok (.i2l, 1) := by decide +kernel
theorem dW_885 : decode code 885 = .ok (.lcmp, 1) := by decide +kernel
theorem dW_886 : decode code 886 = .ok (.ifCond .eq 5, 3) := by decide +kernel
theorem dW_889 : decode code 889 = .ok (.iconst 0, 1) := by decide +kernel
theorem dW_890 : decode code 890 = .ok (.ireturn, 1) := by decide +kernel
theorem dW_891 : decode code 891 = .ok (.goto 160, 3) := by decide +kernel
theorem dW_894 : decode code 894 = .ok (.aload_n 1, 1) := by decide +kernel
theorem dW_895 : decode code 895 = .ok (.aload_n 0, 1) := by decide +kernel
theorem dW_896 : decode code 896 = .ok (.iload 4, 2) := by decide +kernel
theorem dW_898 : decode code 898 = .ok (.iconst 1, 1) := by decide +kernel
theorem dW_899 : decode code 899 = .ok (.iadd, 1) := by decide +kernel
theorem dW_900 : decode code 900 = .ok (.iaload, 1) := by decide +kernel
theorem dW_901 : decode code 901 = .ok (.aload_n 0, 1) := by decide +kernel
theorem dW_902 : decode code 902 = .ok (.iload 4, 2) := by decide +kernel
theorem dW_904 : decode code 904 = .ok (.iconst 2, 1) := by decide +kernel
theorem dW_905 : decode code 905 = .ok (.iadd, 1) := by decide +kernel
theorem dW_906 : decode code 906 = .ok (.iaload, 1) := by decide +kernel
theorem dW_907 : decode code 907 = .ok (.aload_n 3, 1) := by decide +kernel
theorem dW_908 : decode code 908 = .ok (.invokestatic 106, 3) := by decide +kernel
