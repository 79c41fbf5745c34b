theorem dL_law_761 : decode cL_law 761 = .ok (.iastore, 1) := by decide +kernel
theorem dL_law_762 : decode cL_law 762 = .ok (.iload 6, 2) := by decide +kernel
theorem dL_law_764 : decode cL_law 764 = .ok (.iload 21, 2) := by decide +kernel
theorem dL_law_766 : decode cL_law 766 = .ok (.isub, 1) := by decide +kernel
theorem dL_law_767 : decode cL_law 767 = .ok (.istore 6, 2) := by decide +kernel
theorem dL_law_769 : decode cL_law 769 = .ok (.iload 17, 2) := by decide +kernel
theorem dL_law_771 : decode cL_law 771 = .ok (.iload 7, 2) := by decide +kernel
theorem dL_law_773 : decode cL_law 773 = .ok (.if_icmp .ne 57, 3) := by decide +kernel
theorem dL_law_776 : decode cL_law 776 = .ok (.iload 20, 2) := by decide +kernel
theorem dL_law_778 : decode cL_law 778 = .ok (.iload 19, 2) := by decide +kernel
theorem dL_law_780 : decode cL_law 780 = .ok (.if_icmp .ge 50, 3) := by decide +kernel
theorem dL_law_783 : decode cL_law 783 = .ok (.aload_n 1, 1) := by decide +kernel
theorem dL_law_784 : decode cL_law 784 = .ok (.iload 17, 2) := by decide +kernel
theorem dL_law_786 : decode cL_law 786 = .ok (.invokestatic 132, 3) := by decide +kernel
theorem dL_law_789 : decode cL_law 789 = .ok (.iload 19, 2) := by decide +kernel
theorem dL_law_791 : decode cL_law 791 = .ok (.iload 20, 2) := by decide +kernel
theorem dL_law_793 : decode cL_law 793 = .ok (.isub, 1) := by decide +kernel
theorem dL_law_794 : decode cL_law 794 = .ok (.if_icmp .ne 36, 3) := by decide +kernel
theorem dL_law_797 : decode cL_law 797 = .ok (.aload_n 1, 1) := by decide +kernel
theorem dL_law_798 : decode cL_law 798 = .ok (.iload 16, 2) := by decide +kernel
theorem dL_law_800 : decode cL_law 800 = .ok (.invokestatic 132, 3) := by decide +kernel
theorem dL_law_803 : decode cL_law 803 = .ok (.iload 20, 2) := by decide +kernel
theorem dL_law_805 : decode cL_law 805 = .ok (.if_icmp .ne 25, 3) := by decide +kernel
theorem dL_law_808 : decode cL_law 808 = .ok (.aload_n 1, 1) := by decide +kernel
theorem dL_law_809 : decode cL_law 809 = .ok (.iload 22, 2) := by decide +kernel
theorem dL_law_811 : decode cL_law 811 = .ok (.invokestatic 146, 3) := by decide +kernel
theorem dL_law_814 : decode cL_law 814 = .ok (.ifCond .ne 16, 3) := by decide +kernel
theorem dL_law_817 : decode cL_law 817 = .ok (.aload_n 1, 1) := by decide +kernel
theorem dL_law_818 : decode cL_law 818 = .ok (.iload 22, 2) := by decide +kernel
theorem dL_law_820 : decode cL_law 820 = .ok (.invokestatic 152, 3) := by decide +kernel
theorem dL_law_823 : decode cL_law 823 = .ok (.ifCond .ne 7, 3) := by decide +kernel
theorem dL_law_826 : decode cL_law 826 = .ok (.iconst 1, 1) := by decide +kernel
theorem dL_law_827 : decode cL_law 827 = .ok (.goto 4, 3) := by decide +kernel
theorem dL_law_830 : decode cL_law 830 = .ok (.iconst 0, 1) := by decide +kernel
theorem dL_law_831 : decode cL_law 831 = .ok (.istore 8, 2) := by decide +kernel
theorem dL_law_833 : decode cL_law 833 = .ok (.iinc 7 1, 3) := by decide +kernel
theorem dL_law_836 : decode cL_law 836 = .ok (.goto 48, 3) := by decide +kernel
theorem dL_law_839 : decode cL_law 839 = .ok (.iload 17, 2) := by decide +kernel
theorem dL_law_841 : decode cL_law 841 = .ok (.iconst (-1), 1) := by decide +kernel
theorem dL_law_842 : decode cL_law 842 = .ok (.if_icmp .ne 42, 3) := by decide +kernel
theorem dL_law_845 : decode cL_law 845 = .ok (.iload 6, 2) := by decide +kernel
theorem dL_law_847 : decode cL_law 847 = .ok (.iload 20, 2) := by decide +kernel
theorem dL_law_849 : decode cL_law 849 = .ok (.isub, 1) := by decide +kernel
theorem dL_law_850 : decode cL_law 850 = .ok (.istore 6, 2) := by decide +kernel
theorem dL_law_852 : decode cL_law 852 = .ok (.aload_n 1, 1) := by decide +kernel
theorem dL_law_853 : decode cL_law 853 = .ok (.iload 16, 2) := by decide +kernel
theorem dL_law_855 : decode cL_law 855 = .ok (.invokestatic 129, 3) := by decide +kernel
theorem dL_law_858 : decode cL_law 858 = .ok (.bipush 107, 2) := by decide +kernel
theorem dL_law_860 : decode cL_law 860 = .ok (.if_icmp .ne 21, 3) := by decide +kernel
theorem dL_law_863 : decode cL_law 863 = .ok (.aload_n 1, 1) := by decide +kernel
theorem dL_law_864 : decode cL_law 864 = .ok (.iload 22, 2) := by decide +kernel
theorem dL_law_866 : decode cL_law 866 = .ok (.invokestatic 146, 3) := by decide +kernel
theorem dL_law_869 : decode cL_law 869 = .ok (.iload 21, 2) := by decide +kernel
theorem dL_law_871 : decode cL_law 871 = .ok (.iload 20, 2) := by decide +kernel
theorem dL_law_873 : decode cL_law 873 = .ok (.isub, 1) := by decide +kernel
theorem dL_law_874 : decode cL_law 874 = .ok (.if_icmp .ne 7, 3) := by decide +kernel
theorem dL_law_877 : decode cL_law 877 = .ok (.iconst 1, 1) := by decide +kernel
theorem dL_law_878 : decode cL_law 878 = .ok (.goto 4, 3) := by decide +kernel
theorem dL_law_881 : decode cL_law 881 = .ok (.iconst 0, 1) := by decide +kernel
theorem dL_law_882 : decode cL_law 882 = .ok (.istore 8, 2) := by decide +kernel
theorem dL_law_884 : decode cL_law 884 = .ok (.goto 343, 3) := by decide +kernel
theorem dL_law_887 : decode cL_law 887 = .ok (.iload 13, 2) := by decide +kernel
theorem dL_law_889 : decode cL_law 889 = .ok (.bipush 18, 2) := by decide +kernel
theorem dL_law_891 : decode cL_law 891 = .ok (.if_icmp .ge 60, 3) := by decide +kernel
theorem dL_law_894 : decode cL_law 894 = .ok (.aload_n 1, 1) := by decide +kernel
theorem dL_law_895 : decode cL_law 895 = .ok (.invokevirtual 154, 3) := by decide +kernel
theorem dL_law_898 : decode cL_law 898 = .ok (.lstore 19, 2) := by decide +kernel
theorem dL_law_900 : decode cL_law 900 = .ok (.aload_n 1, 1) := by decide +kernel
theorem dL_law_901 : decode cL_law 901 = .ok (.iload 15, 2) := by decide +kernel
theorem dL_law_903 : decode cL_law 903 = .ok (.iconst 4, 1) := by decide +kernel
theorem dL_law_904 : decode cL_law 904 = .ok (.irem, 1) := by decide +kernel
theorem dL_law_905 : decode cL_law 905 = .ok (.invokestatic 158, 3) := by decide +kernel
theorem dL_law_908 : decode cL_law 908 = .ok (.istore 17, 2) := by decide +kernel
theorem dL_law_910 : decode cL_law 910 = .ok (.iload 17, 2) := by decide +kernel
theorem dL_law_912 : decode cL_law 912 = .ok (.ifCond .ge 7, 3) := by decide +kernel
theorem dL_law_915 : decode cL_law 915 = .ok (.iconst 1, 1) := by decide +kernel
theorem dL_law_916 : decode cL_law 916 = .ok (.goto 4, 3) := by decide +kernel
theorem dL_law_919 : decode cL_law 919 = .ok (.iconst 0, 1) := by decide +kernel
theorem dL_law_920 : decode cL_law 920 = .ok (.istore 18, 2) := by decide +kernel
theorem dL_law_922 : decode cL_law 922 = .ok (.iload 17, 2) := by decide +kernel
theorem dL_law_924 : decode cL_law 924 = .ok (.ifCond .lt 17, 3) := by decide +kernel
theorem dL_law_927 : decode cL_law 927 = .ok (.aload_n 1, 1) := by decide +kernel
theorem dL_law_928 : decode cL_law 928 = .ok (.invokevirtual 154, 3) := by decide +kernel
theorem dL_law_931 : decode cL_law 931 = .ok (.lload 19, 2) := by decide +kernel
theorem dL_law_933 : decode cL_law 933 = .ok (.iload 17, 2) := by decide +kernel
theorem dL_law_935 : decode cL_law 935 = .ok (.i2l, 1) := by decide +kernel
theorem dL_law_936 : decode cL_law 936 = .ok (.ladd, 1) := by decide +kernel
theorem dL_law_937 : decode cL_law 937 = .ok (.lcmp, 1) := by decide +kernel
theorem dL_law_938 : decode cL_law 938 = .ok (.ifCond .lt 7, 3) := by decide +kernel
theorem dL_law_941 : decode cL_law 941 = .ok (.iconst 1, 1) := by decide +kernel
theorem dL_law_942 : decode cL_law 942 = .ok (.goto 4, 3) := by decide +kernel
theorem dL_law_945 : decode cL_law 945 = .ok (.iconst 0, 1) := by decide +kernel
theorem dL_law_946 : decode cL_law 946 = .ok (.istore 8, 2) := by decide +kernel
theorem dL_law_948 : decode cL_law 948 = .ok (.goto 279, 3) := by decide +kernel
theorem dL_law_951 : decode cL_law 951 = .ok (.iload 13, 2) := by decide +kernel
theorem dL_law_953 : decode cL_law 953 = .ok (.bipush 22, 2) := by decide +kernel
theorem dL_law_955 : decode cL_law 955 = .ok (.if_icmp .ge 75, 3) := by decide +kernel
theorem dL_law_958 : decode cL_law 958 = .ok (.aload_n 1, 1) := by decide +kernel
theorem dL_law_959 : decode cL_law 959 = .ok (.invokevirtual 160, 3) := by decide +kernel
theorem dL_law_962 : decode cL_law 962 = .ok (.istore 19, 2) := by decide +kernel
