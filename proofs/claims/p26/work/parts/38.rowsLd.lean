/-! ===== rows of the law ===== -/
theorem dL_law_771 : decode cL_law 771 = .ok (.aload_n 1, 1) := by decide +kernel
theorem dL_law_772 : decode cL_law 772 = .ok (.iload 15, 2) := by decide +kernel
theorem dL_law_774 : decode cL_law 774 = .ok (.iconst 1, 1) := by decide +kernel
theorem dL_law_775 : decode cL_law 775 = .ok (.invokestatic 134, 3) := by decide +kernel
theorem dL_law_778 : decode cL_law 778 = .ok (.ifCond .ne 5, 3) := by decide +kernel
theorem dL_law_781 : decode cL_law 781 = .ok (.iconst 0, 1) := by decide +kernel
theorem dL_law_782 : decode cL_law 782 = .ok (.ireturn, 1) := by decide +kernel
theorem dL_law_783 : decode cL_law 783 = .ok (.aload_n 1, 1) := by decide +kernel
theorem dL_law_784 : decode cL_law 784 = .ok (.iload 14, 2) := by decide +kernel
theorem dL_law_786 : decode cL_law 786 = .ok (.iload 9, 2) := by decide +kernel
theorem dL_law_788 : decode cL_law 788 = .ok (.invokevirtual 141, 3) := by decide +kernel
theorem dL_law_791 : decode cL_law 791 = .ok (.istore 16, 2) := by decide +kernel
theorem dL_law_793 : decode cL_law 793 = .ok (.iload 16, 2) := by decide +kernel
theorem dL_law_795 : decode cL_law 795 = .ok (.ifCond .lt 53, 3) := by decide +kernel
theorem dL_law_798 : decode cL_law 798 = .ok (.iload 16, 2) := by decide +kernel
theorem dL_law_800 : decode cL_law 800 = .ok (.iload 9, 2) := by decide +kernel
theorem dL_law_802 : decode cL_law 802 = .ok (.if_icmp .le 44, 3) := by decide +kernel
theorem dL_law_805 : decode cL_law 805 = .ok (.iload 16, 2) := by decide +kernel
theorem dL_law_807 : decode cL_law 807 = .ok (.iload 9, 2) := by decide +kernel
theorem dL_law_809 : decode cL_law 809 = .ok (.bipush 100, 2) := by decide +kernel
theorem dL_law_811 : decode cL_law 811 = .ok (.iadd, 1) := by decide +kernel
theorem dL_law_812 : decode cL_law 812 = .ok (.if_icmp .gt 34, 3) := by decide +kernel
theorem dL_law_815 : decode cL_law 815 = .ok (.aload_n 1, 1) := by decide +kernel
theorem dL_law_816 : decode cL_law 816 = .ok (.iload 14, 2) := by decide +kernel
theorem dL_law_818 : decode cL_law 818 = .ok (.iload 16, 2) := by decide +kernel
theorem dL_law_820 : decode cL_law 820 = .ok (.invokevirtual 138, 3) := by decide +kernel
theorem dL_law_823 : decode cL_law 823 = .ok (.aload_n 1, 1) := by decide +kernel
theorem dL_law_824 : decode cL_law 824 = .ok (.iload 16, 2) := by decide +kernel
theorem dL_law_826 : decode cL_law 826 = .ok (.iconst 0, 1) := by decide +kernel
theorem dL_law_827 : decode cL_law 827 = .ok (.iconst 0, 1) := by decide +kernel
theorem dL_law_828 : decode cL_law 828 = .ok (.invokevirtual 123, 3) := by decide +kernel
theorem dL_law_831 : decode cL_law 831 = .ok (.isub, 1) := by decide +kernel
theorem dL_law_832 : decode cL_law 832 = .ok (.aload_n 1, 1) := by decide +kernel
theorem dL_law_833 : decode cL_law 833 = .ok (.iload 14, 2) := by decide +kernel
theorem dL_law_835 : decode cL_law 835 = .ok (.iload 9, 2) := by decide +kernel
theorem dL_law_837 : decode cL_law 837 = .ok (.invokevirtual 138, 3) := by decide +kernel
theorem dL_law_840 : decode cL_law 840 = .ok (.iload 10, 2) := by decide +kernel
theorem dL_law_842 : decode cL_law 842 = .ok (.isub, 1) := by decide +kernel
theorem dL_law_843 : decode cL_law 843 = .ok (.if_icmp .eq 5, 3) := by decide +kernel
theorem dL_law_846 : decode cL_law 846 = .ok (.iconst 0, 1) := by decide +kernel
theorem dL_law_847 : decode cL_law 847 = .ok (.ireturn, 1) := by decide +kernel
theorem dL_law_848 : decode cL_law 848 = .ok (.iinc 14 1, 3) := by decide +kernel
theorem dL_law_851 : decode cL_law 851 = .ok (.goto (-154), 3) := by decide +kernel
theorem dL_law_854 : decode cL_law 854 = .ok (.aload_n 1, 1) := by decide +kernel
theorem dL_law_855 : decode cL_law 855 = .ok (.iload 12, 2) := by decide +kernel
theorem dL_law_857 : decode cL_law 857 = .ok (.invokevirtual 144, 3) := by decide +kernel
theorem dL_law_860 : decode cL_law 860 = .ok (.istore 14, 2) := by decide +kernel
theorem dL_law_862 : decode cL_law 862 = .ok (.iload 14, 2) := by decide +kernel
theorem dL_law_864 : decode cL_law 864 = .ok (.ifCond .lt 43, 3) := by decide +kernel
theorem dL_law_867 : decode cL_law 867 = .ok (.iload 14, 2) := by decide +kernel
theorem dL_law_869 : decode cL_law 869 = .ok (.iload 12, 2) := by decide +kernel
theorem dL_law_871 : decode cL_law 871 = .ok (.if_icmp .lt 34, 3) := by decide +kernel
theorem dL_law_874 : decode cL_law 874 = .ok (.iload 14, 2) := by decide +kernel
theorem dL_law_876 : decode cL_law 876 = .ok (.iload 12, 2) := by decide +kernel
theorem dL_law_878 : decode cL_law 878 = .ok (.sipush 2999, 3) := by decide +kernel
theorem dL_law_881 : decode cL_law 881 = .ok (.iadd, 1) := by decide +kernel
theorem dL_law_882 : decode cL_law 882 = .ok (.if_icmp .gt 23, 3) := by decide +kernel
theorem dL_law_885 : decode cL_law 885 = .ok (.aload_n 1, 1) := by decide +kernel
theorem dL_law_886 : decode cL_law 886 = .ok (.iload 14, 2) := by decide +kernel
theorem dL_law_888 : decode cL_law 888 = .ok (.iconst 1, 1) := by decide +kernel
theorem dL_law_889 : decode cL_law 889 = .ok (.invokestatic 134, 3) := by decide +kernel
theorem dL_law_892 : decode cL_law 892 = .ok (.ifCond .ne 15, 3) := by decide +kernel
theorem dL_law_895 : decode cL_law 895 = .ok (.aload_n 1, 1) := by decide +kernel
theorem dL_law_896 : decode cL_law 896 = .ok (.iload 14, 2) := by decide +kernel
theorem dL_law_898 : decode cL_law 898 = .ok (.iconst 0, 1) := by decide +kernel
theorem dL_law_899 : decode cL_law 899 = .ok (.invokestatic 134, 3) := by decide +kernel
theorem dL_law_902 : decode cL_law 902 = .ok (.ifCond .ne 5, 3) := by decide +kernel
theorem dL_law_905 : decode cL_law 905 = .ok (.iconst 0, 1) := by decide +kernel
theorem dL_law_906 : decode cL_law 906 = .ok (.ireturn, 1) := by decide +kernel
theorem dL_law_907 : decode cL_law 907 = .ok (.iconst 0, 1) := by decide +kernel
theorem dL_law_908 : decode cL_law 908 = .ok (.istore 15, 2) := by decide +kernel
theorem dL_law_910 : decode cL_law 910 = .ok (.iload 10, 2) := by decide +kernel
theorem dL_law_912 : decode cL_law 912 = .ok (.istore 16, 2) := by decide +kernel
theorem dL_law_914 : decode cL_law 914 = .ok (.iload 16, 2) := by decide +kernel
theorem dL_law_916 : decode cL_law 916 = .ok (.iload 11, 2) := by decide +kernel
theorem dL_law_918 : decode cL_law 918 = .ok (.if_icmp .ge 38, 3) := by decide +kernel
theorem dL_law_921 : decode cL_law 921 = .ok (.aload_n 1, 1) := by decide +kernel
theorem dL_law_922 : decode cL_law 922 = .ok (.iload 16, 2) := by decide +kernel
theorem dL_law_924 : decode cL_law 924 = .ok (.invokevirtual 144, 3) := by decide +kernel
theorem dL_law_927 : decode cL_law 927 = .ok (.istore 17, 2) := by decide +kernel
theorem dL_law_929 : decode cL_law 929 = .ok (.iload 17, 2) := by decide +kernel
theorem dL_law_931 : decode cL_law 931 = .ok (.ifCond .lt 25, 3) := by decide +kernel
theorem dL_law_934 : decode cL_law 934 = .ok (.iload 17, 2) := by decide +kernel
theorem dL_law_936 : decode cL_law 936 = .ok (.iload 11, 2) := by decide +kernel
theorem dL_law_938 : decode cL_law 938 = .ok (.if_icmp .lt 6, 3) := by decide +kernel
theorem dL_law_941 : decode cL_law 941 = .ok (.goto 15, 3) := by decide +kernel
theorem dL_law_944 : decode cL_law 944 = .ok (.iinc 15 1, 3) := by decide +kernel
theorem dL_law_947 : decode cL_law 947 = .ok (.iload 17, 2) := by decide +kernel
theorem dL_law_949 : decode cL_law 949 = .ok (.iconst 1, 1) := by decide +kernel
theorem dL_law_950 : decode cL_law 950 = .ok (.iadd, 1) := by decide +kernel
theorem dL_law_951 : decode cL_law 951 = .ok (.istore 16, 2) := by decide +kernel
theorem dL_law_953 : decode cL_law 953 = .ok (.goto (-39), 3) := by decide +kernel
theorem dL_law_956 : decode cL_law 956 = .ok (.aload_n 1, 1) := by decide +kernel
theorem dL_law_957 : decode cL_law 957 = .ok (.iload 9, 2) := by decide +kernel
theorem dL_law_959 : decode cL_law 959 = .ok (.iconst 1, 1) := by decide +kernel
theorem dL_law_960 : decode cL_law 960 = .ok (.invokevirtual 147, 3) := by decide +kernel
theorem dL_law_963 : decode cL_law 963 = .ok (.aload_n 1, 1) := by decide +kernel
theorem dL_law_964 : decode cL_law 964 = .ok (.iload 9, 2) := by decide +kernel
theorem dL_law_966 : decode cL_law 966 = .ok (.iconst 0, 1) := by decide +kernel
theorem dL_law_967 : decode cL_law 967 = .ok (.invokevirtual 147, 3) := by decide +kernel
theorem dL_law_970 : decode cL_law 970 = .ok (.iadd, 1) := by decide +kernel
theorem dL_law_971 : decode cL_law 971 = .ok (.istore 16, 2) := by decide +kernel
theorem dL_law_973 : decode cL_law 973 = .ok (.iload 15, 2) := by decide +kernel
theorem dL_law_975 : decode cL_law 975 = .ok (.iload 16, 2) := by decide +kernel
theorem dL_law_977 : decode cL_law 977 = .ok (.if_icmp .gt 35, 3) := by decide +kernel
theorem dL_law_980 : decode cL_law 980 = .ok (.iload 16, 2) := by decide +kernel
theorem dL_law_982 : decode cL_law 982 = .ok (.ifCond .le 7, 3) := by decide +kernel
theorem dL_law_985 : decode cL_law 985 = .ok (.iconst 1, 1) := by decide +kernel
theorem dL_law_986 : decode cL_law 986 = .ok (.goto 4, 3) := by decide +kernel
theorem dL_law_989 : decode cL_law 989 = .ok (.iconst 0, 1) := by decide +kernel
theorem dL_law_990 : decode cL_law 990 = .ok (.iload 15, 2) := by decide +kernel
theorem dL_law_992 : decode cL_law 992 = .ok (.ifCond .le 7, 3) := by decide +kernel
theorem dL_law_995 : decode cL_law 995 = .ok (.iconst 1, 1) := by decide +kernel
theorem dL_law_996 : decode cL_law 996 = .ok (.goto 4, 3) := by decide +kernel
theorem dL_law_999 : decode cL_law 999 = .ok (.iconst 0, 1) := by decide +kernel
theorem dL_law_1000 : decode cL_law 1000 = .ok (.if_icmp .ne 12, 3) := by decide +kernel
theorem dL_law_1003 : decode cL_law 1003 = .ok (.iload 16, 2) := by decide +kernel
theorem dL_law_1005 : decode cL_law 1005 = .ok (.iconst 2, 1) := by decide +kernel
theorem dL_law_1006 : decode cL_law 1006 = .ok (.iload 15, 2) := by decide +kernel
theorem dL_law_1008 : decode cL_law 1008 = .ok (.imul, 1) := by decide +kernel
theorem dL_law_1009 : decode cL_law 1009 = .ok (.if_icmp .le 5, 3) := by decide +kernel
theorem dL_law_1012 : decode cL_law 1012 = .ok (.iconst 0, 1) := by decide +kernel
theorem dL_law_1013 : decode cL_law 1013 = .ok (.ireturn, 1) := by decide +kernel
theorem dL_law_1014 : decode cL_law 1014 = .ok (.iload 14, 2) := by decide +kernel
theorem dL_law_1016 : decode cL_law 1016 = .ok (.ifCond .lt 17, 3) := by decide +kernel
theorem dL_law_1019 : decode cL_law 1019 = .ok (.iload 14, 2) := by decide +kernel
theorem dL_law_1021 : decode cL_law 1021 = .ok (.iload 11, 2) := by decide +kernel
theorem dL_law_1023 : decode cL_law 1023 = .ok (.if_icmp .ge 10, 3) := by decide +kernel
theorem dL_law_1026 : decode cL_law 1026 = .ok (.iload 16, 2) := by decide +kernel
theorem dL_law_1028 : decode cL_law 1028 = .ok (.ifCond .ne 5, 3) := by decide +kernel
theorem dL_law_1031 : decode cL_law 1031 = .ok (.iconst 0, 1) := by decide +kernel
theorem dL_law_1032 : decode cL_law 1032 = .ok (.ireturn, 1) := by decide +kernel
theorem dL_law_1033 : decode cL_law 1033 = .ok (.iinc 3 1, 3) := by decide +kernel
theorem dL_law_1036 : decode cL_law 1036 = .ok (.goto (-1014), 3) := by decide +kernel
theorem dL_law_1039 : decode cL_law 1039 = .ok (.aload_n 2, 1) := by decide +kernel
theorem dL_law_1040 : decode cL_law 1040 = .ok (.aload_n 1, 1) := by decide +kernel
theorem dL_law_1041 : decode cL_law 1041 = .ok (.invokevirtual 150, 3) := by decide +kernel
theorem dL_law_1044 : decode cL_law 1044 = .ok (.ireturn, 1) := by decide +kernel
theorem dL_isMoon_0 : decode cL_isMoon 0 = .ok (.iconst 0, 1) := by decide +kernel
theorem dL_isMoon_1 : decode cL_isMoon 1 = .ok (.sipush 1000, 3) := by decide +kernel
theorem dL_isMoon_4 : decode cL_isMoon 4 = .ok (.iload_n 1, 1) := by decide +kernel
theorem dL_isMoon_5 : decode cL_isMoon 5 = .ok (.imul, 1) := by decide +kernel
theorem dL_isMoon_6 : decode cL_isMoon 6 = .ok (.aload_n 0, 1) := by decide +kernel
theorem dL_isMoon_7 : decode cL_isMoon 7 = .ok (.iconst 3, 1) := by decide +kernel
theorem dL_isMoon_8 : decode cL_isMoon 8 = .ok (.invokevirtual 109, 3) := by decide +kernel
theorem dL_isMoon_11 : decode cL_isMoon 11 = .ok (.isub, 1) := by decide +kernel
theorem dL_isMoon_12 : decode cL_isMoon 12 = .ok (.aload_n 0, 1) := by decide +kernel
theorem dL_isMoon_13 : decode cL_isMoon 13 = .ok (.iconst 2, 1) := by decide +kernel
theorem dL_isMoon_14 : decode cL_isMoon 14 = .ok (.invokevirtual 109, 3) := by decide +kernel
theorem dL_isMoon_17 : decode cL_isMoon 17 = .ok (.idiv, 1) := by decide +kernel
theorem dL_isMoon_18 : decode cL_isMoon 18 = .ok (.iconst 2, 1) := by decide +kernel
theorem dL_isMoon_19 : decode cL_isMoon 19 = .ok (.isub, 1) := by decide +kernel
theorem dL_isMoon_20 : decode cL_isMoon 20 = .ok (.invokestatic 92, 3) := by decide +kernel
theorem dL_isMoon_23 : decode cL_isMoon 23 = .ok (.istore_n 3, 1) := by decide +kernel
theorem dL_isMoon_24 : decode cL_isMoon 24 = .ok (.iload_n 3, 1) := by decide +kernel
theorem dL_isMoon_25 : decode cL_isMoon 25 = .ok (.sipush 10000, 3) := by decide +kernel
theorem dL_isMoon_28 : decode cL_isMoon 28 = .ok (.if_icmp .ge 19, 3) := by decide +kernel
theorem dL_isMoon_31 : decode cL_isMoon 31 = .ok (.aload_n 0, 1) := by decide +kernel
theorem dL_isMoon_32 : decode cL_isMoon 32 = .ok (.iload_n 3, 1) := by decide +kernel
theorem dL_isMoon_33 : decode cL_isMoon 33 = .ok (.iload_n 2, 1) := by decide +kernel
theorem dL_isMoon_34 : decode cL_isMoon 34 = .ok (.invokevirtual 154, 3) := by decide +kernel
theorem dL_isMoon_37 : decode cL_isMoon 37 = .ok (.iload_n 1, 1) := by decide +kernel
theorem dL_isMoon_38 : decode cL_isMoon 38 = .ok (.if_icmp .ge 9, 3) := by decide +kernel
theorem dL_isMoon_41 : decode cL_isMoon 41 = .ok (.iinc 3 1, 3) := by decide +kernel
theorem dL_isMoon_44 : decode cL_isMoon 44 = .ok (.goto (-20), 3) := by decide +kernel
theorem dL_isMoon_47 : decode cL_isMoon 47 = .ok (.aload_n 0, 1) := by decide +kernel
theorem dL_isMoon_48 : decode cL_isMoon 48 = .ok (.iload_n 3, 1) := by decide +kernel
theorem dL_isMoon_49 : decode cL_isMoon 49 = .ok (.iload_n 2, 1) := by decide +kernel
theorem dL_isMoon_50 : decode cL_isMoon 50 = .ok (.invokevirtual 154, 3) := by decide +kernel
theorem dL_isMoon_53 : decode cL_isMoon 53 = .ok (.iload_n 1, 1) := by decide +kernel
theorem dL_isMoon_54 : decode cL_isMoon 54 = .ok (.if_icmp .ne 7, 3) := by decide +kernel
theorem dL_isMoon_57 : decode cL_isMoon 57 = .ok (.iconst 1, 1) := by decide +kernel
theorem dL_isMoon_58 : decode cL_isMoon 58 = .ok (.goto 4, 3) := by decide +kernel
theorem dL_isMoon_61 : decode cL_isMoon 61 = .ok (.iconst 0, 1) := by decide +kernel
theorem dL_isMoon_62 : decode cL_isMoon 62 = .ok (.ireturn, 1) := by decide +kernel
