theorem dL_follows_698 : decode cL_follows 698 = .ok (.goto 4, 3) := by decide +kernel
theorem dL_follows_701 : decode cL_follows 701 = .ok (.iconst 0, 1) := by decide +kernel
theorem dL_follows_702 : decode cL_follows 702 = .ok (.istore 9, 2) := by decide +kernel
theorem dL_follows_704 : decode cL_follows 704 = .ok (.iinc 29 1, 3) := by decide +kernel
theorem dL_follows_707 : decode cL_follows 707 = .ok (.goto (-285), 3) := by decide +kernel
theorem dL_follows_710 : decode cL_follows 710 = .ok (.iload 9, 2) := by decide +kernel
theorem dL_follows_712 : decode cL_follows 712 = .ok (.ifCond .eq 41, 3) := by decide +kernel
theorem dL_follows_715 : decode cL_follows 715 = .ok (.iload 5, 2) := by decide +kernel
theorem dL_follows_717 : decode cL_follows 717 = .ok (.ifCond .eq 15, 3) := by decide +kernel
theorem dL_follows_720 : decode cL_follows 720 = .ok (.aload_n 0, 1) := by decide +kernel
theorem dL_follows_721 : decode cL_follows 721 = .ok (.iconst 0, 1) := by decide +kernel
theorem dL_follows_722 : decode cL_follows 722 = .ok (.invokestatic 157, 3) := by decide +kernel
theorem dL_follows_725 : decode cL_follows 725 = .ok (.iload 28, 2) := by decide +kernel
theorem dL_follows_727 : decode cL_follows 727 = .ok (.i2l, 1) := by decide +kernel
theorem dL_follows_728 : decode cL_follows 728 = .ok (.lcmp, 1) := by decide +kernel
theorem dL_follows_729 : decode cL_follows 729 = .ok (.ifCond .ne 24, 3) := by decide +kernel
theorem dL_follows_732 : decode cL_follows 732 = .ok (.iload 5, 2) := by decide +kernel
theorem dL_follows_734 : decode cL_follows 734 = .ok (.ifCond .gt 15, 3) := by decide +kernel
theorem dL_follows_737 : decode cL_follows 737 = .ok (.aload_n 0, 1) := by decide +kernel
theorem dL_follows_738 : decode cL_follows 738 = .ok (.iconst 0, 1) := by decide +kernel
theorem dL_follows_739 : decode cL_follows 739 = .ok (.invokestatic 157, 3) := by decide +kernel
theorem dL_follows_742 : decode cL_follows 742 = .ok (.iload 4, 2) := by decide +kernel
theorem dL_follows_744 : decode cL_follows 744 = .ok (.i2l, 1) := by decide +kernel
theorem dL_follows_745 : decode cL_follows 745 = .ok (.lcmp, 1) := by decide +kernel
theorem dL_follows_746 : decode cL_follows 746 = .ok (.ifCond .ne 7, 3) := by decide +kernel
theorem dL_follows_749 : decode cL_follows 749 = .ok (.iconst 1, 1) := by decide +kernel
theorem dL_follows_750 : decode cL_follows 750 = .ok (.goto 4, 3) := by decide +kernel
theorem dL_follows_753 : decode cL_follows 753 = .ok (.iconst 0, 1) := by decide +kernel
theorem dL_follows_754 : decode cL_follows 754 = .ok (.istore 9, 2) := by decide +kernel
theorem dL_follows_756 : decode cL_follows 756 = .ok (.iload 5, 2) := by decide +kernel
theorem dL_follows_758 : decode cL_follows 758 = .ok (.ifCond .le 105, 3) := by decide +kernel
theorem dL_follows_761 : decode cL_follows 761 = .ok (.iload 9, 2) := by decide +kernel
theorem dL_follows_763 : decode cL_follows 763 = .ok (.ifCond .eq 100, 3) := by decide +kernel
theorem dL_follows_766 : decode cL_follows 766 = .ok (.aload_n 0, 1) := by decide +kernel
theorem dL_follows_767 : decode cL_follows 767 = .ok (.iload 21, 2) := by decide +kernel
theorem dL_follows_769 : decode cL_follows 769 = .ok (.iconst 5, 1) := by decide +kernel
theorem dL_follows_770 : decode cL_follows 770 = .ok (.invokestatic 126, 3) := by decide +kernel
theorem dL_follows_773 : decode cL_follows 773 = .ok (.lstore 29, 2) := by decide +kernel
theorem dL_follows_775 : decode cL_follows 775 = .ok (.aload_n 0, 1) := by decide +kernel
theorem dL_follows_776 : decode cL_follows 776 = .ok (.iload 21, 2) := by decide +kernel
theorem dL_follows_778 : decode cL_follows 778 = .ok (.invokestatic 183, 3) := by decide +kernel
theorem dL_follows_781 : decode cL_follows 781 = .ok (.lload 29, 2) := by decide +kernel
theorem dL_follows_783 : decode cL_follows 783 = .ok (.ldc2_w 195, 3) := by decide +kernel
theorem dL_follows_786 : decode cL_follows 786 = .ok (.lcmp, 1) := by decide +kernel
theorem dL_follows_787 : decode cL_follows 787 = .ok (.ifCond .ne 9, 3) := by decide +kernel
theorem dL_follows_790 : decode cL_follows 790 = .ok (.ldc2_w 21, 3) := by decide +kernel
theorem dL_follows_793 : decode cL_follows 793 = .ok (.goto 5, 3) := by decide +kernel
theorem dL_follows_796 : decode cL_follows 796 = .ok (.lload 29, 2) := by decide +kernel
theorem dL_follows_798 : decode cL_follows 798 = .ok (.lcmp, 1) := by decide +kernel
theorem dL_follows_799 : decode cL_follows 799 = .ok (.ifCond .ne 61, 3) := by decide +kernel
theorem dL_follows_802 : decode cL_follows 802 = .ok (.aload_n 0, 1) := by decide +kernel
theorem dL_follows_803 : decode cL_follows 803 = .ok (.iload 21, 2) := by decide +kernel
theorem dL_follows_805 : decode cL_follows 805 = .ok (.iconst 5, 1) := by decide +kernel
theorem dL_follows_806 : decode cL_follows 806 = .ok (.invokestatic 126, 3) := by decide +kernel
theorem dL_follows_809 : decode cL_follows 809 = .ok (.ldc2_w 195, 3) := by decide +kernel
theorem dL_follows_812 : decode cL_follows 812 = .ok (.lcmp, 1) := by decide +kernel
theorem dL_follows_813 : decode cL_follows 813 = .ok (.ifCond .ne 47, 3) := by decide +kernel
theorem dL_follows_816 : decode cL_follows 816 = .ok (.aload_n 0, 1) := by decide +kernel
theorem dL_follows_817 : decode cL_follows 817 = .ok (.iload 21, 2) := by decide +kernel
theorem dL_follows_819 : decode cL_follows 819 = .ok (.invokestatic 183, 3) := by decide +kernel
theorem dL_follows_822 : decode cL_follows 822 = .ok (.ldc2_w 21, 3) := by decide +kernel
theorem dL_follows_825 : decode cL_follows 825 = .ok (.lcmp, 1) := by decide +kernel
theorem dL_follows_826 : decode cL_follows 826 = .ok (.ifCond .ne 34, 3) := by decide +kernel
theorem dL_follows_829 : decode cL_follows 829 = .ok (.lload 29, 2) := by decide +kernel
theorem dL_follows_831 : decode cL_follows 831 = .ok (.ldc2_w 195, 3) := by decide +kernel
theorem dL_follows_834 : decode cL_follows 834 = .ok (.lcmp, 1) := by decide +kernel
theorem dL_follows_835 : decode cL_follows 835 = .ok (.ifCond .eq 12, 3) := by decide +kernel
theorem dL_follows_838 : decode cL_follows 838 = .ok (.aload_n 0, 1) := by decide +kernel
theorem dL_follows_839 : decode cL_follows 839 = .ok (.invokestatic 222, 3) := by decide +kernel
theorem dL_follows_842 : decode cL_follows 842 = .ok (.lconst 0, 1) := by decide +kernel
theorem dL_follows_843 : decode cL_follows 843 = .ok (.lcmp, 1) := by decide +kernel
theorem dL_follows_844 : decode cL_follows 844 = .ok (.ifCond .lt 16, 3) := by decide +kernel
theorem dL_follows_847 : decode cL_follows 847 = .ok (.aload_n 0, 1) := by decide +kernel
theorem dL_follows_848 : decode cL_follows 848 = .ok (.invokestatic 131, 3) := by decide +kernel
theorem dL_follows_851 : decode cL_follows 851 = .ok (.lload_n 2, 1) := by decide +kernel
theorem dL_follows_852 : decode cL_follows 852 = .ok (.lcmp, 1) := by decide +kernel
theorem dL_follows_853 : decode cL_follows 853 = .ok (.ifCond .ne 7, 3) := by decide +kernel
theorem dL_follows_856 : decode cL_follows 856 = .ok (.iconst 1, 1) := by decide +kernel
theorem dL_follows_857 : decode cL_follows 857 = .ok (.goto 4, 3) := by decide +kernel
theorem dL_follows_860 : decode cL_follows 860 = .ok (.iconst 0, 1) := by decide +kernel
theorem dL_follows_861 : decode cL_follows 861 = .ok (.istore 9, 2) := by decide +kernel
theorem dL_follows_863 : decode cL_follows 863 = .ok (.aload_n 0, 1) := by decide +kernel
theorem dL_follows_864 : decode cL_follows 864 = .ok (.iload 6, 2) := by decide +kernel
theorem dL_follows_866 : decode cL_follows 866 = .ok (.invokestatic 141, 3) := by decide +kernel
theorem dL_follows_869 : decode cL_follows 869 = .ok (.lstore 29, 2) := by decide +kernel
theorem dL_follows_871 : decode cL_follows 871 = .ok (.aload_n 0, 1) := by decide +kernel
theorem dL_follows_872 : decode cL_follows 872 = .ok (.bipush 8, 2) := by decide +kernel
theorem dL_follows_874 : decode cL_follows 874 = .ok (.invokestatic 105, 3) := by decide +kernel
theorem dL_follows_877 : decode cL_follows 877 = .ok (.lstore 31, 2) := by decide +kernel
theorem dL_follows_879 : decode cL_follows 879 = .ok (.lload 29, 2) := by decide +kernel
theorem dL_follows_881 : decode cL_follows 881 = .ok (.ldc2_w 193, 3) := by decide +kernel
theorem dL_follows_884 : decode cL_follows 884 = .ok (.lcmp, 1) := by decide +kernel
theorem dL_follows_885 : decode cL_follows 885 = .ok (.ifCond .eq 96, 3) := by decide +kernel
theorem dL_follows_888 : decode cL_follows 888 = .ok (.iload 9, 2) := by decide +kernel
theorem dL_follows_890 : decode cL_follows 890 = .ok (.ifCond .eq 91, 3) := by decide +kernel
theorem dL_follows_893 : decode cL_follows 893 = .ok (.aload_n 0, 1) := by decide +kernel
theorem dL_follows_894 : decode cL_follows 894 = .ok (.iconst 0, 1) := by decide +kernel
theorem dL_follows_895 : decode cL_follows 895 = .ok (.lload 29, 2) := by decide +kernel
theorem dL_follows_897 : decode cL_follows 897 = .ok (.l2i, 1) := by decide +kernel
theorem dL_follows_898 : decode cL_follows 898 = .ok (.invokestatic 185, 3) := by decide +kernel
theorem dL_follows_901 : decode cL_follows 901 = .ok (.lload 31, 2) := by decide +kernel
theorem dL_follows_903 : decode cL_follows 903 = .ok (.lcmp, 1) := by decide +kernel
theorem dL_follows_904 : decode cL_follows 904 = .ok (.ifCond .ne 74, 3) := by decide +kernel
theorem dL_follows_907 : decode cL_follows 907 = .ok (.aload_n 0, 1) := by decide +kernel
theorem dL_follows_908 : decode cL_follows 908 = .ok (.iload 6, 2) := by decide +kernel
theorem dL_follows_910 : decode cL_follows 910 = .ok (.iconst 2, 1) := by decide +kernel
theorem dL_follows_911 : decode cL_follows 911 = .ok (.invokestatic 155, 3) := by decide +kernel
theorem dL_follows_914 : decode cL_follows 914 = .ok (.lconst 0, 1) := by decide +kernel
theorem dL_follows_915 : decode cL_follows 915 = .ok (.lcmp, 1) := by decide +kernel
theorem dL_follows_916 : decode cL_follows 916 = .ok (.ifCond .ne 62, 3) := by decide +kernel
theorem dL_follows_919 : decode cL_follows 919 = .ok (.aload_n 0, 1) := by decide +kernel
theorem dL_follows_920 : decode cL_follows 920 = .ok (.invokestatic 222, 3) := by decide +kernel
theorem dL_follows_923 : decode cL_follows 923 = .ok (.lconst 0, 1) := by decide +kernel
theorem dL_follows_924 : decode cL_follows 924 = .ok (.lcmp, 1) := by decide +kernel
theorem dL_follows_925 : decode cL_follows 925 = .ok (.ifCond .lt 53, 3) := by decide +kernel
theorem dL_follows_928 : decode cL_follows 928 = .ok (.lload 29, 2) := by decide +kernel
theorem dL_follows_930 : decode cL_follows 930 = .ok (.ldc2_w 224, 3) := by decide +kernel
theorem dL_follows_933 : decode cL_follows 933 = .ok (.lcmp, 1) := by decide +kernel
theorem dL_follows_934 : decode cL_follows 934 = .ok (.ifCond .eq 40, 3) := by decide +kernel
theorem dL_follows_937 : decode cL_follows 937 = .ok (.aload_n 0, 1) := by decide +kernel
theorem dL_follows_938 : decode cL_follows 938 = .ok (.iconst 0, 1) := by decide +kernel
theorem dL_follows_939 : decode cL_follows 939 = .ok (.lload 29, 2) := by decide +kernel
theorem dL_follows_941 : decode cL_follows 941 = .ok (.l2i, 1) := by decide +kernel
theorem dL_follows_942 : decode cL_follows 942 = .ok (.iconst 1, 1) := by decide +kernel
theorem dL_follows_943 : decode cL_follows 943 = .ok (.iadd, 1) := by decide +kernel
theorem dL_follows_944 : decode cL_follows 944 = .ok (.invokestatic 185, 3) := by decide +kernel
theorem dL_follows_947 : decode cL_follows 947 = .ok (.lload 31, 2) := by decide +kernel
theorem dL_follows_949 : decode cL_follows 949 = .ok (.lcmp, 1) := by decide +kernel
theorem dL_follows_950 : decode cL_follows 950 = .ok (.ifCond .ne 28, 3) := by decide +kernel
theorem dL_follows_953 : decode cL_follows 953 = .ok (.aload_n 0, 1) := by decide +kernel
theorem dL_follows_954 : decode cL_follows 954 = .ok (.iload 6, 2) := by decide +kernel
theorem dL_follows_956 : decode cL_follows 956 = .ok (.iconst 2, 1) := by decide +kernel
theorem dL_follows_957 : decode cL_follows 957 = .ok (.invokestatic 155, 3) := by decide +kernel
theorem dL_follows_960 : decode cL_follows 960 = .ok (.lconst 0, 1) := by decide +kernel
theorem dL_follows_961 : decode cL_follows 961 = .ok (.lcmp, 1) := by decide +kernel
theorem dL_follows_962 : decode cL_follows 962 = .ok (.ifCond .le 16, 3) := by decide +kernel
theorem dL_follows_965 : decode cL_follows 965 = .ok (.aload_n 0, 1) := by decide +kernel
theorem dL_follows_966 : decode cL_follows 966 = .ok (.invokestatic 222, 3) := by decide +kernel
theorem dL_follows_969 : decode cL_follows 969 = .ok (.lconst 0, 1) := by decide +kernel
theorem dL_follows_970 : decode cL_follows 970 = .ok (.lcmp, 1) := by decide +kernel
theorem dL_follows_971 : decode cL_follows 971 = .ok (.ifCond .lt 7, 3) := by decide +kernel
theorem dL_follows_974 : decode cL_follows 974 = .ok (.iconst 1, 1) := by decide +kernel
theorem dL_follows_975 : decode cL_follows 975 = .ok (.goto 4, 3) := by decide +kernel
theorem dL_follows_978 : decode cL_follows 978 = .ok (.iconst 0, 1) := by decide +kernel
theorem dL_follows_979 : decode cL_follows 979 = .ok (.istore 9, 2) := by decide +kernel
theorem dL_follows_981 : decode cL_follows 981 = .ok (.aload_n 0, 1) := by decide +kernel
theorem dL_follows_982 : decode cL_follows 982 = .ok (.bipush 10, 2) := by decide +kernel
theorem dL_follows_984 : decode cL_follows 984 = .ok (.invokestatic 105, 3) := by decide +kernel
theorem dL_follows_987 : decode cL_follows 987 = .ok (.lstore 33, 2) := by decide +kernel
theorem dL_follows_989 : decode cL_follows 989 = .ok (.iload 9, 2) := by decide +kernel
theorem dL_follows_991 : decode cL_follows 991 = .ok (.ifCond .eq 152, 3) := by decide +kernel
theorem dL_follows_994 : decode cL_follows 994 = .ok (.aload_n 0, 1) := by decide +kernel
theorem dL_follows_995 : decode cL_follows 995 = .ok (.iconst 3, 1) := by decide +kernel
theorem dL_follows_996 : decode cL_follows 996 = .ok (.iconst 1, 1) := by decide +kernel
theorem dL_follows_997 : decode cL_follows 997 = .ok (.invokestatic 150, 3) := by decide +kernel
theorem dL_follows_1000 : decode cL_follows 1000 = .ok (.lload 33, 2) := by decide +kernel
theorem dL_follows_1002 : decode cL_follows 1002 = .ok (.lconst 1, 1) := by decide +kernel
theorem dL_follows_1003 : decode cL_follows 1003 = .ok (.lsub, 1) := by decide +kernel
theorem dL_follows_1004 : decode cL_follows 1004 = .ok (.lload 33, 2) := by decide +kernel
theorem dL_follows_1006 : decode cL_follows 1006 = .ok (.lconst 1, 1) := by decide +kernel
theorem dL_follows_1007 : decode cL_follows 1007 = .ok (.lsub, 1) := by decide +kernel
theorem dL_follows_1008 : decode cL_follows 1008 = .ok (.lmul, 1) := by decide +kernel
theorem dL_follows_1009 : decode cL_follows 1009 = .ok (.lload 33, 2) := by decide +kernel
theorem dL_follows_1011 : decode cL_follows 1011 = .ok (.lconst 1, 1) := by decide +kernel
theorem dL_follows_1012 : decode cL_follows 1012 = .ok (.lsub, 1) := by decide +kernel
theorem dL_follows_1013 : decode cL_follows 1013 = .ok (.lmul, 1) := by decide +kernel
theorem dL_follows_1014 : decode cL_follows 1014 = .ok (.lcmp, 1) := by decide +kernel
theorem dL_follows_1015 : decode cL_follows 1015 = .ok (.ifCond .ne 128, 3) := by decide +kernel
theorem dL_follows_1018 : decode cL_follows 1018 = .ok (.aload_n 0, 1) := by decide +kernel
theorem dL_follows_1019 : decode cL_follows 1019 = .ok (.iconst 2, 1) := by decide +kernel
theorem dL_follows_1020 : decode cL_follows 1020 = .ok (.iconst 0, 1) := by decide +kernel
theorem dL_follows_1021 : decode cL_follows 1021 = .ok (.invokestatic 150, 3) := by decide +kernel
theorem dL_follows_1024 : decode cL_follows 1024 = .ok (.lload 33, 2) := by decide +kernel
theorem dL_follows_1026 : decode cL_follows 1026 = .ok (.lconst 1, 1) := by decide +kernel
theorem dL_follows_1027 : decode cL_follows 1027 = .ok (.lcmp, 1) := by decide +kernel
theorem dL_follows_1028 : decode cL_follows 1028 = .ok (.ifCond .ne 7, 3) := by decide +kernel
theorem dL_follows_1031 : decode cL_follows 1031 = .ok (.lconst 1, 1) := by decide +kernel
theorem dL_follows_1032 : decode cL_follows 1032 = .ok (.goto 8, 3) := by decide +kernel
theorem dL_follows_1035 : decode cL_follows 1035 = .ok (.lload 33, 2) := by decide +kernel
theorem dL_follows_1037 : decode cL_follows 1037 = .ok (.lload 33, 2) := by decide +kernel
theorem dL_follows_1039 : decode cL_follows 1039 = .ok (.lmul, 1) := by decide +kernel
theorem dL_follows_1040 : decode cL_follows 1040 = .ok (.lcmp, 1) := by decide +kernel
theorem dL_follows_1041 : decode cL_follows 1041 = .ok (.ifCond .ne 102, 3) := by decide +kernel
theorem dL_follows_1044 : decode cL_follows 1044 = .ok (.iload 5, 2) := by decide +kernel
theorem dL_follows_1046 : decode cL_follows 1046 = .ok (.bipush 12, 2) := by decide +kernel
theorem dL_follows_1048 : decode cL_follows 1048 = .ok (.if_icmp .eq 50, 3) := by decide +kernel
theorem dL_follows_1051 : decode cL_follows 1051 = .ok (.aload_n 0, 1) := by decide +kernel
theorem dL_follows_1052 : decode cL_follows 1052 = .ok (.iconst 2, 1) := by decide +kernel
theorem dL_follows_1053 : decode cL_follows 1053 = .ok (.invokestatic 179, 3) := by decide +kernel
theorem dL_follows_1056 : decode cL_follows 1056 = .ok (.iload 5, 2) := by decide +kernel
theorem dL_follows_1058 : decode cL_follows 1058 = .ok (.i2l, 1) := by decide +kernel
theorem dL_follows_1059 : decode cL_follows 1059 = .ok (.lcmp, 1) := by decide +kernel
theorem dL_follows_1060 : decode cL_follows 1060 = .ok (.ifCond .ne 83, 3) := by decide +kernel
theorem dL_follows_1063 : decode cL_follows 1063 = .ok (.aload_n 0, 1) := by decide +kernel
theorem dL_follows_1064 : decode cL_follows 1064 = .ok (.iload 5, 2) := by decide +kernel
theorem dL_follows_1066 : decode cL_follows 1066 = .ok (.iconst 5, 1) := by decide +kernel
theorem dL_follows_1067 : decode cL_follows 1067 = .ok (.invokestatic 126, 3) := by decide +kernel
theorem dL_follows_1070 : decode cL_follows 1070 = .ok (.lconst 1, 1) := by decide +kernel
theorem dL_follows_1071 : decode cL_follows 1071 = .ok (.lcmp, 1) := by decide +kernel
theorem dL_follows_1072 : decode cL_follows 1072 = .ok (.ifCond .ne 71, 3) := by decide +kernel
theorem dL_follows_1075 : decode cL_follows 1075 = .ok (.aload_n 0, 1) := by decide +kernel
theorem dL_follows_1076 : decode cL_follows 1076 = .ok (.iload 5, 2) := by decide +kernel
theorem dL_follows_1078 : decode cL_follows 1078 = .ok (.iconst 4, 1) := by decide +kernel
theorem dL_follows_1079 : decode cL_follows 1079 = .ok (.invokestatic 126, 3) := by decide +kernel
theorem dL_follows_1082 : decode cL_follows 1082 = .ok (.ldc2_w 193, 3) := by decide +kernel
theorem dL_follows_1085 : decode cL_follows 1085 = .ok (.lcmp, 1) := by decide +kernel
theorem dL_follows_1086 : decode cL_follows 1086 = .ok (.ifCond .ne 57, 3) := by decide +kernel
theorem dL_follows_1089 : decode cL_follows 1089 = .ok (.aload_n 0, 1) := by decide +kernel
theorem dL_follows_1090 : decode cL_follows 1090 = .ok (.invokestatic 222, 3) := by decide +kernel
theorem dL_follows_1093 : decode cL_follows 1093 = .ok (.lconst 0, 1) := by decide +kernel
theorem dL_follows_1094 : decode cL_follows 1094 = .ok (.lcmp, 1) := by decide +kernel
theorem dL_follows_1095 : decode cL_follows 1095 = .ok (.ifCond .lt 48, 3) := by decide +kernel
theorem dL_follows_1098 : decode cL_follows 1098 = .ok (.aload_n 0, 1) := by decide +kernel
theorem dL_follows_1099 : decode cL_follows 1099 = .ok (.iload_n 1, 1) := by decide +kernel
theorem dL_follows_1100 : decode cL_follows 1100 = .ok (.i2l, 1) := by decide +kernel
theorem dL_follows_1101 : decode cL_follows 1101 = .ok (.invokevirtual 226, 3) := by decide +kernel
theorem dL_follows_1104 : decode cL_follows 1104 = .ok (.lconst 0, 1) := by decide +kernel
theorem dL_follows_1105 : decode cL_follows 1105 = .ok (.lmul, 1) := by decide +kernel
theorem dL_follows_1106 : decode cL_follows 1106 = .ok (.lconst 0, 1) := by decide +kernel
theorem dL_follows_1107 : decode cL_follows 1107 = .ok (.lcmp, 1) := by decide +kernel
theorem dL_follows_1108 : decode cL_follows 1108 = .ok (.ifCond .ne 35, 3) := by decide +kernel
theorem dL_follows_1111 : decode cL_follows 1111 = .ok (.aload_n 0, 1) := by decide +kernel
theorem dL_follows_1112 : decode cL_follows 1112 = .ok (.invokevirtual 112, 3) := by decide +kernel
theorem dL_follows_1115 : decode cL_follows 1115 = .ok (.iload_n 1, 1) := by decide +kernel
theorem dL_follows_1116 : decode cL_follows 1116 = .ok (.i2l, 1) := by decide +kernel
theorem dL_follows_1117 : decode cL_follows 1117 = .ok (.lcmp, 1) := by decide +kernel
theorem dL_follows_1118 : decode cL_follows 1118 = .ok (.ifCond .ne 25, 3) := by decide +kernel
theorem dL_follows_1121 : decode cL_follows 1121 = .ok (.aload_n 0, 1) := by decide +kernel
theorem dL_follows_1122 : decode cL_follows 1122 = .ok (.invokestatic 222, 3) := by decide +kernel
theorem dL_follows_1125 : decode cL_follows 1125 = .ok (.lconst 0, 1) := by decide +kernel
theorem dL_follows_1126 : decode cL_follows 1126 = .ok (.lcmp, 1) := by decide +kernel
theorem dL_follows_1127 : decode cL_follows 1127 = .ok (.ifCond .lt 16, 3) := by decide +kernel
theorem dL_follows_1130 : decode cL_follows 1130 = .ok (.aload_n 0, 1) := by decide +kernel
theorem dL_follows_1131 : decode cL_follows 1131 = .ok (.invokestatic 131, 3) := by decide +kernel
theorem dL_follows_1134 : decode cL_follows 1134 = .ok (.lload_n 2, 1) := by decide +kernel
theorem dL_follows_1135 : decode cL_follows 1135 = .ok (.lcmp, 1) := by decide +kernel
theorem dL_follows_1136 : decode cL_follows 1136 = .ok (.ifCond .ne 7, 3) := by decide +kernel
theorem dL_follows_1139 : decode cL_follows 1139 = .ok (.iconst 1, 1) := by decide +kernel
theorem dL_follows_1140 : decode cL_follows 1140 = .ok (.goto 4, 3) := by decide +kernel
theorem dL_follows_1143 : decode cL_follows 1143 = .ok (.iconst 0, 1) := by decide +kernel
theorem dL_follows_1144 : decode cL_follows 1144 = .ok (.istore 9, 2) := by decide +kernel
theorem dL_follows_1146 : decode cL_follows 1146 = .ok (.iload 9, 2) := by decide +kernel
theorem dL_follows_1148 : decode cL_follows 1148 = .ok (.ifCond .eq 38, 3) := by decide +kernel
theorem dL_follows_1151 : decode cL_follows 1151 = .ok (.aload_n 0, 1) := by decide +kernel
theorem dL_follows_1152 : decode cL_follows 1152 = .ok (.iconst 1, 1) := by decide +kernel
theorem dL_follows_1153 : decode cL_follows 1153 = .ok (.invokestatic 191, 3) := by decide +kernel
theorem dL_follows_1156 : decode cL_follows 1156 = .ok (.lload 7, 2) := by decide +kernel
theorem dL_follows_1158 : decode cL_follows 1158 = .ok (.lcmp, 1) := by decide +kernel
theorem dL_follows_1159 : decode cL_follows 1159 = .ok (.ifCond .ne 27, 3) := by decide +kernel
theorem dL_follows_1162 : decode cL_follows 1162 = .ok (.aload_n 0, 1) := by decide +kernel
theorem dL_follows_1163 : decode cL_follows 1163 = .ok (.invokestatic 131, 3) := by decide +kernel
theorem dL_follows_1166 : decode cL_follows 1166 = .ok (.lload_n 2, 1) := by decide +kernel
theorem dL_follows_1167 : decode cL_follows 1167 = .ok (.lcmp, 1) := by decide +kernel
theorem dL_follows_1168 : decode cL_follows 1168 = .ok (.ifCond .ne 18, 3) := by decide +kernel
theorem dL_follows_1171 : decode cL_follows 1171 = .ok (.aload_n 0, 1) := by decide +kernel
theorem dL_follows_1172 : decode cL_follows 1172 = .ok (.invokestatic 222, 3) := by decide +kernel
theorem dL_follows_1175 : decode cL_follows 1175 = .ok (.ldc2_w 21, 3) := by decide +kernel
theorem dL_follows_1178 : decode cL_follows 1178 = .ok (.lcmp, 1) := by decide +kernel
theorem dL_follows_1179 : decode cL_follows 1179 = .ok (.ifCond .ne 7, 3) := by decide +kernel
theorem dL_follows_1182 : decode cL_follows 1182 = .ok (.iconst 1, 1) := by decide +kernel
theorem dL_follows_1183 : decode cL_follows 1183 = .ok (.goto 4, 3) := by decide +kernel
theorem dL_follows_1186 : decode cL_follows 1186 = .ok (.iconst 0, 1) := by decide +kernel
theorem dL_follows_1187 : decode cL_follows 1187 = .ok (.ireturn, 1) := by decide +kernel
theorem dL_aboutStation_0 : decode cL_aboutStation 0 = .ok (.aload_n 0, 1) := by decide +kernel
theorem dL_aboutStation_1 : decode cL_aboutStation 1 = .ok (.iconst 0, 1) := by decide +kernel
theorem dL_aboutStation_2 : decode cL_aboutStation 2 = .ok (.invokestatic 105, 3) := by decide +kernel
theorem dL_aboutStation_5 : decode cL_aboutStation 5 = .ok (.lstore_n 2, 1) := by decide +kernel
theorem dL_aboutStation_6 : decode cL_aboutStation 6 = .ok (.aload_n 0, 1) := by decide +kernel
theorem dL_aboutStation_7 : decode cL_aboutStation 7 = .ok (.bipush 6, 2) := by decide +kernel
theorem dL_aboutStation_9 : decode cL_aboutStation 9 = .ok (.invokestatic 105, 3) := by decide +kernel
theorem dL_aboutStation_12 : decode cL_aboutStation 12 = .ok (.iload_n 1, 1) := by decide +kernel
theorem dL_aboutStation_13 : decode cL_aboutStation 13 = .ok (.i2l, 1) := by decide +kernel
theorem dL_aboutStation_14 : decode cL_aboutStation 14 = .ok (.lsub, 1) := by decide +kernel
theorem dL_aboutStation_15 : decode cL_aboutStation 15 = .ok (.lload_n 2, 1) := by decide +kernel
theorem dL_aboutStation_16 : decode cL_aboutStation 16 = .ok (.lrem, 1) := by decide +kernel
theorem dL_aboutStation_17 : decode cL_aboutStation 17 = .ok (.lload_n 2, 1) := by decide +kernel
theorem dL_aboutStation_18 : decode cL_aboutStation 18 = .ok (.ladd, 1) := by decide +kernel
theorem dL_aboutStation_19 : decode cL_aboutStation 19 = .ok (.lload_n 2, 1) := by decide +kernel
theorem dL_aboutStation_20 : decode cL_aboutStation 20 = .ok (.lrem, 1) := by decide +kernel
theorem dL_aboutStation_21 : decode cL_aboutStation 21 = .ok (.lreturn, 1) := by decide +kernel
theorem dL_two_0 : decode cL_two 0 = .ok (.aload_n 0, 1) := by decide +kernel
theorem dL_two_1 : decode cL_two 1 = .ok (.bipush 48, 2) := by decide +kernel
theorem dL_two_3 : decode cL_two 3 = .ok (.iload_n 1, 1) := by decide +kernel
theorem dL_two_4 : decode cL_two 4 = .ok (.bipush 10, 2) := by decide +kernel
theorem dL_two_6 : decode cL_two 6 = .ok (.idiv, 1) := by decide +kernel
theorem dL_two_7 : decode cL_two 7 = .ok (.iadd, 1) := by decide +kernel
theorem dL_two_8 : decode cL_two 8 = .ok (.invokestatic 173, 3) := by decide +kernel
theorem dL_two_11 : decode cL_two 11 = .ok (.lconst 0, 1) := by decide +kernel
theorem dL_two_12 : decode cL_two 12 = .ok (.lcmp, 1) := by decide +kernel
theorem dL_two_13 : decode cL_two 13 = .ok (.ifCond .le 23, 3) := by decide +kernel
theorem dL_two_16 : decode cL_two 16 = .ok (.aload_n 0, 1) := by decide +kernel
theorem dL_two_17 : decode cL_two 17 = .ok (.bipush 48, 2) := by decide +kernel
theorem dL_two_19 : decode cL_two 19 = .ok (.iload_n 1, 1) := by decide +kernel
theorem dL_two_20 : decode cL_two 20 = .ok (.bipush 10, 2) := by decide +kernel
theorem dL_two_22 : decode cL_two 22 = .ok (.irem, 1) := by decide +kernel
theorem dL_two_23 : decode cL_two 23 = .ok (.iadd, 1) := by decide +kernel
theorem dL_two_24 : decode cL_two 24 = .ok (.invokestatic 173, 3) := by decide +kernel
theorem dL_two_27 : decode cL_two 27 = .ok (.lconst 0, 1) := by decide +kernel
theorem dL_two_28 : decode cL_two 28 = .ok (.lcmp, 1) := by decide +kernel
theorem dL_two_29 : decode cL_two 29 = .ok (.ifCond .le 7, 3) := by decide +kernel
theorem dL_two_32 : decode cL_two 32 = .ok (.iconst 1, 1) := by decide +kernel
theorem dL_two_33 : decode cL_two 33 = .ok (.goto 4, 3) := by decide +kernel
theorem dL_two_36 : decode cL_two 36 = .ok (.iconst 0, 1) := by decide +kernel
theorem dL_two_37 : decode cL_two 37 = .ok (.ireturn, 1) := by decide +kernel
theorem dL_tells_0 : decode cL_tells 0 = .ok (.iconst 4, 1) := by decide +kernel
theorem dL_tells_1 : decode cL_tells 1 = .ok (.iload_n 1, 1) := by decide +kernel
theorem dL_tells_2 : decode cL_tells 2 = .ok (.bipush 17, 2) := by decide +kernel
theorem dL_tells_4 : decode cL_tells 4 = .ok (.irem, 1) := by decide +kernel
theorem dL_tells_5 : decode cL_tells 5 = .ok (.iadd, 1) := by decide +kernel
theorem dL_tells_6 : decode cL_tells 6 = .ok (.istore_n 3, 1) := by decide +kernel
theorem dL_tells_7 : decode cL_tells 7 = .ok (.aload_n 0, 1) := by decide +kernel
theorem dL_tells_8 : decode cL_tells 8 = .ok (.invokevirtual 230, 3) := by decide +kernel
theorem dL_tells_11 : decode cL_tells 11 = .ok (.ifCond .lt 109, 3) := by decide +kernel
theorem dL_tells_14 : decode cL_tells 14 = .ok (.aload_n 0, 1) := by decide +kernel
theorem dL_tells_15 : decode cL_tells 15 = .ok (.bipush 76, 2) := by decide +kernel
theorem dL_tells_17 : decode cL_tells 17 = .ok (.invokestatic 173, 3) := by decide +kernel
theorem dL_tells_20 : decode cL_tells 20 = .ok (.lconst 1, 1) := by decide +kernel
theorem dL_tells_21 : decode cL_tells 21 = .ok (.lcmp, 1) := by decide +kernel
theorem dL_tells_22 : decode cL_tells 22 = .ok (.ifCond .ne 98, 3) := by decide +kernel
theorem dL_tells_25 : decode cL_tells 25 = .ok (.aload_n 0, 1) := by decide +kernel
theorem dL_tells_26 : decode cL_tells 26 = .ok (.iload_n 3, 1) := by decide +kernel
theorem dL_tells_27 : decode cL_tells 27 = .ok (.invokestatic 233, 3) := by decide +kernel
theorem dL_tells_30 : decode cL_tells 30 = .ok (.ifCond .eq 90, 3) := by decide +kernel
theorem dL_tells_33 : decode cL_tells 33 = .ok (.aload_n 0, 1) := by decide +kernel
theorem dL_tells_34 : decode cL_tells 34 = .ok (.iconst 1, 1) := by decide +kernel
theorem dL_tells_35 : decode cL_tells 35 = .ok (.iload_n 1, 1) := by decide +kernel
theorem dL_tells_36 : decode cL_tells 36 = .ok (.bipush 17, 2) := by decide +kernel
theorem dL_tells_38 : decode cL_tells 38 = .ok (.idiv, 1) := by decide +kernel
theorem dL_tells_39 : decode cL_tells 39 = .ok (.bipush 12, 2) := by decide +kernel
theorem dL_tells_41 : decode cL_tells 41 = .ok (.irem, 1) := by decide +kernel
theorem dL_tells_42 : decode cL_tells 42 = .ok (.iadd, 1) := by decide +kernel
theorem dL_tells_43 : decode cL_tells 43 = .ok (.invokestatic 233, 3) := by decide +kernel
theorem dL_tells_46 : decode cL_tells 46 = .ok (.ifCond .eq 74, 3) := by decide +kernel
theorem dL_tells_49 : decode cL_tells 49 = .ok (.aload_n 0, 1) := by decide +kernel
theorem dL_tells_50 : decode cL_tells 50 = .ok (.iconst 1, 1) := by decide +kernel
theorem dL_tells_51 : decode cL_tells 51 = .ok (.iload_n 1, 1) := by decide +kernel
theorem dL_tells_52 : decode cL_tells 52 = .ok (.sipush 204, 3) := by decide +kernel
theorem dL_tells_55 : decode cL_tells 55 = .ok (.idiv, 1) := by decide +kernel
theorem dL_tells_56 : decode cL_tells 56 = .ok (.bipush 12, 2) := by decide +kernel
theorem dL_tells_58 : decode cL_tells 58 = .ok (.irem, 1) := by decide +kernel
theorem dL_tells_59 : decode cL_tells 59 = .ok (.iadd, 1) := by decide +kernel
theorem dL_tells_60 : decode cL_tells 60 = .ok (.invokestatic 233, 3) := by decide +kernel
theorem dL_tells_63 : decode cL_tells 63 = .ok (.ifCond .eq 57, 3) := by decide +kernel
theorem dL_tells_66 : decode cL_tells 66 = .ok (.aload_n 0, 1) := by decide +kernel
theorem dL_tells_67 : decode cL_tells 67 = .ok (.bipush 49, 2) := by decide +kernel
theorem dL_tells_69 : decode cL_tells 69 = .ok (.iload_n 2, 1) := by decide +kernel
theorem dL_tells_70 : decode cL_tells 70 = .ok (.iconst 5, 1) := by decide +kernel
theorem dL_tells_71 : decode cL_tells 71 = .ok (.irem, 1) := by decide +kernel
theorem dL_tells_72 : decode cL_tells 72 = .ok (.iadd, 1) := by decide +kernel
theorem dL_tells_73 : decode cL_tells 73 = .ok (.invokestatic 173, 3) := by decide +kernel
theorem dL_tells_76 : decode cL_tells 76 = .ok (.lconst 0, 1) := by decide +kernel
theorem dL_tells_77 : decode cL_tells 77 = .ok (.lcmp, 1) := by decide +kernel
theorem dL_tells_78 : decode cL_tells 78 = .ok (.ifCond .le 42, 3) := by decide +kernel
theorem dL_tells_81 : decode cL_tells 81 = .ok (.aload_n 0, 1) := by decide +kernel
theorem dL_tells_82 : decode cL_tells 82 = .ok (.bipush 49, 2) := by decide +kernel
theorem dL_tells_84 : decode cL_tells 84 = .ok (.iload_n 2, 1) := by decide +kernel
theorem dL_tells_85 : decode cL_tells 85 = .ok (.iconst 5, 1) := by decide +kernel
theorem dL_tells_86 : decode cL_tells 86 = .ok (.idiv, 1) := by decide +kernel
theorem dL_tells_87 : decode cL_tells 87 = .ok (.iconst 4, 1) := by decide +kernel
theorem dL_tells_88 : decode cL_tells 88 = .ok (.irem, 1) := by decide +kernel
theorem dL_tells_89 : decode cL_tells 89 = .ok (.iadd, 1) := by decide +kernel
theorem dL_tells_90 : decode cL_tells 90 = .ok (.invokestatic 173, 3) := by decide +kernel
theorem dL_tells_93 : decode cL_tells 93 = .ok (.lconst 0, 1) := by decide +kernel
theorem dL_tells_94 : decode cL_tells 94 = .ok (.lcmp, 1) := by decide +kernel
theorem dL_tells_95 : decode cL_tells 95 = .ok (.ifCond .le 25, 3) := by decide +kernel
theorem dL_tells_98 : decode cL_tells 98 = .ok (.aload_n 0, 1) := by decide +kernel
theorem dL_tells_99 : decode cL_tells 99 = .ok (.bipush 49, 2) := by decide +kernel
theorem dL_tells_101 : decode cL_tells 101 = .ok (.iload_n 2, 1) := by decide +kernel
theorem dL_tells_102 : decode cL_tells 102 = .ok (.bipush 20, 2) := by decide +kernel
theorem dL_tells_104 : decode cL_tells 104 = .ok (.idiv, 1) := by decide +kernel
theorem dL_tells_105 : decode cL_tells 105 = .ok (.iconst 4, 1) := by decide +kernel
theorem dL_tells_106 : decode cL_tells 106 = .ok (.irem, 1) := by decide +kernel
theorem dL_tells_107 : decode cL_tells 107 = .ok (.iadd, 1) := by decide +kernel
theorem dL_tells_108 : decode cL_tells 108 = .ok (.invokestatic 173, 3) := by decide +kernel
theorem dL_tells_111 : decode cL_tells 111 = .ok (.lconst 0, 1) := by decide +kernel
theorem dL_tells_112 : decode cL_tells 112 = .ok (.lcmp, 1) := by decide +kernel
theorem dL_tells_113 : decode cL_tells 113 = .ok (.ifCond .le 7, 3) := by decide +kernel
theorem dL_tells_116 : decode cL_tells 116 = .ok (.iconst 1, 1) := by decide +kernel
theorem dL_tells_117 : decode cL_tells 117 = .ok (.goto 4, 3) := by decide +kernel
theorem dL_tells_120 : decode cL_tells 120 = .ok (.iconst 0, 1) := by decide +kernel
theorem dL_tells_121 : decode cL_tells 121 = .ok (.istore 4, 2) := by decide +kernel
theorem dL_tells_123 : decode cL_tells 123 = .ok (.iload_n 2, 1) := by decide +kernel
