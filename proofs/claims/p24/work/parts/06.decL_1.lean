theorem dL_law_724 : decode cL_law 724 = .ok (.if_icmp .ne 80, 3) := by decide +kernel
theorem dL_law_727 : decode cL_law 727 = .ok (.aload_n 1, 1) := by decide +kernel
theorem dL_law_728 : decode cL_law 728 = .ok (.bipush 7, 2) := by decide +kernel
theorem dL_law_730 : decode cL_law 730 = .ok (.iload 12, 2) := by decide +kernel
theorem dL_law_732 : decode cL_law 732 = .ok (.iconst 0, 1) := by decide +kernel
theorem dL_law_733 : decode cL_law 733 = .ok (.iconst 0, 1) := by decide +kernel
theorem dL_law_734 : decode cL_law 734 = .ok (.iconst 0, 1) := by decide +kernel
theorem dL_law_735 : decode cL_law 735 = .ok (.invokestatic 97, 3) := by decide +kernel
theorem dL_law_738 : decode cL_law 738 = .ok (.istore 14, 2) := by decide +kernel
theorem dL_law_740 : decode cL_law 740 = .ok (.iload 14, 2) := by decide +kernel
theorem dL_law_742 : decode cL_law 742 = .ok (.bipush (-13), 2) := by decide +kernel
theorem dL_law_744 : decode cL_law 744 = .ok (.if_icmp .ne 22, 3) := by decide +kernel
theorem dL_law_747 : decode cL_law 747 = .ok (.aload_n 1, 1) := by decide +kernel
theorem dL_law_748 : decode cL_law 748 = .ok (.iload 12, 2) := by decide +kernel
theorem dL_law_750 : decode cL_law 750 = .ok (.iconst 0, 1) := by decide +kernel
theorem dL_law_751 : decode cL_law 751 = .ok (.invokevirtual 17, 3) := by decide +kernel
theorem dL_law_754 : decode cL_law 754 = .ok (.iconst 1, 1) := by decide +kernel
theorem dL_law_755 : decode cL_law 755 = .ok (.if_icmp .eq 7, 3) := by decide +kernel
theorem dL_law_758 : decode cL_law 758 = .ok (.iconst 1, 1) := by decide +kernel
theorem dL_law_759 : decode cL_law 759 = .ok (.goto 40, 3) := by decide +kernel
theorem dL_law_762 : decode cL_law 762 = .ok (.iconst 0, 1) := by decide +kernel
theorem dL_law_763 : decode cL_law 763 = .ok (.goto 36, 3) := by decide +kernel
theorem dL_law_766 : decode cL_law 766 = .ok (.iload 14, 2) := by decide +kernel
theorem dL_law_768 : decode cL_law 768 = .ok (.ifCond .lt 30, 3) := by decide +kernel
theorem dL_law_771 : decode cL_law 771 = .ok (.iload 14, 2) := by decide +kernel
theorem dL_law_773 : decode cL_law 773 = .ok (.aload_n 1, 1) := by decide +kernel
theorem dL_law_774 : decode cL_law 774 = .ok (.iload 12, 2) := by decide +kernel
theorem dL_law_776 : decode cL_law 776 = .ok (.iconst 2, 1) := by decide +kernel
theorem dL_law_777 : decode cL_law 777 = .ok (.invokevirtual 17, 3) := by decide +kernel
theorem dL_law_780 : decode cL_law 780 = .ok (.if_icmp .gt 18, 3) := by decide +kernel
theorem dL_law_783 : decode cL_law 783 = .ok (.aload_n 1, 1) := by decide +kernel
theorem dL_law_784 : decode cL_law 784 = .ok (.iload 12, 2) := by decide +kernel
theorem dL_law_786 : decode cL_law 786 = .ok (.iconst 0, 1) := by decide +kernel
theorem dL_law_787 : decode cL_law 787 = .ok (.invokevirtual 17, 3) := by decide +kernel
theorem dL_law_790 : decode cL_law 790 = .ok (.iconst 2, 1) := by decide +kernel
theorem dL_law_791 : decode cL_law 791 = .ok (.if_icmp .ne 7, 3) := by decide +kernel
theorem dL_law_794 : decode cL_law 794 = .ok (.iconst 1, 1) := by decide +kernel
theorem dL_law_795 : decode cL_law 795 = .ok (.goto 4, 3) := by decide +kernel
theorem dL_law_798 : decode cL_law 798 = .ok (.iconst 0, 1) := by decide +kernel
theorem dL_law_799 : decode cL_law 799 = .ok (.istore 6, 2) := by decide +kernel
theorem dL_law_801 : decode cL_law 801 = .ok (.goto 703, 3) := by decide +kernel
theorem dL_law_804 : decode cL_law 804 = .ok (.iload 11, 2) := by decide +kernel
theorem dL_law_806 : decode cL_law 806 = .ok (.bipush 20, 2) := by decide +kernel
theorem dL_law_808 : decode cL_law 808 = .ok (.if_icmp .ge 263, 3) := by decide +kernel
theorem dL_law_811 : decode cL_law 811 = .ok (.aload_n 1, 1) := by decide +kernel
theorem dL_law_812 : decode cL_law 812 = .ok (.iload 12, 2) := by decide +kernel
theorem dL_law_814 : decode cL_law 814 = .ok (.iload 13, 2) := by decide +kernel
theorem dL_law_816 : decode cL_law 816 = .ok (.invokevirtual 37, 3) := by decide +kernel
theorem dL_law_819 : decode cL_law 819 = .ok (.istore 14, 2) := by decide +kernel
theorem dL_law_821 : decode cL_law 821 = .ok (.iload 14, 2) := by decide +kernel
theorem dL_law_823 : decode cL_law 823 = .ok (.ifCond .ge 7, 3) := by decide +kernel
theorem dL_law_826 : decode cL_law 826 = .ok (.iconst 0, 1) := by decide +kernel
theorem dL_law_827 : decode cL_law 827 = .ok (.goto 10, 3) := by decide +kernel
theorem dL_law_830 : decode cL_law 830 = .ok (.aload_n 1, 1) := by decide +kernel
theorem dL_law_831 : decode cL_law 831 = .ok (.iload 14, 2) := by decide +kernel
theorem dL_law_833 : decode cL_law 833 = .ok (.iconst 1, 1) := by decide +kernel
theorem dL_law_834 : decode cL_law 834 = .ok (.invokevirtual 51, 3) := by decide +kernel
theorem dL_law_837 : decode cL_law 837 = .ok (.istore 15, 2) := by decide +kernel
theorem dL_law_839 : decode cL_law 839 = .ok (.iload 14, 2) := by decide +kernel
theorem dL_law_841 : decode cL_law 841 = .ok (.ifCond .ge 7, 3) := by decide +kernel
theorem dL_law_844 : decode cL_law 844 = .ok (.iconst 0, 1) := by decide +kernel
theorem dL_law_845 : decode cL_law 845 = .ok (.goto 10, 3) := by decide +kernel
theorem dL_law_848 : decode cL_law 848 = .ok (.aload_n 1, 1) := by decide +kernel
theorem dL_law_849 : decode cL_law 849 = .ok (.iload 14, 2) := by decide +kernel
theorem dL_law_851 : decode cL_law 851 = .ok (.iconst 2, 1) := by decide +kernel
theorem dL_law_852 : decode cL_law 852 = .ok (.invokevirtual 51, 3) := by decide +kernel
theorem dL_law_855 : decode cL_law 855 = .ok (.istore 16, 2) := by decide +kernel
theorem dL_law_857 : decode cL_law 857 = .ok (.aload_n 1, 1) := by decide +kernel
theorem dL_law_858 : decode cL_law 858 = .ok (.iload 12, 2) := by decide +kernel
theorem dL_law_860 : decode cL_law 860 = .ok (.iload 13, 2) := by decide +kernel
theorem dL_law_862 : decode cL_law 862 = .ok (.invokevirtual 48, 3) := by decide +kernel
theorem dL_law_865 : decode cL_law 865 = .ok (.istore 17, 2) := by decide +kernel
theorem dL_law_867 : decode cL_law 867 = .ok (.aload_n 1, 1) := by decide +kernel
theorem dL_law_868 : decode cL_law 868 = .ok (.iload 12, 2) := by decide +kernel
theorem dL_law_870 : decode cL_law 870 = .ok (.iload 13, 2) := by decide +kernel
theorem dL_law_872 : decode cL_law 872 = .ok (.iload 10, 2) := by decide +kernel
theorem dL_law_874 : decode cL_law 874 = .ok (.iconst 2, 1) := by decide +kernel
theorem dL_law_875 : decode cL_law 875 = .ok (.ishr, 1) := by decide +kernel
theorem dL_law_876 : decode cL_law 876 = .ok (.ldc 108, 2) := by decide +kernel
theorem dL_law_878 : decode cL_law 878 = .ok (.irem, 1) := by decide +kernel
theorem dL_law_879 : decode cL_law 879 = .ok (.iload 10, 2) := by decide +kernel
theorem dL_law_881 : decode cL_law 881 = .ok (.iconst 3, 1) := by decide +kernel
theorem dL_law_882 : decode cL_law 882 = .ok (.iand, 1) := by decide +kernel
theorem dL_law_883 : decode cL_law 883 = .ok (.ifCond .ne 8, 3) := by decide +kernel
theorem dL_law_886 : decode cL_law 886 = .ok (.ldc 109, 2) := by decide +kernel
theorem dL_law_888 : decode cL_law 888 = .ok (.goto 33, 3) := by decide +kernel
theorem dL_law_891 : decode cL_law 891 = .ok (.sipush 1000, 3) := by decide +kernel
theorem dL_law_894 : decode cL_law 894 = .ok (.sipush 700, 3) := by decide +kernel
theorem dL_law_897 : decode cL_law 897 = .ok (.iload 10, 2) := by decide +kernel
theorem dL_law_899 : decode cL_law 899 = .ok (.iconst 4, 1) := by decide +kernel
theorem dL_law_900 : decode cL_law 900 = .ok (.ishr, 1) := by decide +kernel
theorem dL_law_901 : decode cL_law 901 = .ok (.sipush 300, 3) := by decide +kernel
theorem dL_law_904 : decode cL_law 904 = .ok (.irem, 1) := by decide +kernel
theorem dL_law_905 : decode cL_law 905 = .ok (.iadd, 1) := by decide +kernel
theorem dL_law_906 : decode cL_law 906 = .ok (.imul, 1) := by decide +kernel
theorem dL_law_907 : decode cL_law 907 = .ok (.sipush 700, 3) := by decide +kernel
theorem dL_law_910 : decode cL_law 910 = .ok (.iadd, 1) := by decide +kernel
theorem dL_law_911 : decode cL_law 911 = .ok (.iload 10, 2) := by decide +kernel
theorem dL_law_913 : decode cL_law 913 = .ok (.bipush 9, 2) := by decide +kernel
theorem dL_law_915 : decode cL_law 915 = .ok (.ishr, 1) := by decide +kernel
theorem dL_law_916 : decode cL_law 916 = .ok (.sipush 300, 3) := by decide +kernel
theorem dL_law_919 : decode cL_law 919 = .ok (.irem, 1) := by decide +kernel
theorem dL_law_920 : decode cL_law 920 = .ok (.iadd, 1) := by decide +kernel
theorem dL_law_921 : decode cL_law 921 = .ok (.iload 10, 2) := by decide +kernel
theorem dL_law_923 : decode cL_law 923 = .ok (.bipush 12, 2) := by decide +kernel
theorem dL_law_925 : decode cL_law 925 = .ok (.ishr, 1) := by decide +kernel
theorem dL_law_926 : decode cL_law 926 = .ok (.bipush 7, 2) := by decide +kernel
theorem dL_law_928 : decode cL_law 928 = .ok (.irem, 1) := by decide +kernel
theorem dL_law_929 : decode cL_law 929 = .ok (.ifCond .ne 7, 3) := by decide +kernel
theorem dL_law_932 : decode cL_law 932 = .ok (.iconst 1, 1) := by decide +kernel
theorem dL_law_933 : decode cL_law 933 = .ok (.goto 4, 3) := by decide +kernel
theorem dL_law_936 : decode cL_law 936 = .ok (.iconst 0, 1) := by decide +kernel
theorem dL_law_937 : decode cL_law 937 = .ok (.invokestatic 110, 3) := by decide +kernel
theorem dL_law_940 : decode cL_law 940 = .ok (.istore 18, 2) := by decide +kernel
theorem dL_law_942 : decode cL_law 942 = .ok (.iload 18, 2) := by decide +kernel
theorem dL_law_944 : decode cL_law 944 = .ok (.bipush (-13), 2) := by decide +kernel
theorem dL_law_946 : decode cL_law 946 = .ok (.if_icmp .ne 21, 3) := by decide +kernel
theorem dL_law_949 : decode cL_law 949 = .ok (.iload 14, 2) := by decide +kernel
theorem dL_law_951 : decode cL_law 951 = .ok (.ifCond .lt 8, 3) := by decide +kernel
theorem dL_law_954 : decode cL_law 954 = .ok (.iload 17, 2) := by decide +kernel
theorem dL_law_956 : decode cL_law 956 = .ok (.ifCond .lt 7, 3) := by decide +kernel
theorem dL_law_959 : decode cL_law 959 = .ok (.iconst 1, 1) := by decide +kernel
theorem dL_law_960 : decode cL_law 960 = .ok (.goto 106, 3) := by decide +kernel
theorem dL_law_963 : decode cL_law 963 = .ok (.iconst 0, 1) := by decide +kernel
theorem dL_law_964 : decode cL_law 964 = .ok (.goto 102, 3) := by decide +kernel
theorem dL_law_967 : decode cL_law 967 = .ok (.iload 14, 2) := by decide +kernel
theorem dL_law_969 : decode cL_law 969 = .ok (.ifCond .lt 96, 3) := by decide +kernel
theorem dL_law_972 : decode cL_law 972 = .ok (.iload 17, 2) := by decide +kernel
theorem dL_law_974 : decode cL_law 974 = .ok (.iconst (-1), 1) := by decide +kernel
theorem dL_law_975 : decode cL_law 975 = .ok (.if_icmp .ne 90, 3) := by decide +kernel
theorem dL_law_978 : decode cL_law 978 = .ok (.iload 18, 2) := by decide +kernel
theorem dL_law_980 : decode cL_law 980 = .ok (.aload_n 1, 1) := by decide +kernel
theorem dL_law_981 : decode cL_law 981 = .ok (.iload 12, 2) := by decide +kernel
theorem dL_law_983 : decode cL_law 983 = .ok (.iload 13, 2) := by decide +kernel
theorem dL_law_985 : decode cL_law 985 = .ok (.invokevirtual 48, 3) := by decide +kernel
theorem dL_law_988 : decode cL_law 988 = .ok (.if_icmp .ne 77, 3) := by decide +kernel
theorem dL_law_991 : decode cL_law 991 = .ok (.aload_n 1, 1) := by decide +kernel
theorem dL_law_992 : decode cL_law 992 = .ok (.iload 14, 2) := by decide +kernel
theorem dL_law_994 : decode cL_law 994 = .ok (.iconst 1, 1) := by decide +kernel
theorem dL_law_995 : decode cL_law 995 = .ok (.invokevirtual 51, 3) := by decide +kernel
theorem dL_law_998 : decode cL_law 998 = .ok (.iload 15, 2) := by decide +kernel
theorem dL_law_1000 : decode cL_law 1000 = .ok (.iconst 1, 1) := by decide +kernel
theorem dL_law_1001 : decode cL_law 1001 = .ok (.iadd, 1) := by decide +kernel
theorem dL_law_1002 : decode cL_law 1002 = .ok (.if_icmp .ne 63, 3) := by decide +kernel
theorem dL_law_1005 : decode cL_law 1005 = .ok (.aload_n 1, 1) := by decide +kernel
theorem dL_law_1006 : decode cL_law 1006 = .ok (.iload 14, 2) := by decide +kernel
theorem dL_law_1008 : decode cL_law 1008 = .ok (.iconst 2, 1) := by decide +kernel
theorem dL_law_1009 : decode cL_law 1009 = .ok (.invokevirtual 51, 3) := by decide +kernel
theorem dL_law_1012 : decode cL_law 1012 = .ok (.iload 16, 2) := by decide +kernel
theorem dL_law_1014 : decode cL_law 1014 = .ok (.if_icmp .lt 51, 3) := by decide +kernel
theorem dL_law_1017 : decode cL_law 1017 = .ok (.aload_n 1, 1) := by decide +kernel
theorem dL_law_1018 : decode cL_law 1018 = .ok (.iload 14, 2) := by decide +kernel
theorem dL_law_1020 : decode cL_law 1020 = .ok (.iconst 2, 1) := by decide +kernel
theorem dL_law_1021 : decode cL_law 1021 = .ok (.invokevirtual 51, 3) := by decide +kernel
theorem dL_law_1024 : decode cL_law 1024 = .ok (.iload 16, 2) := by decide +kernel
theorem dL_law_1026 : decode cL_law 1026 = .ok (.iconst 1, 1) := by decide +kernel
theorem dL_law_1027 : decode cL_law 1027 = .ok (.iadd, 1) := by decide +kernel
theorem dL_law_1028 : decode cL_law 1028 = .ok (.if_icmp .gt 37, 3) := by decide +kernel
theorem dL_law_1031 : decode cL_law 1031 = .ok (.aload_n 1, 1) := by decide +kernel
theorem dL_law_1032 : decode cL_law 1032 = .ok (.iload 14, 2) := by decide +kernel
theorem dL_law_1034 : decode cL_law 1034 = .ok (.iconst 2, 1) := by decide +kernel
theorem dL_law_1035 : decode cL_law 1035 = .ok (.invokevirtual 51, 3) := by decide +kernel
theorem dL_law_1038 : decode cL_law 1038 = .ok (.iload 16, 2) := by decide +kernel
theorem dL_law_1040 : decode cL_law 1040 = .ok (.if_icmp .eq 8, 3) := by decide +kernel
theorem dL_law_1043 : decode cL_law 1043 = .ok (.iload 18, 2) := by decide +kernel
theorem dL_law_1045 : decode cL_law 1045 = .ok (.ifCond .ne 20, 3) := by decide +kernel
theorem dL_law_1048 : decode cL_law 1048 = .ok (.aload_n 1, 1) := by decide +kernel
theorem dL_law_1049 : decode cL_law 1049 = .ok (.iload 12, 2) := by decide +kernel
theorem dL_law_1051 : decode cL_law 1051 = .ok (.iload 13, 2) := by decide +kernel
theorem dL_law_1053 : decode cL_law 1053 = .ok (.invokevirtual 37, 3) := by decide +kernel
theorem dL_law_1056 : decode cL_law 1056 = .ok (.iload 14, 2) := by decide +kernel
theorem dL_law_1058 : decode cL_law 1058 = .ok (.if_icmp .ne 7, 3) := by decide +kernel
theorem dL_law_1061 : decode cL_law 1061 = .ok (.iconst 1, 1) := by decide +kernel
theorem dL_law_1062 : decode cL_law 1062 = .ok (.goto 4, 3) := by decide +kernel
theorem dL_law_1065 : decode cL_law 1065 = .ok (.iconst 0, 1) := by decide +kernel
theorem dL_law_1066 : decode cL_law 1066 = .ok (.istore 6, 2) := by decide +kernel
theorem dL_law_1068 : decode cL_law 1068 = .ok (.goto 436, 3) := by decide +kernel
theorem dL_law_1071 : decode cL_law 1071 = .ok (.iload 11, 2) := by decide +kernel
theorem dL_law_1073 : decode cL_law 1073 = .ok (.bipush 23, 2) := by decide +kernel
theorem dL_law_1075 : decode cL_law 1075 = .ok (.if_icmp .ge 200, 3) := by decide +kernel
theorem dL_law_1078 : decode cL_law 1078 = .ok (.aload_n 1, 1) := by decide +kernel
theorem dL_law_1079 : decode cL_law 1079 = .ok (.iload 12, 2) := by decide +kernel
theorem dL_law_1081 : decode cL_law 1081 = .ok (.iload 13, 2) := by decide +kernel
theorem dL_law_1083 : decode cL_law 1083 = .ok (.invokevirtual 40, 3) := by decide +kernel
theorem dL_law_1086 : decode cL_law 1086 = .ok (.istore 14, 2) := by decide +kernel
theorem dL_law_1088 : decode cL_law 1088 = .ok (.iload 10, 2) := by decide +kernel
theorem dL_law_1090 : decode cL_law 1090 = .ok (.iconst 1, 1) := by decide +kernel
theorem dL_law_1091 : decode cL_law 1091 = .ok (.iand, 1) := by decide +kernel
theorem dL_law_1092 : decode cL_law 1092 = .ok (.ifCond .ne 7, 3) := by decide +kernel
theorem dL_law_1095 : decode cL_law 1095 = .ok (.iconst 1, 1) := by decide +kernel
theorem dL_law_1096 : decode cL_law 1096 = .ok (.goto 4, 3) := by decide +kernel
theorem dL_law_1099 : decode cL_law 1099 = .ok (.iconst 0, 1) := by decide +kernel
theorem dL_law_1100 : decode cL_law 1100 = .ok (.istore 15, 2) := by decide +kernel
theorem dL_law_1102 : decode cL_law 1102 = .ok (.aload_n 1, 1) := by decide +kernel
theorem dL_law_1103 : decode cL_law 1103 = .ok (.iload 12, 2) := by decide +kernel
theorem dL_law_1105 : decode cL_law 1105 = .ok (.iload 13, 2) := by decide +kernel
theorem dL_law_1107 : decode cL_law 1107 = .ok (.invokevirtual 37, 3) := by decide +kernel
theorem dL_law_1110 : decode cL_law 1110 = .ok (.istore 16, 2) := by decide +kernel
theorem dL_law_1112 : decode cL_law 1112 = .ok (.aload_n 1, 1) := by decide +kernel
theorem dL_law_1113 : decode cL_law 1113 = .ok (.iload 12, 2) := by decide +kernel
theorem dL_law_1115 : decode cL_law 1115 = .ok (.iload 13, 2) := by decide +kernel
theorem dL_law_1117 : decode cL_law 1117 = .ok (.invokevirtual 48, 3) := by decide +kernel
theorem dL_law_1120 : decode cL_law 1120 = .ok (.istore 17, 2) := by decide +kernel
theorem dL_law_1122 : decode cL_law 1122 = .ok (.aload_n 1, 1) := by decide +kernel
theorem dL_law_1123 : decode cL_law 1123 = .ok (.bipush 10, 2) := by decide +kernel
theorem dL_law_1125 : decode cL_law 1125 = .ok (.iload 12, 2) := by decide +kernel
theorem dL_law_1127 : decode cL_law 1127 = .ok (.iload 13, 2) := by decide +kernel
theorem dL_law_1129 : decode cL_law 1129 = .ok (.iload 15, 2) := by decide +kernel
theorem dL_law_1131 : decode cL_law 1131 = .ok (.ifCond .eq 7, 3) := by decide +kernel
theorem dL_law_1134 : decode cL_law 1134 = .ok (.iconst 1, 1) := by decide +kernel
theorem dL_law_1135 : decode cL_law 1135 = .ok (.goto 4, 3) := by decide +kernel
theorem dL_law_1138 : decode cL_law 1138 = .ok (.iconst 0, 1) := by decide +kernel
theorem dL_law_1139 : decode cL_law 1139 = .ok (.iconst 0, 1) := by decide +kernel
theorem dL_law_1140 : decode cL_law 1140 = .ok (.invokestatic 97, 3) := by decide +kernel
theorem dL_law_1143 : decode cL_law 1143 = .ok (.istore 18, 2) := by decide +kernel
theorem dL_law_1145 : decode cL_law 1145 = .ok (.iload 14, 2) := by decide +kernel
theorem dL_law_1147 : decode cL_law 1147 = .ok (.ifCond .ne 18, 3) := by decide +kernel
theorem dL_law_1150 : decode cL_law 1150 = .ok (.iload 18, 2) := by decide +kernel
theorem dL_law_1152 : decode cL_law 1152 = .ok (.bipush (-13), 2) := by decide +kernel
theorem dL_law_1154 : decode cL_law 1154 = .ok (.if_icmp .ne 7, 3) := by decide +kernel
theorem dL_law_1157 : decode cL_law 1157 = .ok (.iconst 1, 1) := by decide +kernel
theorem dL_law_1158 : decode cL_law 1158 = .ok (.goto 89, 3) := by decide +kernel
theorem dL_law_1161 : decode cL_law 1161 = .ok (.iconst 0, 1) := by decide +kernel
theorem dL_law_1162 : decode cL_law 1162 = .ok (.goto 85, 3) := by decide +kernel
theorem dL_law_1165 : decode cL_law 1165 = .ok (.iload 15, 2) := by decide +kernel
theorem dL_law_1167 : decode cL_law 1167 = .ok (.ifCond .eq 43, 3) := by decide +kernel
theorem dL_law_1170 : decode cL_law 1170 = .ok (.iload 18, 2) := by decide +kernel
theorem dL_law_1172 : decode cL_law 1172 = .ok (.iload 16, 2) := by decide +kernel
theorem dL_law_1174 : decode cL_law 1174 = .ok (.if_icmp .eq 32, 3) := by decide +kernel
theorem dL_law_1177 : decode cL_law 1177 = .ok (.iload 18, 2) := by decide +kernel
theorem dL_law_1179 : decode cL_law 1179 = .ok (.aload_n 1, 1) := by decide +kernel
theorem dL_law_1180 : decode cL_law 1180 = .ok (.iload 12, 2) := by decide +kernel
theorem dL_law_1182 : decode cL_law 1182 = .ok (.iload 13, 2) := by decide +kernel
theorem dL_law_1184 : decode cL_law 1184 = .ok (.invokevirtual 37, 3) := by decide +kernel
theorem dL_law_1187 : decode cL_law 1187 = .ok (.if_icmp .ne 19, 3) := by decide +kernel
theorem dL_law_1190 : decode cL_law 1190 = .ok (.aload_n 1, 1) := by decide +kernel
theorem dL_law_1191 : decode cL_law 1191 = .ok (.iload 12, 2) := by decide +kernel
theorem dL_law_1193 : decode cL_law 1193 = .ok (.iload 13, 2) := by decide +kernel
theorem dL_law_1195 : decode cL_law 1195 = .ok (.invokevirtual 48, 3) := by decide +kernel
theorem dL_law_1198 : decode cL_law 1198 = .ok (.iconst (-1), 1) := by decide +kernel
theorem dL_law_1199 : decode cL_law 1199 = .ok (.if_icmp .ne 7, 3) := by decide +kernel
theorem dL_law_1202 : decode cL_law 1202 = .ok (.iconst 1, 1) := by decide +kernel
theorem dL_law_1203 : decode cL_law 1203 = .ok (.goto 44, 3) := by decide +kernel
theorem dL_law_1206 : decode cL_law 1206 = .ok (.iconst 0, 1) := by decide +kernel
theorem dL_law_1207 : decode cL_law 1207 = .ok (.goto 40, 3) := by decide +kernel
theorem dL_law_1210 : decode cL_law 1210 = .ok (.iload 18, 2) := by decide +kernel
theorem dL_law_1212 : decode cL_law 1212 = .ok (.iconst (-1), 1) := by decide +kernel
theorem dL_law_1213 : decode cL_law 1213 = .ok (.if_icmp .ne 33, 3) := by decide +kernel
theorem dL_law_1216 : decode cL_law 1216 = .ok (.aload_n 1, 1) := by decide +kernel
theorem dL_law_1217 : decode cL_law 1217 = .ok (.iload 12, 2) := by decide +kernel
theorem dL_law_1219 : decode cL_law 1219 = .ok (.iload 13, 2) := by decide +kernel
theorem dL_law_1221 : decode cL_law 1221 = .ok (.invokevirtual 48, 3) := by decide +kernel
theorem dL_law_1224 : decode cL_law 1224 = .ok (.iload 17, 2) := by decide +kernel
theorem dL_law_1226 : decode cL_law 1226 = .ok (.if_icmp .ne 20, 3) := by decide +kernel
theorem dL_law_1229 : decode cL_law 1229 = .ok (.aload_n 1, 1) := by decide +kernel
theorem dL_law_1230 : decode cL_law 1230 = .ok (.iload 12, 2) := by decide +kernel
theorem dL_law_1232 : decode cL_law 1232 = .ok (.iload 13, 2) := by decide +kernel
theorem dL_law_1234 : decode cL_law 1234 = .ok (.invokevirtual 37, 3) := by decide +kernel
theorem dL_law_1237 : decode cL_law 1237 = .ok (.iload 16, 2) := by decide +kernel
theorem dL_law_1239 : decode cL_law 1239 = .ok (.if_icmp .ne 7, 3) := by decide +kernel
theorem dL_law_1242 : decode cL_law 1242 = .ok (.iconst 1, 1) := by decide +kernel
theorem dL_law_1243 : decode cL_law 1243 = .ok (.goto 4, 3) := by decide +kernel
theorem dL_law_1246 : decode cL_law 1246 = .ok (.iconst 0, 1) := by decide +kernel
theorem dL_law_1247 : decode cL_law 1247 = .ok (.istore 6, 2) := by decide +kernel
theorem dL_law_1249 : decode cL_law 1249 = .ok (.iload 6, 2) := by decide +kernel
theorem dL_law_1251 : decode cL_law 1251 = .ok (.ifCond .eq 18, 3) := by decide +kernel
theorem dL_law_1254 : decode cL_law 1254 = .ok (.aload_n 1, 1) := by decide +kernel
theorem dL_law_1255 : decode cL_law 1255 = .ok (.iload 12, 2) := by decide +kernel
theorem dL_law_1257 : decode cL_law 1257 = .ok (.iload 13, 2) := by decide +kernel
theorem dL_law_1259 : decode cL_law 1259 = .ok (.invokevirtual 40, 3) := by decide +kernel
theorem dL_law_1262 : decode cL_law 1262 = .ok (.ifCond .ne 7, 3) := by decide +kernel
theorem dL_law_1265 : decode cL_law 1265 = .ok (.iconst 1, 1) := by decide +kernel
theorem dL_law_1266 : decode cL_law 1266 = .ok (.goto 4, 3) := by decide +kernel
theorem dL_law_1269 : decode cL_law 1269 = .ok (.iconst 0, 1) := by decide +kernel
theorem dL_law_1270 : decode cL_law 1270 = .ok (.istore 6, 2) := by decide +kernel
theorem dL_law_1272 : decode cL_law 1272 = .ok (.goto 232, 3) := by decide +kernel
theorem dL_law_1275 : decode cL_law 1275 = .ok (.iload 11, 2) := by decide +kernel
theorem dL_law_1277 : decode cL_law 1277 = .ok (.bipush 25, 2) := by decide +kernel
theorem dL_law_1279 : decode cL_law 1279 = .ok (.if_icmp .ge 118, 3) := by decide +kernel
theorem dL_law_1282 : decode cL_law 1282 = .ok (.aload_n 1, 1) := by decide +kernel
theorem dL_law_1283 : decode cL_law 1283 = .ok (.iload 12, 2) := by decide +kernel
theorem dL_law_1285 : decode cL_law 1285 = .ok (.iconst 0, 1) := by decide +kernel
theorem dL_law_1286 : decode cL_law 1286 = .ok (.invokevirtual 17, 3) := by decide +kernel
theorem dL_law_1289 : decode cL_law 1289 = .ok (.istore 14, 2) := by decide +kernel
theorem dL_law_1291 : decode cL_law 1291 = .ok (.aload_n 1, 1) := by decide +kernel
theorem dL_law_1292 : decode cL_law 1292 = .ok (.bipush 13, 2) := by decide +kernel
theorem dL_law_1294 : decode cL_law 1294 = .ok (.iload 12, 2) := by decide +kernel
theorem dL_law_1296 : decode cL_law 1296 = .ok (.iconst 0, 1) := by decide +kernel
theorem dL_law_1297 : decode cL_law 1297 = .ok (.iconst 0, 1) := by decide +kernel
theorem dL_law_1298 : decode cL_law 1298 = .ok (.iconst 0, 1) := by decide +kernel
theorem dL_law_1299 : decode cL_law 1299 = .ok (.invokestatic 97, 3) := by decide +kernel
theorem dL_law_1302 : decode cL_law 1302 = .ok (.istore 15, 2) := by decide +kernel
theorem dL_law_1304 : decode cL_law 1304 = .ok (.iload 15, 2) := by decide +kernel
theorem dL_law_1306 : decode cL_law 1306 = .ok (.bipush (-13), 2) := by decide +kernel
theorem dL_law_1308 : decode cL_law 1308 = .ok (.if_icmp .ne 23, 3) := by decide +kernel
theorem dL_law_1311 : decode cL_law 1311 = .ok (.aload_n 1, 1) := by decide +kernel
theorem dL_law_1312 : decode cL_law 1312 = .ok (.iload 12, 2) := by decide +kernel
theorem dL_law_1314 : decode cL_law 1314 = .ok (.iconst 0, 1) := by decide +kernel
theorem dL_law_1315 : decode cL_law 1315 = .ok (.invokevirtual 17, 3) := by decide +kernel
theorem dL_law_1318 : decode cL_law 1318 = .ok (.iload 14, 2) := by decide +kernel
theorem dL_law_1320 : decode cL_law 1320 = .ok (.if_icmp .ne 7, 3) := by decide +kernel
theorem dL_law_1323 : decode cL_law 1323 = .ok (.iconst 1, 1) := by decide +kernel
theorem dL_law_1324 : decode cL_law 1324 = .ok (.goto 68, 3) := by decide +kernel
theorem dL_law_1327 : decode cL_law 1327 = .ok (.iconst 0, 1) := by decide +kernel
theorem dL_law_1328 : decode cL_law 1328 = .ok (.goto 64, 3) := by decide +kernel
theorem dL_law_1331 : decode cL_law 1331 = .ok (.iload 14, 2) := by decide +kernel
theorem dL_law_1333 : decode cL_law 1333 = .ok (.iconst 2, 1) := by decide +kernel
theorem dL_law_1334 : decode cL_law 1334 = .ok (.if_icmp .ne 57, 3) := by decide +kernel
theorem dL_law_1337 : decode cL_law 1337 = .ok (.aload_n 1, 1) := by decide +kernel
theorem dL_law_1338 : decode cL_law 1338 = .ok (.iload 12, 2) := by decide +kernel
theorem dL_law_1340 : decode cL_law 1340 = .ok (.iconst 0, 1) := by decide +kernel
theorem dL_law_1341 : decode cL_law 1341 = .ok (.invokevirtual 17, 3) := by decide +kernel
theorem dL_law_1344 : decode cL_law 1344 = .ok (.iconst 3, 1) := by decide +kernel
theorem dL_law_1345 : decode cL_law 1345 = .ok (.if_icmp .ne 46, 3) := by decide +kernel
theorem dL_law_1348 : decode cL_law 1348 = .ok (.iload 15, 2) := by decide +kernel
theorem dL_law_1350 : decode cL_law 1350 = .ok (.ifCond .lt 41, 3) := by decide +kernel
theorem dL_law_1353 : decode cL_law 1353 = .ok (.iload 15, 2) := by decide +kernel
theorem dL_law_1355 : decode cL_law 1355 = .ok (.aload_n 1, 1) := by decide +kernel
theorem dL_law_1356 : decode cL_law 1356 = .ok (.iload 12, 2) := by decide +kernel
theorem dL_law_1358 : decode cL_law 1358 = .ok (.iconst 2, 1) := by decide +kernel
theorem dL_law_1359 : decode cL_law 1359 = .ok (.invokevirtual 17, 3) := by decide +kernel
theorem dL_law_1362 : decode cL_law 1362 = .ok (.if_icmp .gt 29, 3) := by decide +kernel
theorem dL_law_1365 : decode cL_law 1365 = .ok (.iload 15, 2) := by decide +kernel
theorem dL_law_1367 : decode cL_law 1367 = .ok (.ifCond .gt 20, 3) := by decide +kernel
theorem dL_law_1370 : decode cL_law 1370 = .ok (.aload_n 1, 1) := by decide +kernel
theorem dL_law_1371 : decode cL_law 1371 = .ok (.iload 12, 2) := by decide +kernel
theorem dL_law_1373 : decode cL_law 1373 = .ok (.iconst 4, 1) := by decide +kernel
theorem dL_law_1374 : decode cL_law 1374 = .ok (.invokevirtual 17, 3) := by decide +kernel
theorem dL_law_1377 : decode cL_law 1377 = .ok (.aload_n 1, 1) := by decide +kernel
theorem dL_law_1378 : decode cL_law 1378 = .ok (.iload 12, 2) := by decide +kernel
theorem dL_law_1380 : decode cL_law 1380 = .ok (.iconst 3, 1) := by decide +kernel
theorem dL_law_1381 : decode cL_law 1381 = .ok (.invokevirtual 17, 3) := by decide +kernel
theorem dL_law_1384 : decode cL_law 1384 = .ok (.if_icmp .ne 7, 3) := by decide +kernel
theorem dL_law_1387 : decode cL_law 1387 = .ok (.iconst 1, 1) := by decide +kernel
theorem dL_law_1388 : decode cL_law 1388 = .ok (.goto 4, 3) := by decide +kernel
theorem dL_law_1391 : decode cL_law 1391 = .ok (.iconst 0, 1) := by decide +kernel
theorem dL_law_1392 : decode cL_law 1392 = .ok (.istore 6, 2) := by decide +kernel
theorem dL_law_1394 : decode cL_law 1394 = .ok (.goto 110, 3) := by decide +kernel
theorem dL_law_1397 : decode cL_law 1397 = .ok (.iload 11, 2) := by decide +kernel
theorem dL_law_1399 : decode cL_law 1399 = .ok (.bipush 25, 2) := by decide +kernel
theorem dL_law_1401 : decode cL_law 1401 = .ok (.if_icmp .ne 32, 3) := by decide +kernel
theorem dL_law_1404 : decode cL_law 1404 = .ok (.aload_n 1, 1) := by decide +kernel
theorem dL_law_1405 : decode cL_law 1405 = .ok (.bipush 17, 2) := by decide +kernel
theorem dL_law_1407 : decode cL_law 1407 = .ok (.iload 10, 2) := by decide +kernel
theorem dL_law_1409 : decode cL_law 1409 = .ok (.iconst 2, 1) := by decide +kernel
theorem dL_law_1410 : decode cL_law 1410 = .ok (.ishr, 1) := by decide +kernel
theorem dL_law_1411 : decode cL_law 1411 = .ok (.ldc 113, 2) := by decide +kernel
theorem dL_law_1413 : decode cL_law 1413 = .ok (.irem, 1) := by decide +kernel
theorem dL_law_1414 : decode cL_law 1414 = .ok (.iconst 0, 1) := by decide +kernel
theorem dL_law_1415 : decode cL_law 1415 = .ok (.iconst 0, 1) := by decide +kernel
theorem dL_law_1416 : decode cL_law 1416 = .ok (.iconst 0, 1) := by decide +kernel
theorem dL_law_1417 : decode cL_law 1417 = .ok (.invokestatic 97, 3) := by decide +kernel
theorem dL_law_1420 : decode cL_law 1420 = .ok (.ifCond .ne 7, 3) := by decide +kernel
theorem dL_law_1423 : decode cL_law 1423 = .ok (.iconst 1, 1) := by decide +kernel
theorem dL_law_1424 : decode cL_law 1424 = .ok (.goto 4, 3) := by decide +kernel
theorem dL_law_1427 : decode cL_law 1427 = .ok (.iconst 0, 1) := by decide +kernel
theorem dL_law_1428 : decode cL_law 1428 = .ok (.istore 6, 2) := by decide +kernel
theorem dL_law_1430 : decode cL_law 1430 = .ok (.goto 74, 3) := by decide +kernel
theorem dL_law_1433 : decode cL_law 1433 = .ok (.iload 11, 2) := by decide +kernel
theorem dL_law_1435 : decode cL_law 1435 = .ok (.bipush 28, 2) := by decide +kernel
theorem dL_law_1437 : decode cL_law 1437 = .ok (.if_icmp .ge 39, 3) := by decide +kernel
theorem dL_law_1440 : decode cL_law 1440 = .ok (.iinc 5 3, 3) := by decide +kernel
theorem dL_law_1443 : decode cL_law 1443 = .ok (.iload 5, 2) := by decide +kernel
theorem dL_law_1445 : decode cL_law 1445 = .ok (.bipush 30, 2) := by decide +kernel
theorem dL_law_1447 : decode cL_law 1447 = .ok (.if_icmp .gt 19, 3) := by decide +kernel
theorem dL_law_1450 : decode cL_law 1450 = .ok (.aload_n 1, 1) := by decide +kernel
theorem dL_law_1451 : decode cL_law 1451 = .ok (.iload_n 3, 1) := by decide +kernel
theorem dL_law_1452 : decode cL_law 1452 = .ok (.iload_n 2, 1) := by decide +kernel
theorem dL_law_1453 : decode cL_law 1453 = .ok (.invokestatic 114, 3) := by decide +kernel
theorem dL_law_1456 : decode cL_law 1456 = .ok (.ifCond .eq 14, 3) := by decide +kernel
theorem dL_law_1459 : decode cL_law 1459 = .ok (.aload_n 1, 1) := by decide +kernel
theorem dL_law_1460 : decode cL_law 1460 = .ok (.invokevirtual 118, 3) := by decide +kernel
theorem dL_law_1463 : decode cL_law 1463 = .ok (.ifCond .eq 7, 3) := by decide +kernel
theorem dL_law_1466 : decode cL_law 1466 = .ok (.iconst 1, 1) := by decide +kernel
theorem dL_law_1467 : decode cL_law 1467 = .ok (.goto 4, 3) := by decide +kernel
theorem dL_law_1470 : decode cL_law 1470 = .ok (.iconst 0, 1) := by decide +kernel
theorem dL_law_1471 : decode cL_law 1471 = .ok (.istore 6, 2) := by decide +kernel
theorem dL_law_1473 : decode cL_law 1473 = .ok (.goto 31, 3) := by decide +kernel
theorem dL_law_1476 : decode cL_law 1476 = .ok (.aload_n 1, 1) := by decide +kernel
theorem dL_law_1477 : decode cL_law 1477 = .ok (.iload 12, 2) := by decide +kernel
theorem dL_law_1479 : decode cL_law 1479 = .ok (.iload 13, 2) := by decide +kernel
theorem dL_law_1481 : decode cL_law 1481 = .ok (.invokestatic 122, 3) := by decide +kernel
theorem dL_law_1484 : decode cL_law 1484 = .ok (.ifCond .eq 17, 3) := by decide +kernel
theorem dL_law_1487 : decode cL_law 1487 = .ok (.aload_n 1, 1) := by decide +kernel
theorem dL_law_1488 : decode cL_law 1488 = .ok (.iload 12, 2) := by decide +kernel
theorem dL_law_1490 : decode cL_law 1490 = .ok (.iload_n 3, 1) := by decide +kernel
theorem dL_law_1491 : decode cL_law 1491 = .ok (.invokestatic 125, 3) := by decide +kernel
theorem dL_law_1494 : decode cL_law 1494 = .ok (.ifCond .eq 7, 3) := by decide +kernel
theorem dL_law_1497 : decode cL_law 1497 = .ok (.iconst 1, 1) := by decide +kernel
theorem dL_law_1498 : decode cL_law 1498 = .ok (.goto 4, 3) := by decide +kernel
theorem dL_law_1501 : decode cL_law 1501 = .ok (.iconst 0, 1) := by decide +kernel
theorem dL_law_1502 : decode cL_law 1502 = .ok (.istore 6, 2) := by decide +kernel
theorem dL_law_1504 : decode cL_law 1504 = .ok (.iinc 8 1, 3) := by decide +kernel
theorem dL_law_1507 : decode cL_law 1507 = .ok (.goto (-1451), 3) := by decide +kernel
theorem dL_law_1510 : decode cL_law 1510 = .ok (.iload 6, 2) := by decide +kernel
theorem dL_law_1512 : decode cL_law 1512 = .ok (.ifCond .eq 14, 3) := by decide +kernel
theorem dL_law_1515 : decode cL_law 1515 = .ok (.aload_n 1, 1) := by decide +kernel
theorem dL_law_1516 : decode cL_law 1516 = .ok (.invokevirtual 118, 3) := by decide +kernel
theorem dL_law_1519 : decode cL_law 1519 = .ok (.ifCond .eq 7, 3) := by decide +kernel
theorem dL_law_1522 : decode cL_law 1522 = .ok (.iconst 1, 1) := by decide +kernel
theorem dL_law_1523 : decode cL_law 1523 = .ok (.goto 4, 3) := by decide +kernel
theorem dL_law_1526 : decode cL_law 1526 = .ok (.iconst 0, 1) := by decide +kernel
theorem dL_law_1527 : decode cL_law 1527 = .ok (.ireturn, 1) := by decide +kernel
