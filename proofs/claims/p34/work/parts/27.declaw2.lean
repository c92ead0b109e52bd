theorem dL_law_801 : decode code 801 = .ok (.isub, 1) := by decide +kernel
theorem dL_law_802 : decode code 802 = .ok (.invokevirtual 60, 3) := by decide +kernel
theorem dL_law_805 : decode code 805 = .ok (.ifCond .ne 7, 3) := by decide +kernel
theorem dL_law_808 : decode code 808 = .ok (.iconst 1, 1) := by decide +kernel
theorem dL_law_809 : decode code 809 = .ok (.goto 4, 3) := by decide +kernel
theorem dL_law_812 : decode code 812 = .ok (.iconst 0, 1) := by decide +kernel
theorem dL_law_813 : decode code 813 = .ok (.istore 6, 2) := by decide +kernel
theorem dL_law_815 : decode code 815 = .ok (.goto 290, 3) := by decide +kernel
theorem dL_law_818 : decode code 818 = .ok (.iload 13, 2) := by decide +kernel
theorem dL_law_820 : decode code 820 = .ok (.bipush 18, 2) := by decide +kernel
theorem dL_law_822 : decode code 822 = .ok (.if_icmp .ge 74, 3) := by decide +kernel
theorem dL_law_825 : decode code 825 = .ok (.iload 9, 2) := by decide +kernel
theorem dL_law_827 : decode code 827 = .ok (.iconst 2, 1) := by decide +kernel
theorem dL_law_828 : decode code 828 = .ok (.invokestatic 52, 3) := by decide +kernel
theorem dL_law_831 : decode code 831 = .ok (.ifCond .ne 15, 3) := by decide +kernel
theorem dL_law_834 : decode code 834 = .ok (.iconst 1, 1) := by decide +kernel
theorem dL_law_835 : decode code 835 = .ok (.iload 9, 2) := by decide +kernel
theorem dL_law_837 : decode code 837 = .ok (.bipush 60, 2) := by decide +kernel
theorem dL_law_839 : decode code 839 = .ok (.invokestatic 52, 3) := by decide +kernel
theorem dL_law_842 : decode code 842 = .ok (.iadd, 1) := by decide +kernel
theorem dL_law_843 : decode code 843 = .ok (.goto 13, 3) := by decide +kernel
theorem dL_law_846 : decode code 846 = .ok (.iconst 1, 1) := by decide +kernel
theorem dL_law_847 : decode code 847 = .ok (.iload 9, 2) := by decide +kernel
theorem dL_law_849 : decode code 849 = .ok (.sipush 400, 3) := by decide +kernel
theorem dL_law_852 : decode code 852 = .ok (.invokestatic 52, 3) := by decide +kernel
theorem dL_law_855 : decode code 855 = .ok (.iadd, 1) := by decide +kernel
theorem dL_law_856 : decode code 856 = .ok (.istore 14, 2) := by decide +kernel
theorem dL_law_858 : decode code 858 = .ok (.aload_n 1, 1) := by decide +kernel
theorem dL_law_859 : decode code 859 = .ok (.invokevirtual 132, 3) := by decide +kernel
theorem dL_law_862 : decode code 862 = .ok (.istore 15, 2) := by decide +kernel
theorem dL_law_864 : decode code 864 = .ok (.iload 15, 2) := by decide +kernel
theorem dL_law_866 : decode code 866 = .ok (.sipush 29000, 3) := by decide +kernel
theorem dL_law_869 : decode code 869 = .ok (.if_icmp .gt 17, 3) := by decide +kernel
theorem dL_law_872 : decode code 872 = .ok (.aload_n 1, 1) := by decide +kernel
theorem dL_law_873 : decode code 873 = .ok (.iload 14, 2) := by decide +kernel
theorem dL_law_875 : decode code 875 = .ok (.invokevirtual 138, 3) := by decide +kernel
theorem dL_law_878 : decode code 878 = .ok (.iload 15, 2) := by decide +kernel
theorem dL_law_880 : decode code 880 = .ok (.iload 14, 2) := by decide +kernel
theorem dL_law_882 : decode code 882 = .ok (.iadd, 1) := by decide +kernel
theorem dL_law_883 : decode code 883 = .ok (.if_icmp .ne 7, 3) := by decide +kernel
theorem dL_law_886 : decode code 886 = .ok (.iconst 1, 1) := by decide +kernel
theorem dL_law_887 : decode code 887 = .ok (.goto 4, 3) := by decide +kernel
theorem dL_law_890 : decode code 890 = .ok (.iconst 0, 1) := by decide +kernel
theorem dL_law_891 : decode code 891 = .ok (.istore 6, 2) := by decide +kernel
theorem dL_law_893 : decode code 893 = .ok (.goto 212, 3) := by decide +kernel
theorem dL_law_896 : decode code 896 = .ok (.iload 4, 2) := by decide +kernel
theorem dL_law_898 : decode code 898 = .ok (.ifCond .eq 8, 3) := by decide +kernel
theorem dL_law_901 : decode code 901 = .ok (.iload 5, 2) := by decide +kernel
theorem dL_law_903 : decode code 903 = .ok (.ifCond .ne 14, 3) := by decide +kernel
theorem dL_law_906 : decode code 906 = .ok (.aload_n 1, 1) := by decide +kernel
theorem dL_law_907 : decode code 907 = .ok (.iload 5, 2) := by decide +kernel
theorem dL_law_909 : decode code 909 = .ok (.invokestatic 83, 3) := by decide +kernel
theorem dL_law_912 : decode code 912 = .ok (.istore 6, 2) := by decide +kernel
theorem dL_law_914 : decode code 914 = .ok (.goto 191, 3) := by decide +kernel
theorem dL_law_917 : decode code 917 = .ok (.iload 13, 2) := by decide +kernel
theorem dL_law_919 : decode code 919 = .ok (.bipush 22, 2) := by decide +kernel
theorem dL_law_921 : decode code 921 = .ok (.if_icmp .ge 102, 3) := by decide +kernel
theorem dL_law_924 : decode code 924 = .ok (.iload 9, 2) := by decide +kernel
theorem dL_law_926 : decode code 926 = .ok (.bipush 9, 2) := by decide +kernel
theorem dL_law_928 : decode code 928 = .ok (.invokestatic 52, 3) := by decide +kernel
theorem dL_law_931 : decode code 931 = .ok (.istore 14, 2) := by decide +kernel
theorem dL_law_933 : decode code 933 = .ok (.aload_n 1, 1) := by decide +kernel
theorem dL_law_934 : decode code 934 = .ok (.iload 11, 2) := by decide +kernel
theorem dL_law_936 : decode code 936 = .ok (.invokevirtual 60, 3) := by decide +kernel
theorem dL_law_939 : decode code 939 = .ok (.istore 15, 2) := by decide +kernel
theorem dL_law_941 : decode code 941 = .ok (.iload 9, 2) := by decide +kernel
theorem dL_law_943 : decode code 943 = .ok (.iconst 2, 1) := by decide +kernel
theorem dL_law_944 : decode code 944 = .ok (.invokestatic 52, 3) := by decide +kernel
theorem dL_law_947 : decode code 947 = .ok (.ifCond .ne 16, 3) := by decide +kernel
theorem dL_law_950 : decode code 950 = .ok (.aload_n 1, 1) := by decide +kernel
theorem dL_law_951 : decode code 951 = .ok (.iload 11, 2) := by decide +kernel
theorem dL_law_953 : decode code 953 = .ok (.iload 12, 2) := by decide +kernel
theorem dL_law_955 : decode code 955 = .ok (.iload 14, 2) := by decide +kernel
theorem dL_law_957 : decode code 957 = .ok (.invokestatic 141, 3) := by decide +kernel
theorem dL_law_960 : decode code 960 = .ok (.goto 18, 3) := by decide +kernel
theorem dL_law_963 : decode code 963 = .ok (.aload_n 1, 1) := by decide +kernel
theorem dL_law_964 : decode code 964 = .ok (.iload 11, 2) := by decide +kernel
theorem dL_law_966 : decode code 966 = .ok (.iload 12, 2) := by decide +kernel
theorem dL_law_968 : decode code 968 = .ok (.iload 14, 2) := by decide +kernel
theorem dL_law_970 : decode code 970 = .ok (.iload 9, 2) := by decide +kernel
theorem dL_law_972 : decode code 972 = .ok (.invokestatic 98, 3) := by decide +kernel
theorem dL_law_975 : decode code 975 = .ok (.invokestatic 144, 3) := by decide +kernel
theorem dL_law_978 : decode code 978 = .ok (.istore 16, 2) := by decide +kernel
theorem dL_law_980 : decode code 980 = .ok (.iload 16, 2) := by decide +kernel
theorem dL_law_982 : decode code 982 = .ok (.bipush (-3), 2) := by decide +kernel
theorem dL_law_984 : decode code 984 = .ok (.if_icmp .lt 33, 3) := by decide +kernel
theorem dL_law_987 : decode code 987 = .ok (.aload_n 1, 1) := by decide +kernel
theorem dL_law_988 : decode code 988 = .ok (.iload 11, 2) := by decide +kernel
theorem dL_law_990 : decode code 990 = .ok (.invokevirtual 60, 3) := by decide +kernel
theorem dL_law_993 : decode code 993 = .ok (.iload 15, 2) := by decide +kernel
theorem dL_law_995 : decode code 995 = .ok (.if_icmp .lt 22, 3) := by decide +kernel
theorem dL_law_998 : decode code 998 = .ok (.aload_n 1, 1) := by decide +kernel
theorem dL_law_999 : decode code 999 = .ok (.iload 11, 2) := by decide +kernel
theorem dL_law_1001 : decode code 1001 = .ok (.invokevirtual 60, 3) := by decide +kernel
theorem dL_law_1004 : decode code 1004 = .ok (.aload_n 1, 1) := by decide +kernel
theorem dL_law_1005 : decode code 1005 = .ok (.iload 11, 2) := by decide +kernel
theorem dL_law_1007 : decode code 1007 = .ok (.invokevirtual 147, 3) := by decide +kernel
theorem dL_law_1010 : decode code 1010 = .ok (.if_icmp .ne 7, 3) := by decide +kernel
theorem dL_law_1013 : decode code 1013 = .ok (.iconst 1, 1) := by decide +kernel
theorem dL_law_1014 : decode code 1014 = .ok (.goto 4, 3) := by decide +kernel
theorem dL_law_1017 : decode code 1017 = .ok (.iconst 0, 1) := by decide +kernel
theorem dL_law_1018 : decode code 1018 = .ok (.istore 6, 2) := by decide +kernel
theorem dL_law_1020 : decode code 1020 = .ok (.goto 85, 3) := by decide +kernel
theorem dL_law_1023 : decode code 1023 = .ok (.aload_n 1, 1) := by decide +kernel
theorem dL_law_1024 : decode code 1024 = .ok (.iload 11, 2) := by decide +kernel
theorem dL_law_1026 : decode code 1026 = .ok (.invokevirtual 63, 3) := by decide +kernel
theorem dL_law_1029 : decode code 1029 = .ok (.istore 14, 2) := by decide +kernel
theorem dL_law_1031 : decode code 1031 = .ok (.aload_n 1, 1) := by decide +kernel
theorem dL_law_1032 : decode code 1032 = .ok (.iload 12, 2) := by decide +kernel
theorem dL_law_1034 : decode code 1034 = .ok (.iload 9, 2) := by decide +kernel
theorem dL_law_1036 : decode code 1036 = .ok (.bipush 6, 2) := by decide +kernel
theorem dL_law_1038 : decode code 1038 = .ok (.invokestatic 52, 3) := by decide +kernel
theorem dL_law_1041 : decode code 1041 = .ok (.invokestatic 150, 3) := by decide +kernel
theorem dL_law_1044 : decode code 1044 = .ok (.istore 15, 2) := by decide +kernel
theorem dL_law_1046 : decode code 1046 = .ok (.iload 15, 2) := by decide +kernel
theorem dL_law_1048 : decode code 1048 = .ok (.bipush (-3), 2) := by decide +kernel
theorem dL_law_1050 : decode code 1050 = .ok (.if_icmp .lt 52, 3) := by decide +kernel
theorem dL_law_1053 : decode code 1053 = .ok (.iload 15, 2) := by decide +kernel
theorem dL_law_1055 : decode code 1055 = .ok (.iload 5, 2) := by decide +kernel
theorem dL_law_1057 : decode code 1057 = .ok (.if_icmp .gt 45, 3) := by decide +kernel
theorem dL_law_1060 : decode code 1060 = .ok (.aload_n 1, 1) := by decide +kernel
theorem dL_law_1061 : decode code 1061 = .ok (.iload 11, 2) := by decide +kernel
theorem dL_law_1063 : decode code 1063 = .ok (.invokevirtual 63, 3) := by decide +kernel
theorem dL_law_1066 : decode code 1066 = .ok (.iload 14, 2) := by decide +kernel
theorem dL_law_1068 : decode code 1068 = .ok (.if_icmp .lt 34, 3) := by decide +kernel
theorem dL_law_1071 : decode code 1071 = .ok (.aload_n 1, 1) := by decide +kernel
theorem dL_law_1072 : decode code 1072 = .ok (.iload 12, 2) := by decide +kernel
theorem dL_law_1074 : decode code 1074 = .ok (.iload 9, 2) := by decide +kernel
theorem dL_law_1076 : decode code 1076 = .ok (.bipush 6, 2) := by decide +kernel
theorem dL_law_1078 : decode code 1078 = .ok (.invokestatic 52, 3) := by decide +kernel
theorem dL_law_1081 : decode code 1081 = .ok (.invokestatic 150, 3) := by decide +kernel
theorem dL_law_1084 : decode code 1084 = .ok (.bipush (-3), 2) := by decide +kernel
theorem dL_law_1086 : decode code 1086 = .ok (.if_icmp .ne 16, 3) := by decide +kernel
theorem dL_law_1089 : decode code 1089 = .ok (.aload_n 1, 1) := by decide +kernel
theorem dL_law_1090 : decode code 1090 = .ok (.iload 12, 2) := by decide +kernel
theorem dL_law_1092 : decode code 1092 = .ok (.invokevirtual 126, 3) := by decide +kernel
theorem dL_law_1095 : decode code 1095 = .ok (.ifCond .le 7, 3) := by decide +kernel
theorem dL_law_1098 : decode code 1098 = .ok (.iconst 1, 1) := by decide +kernel
theorem dL_law_1099 : decode code 1099 = .ok (.goto 4, 3) := by decide +kernel
theorem dL_law_1102 : decode code 1102 = .ok (.iconst 0, 1) := by decide +kernel
theorem dL_law_1103 : decode code 1103 = .ok (.istore 6, 2) := by decide +kernel
theorem dL_law_1105 : decode code 1105 = .ok (.iload 6, 2) := by decide +kernel
theorem dL_law_1107 : decode code 1107 = .ok (.ifCond .eq 41, 3) := by decide +kernel
theorem dL_law_1110 : decode code 1110 = .ok (.aload_n 1, 1) := by decide +kernel
theorem dL_law_1111 : decode code 1111 = .ok (.iload 5, 2) := by decide +kernel
theorem dL_law_1113 : decode code 1113 = .ok (.invokestatic 83, 3) := by decide +kernel
theorem dL_law_1116 : decode code 1116 = .ok (.ifCond .eq 32, 3) := by decide +kernel
theorem dL_law_1119 : decode code 1119 = .ok (.iload 4, 2) := by decide +kernel
theorem dL_law_1121 : decode code 1121 = .ok (.ifCond .eq 23, 3) := by decide +kernel
theorem dL_law_1124 : decode code 1124 = .ok (.iload 5, 2) := by decide +kernel
theorem dL_law_1126 : decode code 1126 = .ok (.ifCond .eq 18, 3) := by decide +kernel
theorem dL_law_1129 : decode code 1129 = .ok (.aload_n 1, 1) := by decide +kernel
theorem dL_law_1130 : decode code 1130 = .ok (.iload 11, 2) := by decide +kernel
theorem dL_law_1132 : decode code 1132 = .ok (.iload 12, 2) := by decide +kernel
theorem dL_law_1134 : decode code 1134 = .ok (.invokevirtual 153, 3) := by decide +kernel
theorem dL_law_1137 : decode code 1137 = .ok (.aload_n 1, 1) := by decide +kernel
theorem dL_law_1138 : decode code 1138 = .ok (.invokevirtual 132, 3) := by decide +kernel
theorem dL_law_1141 : decode code 1141 = .ok (.if_icmp .gt 7, 3) := by decide +kernel
theorem dL_law_1144 : decode code 1144 = .ok (.iconst 1, 1) := by decide +kernel
theorem dL_law_1145 : decode code 1145 = .ok (.goto 4, 3) := by decide +kernel
theorem dL_law_1148 : decode code 1148 = .ok (.iconst 0, 1) := by decide +kernel
theorem dL_law_1149 : decode code 1149 = .ok (.istore 6, 2) := by decide +kernel
theorem dL_law_1151 : decode code 1151 = .ok (.iinc 8 1, 3) := by decide +kernel
theorem dL_law_1154 : decode code 1154 = .ok (.goto (-1080), 3) := by decide +kernel
theorem dL_law_1157 : decode code 1157 = .ok (.iload 6, 2) := by decide +kernel
theorem dL_law_1159 : decode code 1159 = .ok (.ifCond .eq 25, 3) := by decide +kernel
theorem dL_law_1162 : decode code 1162 = .ok (.aload_n 1, 1) := by decide +kernel
theorem dL_law_1163 : decode code 1163 = .ok (.invokevirtual 66, 3) := by decide +kernel
theorem dL_law_1166 : decode code 1166 = .ok (.aload_n 1, 1) := by decide +kernel
theorem dL_law_1167 : decode code 1167 = .ok (.invokevirtual 156, 3) := by decide +kernel
theorem dL_law_1170 : decode code 1170 = .ok (.if_icmp .ne 14, 3) := by decide +kernel
theorem dL_law_1173 : decode code 1173 = .ok (.aload_n 1, 1) := by decide +kernel
theorem dL_law_1174 : decode code 1174 = .ok (.invokestatic 87, 3) := by decide +kernel
theorem dL_law_1177 : decode code 1177 = .ok (.ifCond .eq 7, 3) := by decide +kernel
theorem dL_law_1180 : decode code 1180 = .ok (.iconst 1, 1) := by decide +kernel
theorem dL_law_1181 : decode code 1181 = .ok (.goto 4, 3) := by decide +kernel
theorem dL_law_1184 : decode code 1184 = .ok (.iconst 0, 1) := by decide +kernel
theorem dL_law_1185 : decode code 1185 = .ok (.ireturn, 1) := by decide +kernel
