theorem nd_Law_law_868 : decode nC_Law_law 868 = .ok (.invokevirtual 141, 3) := by decide +kernel
theorem nd_Law_law_871 : decode nC_Law_law 871 = .ok (.istore 6, 2) := by decide +kernel
theorem nd_Law_law_873 : decode nC_Law_law 873 = .ok (.aload_n 2, 1) := by decide +kernel
theorem nd_Law_law_874 : decode nC_Law_law 874 = .ok (.invokevirtual 92, 3) := by decide +kernel
theorem nd_Law_law_877 : decode nC_Law_law 877 = .ok (.iload 5, 2) := by decide +kernel
theorem nd_Law_law_879 : decode nC_Law_law 879 = .ok (.if_icmp .eq 5, 3) := by decide +kernel
theorem nd_Law_law_882 : decode nC_Law_law 882 = .ok (.iconst 0, 1) := by decide +kernel
theorem nd_Law_law_883 : decode nC_Law_law 883 = .ok (.ireturn, 1) := by decide +kernel
theorem nd_Law_law_884 : decode nC_Law_law 884 = .ok (.iload 5, 2) := by decide +kernel
theorem nd_Law_law_886 : decode nC_Law_law 886 = .ok (.ifCond .ne 15, 3) := by decide +kernel
theorem nd_Law_law_889 : decode nC_Law_law 889 = .ok (.aload_n 3, 1) := by decide +kernel
theorem nd_Law_law_890 : decode nC_Law_law 890 = .ok (.iconst 0, 1) := by decide +kernel
theorem nd_Law_law_891 : decode nC_Law_law 891 = .ok (.laload, 1) := by decide +kernel
theorem nd_Law_law_892 : decode nC_Law_law 892 = .ok (.iload 6, 2) := by decide +kernel
theorem nd_Law_law_894 : decode nC_Law_law 894 = .ok (.i2l, 1) := by decide +kernel
theorem nd_Law_law_895 : decode nC_Law_law 895 = .ok (.lcmp, 1) := by decide +kernel
theorem nd_Law_law_896 : decode nC_Law_law 896 = .ok (.ifCond .eq 5, 3) := by decide +kernel
theorem nd_Law_law_899 : decode nC_Law_law 899 = .ok (.iconst 0, 1) := by decide +kernel
theorem nd_Law_law_900 : decode nC_Law_law 900 = .ok (.ireturn, 1) := by decide +kernel
theorem nd_Law_law_901 : decode nC_Law_law 901 = .ok (.goto 551, 3) := by decide +kernel
theorem nd_Law_law_904 : decode nC_Law_law 904 = .ok (.aload_n 1, 1) := by decide +kernel
theorem nd_Law_law_905 : decode nC_Law_law 905 = .ok (.aload_n 0, 1) := by decide +kernel
theorem nd_Law_law_906 : decode nC_Law_law 906 = .ok (.iload 4, 2) := by decide +kernel
theorem nd_Law_law_908 : decode nC_Law_law 908 = .ok (.iconst 1, 1) := by decide +kernel
theorem nd_Law_law_909 : decode nC_Law_law 909 = .ok (.iadd, 1) := by decide +kernel
theorem nd_Law_law_910 : decode nC_Law_law 910 = .ok (.iaload, 1) := by decide +kernel
theorem nd_Law_law_911 : decode nC_Law_law 911 = .ok (.aload_n 3, 1) := by decide +kernel
theorem nd_Law_law_912 : decode nC_Law_law 912 = .ok (.invokestatic 142, 3) := by decide +kernel
theorem nd_Law_law_915 : decode nC_Law_law 915 = .ok (.istore 5, 2) := by decide +kernel
theorem nd_Law_law_917 : decode nC_Law_law 917 = .ok (.aload_n 2, 1) := by decide +kernel
theorem nd_Law_law_918 : decode nC_Law_law 918 = .ok (.aload_n 0, 1) := by decide +kernel
theorem nd_Law_law_919 : decode nC_Law_law 919 = .ok (.iload 4, 2) := by decide +kernel
theorem nd_Law_law_921 : decode nC_Law_law 921 = .ok (.iconst 1, 1) := by decide +kernel
theorem nd_Law_law_922 : decode nC_Law_law 922 = .ok (.iadd, 1) := by decide +kernel
theorem nd_Law_law_923 : decode nC_Law_law 923 = .ok (.iaload, 1) := by decide +kernel
theorem nd_Law_law_924 : decode nC_Law_law 924 = .ok (.invokevirtual 144, 3) := by decide +kernel
theorem nd_Law_law_927 : decode nC_Law_law 927 = .ok (.istore 6, 2) := by decide +kernel
theorem nd_Law_law_929 : decode nC_Law_law 929 = .ok (.aload_n 2, 1) := by decide +kernel
theorem nd_Law_law_930 : decode nC_Law_law 930 = .ok (.invokevirtual 92, 3) := by decide +kernel
theorem nd_Law_law_933 : decode nC_Law_law 933 = .ok (.iload 5, 2) := by decide +kernel
theorem nd_Law_law_935 : decode nC_Law_law 935 = .ok (.if_icmp .eq 5, 3) := by decide +kernel
theorem nd_Law_law_938 : decode nC_Law_law 938 = .ok (.iconst 0, 1) := by decide +kernel
theorem nd_Law_law_939 : decode nC_Law_law 939 = .ok (.ireturn, 1) := by decide +kernel
theorem nd_Law_law_940 : decode nC_Law_law 940 = .ok (.iload 5, 2) := by decide +kernel
theorem nd_Law_law_942 : decode nC_Law_law 942 = .ok (.ifCond .ne 15, 3) := by decide +kernel
theorem nd_Law_law_945 : decode nC_Law_law 945 = .ok (.aload_n 3, 1) := by decide +kernel
theorem nd_Law_law_946 : decode nC_Law_law 946 = .ok (.iconst 0, 1) := by decide +kernel
theorem nd_Law_law_947 : decode nC_Law_law 947 = .ok (.laload, 1) := by decide +kernel
theorem nd_Law_law_948 : decode nC_Law_law 948 = .ok (.iload 6, 2) := by decide +kernel
theorem nd_Law_law_950 : decode nC_Law_law 950 = .ok (.i2l, 1) := by decide +kernel
theorem nd_Law_law_951 : decode nC_Law_law 951 = .ok (.lcmp, 1) := by decide +kernel
theorem nd_Law_law_952 : decode nC_Law_law 952 = .ok (.ifCond .eq 5, 3) := by decide +kernel
theorem nd_Law_law_955 : decode nC_Law_law 955 = .ok (.iconst 0, 1) := by decide +kernel
theorem nd_Law_law_956 : decode nC_Law_law 956 = .ok (.ireturn, 1) := by decide +kernel
theorem nd_Law_law_957 : decode nC_Law_law 957 = .ok (.goto 495, 3) := by decide +kernel
theorem nd_Law_law_960 : decode nC_Law_law 960 = .ok (.aload_n 1, 1) := by decide +kernel
theorem nd_Law_law_961 : decode nC_Law_law 961 = .ok (.aload_n 0, 1) := by decide +kernel
theorem nd_Law_law_962 : decode nC_Law_law 962 = .ok (.iload 4, 2) := by decide +kernel
theorem nd_Law_law_964 : decode nC_Law_law 964 = .ok (.iconst 1, 1) := by decide +kernel
theorem nd_Law_law_965 : decode nC_Law_law 965 = .ok (.iadd, 1) := by decide +kernel
theorem nd_Law_law_966 : decode nC_Law_law 966 = .ok (.iaload, 1) := by decide +kernel
theorem nd_Law_law_967 : decode nC_Law_law 967 = .ok (.aload_n 0, 1) := by decide +kernel
theorem nd_Law_law_968 : decode nC_Law_law 968 = .ok (.iload 4, 2) := by decide +kernel
theorem nd_Law_law_970 : decode nC_Law_law 970 = .ok (.iconst 2, 1) := by decide +kernel
theorem nd_Law_law_971 : decode nC_Law_law 971 = .ok (.iadd, 1) := by decide +kernel
theorem nd_Law_law_972 : decode nC_Law_law 972 = .ok (.iaload, 1) := by decide +kernel
theorem nd_Law_law_973 : decode nC_Law_law 973 = .ok (.aload_n 0, 1) := by decide +kernel
theorem nd_Law_law_974 : decode nC_Law_law 974 = .ok (.iload 4, 2) := by decide +kernel
theorem nd_Law_law_976 : decode nC_Law_law 976 = .ok (.iconst 3, 1) := by decide +kernel
theorem nd_Law_law_977 : decode nC_Law_law 977 = .ok (.iadd, 1) := by decide +kernel
theorem nd_Law_law_978 : decode nC_Law_law 978 = .ok (.iaload, 1) := by decide +kernel
theorem nd_Law_law_979 : decode nC_Law_law 979 = .ok (.aload_n 3, 1) := by decide +kernel
theorem nd_Law_law_980 : decode nC_Law_law 980 = .ok (.invokestatic 145, 3) := by decide +kernel
theorem nd_Law_law_983 : decode nC_Law_law 983 = .ok (.istore 5, 2) := by decide +kernel
theorem nd_Law_law_985 : decode nC_Law_law 985 = .ok (.aload_n 2, 1) := by decide +kernel
theorem nd_Law_law_986 : decode nC_Law_law 986 = .ok (.aload_n 0, 1) := by decide +kernel
theorem nd_Law_law_987 : decode nC_Law_law 987 = .ok (.iload 4, 2) := by decide +kernel
theorem nd_Law_law_989 : decode nC_Law_law 989 = .ok (.iconst 1, 1) := by decide +kernel
theorem nd_Law_law_990 : decode nC_Law_law 990 = .ok (.iadd, 1) := by decide +kernel
theorem nd_Law_law_991 : decode nC_Law_law 991 = .ok (.iaload, 1) := by decide +kernel
theorem nd_Law_law_992 : decode nC_Law_law 992 = .ok (.aload_n 0, 1) := by decide +kernel
theorem nd_Law_law_993 : decode nC_Law_law 993 = .ok (.iload 4, 2) := by decide +kernel
theorem nd_Law_law_995 : decode nC_Law_law 995 = .ok (.iconst 2, 1) := by decide +kernel
theorem nd_Law_law_996 : decode nC_Law_law 996 = .ok (.iadd, 1) := by decide +kernel
theorem nd_Law_law_997 : decode nC_Law_law 997 = .ok (.iaload, 1) := by decide +kernel
theorem nd_Law_law_998 : decode nC_Law_law 998 = .ok (.aload_n 0, 1) := by decide +kernel
theorem nd_Law_law_999 : decode nC_Law_law 999 = .ok (.iload 4, 2) := by decide +kernel
theorem nd_Law_law_1001 : decode nC_Law_law 1001 = .ok (.iconst 3, 1) := by decide +kernel
theorem nd_Law_law_1002 : decode nC_Law_law 1002 = .ok (.iadd, 1) := by decide +kernel
theorem nd_Law_law_1003 : decode nC_Law_law 1003 = .ok (.iaload, 1) := by decide +kernel
theorem nd_Law_law_1004 : decode nC_Law_law 1004 = .ok (.invokevirtual 147, 3) := by decide +kernel
theorem nd_Law_law_1007 : decode nC_Law_law 1007 = .ok (.istore 6, 2) := by decide +kernel
theorem nd_Law_law_1009 : decode nC_Law_law 1009 = .ok (.aload_n 2, 1) := by decide +kernel
theorem nd_Law_law_1010 : decode nC_Law_law 1010 = .ok (.invokevirtual 92, 3) := by decide +kernel
theorem nd_Law_law_1013 : decode nC_Law_law 1013 = .ok (.iload 5, 2) := by decide +kernel
theorem nd_Law_law_1015 : decode nC_Law_law 1015 = .ok (.if_icmp .eq 5, 3) := by decide +kernel
theorem nd_Law_law_1018 : decode nC_Law_law 1018 = .ok (.iconst 0, 1) := by decide +kernel
theorem nd_Law_law_1019 : decode nC_Law_law 1019 = .ok (.ireturn, 1) := by decide +kernel
theorem nd_Law_law_1020 : decode nC_Law_law 1020 = .ok (.iload 5, 2) := by decide +kernel
theorem nd_Law_law_1022 : decode nC_Law_law 1022 = .ok (.ifCond .ne 15, 3) := by decide +kernel
theorem nd_Law_law_1025 : decode nC_Law_law 1025 = .ok (.aload_n 3, 1) := by decide +kernel
theorem nd_Law_law_1026 : decode nC_Law_law 1026 = .ok (.iconst 0, 1) := by decide +kernel
theorem nd_Law_law_1027 : decode nC_Law_law 1027 = .ok (.laload, 1) := by decide +kernel
theorem nd_Law_law_1028 : decode nC_Law_law 1028 = .ok (.iload 6, 2) := by decide +kernel
theorem nd_Law_law_1030 : decode nC_Law_law 1030 = .ok (.i2l, 1) := by decide +kernel
theorem nd_Law_law_1031 : decode nC_Law_law 1031 = .ok (.lcmp, 1) := by decide +kernel
theorem nd_Law_law_1032 : decode nC_Law_law 1032 = .ok (.ifCond .eq 5, 3) := by decide +kernel
theorem nd_Law_law_1035 : decode nC_Law_law 1035 = .ok (.iconst 0, 1) := by decide +kernel
theorem nd_Law_law_1036 : decode nC_Law_law 1036 = .ok (.ireturn, 1) := by decide +kernel
theorem nd_Law_law_1037 : decode nC_Law_law 1037 = .ok (.goto 415, 3) := by decide +kernel
theorem nd_Law_law_1040 : decode nC_Law_law 1040 = .ok (.aload_n 1, 1) := by decide +kernel
theorem nd_Law_law_1041 : decode nC_Law_law 1041 = .ok (.aload_n 0, 1) := by decide +kernel
theorem nd_Law_law_1042 : decode nC_Law_law 1042 = .ok (.iload 4, 2) := by decide +kernel
theorem nd_Law_law_1044 : decode nC_Law_law 1044 = .ok (.iconst 1, 1) := by decide +kernel
theorem nd_Law_law_1045 : decode nC_Law_law 1045 = .ok (.iadd, 1) := by decide +kernel
theorem nd_Law_law_1046 : decode nC_Law_law 1046 = .ok (.iaload, 1) := by decide +kernel
theorem nd_Law_law_1047 : decode nC_Law_law 1047 = .ok (.aload_n 0, 1) := by decide +kernel
theorem nd_Law_law_1048 : decode nC_Law_law 1048 = .ok (.iload 4, 2) := by decide +kernel
theorem nd_Law_law_1050 : decode nC_Law_law 1050 = .ok (.iconst 2, 1) := by decide +kernel
theorem nd_Law_law_1051 : decode nC_Law_law 1051 = .ok (.iadd, 1) := by decide +kernel
theorem nd_Law_law_1052 : decode nC_Law_law 1052 = .ok (.iaload, 1) := by decide +kernel
theorem nd_Law_law_1053 : decode nC_Law_law 1053 = .ok (.aload_n 3, 1) := by decide +kernel
theorem nd_Law_law_1054 : decode nC_Law_law 1054 = .ok (.invokestatic 148, 3) := by decide +kernel
theorem nd_Law_law_1057 : decode nC_Law_law 1057 = .ok (.istore 5, 2) := by decide +kernel
theorem nd_Law_law_1059 : decode nC_Law_law 1059 = .ok (.aload_n 2, 1) := by decide +kernel
theorem nd_Law_law_1060 : decode nC_Law_law 1060 = .ok (.aload_n 0, 1) := by decide +kernel
theorem nd_Law_law_1061 : decode nC_Law_law 1061 = .ok (.iload 4, 2) := by decide +kernel
theorem nd_Law_law_1063 : decode nC_Law_law 1063 = .ok (.iconst 1, 1) := by decide +kernel
theorem nd_Law_law_1064 : decode nC_Law_law 1064 = .ok (.iadd, 1) := by decide +kernel
theorem nd_Law_law_1065 : decode nC_Law_law 1065 = .ok (.iaload, 1) := by decide +kernel
theorem nd_Law_law_1066 : decode nC_Law_law 1066 = .ok (.aload_n 0, 1) := by decide +kernel
theorem nd_Law_law_1067 : decode nC_Law_law 1067 = .ok (.iload 4, 2) := by decide +kernel
theorem nd_Law_law_1069 : decode nC_Law_law 1069 = .ok (.iconst 2, 1) := by decide +kernel
theorem nd_Law_law_1070 : decode nC_Law_law 1070 = .ok (.iadd, 1) := by decide +kernel
theorem nd_Law_law_1071 : decode nC_Law_law 1071 = .ok (.iaload, 1) := by decide +kernel
theorem nd_Law_law_1072 : decode nC_Law_law 1072 = .ok (.invokevirtual 150, 3) := by decide +kernel
theorem nd_Law_law_1075 : decode nC_Law_law 1075 = .ok (.istore 6, 2) := by decide +kernel
theorem nd_Law_law_1077 : decode nC_Law_law 1077 = .ok (.aload_n 2, 1) := by decide +kernel
theorem nd_Law_law_1078 : decode nC_Law_law 1078 = .ok (.invokevirtual 92, 3) := by decide +kernel
theorem nd_Law_law_1081 : decode nC_Law_law 1081 = .ok (.iload 5, 2) := by decide +kernel
theorem nd_Law_law_1083 : decode nC_Law_law 1083 = .ok (.if_icmp .eq 5, 3) := by decide +kernel
theorem nd_Law_law_1086 : decode nC_Law_law 1086 = .ok (.iconst 0, 1) := by decide +kernel
theorem nd_Law_law_1087 : decode nC_Law_law 1087 = .ok (.ireturn, 1) := by decide +kernel
theorem nd_Law_law_1088 : decode nC_Law_law 1088 = .ok (.iload 5, 2) := by decide +kernel
theorem nd_Law_law_1090 : decode nC_Law_law 1090 = .ok (.ifCond .ne 15, 3) := by decide +kernel
theorem nd_Law_law_1093 : decode nC_Law_law 1093 = .ok (.aload_n 3, 1) := by decide +kernel
theorem nd_Law_law_1094 : decode nC_Law_law 1094 = .ok (.iconst 0, 1) := by decide +kernel
theorem nd_Law_law_1095 : decode nC_Law_law 1095 = .ok (.laload, 1) := by decide +kernel
theorem nd_Law_law_1096 : decode nC_Law_law 1096 = .ok (.iload 6, 2) := by decide +kernel
theorem nd_Law_law_1098 : decode nC_Law_law 1098 = .ok (.i2l, 1) := by decide +kernel
theorem nd_Law_law_1099 : decode nC_Law_law 1099 = .ok (.lcmp, 1) := by decide +kernel
theorem nd_Law_law_1100 : decode nC_Law_law 1100 = .ok (.ifCond .eq 5, 3) := by decide +kernel
theorem nd_Law_law_1103 : decode nC_Law_law 1103 = .ok (.iconst 0, 1) := by decide +kernel
theorem nd_Law_law_1104 : decode nC_Law_law 1104 = .ok (.ireturn, 1) := by decide +kernel
theorem nd_Law_law_1105 : decode nC_Law_law 1105 = .ok (.goto 347, 3) := by decide +kernel
theorem nd_Law_law_1108 : decode nC_Law_law 1108 = .ok (.aload_n 1, 1) := by decide +kernel
theorem nd_Law_law_1109 : decode nC_Law_law 1109 = .ok (.aload_n 0, 1) := by decide +kernel
theorem nd_Law_law_1110 : decode nC_Law_law 1110 = .ok (.iload 4, 2) := by decide +kernel
theorem nd_Law_law_1112 : decode nC_Law_law 1112 = .ok (.iconst 1, 1) := by decide +kernel
theorem nd_Law_law_1113 : decode nC_Law_law 1113 = .ok (.iadd, 1) := by decide +kernel
theorem nd_Law_law_1114 : decode nC_Law_law 1114 = .ok (.iaload, 1) := by decide +kernel
theorem nd_Law_law_1115 : decode nC_Law_law 1115 = .ok (.aload_n 0, 1) := by decide +kernel
theorem nd_Law_law_1116 : decode nC_Law_law 1116 = .ok (.iload 4, 2) := by decide +kernel
theorem nd_Law_law_1118 : decode nC_Law_law 1118 = .ok (.iconst 2, 1) := by decide +kernel
theorem nd_Law_law_1119 : decode nC_Law_law 1119 = .ok (.iadd, 1) := by decide +kernel
theorem nd_Law_law_1120 : decode nC_Law_law 1120 = .ok (.iaload, 1) := by decide +kernel
theorem nd_Law_law_1121 : decode nC_Law_law 1121 = .ok (.invokestatic 151, 3) := by decide +kernel
theorem nd_Law_law_1124 : decode nC_Law_law 1124 = .ok (.istore 5, 2) := by decide +kernel
theorem nd_Law_law_1126 : decode nC_Law_law 1126 = .ok (.aload_n 2, 1) := by decide +kernel
theorem nd_Law_law_1127 : decode nC_Law_law 1127 = .ok (.aload_n 0, 1) := by decide +kernel
theorem nd_Law_law_1128 : decode nC_Law_law 1128 = .ok (.iload 4, 2) := by decide +kernel
theorem nd_Law_law_1130 : decode nC_Law_law 1130 = .ok (.iconst 1, 1) := by decide +kernel
theorem nd_Law_law_1131 : decode nC_Law_law 1131 = .ok (.iadd, 1) := by decide +kernel
theorem nd_Law_law_1132 : decode nC_Law_law 1132 = .ok (.iaload, 1) := by decide +kernel
theorem nd_Law_law_1133 : decode nC_Law_law 1133 = .ok (.aload_n 0, 1) := by decide +kernel
theorem nd_Law_law_1134 : decode nC_Law_law 1134 = .ok (.iload 4, 2) := by decide +kernel
theorem nd_Law_law_1136 : decode nC_Law_law 1136 = .ok (.iconst 2, 1) := by decide +kernel
theorem nd_Law_law_1137 : decode nC_Law_law 1137 = .ok (.iadd, 1) := by decide +kernel
theorem nd_Law_law_1138 : decode nC_Law_law 1138 = .ok (.iaload, 1) := by decide +kernel
theorem nd_Law_law_1139 : decode nC_Law_law 1139 = .ok (.invokevirtual 153, 3) := by decide +kernel
theorem nd_Law_law_1142 : decode nC_Law_law 1142 = .ok (.aload_n 2, 1) := by decide +kernel
theorem nd_Law_law_1143 : decode nC_Law_law 1143 = .ok (.invokevirtual 92, 3) := by decide +kernel
theorem nd_Law_law_1146 : decode nC_Law_law 1146 = .ok (.iload 5, 2) := by decide +kernel
theorem nd_Law_law_1148 : decode nC_Law_law 1148 = .ok (.if_icmp .eq 5, 3) := by decide +kernel
theorem nd_Law_law_1151 : decode nC_Law_law 1151 = .ok (.iconst 0, 1) := by decide +kernel
theorem nd_Law_law_1152 : decode nC_Law_law 1152 = .ok (.ireturn, 1) := by decide +kernel
theorem nd_Law_law_1153 : decode nC_Law_law 1153 = .ok (.goto 299, 3) := by decide +kernel
theorem nd_Law_law_1156 : decode nC_Law_law 1156 = .ok (.aload_n 1, 1) := by decide +kernel
theorem nd_Law_law_1157 : decode nC_Law_law 1157 = .ok (.aload_n 0, 1) := by decide +kernel
theorem nd_Law_law_1158 : decode nC_Law_law 1158 = .ok (.iload 4, 2) := by decide +kernel
theorem nd_Law_law_1160 : decode nC_Law_law 1160 = .ok (.iconst 1, 1) := by decide +kernel
theorem nd_Law_law_1161 : decode nC_Law_law 1161 = .ok (.iadd, 1) := by decide +kernel
theorem nd_Law_law_1162 : decode nC_Law_law 1162 = .ok (.iaload, 1) := by decide +kernel
theorem nd_Law_law_1163 : decode nC_Law_law 1163 = .ok (.aload_n 0, 1) := by decide +kernel
theorem nd_Law_law_1164 : decode nC_Law_law 1164 = .ok (.iload 4, 2) := by decide +kernel
theorem nd_Law_law_1166 : decode nC_Law_law 1166 = .ok (.iconst 2, 1) := by decide +kernel
theorem nd_Law_law_1167 : decode nC_Law_law 1167 = .ok (.iadd, 1) := by decide +kernel
theorem nd_Law_law_1168 : decode nC_Law_law 1168 = .ok (.iaload, 1) := by decide +kernel
theorem nd_Law_law_1169 : decode nC_Law_law 1169 = .ok (.invokestatic 154, 3) := by decide +kernel
theorem nd_Law_law_1172 : decode nC_Law_law 1172 = .ok (.istore 5, 2) := by decide +kernel
theorem nd_Law_law_1174 : decode nC_Law_law 1174 = .ok (.aload_n 2, 1) := by decide +kernel
theorem nd_Law_law_1175 : decode nC_Law_law 1175 = .ok (.aload_n 0, 1) := by decide +kernel
theorem nd_Law_law_1176 : decode nC_Law_law 1176 = .ok (.iload 4, 2) := by decide +kernel
theorem nd_Law_law_1178 : decode nC_Law_law 1178 = .ok (.iconst 1, 1) := by decide +kernel
theorem nd_Law_law_1179 : decode nC_Law_law 1179 = .ok (.iadd, 1) := by decide +kernel
theorem nd_Law_law_1180 : decode nC_Law_law 1180 = .ok (.iaload, 1) := by decide +kernel
theorem nd_Law_law_1181 : decode nC_Law_law 1181 = .ok (.aload_n 0, 1) := by decide +kernel
theorem nd_Law_law_1182 : decode nC_Law_law 1182 = .ok (.iload 4, 2) := by decide +kernel
theorem nd_Law_law_1184 : decode nC_Law_law 1184 = .ok (.iconst 2, 1) := by decide +kernel
theorem nd_Law_law_1185 : decode nC_Law_law 1185 = .ok (.iadd, 1) := by decide +kernel
theorem nd_Law_law_1186 : decode nC_Law_law 1186 = .ok (.iaload, 1) := by decide +kernel
theorem nd_Law_law_1187 : decode nC_Law_law 1187 = .ok (.invokevirtual 156, 3) := by decide +kernel
theorem nd_Law_law_1190 : decode nC_Law_law 1190 = .ok (.aload_n 2, 1) := by decide +kernel
theorem nd_Law_law_1191 : decode nC_Law_law 1191 = .ok (.invokevirtual 92, 3) := by decide +kernel
theorem nd_Law_law_1194 : decode nC_Law_law 1194 = .ok (.iload 5, 2) := by decide +kernel
theorem nd_Law_law_1196 : decode nC_Law_law 1196 = .ok (.if_icmp .eq 5, 3) := by decide +kernel
theorem nd_Law_law_1199 : decode nC_Law_law 1199 = .ok (.iconst 0, 1) := by decide +kernel
theorem nd_Law_law_1200 : decode nC_Law_law 1200 = .ok (.ireturn, 1) := by decide +kernel
theorem nd_Law_law_1201 : decode nC_Law_law 1201 = .ok (.goto 251, 3) := by decide +kernel
theorem nd_Law_law_1204 : decode nC_Law_law 1204 = .ok (.aload_n 1, 1) := by decide +kernel
theorem nd_Law_law_1205 : decode nC_Law_law 1205 = .ok (.aload_n 0, 1) := by decide +kernel
theorem nd_Law_law_1206 : decode nC_Law_law 1206 = .ok (.iload 4, 2) := by decide +kernel
theorem nd_Law_law_1208 : decode nC_Law_law 1208 = .ok (.iconst 1, 1) := by decide +kernel
theorem nd_Law_law_1209 : decode nC_Law_law 1209 = .ok (.iadd, 1) := by decide +kernel
theorem nd_Law_law_1210 : decode nC_Law_law 1210 = .ok (.iaload, 1) := by decide +kernel
theorem nd_Law_law_1211 : decode nC_Law_law 1211 = .ok (.aload_n 3, 1) := by decide +kernel
theorem nd_Law_law_1212 : decode nC_Law_law 1212 = .ok (.invokestatic 157, 3) := by decide +kernel
theorem nd_Law_law_1215 : decode nC_Law_law 1215 = .ok (.istore 5, 2) := by decide +kernel
theorem nd_Law_law_1217 : decode nC_Law_law 1217 = .ok (.aload_n 2, 1) := by decide +kernel
theorem nd_Law_law_1218 : decode nC_Law_law 1218 = .ok (.aload_n 0, 1) := by decide +kernel
theorem nd_Law_law_1219 : decode nC_Law_law 1219 = .ok (.iload 4, 2) := by decide +kernel
theorem nd_Law_law_1221 : decode nC_Law_law 1221 = .ok (.iconst 1, 1) := by decide +kernel
theorem nd_Law_law_1222 : decode nC_Law_law 1222 = .ok (.iadd, 1) := by decide +kernel
theorem nd_Law_law_1223 : decode nC_Law_law 1223 = .ok (.iaload, 1) := by decide +kernel
theorem nd_Law_law_1224 : decode nC_Law_law 1224 = .ok (.invokevirtual 159, 3) := by decide +kernel
theorem nd_Law_law_1227 : decode nC_Law_law 1227 = .ok (.istore 6, 2) := by decide +kernel
theorem nd_Law_law_1229 : decode nC_Law_law 1229 = .ok (.aload_n 2, 1) := by decide +kernel
theorem nd_Law_law_1230 : decode nC_Law_law 1230 = .ok (.invokevirtual 92, 3) := by decide +kernel
theorem nd_Law_law_1233 : decode nC_Law_law 1233 = .ok (.iload 5, 2) := by decide +kernel
theorem nd_Law_law_1235 : decode nC_Law_law 1235 = .ok (.if_icmp .eq 5, 3) := by decide +kernel
theorem nd_Law_law_1238 : decode nC_Law_law 1238 = .ok (.iconst 0, 1) := by decide +kernel
theorem nd_Law_law_1239 : decode nC_Law_law 1239 = .ok (.ireturn, 1) := by decide +kernel
theorem nd_Law_law_1240 : decode nC_Law_law 1240 = .ok (.iload 5, 2) := by decide +kernel
theorem nd_Law_law_1242 : decode nC_Law_law 1242 = .ok (.ifCond .ne 15, 3) := by decide +kernel
theorem nd_Law_law_1245 : decode nC_Law_law 1245 = .ok (.aload_n 3, 1) := by decide +kernel
theorem nd_Law_law_1246 : decode nC_Law_law 1246 = .ok (.iconst 0, 1) := by decide +kernel
theorem nd_Law_law_1247 : decode nC_Law_law 1247 = .ok (.laload, 1) := by decide +kernel
theorem nd_Law_law_1248 : decode nC_Law_law 1248 = .ok (.iload 6, 2) := by decide +kernel
theorem nd_Law_law_1250 : decode nC_Law_law 1250 = .ok (.i2l, 1) := by decide +kernel
theorem nd_Law_law_1251 : decode nC_Law_law 1251 = .ok (.lcmp, 1) := by decide +kernel
