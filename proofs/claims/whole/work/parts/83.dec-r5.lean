/-! decode rows of the law -/
theorem d_Law_law_964 : decode c_Law_law 964 = .ok (.istore 6, 2) := by decide +kernel
theorem d_Law_law_966 : decode c_Law_law 966 = .ok (.aload_n 2, 1) := by decide +kernel
theorem d_Law_law_967 : decode c_Law_law 967 = .ok (.invokevirtual 57, 3) := by decide +kernel
theorem d_Law_law_970 : decode c_Law_law 970 = .ok (.iload 5, 2) := by decide +kernel
theorem d_Law_law_972 : decode c_Law_law 972 = .ok (.if_icmp .eq 5, 3) := by decide +kernel
theorem d_Law_law_975 : decode c_Law_law 975 = .ok (.iconst 0, 1) := by decide +kernel
theorem d_Law_law_976 : decode c_Law_law 976 = .ok (.ireturn, 1) := by decide +kernel
theorem d_Law_law_977 : decode c_Law_law 977 = .ok (.iload 5, 2) := by decide +kernel
theorem d_Law_law_979 : decode c_Law_law 979 = .ok (.ifCond .ne 15, 3) := by decide +kernel
theorem d_Law_law_982 : decode c_Law_law 982 = .ok (.aload_n 3, 1) := by decide +kernel
theorem d_Law_law_983 : decode c_Law_law 983 = .ok (.iconst 0, 1) := by decide +kernel
theorem d_Law_law_984 : decode c_Law_law 984 = .ok (.laload, 1) := by decide +kernel
theorem d_Law_law_985 : decode c_Law_law 985 = .ok (.iload 6, 2) := by decide +kernel
theorem d_Law_law_987 : decode c_Law_law 987 = .ok (.i2l, 1) := by decide +kernel
theorem d_Law_law_988 : decode c_Law_law 988 = .ok (.lcmp, 1) := by decide +kernel
theorem d_Law_law_989 : decode c_Law_law 989 = .ok (.ifCond .eq 5, 3) := by decide +kernel
theorem d_Law_law_992 : decode c_Law_law 992 = .ok (.iconst 0, 1) := by decide +kernel
theorem d_Law_law_993 : decode c_Law_law 993 = .ok (.ireturn, 1) := by decide +kernel
theorem d_Law_law_994 : decode c_Law_law 994 = .ok (.goto 220, 3) := by decide +kernel
theorem d_Law_law_997 : decode c_Law_law 997 = .ok (.aload_n 1, 1) := by decide +kernel
theorem d_Law_law_998 : decode c_Law_law 998 = .ok (.aload_n 0, 1) := by decide +kernel
theorem d_Law_law_999 : decode c_Law_law 999 = .ok (.iload 4, 2) := by decide +kernel
theorem d_Law_law_1001 : decode c_Law_law 1001 = .ok (.iconst 1, 1) := by decide +kernel
theorem d_Law_law_1002 : decode c_Law_law 1002 = .ok (.iadd, 1) := by decide +kernel
theorem d_Law_law_1003 : decode c_Law_law 1003 = .ok (.iaload, 1) := by decide +kernel
theorem d_Law_law_1004 : decode c_Law_law 1004 = .ok (.invokevirtual 117, 3) := by decide +kernel
theorem d_Law_law_1007 : decode c_Law_law 1007 = .ok (.aload_n 2, 1) := by decide +kernel
theorem d_Law_law_1008 : decode c_Law_law 1008 = .ok (.aload_n 0, 1) := by decide +kernel
theorem d_Law_law_1009 : decode c_Law_law 1009 = .ok (.iload 4, 2) := by decide +kernel
theorem d_Law_law_1011 : decode c_Law_law 1011 = .ok (.iconst 1, 1) := by decide +kernel
theorem d_Law_law_1012 : decode c_Law_law 1012 = .ok (.iadd, 1) := by decide +kernel
theorem d_Law_law_1013 : decode c_Law_law 1013 = .ok (.iaload, 1) := by decide +kernel
theorem d_Law_law_1014 : decode c_Law_law 1014 = .ok (.invokevirtual 120, 3) := by decide +kernel
theorem d_Law_law_1017 : decode c_Law_law 1017 = .ok (.if_icmp .eq 197, 3) := by decide +kernel
theorem d_Law_law_1020 : decode c_Law_law 1020 = .ok (.iconst 0, 1) := by decide +kernel
theorem d_Law_law_1021 : decode c_Law_law 1021 = .ok (.ireturn, 1) := by decide +kernel
theorem d_Law_law_1022 : decode c_Law_law 1022 = .ok (.aload_n 1, 1) := by decide +kernel
theorem d_Law_law_1023 : decode c_Law_law 1023 = .ok (.aload_n 0, 1) := by decide +kernel
theorem d_Law_law_1024 : decode c_Law_law 1024 = .ok (.iload 4, 2) := by decide +kernel
theorem d_Law_law_1026 : decode c_Law_law 1026 = .ok (.iconst 1, 1) := by decide +kernel
theorem d_Law_law_1027 : decode c_Law_law 1027 = .ok (.iadd, 1) := by decide +kernel
theorem d_Law_law_1028 : decode c_Law_law 1028 = .ok (.iaload, 1) := by decide +kernel
theorem d_Law_law_1029 : decode c_Law_law 1029 = .ok (.invokevirtual 121, 3) := by decide +kernel
theorem d_Law_law_1032 : decode c_Law_law 1032 = .ok (.aload_n 2, 1) := by decide +kernel
theorem d_Law_law_1033 : decode c_Law_law 1033 = .ok (.aload_n 0, 1) := by decide +kernel
theorem d_Law_law_1034 : decode c_Law_law 1034 = .ok (.iload 4, 2) := by decide +kernel
theorem d_Law_law_1036 : decode c_Law_law 1036 = .ok (.iconst 1, 1) := by decide +kernel
theorem d_Law_law_1037 : decode c_Law_law 1037 = .ok (.iadd, 1) := by decide +kernel
theorem d_Law_law_1038 : decode c_Law_law 1038 = .ok (.iaload, 1) := by decide +kernel
theorem d_Law_law_1039 : decode c_Law_law 1039 = .ok (.invokevirtual 124, 3) := by decide +kernel
theorem d_Law_law_1042 : decode c_Law_law 1042 = .ok (.if_icmp .eq 172, 3) := by decide +kernel
theorem d_Law_law_1045 : decode c_Law_law 1045 = .ok (.iconst 0, 1) := by decide +kernel
theorem d_Law_law_1046 : decode c_Law_law 1046 = .ok (.ireturn, 1) := by decide +kernel
theorem d_Law_law_1047 : decode c_Law_law 1047 = .ok (.aload_n 1, 1) := by decide +kernel
theorem d_Law_law_1048 : decode c_Law_law 1048 = .ok (.aload_n 0, 1) := by decide +kernel
theorem d_Law_law_1049 : decode c_Law_law 1049 = .ok (.iload 4, 2) := by decide +kernel
theorem d_Law_law_1051 : decode c_Law_law 1051 = .ok (.iconst 1, 1) := by decide +kernel
theorem d_Law_law_1052 : decode c_Law_law 1052 = .ok (.iadd, 1) := by decide +kernel
theorem d_Law_law_1053 : decode c_Law_law 1053 = .ok (.iaload, 1) := by decide +kernel
theorem d_Law_law_1054 : decode c_Law_law 1054 = .ok (.invokevirtual 125, 3) := by decide +kernel
theorem d_Law_law_1057 : decode c_Law_law 1057 = .ok (.aload_n 2, 1) := by decide +kernel
theorem d_Law_law_1058 : decode c_Law_law 1058 = .ok (.aload_n 0, 1) := by decide +kernel
theorem d_Law_law_1059 : decode c_Law_law 1059 = .ok (.iload 4, 2) := by decide +kernel
theorem d_Law_law_1061 : decode c_Law_law 1061 = .ok (.iconst 1, 1) := by decide +kernel
theorem d_Law_law_1062 : decode c_Law_law 1062 = .ok (.iadd, 1) := by decide +kernel
theorem d_Law_law_1063 : decode c_Law_law 1063 = .ok (.iaload, 1) := by decide +kernel
theorem d_Law_law_1064 : decode c_Law_law 1064 = .ok (.invokevirtual 128, 3) := by decide +kernel
theorem d_Law_law_1067 : decode c_Law_law 1067 = .ok (.if_icmp .eq 147, 3) := by decide +kernel
theorem d_Law_law_1070 : decode c_Law_law 1070 = .ok (.iconst 0, 1) := by decide +kernel
theorem d_Law_law_1071 : decode c_Law_law 1071 = .ok (.ireturn, 1) := by decide +kernel
theorem d_Law_law_1072 : decode c_Law_law 1072 = .ok (.aload_n 1, 1) := by decide +kernel
theorem d_Law_law_1073 : decode c_Law_law 1073 = .ok (.aload_n 0, 1) := by decide +kernel
theorem d_Law_law_1074 : decode c_Law_law 1074 = .ok (.iload 4, 2) := by decide +kernel
theorem d_Law_law_1076 : decode c_Law_law 1076 = .ok (.iconst 1, 1) := by decide +kernel
theorem d_Law_law_1077 : decode c_Law_law 1077 = .ok (.iadd, 1) := by decide +kernel
theorem d_Law_law_1078 : decode c_Law_law 1078 = .ok (.iaload, 1) := by decide +kernel
theorem d_Law_law_1079 : decode c_Law_law 1079 = .ok (.aload_n 0, 1) := by decide +kernel
theorem d_Law_law_1080 : decode c_Law_law 1080 = .ok (.iload 4, 2) := by decide +kernel
theorem d_Law_law_1082 : decode c_Law_law 1082 = .ok (.iconst 2, 1) := by decide +kernel
theorem d_Law_law_1083 : decode c_Law_law 1083 = .ok (.iadd, 1) := by decide +kernel
theorem d_Law_law_1084 : decode c_Law_law 1084 = .ok (.iaload, 1) := by decide +kernel
theorem d_Law_law_1085 : decode c_Law_law 1085 = .ok (.invokevirtual 129, 3) := by decide +kernel
theorem d_Law_law_1088 : decode c_Law_law 1088 = .ok (.aload_n 2, 1) := by decide +kernel
theorem d_Law_law_1089 : decode c_Law_law 1089 = .ok (.aload_n 0, 1) := by decide +kernel
theorem d_Law_law_1090 : decode c_Law_law 1090 = .ok (.iload 4, 2) := by decide +kernel
theorem d_Law_law_1092 : decode c_Law_law 1092 = .ok (.iconst 1, 1) := by decide +kernel
theorem d_Law_law_1093 : decode c_Law_law 1093 = .ok (.iadd, 1) := by decide +kernel
theorem d_Law_law_1094 : decode c_Law_law 1094 = .ok (.iaload, 1) := by decide +kernel
theorem d_Law_law_1095 : decode c_Law_law 1095 = .ok (.aload_n 0, 1) := by decide +kernel
theorem d_Law_law_1096 : decode c_Law_law 1096 = .ok (.iload 4, 2) := by decide +kernel
theorem d_Law_law_1098 : decode c_Law_law 1098 = .ok (.iconst 2, 1) := by decide +kernel
theorem d_Law_law_1099 : decode c_Law_law 1099 = .ok (.iadd, 1) := by decide +kernel
theorem d_Law_law_1100 : decode c_Law_law 1100 = .ok (.iaload, 1) := by decide +kernel
theorem d_Law_law_1101 : decode c_Law_law 1101 = .ok (.invokevirtual 132, 3) := by decide +kernel
theorem d_Law_law_1104 : decode c_Law_law 1104 = .ok (.if_icmp .eq 110, 3) := by decide +kernel
theorem d_Law_law_1107 : decode c_Law_law 1107 = .ok (.iconst 0, 1) := by decide +kernel
theorem d_Law_law_1108 : decode c_Law_law 1108 = .ok (.ireturn, 1) := by decide +kernel
theorem d_Law_law_1109 : decode c_Law_law 1109 = .ok (.aload_n 1, 1) := by decide +kernel
theorem d_Law_law_1110 : decode c_Law_law 1110 = .ok (.aload_n 0, 1) := by decide +kernel
theorem d_Law_law_1111 : decode c_Law_law 1111 = .ok (.iload 4, 2) := by decide +kernel
theorem d_Law_law_1113 : decode c_Law_law 1113 = .ok (.iconst 1, 1) := by decide +kernel
theorem d_Law_law_1114 : decode c_Law_law 1114 = .ok (.iadd, 1) := by decide +kernel
theorem d_Law_law_1115 : decode c_Law_law 1115 = .ok (.iaload, 1) := by decide +kernel
theorem d_Law_law_1116 : decode c_Law_law 1116 = .ok (.aload_n 0, 1) := by decide +kernel
theorem d_Law_law_1117 : decode c_Law_law 1117 = .ok (.iload 4, 2) := by decide +kernel
theorem d_Law_law_1119 : decode c_Law_law 1119 = .ok (.iconst 2, 1) := by decide +kernel
theorem d_Law_law_1120 : decode c_Law_law 1120 = .ok (.iadd, 1) := by decide +kernel
theorem d_Law_law_1121 : decode c_Law_law 1121 = .ok (.iaload, 1) := by decide +kernel
theorem d_Law_law_1122 : decode c_Law_law 1122 = .ok (.aload_n 3, 1) := by decide +kernel
theorem d_Law_law_1123 : decode c_Law_law 1123 = .ok (.invokestatic 133, 3) := by decide +kernel
theorem d_Law_law_1126 : decode c_Law_law 1126 = .ok (.istore 5, 2) := by decide +kernel
theorem d_Law_law_1128 : decode c_Law_law 1128 = .ok (.aload_n 2, 1) := by decide +kernel
theorem d_Law_law_1129 : decode c_Law_law 1129 = .ok (.aload_n 0, 1) := by decide +kernel
theorem d_Law_law_1130 : decode c_Law_law 1130 = .ok (.iload 4, 2) := by decide +kernel
theorem d_Law_law_1132 : decode c_Law_law 1132 = .ok (.iconst 1, 1) := by decide +kernel
theorem d_Law_law_1133 : decode c_Law_law 1133 = .ok (.iadd, 1) := by decide +kernel
theorem d_Law_law_1134 : decode c_Law_law 1134 = .ok (.iaload, 1) := by decide +kernel
theorem d_Law_law_1135 : decode c_Law_law 1135 = .ok (.aload_n 0, 1) := by decide +kernel
theorem d_Law_law_1136 : decode c_Law_law 1136 = .ok (.iload 4, 2) := by decide +kernel
theorem d_Law_law_1138 : decode c_Law_law 1138 = .ok (.iconst 2, 1) := by decide +kernel
