theorem dL_law_964 : decode cL_law 964 = .ok (.aload_n 1, 1) := by decide +kernel
theorem dL_law_965 : decode cL_law 965 = .ok (.iload 15, 2) := by decide +kernel
theorem dL_law_967 : decode cL_law 967 = .ok (.iconst 3, 1) := by decide +kernel
theorem dL_law_968 : decode cL_law 968 = .ok (.irem, 1) := by decide +kernel
theorem dL_law_969 : decode cL_law 969 = .ok (.invokestatic 164, 3) := by decide +kernel
theorem dL_law_972 : decode cL_law 972 = .ok (.istore 17, 2) := by decide +kernel
theorem dL_law_974 : decode cL_law 974 = .ok (.iload 17, 2) := by decide +kernel
theorem dL_law_976 : decode cL_law 976 = .ok (.ifCond .ge 7, 3) := by decide +kernel
theorem dL_law_979 : decode cL_law 979 = .ok (.iconst 1, 1) := by decide +kernel
theorem dL_law_980 : decode cL_law 980 = .ok (.goto 4, 3) := by decide +kernel
theorem dL_law_983 : decode cL_law 983 = .ok (.iconst 0, 1) := by decide +kernel
theorem dL_law_984 : decode cL_law 984 = .ok (.istore 18, 2) := by decide +kernel
theorem dL_law_986 : decode cL_law 986 = .ok (.iload 17, 2) := by decide +kernel
theorem dL_law_988 : decode cL_law 988 = .ok (.ifCond .lt 32, 3) := by decide +kernel
theorem dL_law_991 : decode cL_law 991 = .ok (.aload_n 1, 1) := by decide +kernel
theorem dL_law_992 : decode cL_law 992 = .ok (.invokevirtual 160, 3) := by decide +kernel
theorem dL_law_995 : decode cL_law 995 = .ok (.iload 19, 2) := by decide +kernel
theorem dL_law_997 : decode cL_law 997 = .ok (.iconst 1, 1) := by decide +kernel
theorem dL_law_998 : decode cL_law 998 = .ok (.iadd, 1) := by decide +kernel
theorem dL_law_999 : decode cL_law 999 = .ok (.if_icmp .ne 25, 3) := by decide +kernel
theorem dL_law_1002 : decode cL_law 1002 = .ok (.aload_n 1, 1) := by decide +kernel
theorem dL_law_1003 : decode cL_law 1003 = .ok (.iload 15, 2) := by decide +kernel
theorem dL_law_1005 : decode cL_law 1005 = .ok (.iconst 3, 1) := by decide +kernel
theorem dL_law_1006 : decode cL_law 1006 = .ok (.irem, 1) := by decide +kernel
theorem dL_law_1007 : decode cL_law 1007 = .ok (.iload 7, 2) := by decide +kernel
theorem dL_law_1009 : decode cL_law 1009 = .ok (.aload 5, 2) := by decide +kernel
theorem dL_law_1011 : decode cL_law 1011 = .ok (.aload_n 2, 1) := by decide +kernel
theorem dL_law_1012 : decode cL_law 1012 = .ok (.aload 4, 2) := by decide +kernel
theorem dL_law_1014 : decode cL_law 1014 = .ok (.invokestatic 166, 3) := by decide +kernel
theorem dL_law_1017 : decode cL_law 1017 = .ok (.ifCond .eq 7, 3) := by decide +kernel
theorem dL_law_1020 : decode cL_law 1020 = .ok (.iconst 1, 1) := by decide +kernel
theorem dL_law_1021 : decode cL_law 1021 = .ok (.goto 4, 3) := by decide +kernel
theorem dL_law_1024 : decode cL_law 1024 = .ok (.iconst 0, 1) := by decide +kernel
theorem dL_law_1025 : decode cL_law 1025 = .ok (.istore 8, 2) := by decide +kernel
theorem dL_law_1027 : decode cL_law 1027 = .ok (.goto 200, 3) := by decide +kernel
theorem dL_law_1030 : decode cL_law 1030 = .ok (.iload 13, 2) := by decide +kernel
theorem dL_law_1032 : decode cL_law 1032 = .ok (.bipush 25, 2) := by decide +kernel
theorem dL_law_1034 : decode cL_law 1034 = .ok (.if_icmp .ge 122, 3) := by decide +kernel
theorem dL_law_1037 : decode cL_law 1037 = .ok (.iload 15, 2) := by decide +kernel
theorem dL_law_1039 : decode cL_law 1039 = .ok (.iconst 2, 1) := by decide +kernel
theorem dL_law_1040 : decode cL_law 1040 = .ok (.irem, 1) := by decide +kernel
theorem dL_law_1041 : decode cL_law 1041 = .ok (.istore 19, 2) := by decide +kernel
theorem dL_law_1043 : decode cL_law 1043 = .ok (.aload_n 1, 1) := by decide +kernel
theorem dL_law_1044 : decode cL_law 1044 = .ok (.iload 14, 2) := by decide +kernel
theorem dL_law_1046 : decode cL_law 1046 = .ok (.invokestatic 170, 3) := by decide +kernel
theorem dL_law_1049 : decode cL_law 1049 = .ok (.istore 20, 2) := by decide +kernel
theorem dL_law_1051 : decode cL_law 1051 = .ok (.aload_n 1, 1) := by decide +kernel
theorem dL_law_1052 : decode cL_law 1052 = .ok (.iload 19, 2) := by decide +kernel
theorem dL_law_1054 : decode cL_law 1054 = .ok (.iload 14, 2) := by decide +kernel
theorem dL_law_1056 : decode cL_law 1056 = .ok (.invokestatic 172, 3) := by decide +kernel
theorem dL_law_1059 : decode cL_law 1059 = .ok (.istore 17, 2) := by decide +kernel
theorem dL_law_1061 : decode cL_law 1061 = .ok (.iload 17, 2) := by decide +kernel
theorem dL_law_1063 : decode cL_law 1063 = .ok (.ifCond .ge 7, 3) := by decide +kernel
theorem dL_law_1066 : decode cL_law 1066 = .ok (.iconst 1, 1) := by decide +kernel
theorem dL_law_1067 : decode cL_law 1067 = .ok (.goto 4, 3) := by decide +kernel
theorem dL_law_1070 : decode cL_law 1070 = .ok (.iconst 0, 1) := by decide +kernel
theorem dL_law_1071 : decode cL_law 1071 = .ok (.istore 18, 2) := by decide +kernel
theorem dL_law_1073 : decode cL_law 1073 = .ok (.iload 17, 2) := by decide +kernel
theorem dL_law_1075 : decode cL_law 1075 = .ok (.ifCond .lt 71, 3) := by decide +kernel
theorem dL_law_1078 : decode cL_law 1078 = .ok (.aload_n 1, 1) := by decide +kernel
theorem dL_law_1079 : decode cL_law 1079 = .ok (.iload 19, 2) := by decide +kernel
theorem dL_law_1081 : decode cL_law 1081 = .ok (.invokestatic 174, 3) := by decide +kernel
theorem dL_law_1084 : decode cL_law 1084 = .ok (.iload 20, 2) := by decide +kernel
theorem dL_law_1086 : decode cL_law 1086 = .ok (.aload_n 1, 1) := by decide +kernel
theorem dL_law_1087 : decode cL_law 1087 = .ok (.iload 14, 2) := by decide +kernel
theorem dL_law_1089 : decode cL_law 1089 = .ok (.invokestatic 170, 3) := by decide +kernel
theorem dL_law_1092 : decode cL_law 1092 = .ok (.isub, 1) := by decide +kernel
theorem dL_law_1093 : decode cL_law 1093 = .ok (.if_icmp .ne 57, 3) := by decide +kernel
theorem dL_law_1096 : decode cL_law 1096 = .ok (.aload_n 1, 1) := by decide +kernel
theorem dL_law_1097 : decode cL_law 1097 = .ok (.iload 19, 2) := by decide +kernel
theorem dL_law_1099 : decode cL_law 1099 = .ok (.invokestatic 174, 3) := by decide +kernel
theorem dL_law_1102 : decode cL_law 1102 = .ok (.ifCond .le 48, 3) := by decide +kernel
theorem dL_law_1105 : decode cL_law 1105 = .ok (.aload_n 1, 1) := by decide +kernel
theorem dL_law_1106 : decode cL_law 1106 = .ok (.iload 19, 2) := by decide +kernel
theorem dL_law_1108 : decode cL_law 1108 = .ok (.invokestatic 174, 3) := by decide +kernel
theorem dL_law_1111 : decode cL_law 1111 = .ok (.bipush 10, 2) := by decide +kernel
theorem dL_law_1113 : decode cL_law 1113 = .ok (.if_icmp .gt 37, 3) := by decide +kernel
theorem dL_law_1116 : decode cL_law 1116 = .ok (.aload_n 1, 1) := by decide +kernel
theorem dL_law_1117 : decode cL_law 1117 = .ok (.iload 19, 2) := by decide +kernel
theorem dL_law_1119 : decode cL_law 1119 = .ok (.invokestatic 176, 3) := by decide +kernel
theorem dL_law_1122 : decode cL_law 1122 = .ok (.iload 17, 2) := by decide +kernel
theorem dL_law_1124 : decode cL_law 1124 = .ok (.if_icmp .ne 26, 3) := by decide +kernel
theorem dL_law_1127 : decode cL_law 1127 = .ok (.aload_n 1, 1) := by decide +kernel
theorem dL_law_1128 : decode cL_law 1128 = .ok (.iload 19, 2) := by decide +kernel
theorem dL_law_1130 : decode cL_law 1130 = .ok (.invokestatic 178, 3) := by decide +kernel
theorem dL_law_1133 : decode cL_law 1133 = .ok (.aload_n 2, 1) := by decide +kernel
theorem dL_law_1134 : decode cL_law 1134 = .ok (.iload 14, 2) := by decide +kernel
theorem dL_law_1136 : decode cL_law 1136 = .ok (.iaload, 1) := by decide +kernel
theorem dL_law_1137 : decode cL_law 1137 = .ok (.if_icmp .ne 13, 3) := by decide +kernel
theorem dL_law_1140 : decode cL_law 1140 = .ok (.iload 17, 2) := by decide +kernel
theorem dL_law_1142 : decode cL_law 1142 = .ok (.iconst 3, 1) := by decide +kernel
theorem dL_law_1143 : decode cL_law 1143 = .ok (.if_icmp .lt 7, 3) := by decide +kernel
theorem dL_law_1146 : decode cL_law 1146 = .ok (.iconst 1, 1) := by decide +kernel
theorem dL_law_1147 : decode cL_law 1147 = .ok (.goto 4, 3) := by decide +kernel
theorem dL_law_1150 : decode cL_law 1150 = .ok (.iconst 0, 1) := by decide +kernel
theorem dL_law_1151 : decode cL_law 1151 = .ok (.istore 8, 2) := by decide +kernel
theorem dL_law_1153 : decode cL_law 1153 = .ok (.goto 74, 3) := by decide +kernel
theorem dL_law_1156 : decode cL_law 1156 = .ok (.iload 15, 2) := by decide +kernel
theorem dL_law_1158 : decode cL_law 1158 = .ok (.bipush 29, 2) := by decide +kernel
theorem dL_law_1160 : decode cL_law 1160 = .ok (.irem, 1) := by decide +kernel
