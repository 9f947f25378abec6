theorem dL_isRefused_950 : decode cL_isRefused 950 = .ok (.iload_n 3, 1) := by decide +kernel
theorem dL_isRefused_951 : decode cL_isRefused 951 = .ok (.ifCond .eq 7, 3) := by decide +kernel
theorem dL_isRefused_954 : decode cL_isRefused 954 = .ok (.iconst (-1), 1) := by decide +kernel
theorem dL_isRefused_955 : decode cL_isRefused 955 = .ok (.goto 9, 3) := by decide +kernel
theorem dL_isRefused_958 : decode cL_isRefused 958 = .ok (.iconst 3, 1) := by decide +kernel
theorem dL_isRefused_959 : decode cL_isRefused 959 = .ok (.iload_n 2, 1) := by decide +kernel
theorem dL_isRefused_960 : decode cL_isRefused 960 = .ok (.bipush 30, 2) := by decide +kernel
theorem dL_isRefused_962 : decode cL_isRefused 962 = .ok (.irem, 1) := by decide +kernel
theorem dL_isRefused_963 : decode cL_isRefused 963 = .ok (.iadd, 1) := by decide +kernel
theorem dL_isRefused_964 : decode cL_isRefused 964 = .ok (.invokestatic 142, 3) := by decide +kernel
theorem dL_isRefused_967 : decode cL_isRefused 967 = .ok (.ifCond .eq 78, 3) := by decide +kernel
theorem dL_isRefused_970 : decode cL_isRefused 970 = .ok (.aload_n 0, 1) := by decide +kernel
theorem dL_isRefused_971 : decode cL_isRefused 971 = .ok (.iconst 2, 1) := by decide +kernel
theorem dL_isRefused_972 : decode cL_isRefused 972 = .ok (.iload 13, 2) := by decide +kernel
theorem dL_isRefused_974 : decode cL_isRefused 974 = .ok (.bipush 76, 2) := by decide +kernel
theorem dL_isRefused_976 : decode cL_isRefused 976 = .ok (.iload_n 2, 1) := by decide +kernel
theorem dL_isRefused_977 : decode cL_isRefused 977 = .ok (.bipush 70, 2) := by decide +kernel
theorem dL_isRefused_979 : decode cL_isRefused 979 = .ok (.irem, 1) := by decide +kernel
theorem dL_isRefused_980 : decode cL_isRefused 980 = .ok (.iadd, 1) := by decide +kernel
theorem dL_isRefused_981 : decode cL_isRefused 981 = .ok (.bipush 75, 2) := by decide +kernel
theorem dL_isRefused_983 : decode cL_isRefused 983 = .ok (.iconst 2, 1) := by decide +kernel
theorem dL_isRefused_984 : decode cL_isRefused 984 = .ok (.invokestatic 142, 3) := by decide +kernel
theorem dL_isRefused_987 : decode cL_isRefused 987 = .ok (.ifCond .eq 58, 3) := by decide +kernel
theorem dL_isRefused_990 : decode cL_isRefused 990 = .ok (.aload_n 1, 1) := by decide +kernel
theorem dL_isRefused_991 : decode cL_isRefused 991 = .ok (.iconst 1, 1) := by decide +kernel
theorem dL_isRefused_992 : decode cL_isRefused 992 = .ok (.iaload, 1) := by decide +kernel
theorem dL_isRefused_993 : decode cL_isRefused 993 = .ok (.bipush 12, 2) := by decide +kernel
theorem dL_isRefused_995 : decode cL_isRefused 995 = .ok (.if_icmp .lt 20, 3) := by decide +kernel
theorem dL_isRefused_998 : decode cL_isRefused 998 = .ok (.aload_n 0, 1) := by decide +kernel
theorem dL_isRefused_999 : decode cL_isRefused 999 = .ok (.iconst 2, 1) := by decide +kernel
theorem dL_isRefused_1000 : decode cL_isRefused 1000 = .ok (.iload 13, 2) := by decide +kernel
theorem dL_isRefused_1002 : decode cL_isRefused 1002 = .ok (.iconst 5, 1) := by decide +kernel
theorem dL_isRefused_1003 : decode cL_isRefused 1003 = .ok (.iconst 5, 1) := by decide +kernel
theorem dL_isRefused_1004 : decode cL_isRefused 1004 = .ok (.iconst 0, 1) := by decide +kernel
theorem dL_isRefused_1005 : decode cL_isRefused 1005 = .ok (.invokestatic 123, 3) := by decide +kernel
theorem dL_isRefused_1008 : decode cL_isRefused 1008 = .ok (.ldc2_w 113, 3) := by decide +kernel
theorem dL_isRefused_1011 : decode cL_isRefused 1011 = .ok (.lcmp, 1) := by decide +kernel
theorem dL_isRefused_1012 : decode cL_isRefused 1012 = .ok (.ifCond .ne 33, 3) := by decide +kernel
theorem dL_isRefused_1015 : decode cL_isRefused 1015 = .ok (.aload_n 1, 1) := by decide +kernel
theorem dL_isRefused_1016 : decode cL_isRefused 1016 = .ok (.iconst 4, 1) := by decide +kernel
theorem dL_isRefused_1017 : decode cL_isRefused 1017 = .ok (.iaload, 1) := by decide +kernel
theorem dL_isRefused_1018 : decode cL_isRefused 1018 = .ok (.bipush 6, 2) := by decide +kernel
theorem dL_isRefused_1020 : decode cL_isRefused 1020 = .ok (.if_icmp .lt 21, 3) := by decide +kernel
theorem dL_isRefused_1023 : decode cL_isRefused 1023 = .ok (.aload_n 0, 1) := by decide +kernel
theorem dL_isRefused_1024 : decode cL_isRefused 1024 = .ok (.bipush 18, 2) := by decide +kernel
theorem dL_isRefused_1026 : decode cL_isRefused 1026 = .ok (.iload 13, 2) := by decide +kernel
theorem dL_isRefused_1028 : decode cL_isRefused 1028 = .ok (.iconst 0, 1) := by decide +kernel
theorem dL_isRefused_1029 : decode cL_isRefused 1029 = .ok (.iconst 0, 1) := by decide +kernel
theorem dL_isRefused_1030 : decode cL_isRefused 1030 = .ok (.iconst 0, 1) := by decide +kernel
theorem dL_isRefused_1031 : decode cL_isRefused 1031 = .ok (.invokestatic 123, 3) := by decide +kernel
theorem dL_isRefused_1034 : decode cL_isRefused 1034 = .ok (.ldc2_w 113, 3) := by decide +kernel
theorem dL_isRefused_1037 : decode cL_isRefused 1037 = .ok (.lcmp, 1) := by decide +kernel
theorem dL_isRefused_1038 : decode cL_isRefused 1038 = .ok (.ifCond .ne 7, 3) := by decide +kernel
theorem dL_isRefused_1041 : decode cL_isRefused 1041 = .ok (.iconst 1, 1) := by decide +kernel
theorem dL_isRefused_1042 : decode cL_isRefused 1042 = .ok (.goto 4, 3) := by decide +kernel
theorem dL_isRefused_1045 : decode cL_isRefused 1045 = .ok (.iconst 0, 1) := by decide +kernel
theorem dL_isRefused_1046 : decode cL_isRefused 1046 = .ok (.istore 12, 2) := by decide +kernel
theorem dL_isRefused_1048 : decode cL_isRefused 1048 = .ok (.iinc 13 1, 3) := by decide +kernel
theorem dL_isRefused_1051 : decode cL_isRefused 1051 = .ok (.goto (-204), 3) := by decide +kernel
theorem dL_isRefused_1054 : decode cL_isRefused 1054 = .ok (.iconst 0, 1) := by decide +kernel
theorem dL_isRefused_1055 : decode cL_isRefused 1055 = .ok (.istore 13, 2) := by decide +kernel
theorem dL_isRefused_1057 : decode cL_isRefused 1057 = .ok (.iload 13, 2) := by decide +kernel
theorem dL_isRefused_1059 : decode cL_isRefused 1059 = .ok (.aload_n 1, 1) := by decide +kernel
theorem dL_isRefused_1060 : decode cL_isRefused 1060 = .ok (.iconst 1, 1) := by decide +kernel
theorem dL_isRefused_1061 : decode cL_isRefused 1061 = .ok (.iaload, 1) := by decide +kernel
theorem dL_isRefused_1062 : decode cL_isRefused 1062 = .ok (.if_icmp .ge 119, 3) := by decide +kernel
theorem dL_isRefused_1065 : decode cL_isRefused 1065 = .ok (.iload 12, 2) := by decide +kernel
theorem dL_isRefused_1067 : decode cL_isRefused 1067 = .ok (.ifCond .eq 114, 3) := by decide +kernel
theorem dL_isRefused_1070 : decode cL_isRefused 1070 = .ok (.aload_n 0, 1) := by decide +kernel
theorem dL_isRefused_1071 : decode cL_isRefused 1071 = .ok (.iconst 5, 1) := by decide +kernel
theorem dL_isRefused_1072 : decode cL_isRefused 1072 = .ok (.iload 13, 2) := by decide +kernel
theorem dL_isRefused_1074 : decode cL_isRefused 1074 = .ok (.iload 5, 2) := by decide +kernel
theorem dL_isRefused_1076 : decode cL_isRefused 1076 = .ok (.iconst 0, 1) := by decide +kernel
theorem dL_isRefused_1077 : decode cL_isRefused 1077 = .ok (.iconst 0, 1) := by decide +kernel
theorem dL_isRefused_1078 : decode cL_isRefused 1078 = .ok (.invokestatic 146, 3) := by decide +kernel
theorem dL_isRefused_1081 : decode cL_isRefused 1081 = .ok (.ifCond .eq 91, 3) := by decide +kernel
theorem dL_isRefused_1084 : decode cL_isRefused 1084 = .ok (.aload_n 0, 1) := by decide +kernel
theorem dL_isRefused_1085 : decode cL_isRefused 1085 = .ok (.iconst 5, 1) := by decide +kernel
theorem dL_isRefused_1086 : decode cL_isRefused 1086 = .ok (.iload 13, 2) := by decide +kernel
theorem dL_isRefused_1088 : decode cL_isRefused 1088 = .ok (.iload 13, 2) := by decide +kernel
theorem dL_isRefused_1090 : decode cL_isRefused 1090 = .ok (.iconst 0, 1) := by decide +kernel
theorem dL_isRefused_1091 : decode cL_isRefused 1091 = .ok (.iconst 0, 1) := by decide +kernel
theorem dL_isRefused_1092 : decode cL_isRefused 1092 = .ok (.invokestatic 142, 3) := by decide +kernel
theorem dL_isRefused_1095 : decode cL_isRefused 1095 = .ok (.ifCond .eq 77, 3) := by decide +kernel
theorem dL_isRefused_1098 : decode cL_isRefused 1098 = .ok (.aload_n 0, 1) := by decide +kernel
theorem dL_isRefused_1099 : decode cL_isRefused 1099 = .ok (.bipush 7, 2) := by decide +kernel
theorem dL_isRefused_1101 : decode cL_isRefused 1101 = .ok (.iload 13, 2) := by decide +kernel
theorem dL_isRefused_1103 : decode cL_isRefused 1103 = .ok (.iload 5, 2) := by decide +kernel
theorem dL_isRefused_1105 : decode cL_isRefused 1105 = .ok (.iconst 0, 1) := by decide +kernel
theorem dL_isRefused_1106 : decode cL_isRefused 1106 = .ok (.iconst 0, 1) := by decide +kernel
theorem dL_isRefused_1107 : decode cL_isRefused 1107 = .ok (.invokestatic 146, 3) := by decide +kernel
theorem dL_isRefused_1110 : decode cL_isRefused 1110 = .ok (.ifCond .eq 62, 3) := by decide +kernel
theorem dL_isRefused_1113 : decode cL_isRefused 1113 = .ok (.aload_n 0, 1) := by decide +kernel
theorem dL_isRefused_1114 : decode cL_isRefused 1114 = .ok (.bipush 8, 2) := by decide +kernel
theorem dL_isRefused_1116 : decode cL_isRefused 1116 = .ok (.iload 5, 2) := by decide +kernel
theorem dL_isRefused_1118 : decode cL_isRefused 1118 = .ok (.iload 13, 2) := by decide +kernel
theorem dL_isRefused_1120 : decode cL_isRefused 1120 = .ok (.iconst 0, 1) := by decide +kernel
theorem dL_isRefused_1121 : decode cL_isRefused 1121 = .ok (.iconst 0, 1) := by decide +kernel
theorem dL_isRefused_1122 : decode cL_isRefused 1122 = .ok (.invokestatic 146, 3) := by decide +kernel
theorem dL_isRefused_1125 : decode cL_isRefused 1125 = .ok (.ifCond .eq 47, 3) := by decide +kernel
theorem dL_isRefused_1128 : decode cL_isRefused 1128 = .ok (.aload_n 1, 1) := by decide +kernel
theorem dL_isRefused_1129 : decode cL_isRefused 1129 = .ok (.iconst 1, 1) := by decide +kernel
theorem dL_isRefused_1130 : decode cL_isRefused 1130 = .ok (.iaload, 1) := by decide +kernel
theorem dL_isRefused_1131 : decode cL_isRefused 1131 = .ok (.iconst 2, 1) := by decide +kernel
theorem dL_isRefused_1132 : decode cL_isRefused 1132 = .ok (.if_icmp .lt 36, 3) := by decide +kernel
theorem dL_isRefused_1135 : decode cL_isRefused 1135 = .ok (.aload_n 0, 1) := by decide +kernel
theorem dL_isRefused_1136 : decode cL_isRefused 1136 = .ok (.iconst 5, 1) := by decide +kernel
theorem dL_isRefused_1137 : decode cL_isRefused 1137 = .ok (.iload 13, 2) := by decide +kernel
theorem dL_isRefused_1139 : decode cL_isRefused 1139 = .ok (.iload 13, 2) := by decide +kernel
theorem dL_isRefused_1141 : decode cL_isRefused 1141 = .ok (.iconst 1, 1) := by decide +kernel
theorem dL_isRefused_1142 : decode cL_isRefused 1142 = .ok (.iadd, 1) := by decide +kernel
theorem dL_isRefused_1143 : decode cL_isRefused 1143 = .ok (.aload_n 1, 1) := by decide +kernel
theorem dL_isRefused_1144 : decode cL_isRefused 1144 = .ok (.iconst 1, 1) := by decide +kernel
theorem dL_isRefused_1145 : decode cL_isRefused 1145 = .ok (.iaload, 1) := by decide +kernel
theorem dL_isRefused_1146 : decode cL_isRefused 1146 = .ok (.irem, 1) := by decide +kernel
theorem dL_isRefused_1147 : decode cL_isRefused 1147 = .ok (.iload_n 3, 1) := by decide +kernel
theorem dL_isRefused_1148 : decode cL_isRefused 1148 = .ok (.ifCond .eq 12, 3) := by decide +kernel
theorem dL_isRefused_1151 : decode cL_isRefused 1151 = .ok (.iconst (-1), 1) := by decide +kernel
theorem dL_isRefused_1152 : decode cL_isRefused 1152 = .ok (.iload_n 2, 1) := by decide +kernel
theorem dL_isRefused_1153 : decode cL_isRefused 1153 = .ok (.bipush 30, 2) := by decide +kernel
theorem dL_isRefused_1155 : decode cL_isRefused 1155 = .ok (.irem, 1) := by decide +kernel
theorem dL_isRefused_1156 : decode cL_isRefused 1156 = .ok (.isub, 1) := by decide +kernel
theorem dL_isRefused_1157 : decode cL_isRefused 1157 = .ok (.goto 4, 3) := by decide +kernel
theorem dL_isRefused_1160 : decode cL_isRefused 1160 = .ok (.iconst 3, 1) := by decide +kernel
theorem dL_isRefused_1161 : decode cL_isRefused 1161 = .ok (.iconst 0, 1) := by decide +kernel
theorem dL_isRefused_1162 : decode cL_isRefused 1162 = .ok (.invokestatic 142, 3) := by decide +kernel
theorem dL_isRefused_1165 : decode cL_isRefused 1165 = .ok (.ifCond .eq 7, 3) := by decide +kernel
theorem dL_isRefused_1168 : decode cL_isRefused 1168 = .ok (.iconst 1, 1) := by decide +kernel
theorem dL_isRefused_1169 : decode cL_isRefused 1169 = .ok (.goto 4, 3) := by decide +kernel
theorem dL_isRefused_1172 : decode cL_isRefused 1172 = .ok (.iconst 0, 1) := by decide +kernel
theorem dL_isRefused_1173 : decode cL_isRefused 1173 = .ok (.istore 12, 2) := by decide +kernel
theorem dL_isRefused_1175 : decode cL_isRefused 1175 = .ok (.iinc 13 1, 3) := by decide +kernel
theorem dL_isRefused_1178 : decode cL_isRefused 1178 = .ok (.goto (-121), 3) := by decide +kernel
theorem dL_isRefused_1181 : decode cL_isRefused 1181 = .ok (.iconst 0, 1) := by decide +kernel
theorem dL_isRefused_1182 : decode cL_isRefused 1182 = .ok (.istore 13, 2) := by decide +kernel
theorem dL_isRefused_1184 : decode cL_isRefused 1184 = .ok (.iload 13, 2) := by decide +kernel
theorem dL_isRefused_1186 : decode cL_isRefused 1186 = .ok (.aload_n 1, 1) := by decide +kernel
theorem dL_isRefused_1187 : decode cL_isRefused 1187 = .ok (.iconst 4, 1) := by decide +kernel
theorem dL_isRefused_1188 : decode cL_isRefused 1188 = .ok (.iaload, 1) := by decide +kernel
