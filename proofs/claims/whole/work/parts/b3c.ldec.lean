/-! the law's instructions, part 2 -/
theorem d_L_law_943 : decode y_L_law.2.1 943 = .ok (.aload_n 3, 1) := by decide +kernel
theorem d_L_law_944 : decode y_L_law.2.1 944 = .ok (.iconst 0, 1) := by decide +kernel
theorem d_L_law_945 : decode y_L_law.2.1 945 = .ok (.laload, 1) := by decide +kernel
theorem d_L_law_946 : decode y_L_law.2.1 946 = .ok (.iload 6, 2) := by decide +kernel
theorem d_L_law_948 : decode y_L_law.2.1 948 = .ok (.i2l, 1) := by decide +kernel
theorem d_L_law_949 : decode y_L_law.2.1 949 = .ok (.lcmp, 1) := by decide +kernel
theorem d_L_law_950 : decode y_L_law.2.1 950 = .ok (.ifCond .eq 5, 3) := by decide +kernel
theorem d_L_law_953 : decode y_L_law.2.1 953 = .ok (.iconst 0, 1) := by decide +kernel
theorem d_L_law_954 : decode y_L_law.2.1 954 = .ok (.ireturn, 1) := by decide +kernel
theorem d_L_law_955 : decode y_L_law.2.1 955 = .ok (.goto 2914, 3) := by decide +kernel
theorem d_L_law_958 : decode y_L_law.2.1 958 = .ok (.aload_n 1, 1) := by decide +kernel
theorem d_L_law_959 : decode y_L_law.2.1 959 = .ok (.aload_n 0, 1) := by decide +kernel
theorem d_L_law_960 : decode y_L_law.2.1 960 = .ok (.iload 4, 2) := by decide +kernel
theorem d_L_law_962 : decode y_L_law.2.1 962 = .ok (.iconst 1, 1) := by decide +kernel
theorem d_L_law_963 : decode y_L_law.2.1 963 = .ok (.iadd, 1) := by decide +kernel
theorem d_L_law_964 : decode y_L_law.2.1 964 = .ok (.iaload, 1) := by decide +kernel
theorem d_L_law_965 : decode y_L_law.2.1 965 = .ok (.aload_n 0, 1) := by decide +kernel
theorem d_L_law_966 : decode y_L_law.2.1 966 = .ok (.iload 4, 2) := by decide +kernel
theorem d_L_law_968 : decode y_L_law.2.1 968 = .ok (.iconst 2, 1) := by decide +kernel
theorem d_L_law_969 : decode y_L_law.2.1 969 = .ok (.iadd, 1) := by decide +kernel
theorem d_L_law_970 : decode y_L_law.2.1 970 = .ok (.iaload, 1) := by decide +kernel
theorem d_L_law_971 : decode y_L_law.2.1 971 = .ok (.aload_n 0, 1) := by decide +kernel
theorem d_L_law_972 : decode y_L_law.2.1 972 = .ok (.iload 4, 2) := by decide +kernel
theorem d_L_law_974 : decode y_L_law.2.1 974 = .ok (.iconst 3, 1) := by decide +kernel
theorem d_L_law_975 : decode y_L_law.2.1 975 = .ok (.iadd, 1) := by decide +kernel
theorem d_L_law_976 : decode y_L_law.2.1 976 = .ok (.iaload, 1) := by decide +kernel
theorem d_L_law_977 : decode y_L_law.2.1 977 = .ok (.aload_n 3, 1) := by decide +kernel
theorem d_L_law_978 : decode y_L_law.2.1 978 = .ok (.invokestatic 189, 3) := by decide +kernel
theorem d_L_law_981 : decode y_L_law.2.1 981 = .ok (.istore 5, 2) := by decide +kernel
theorem d_L_law_983 : decode y_L_law.2.1 983 = .ok (.aload_n 2, 1) := by decide +kernel
theorem d_L_law_984 : decode y_L_law.2.1 984 = .ok (.aload_n 0, 1) := by decide +kernel
theorem d_L_law_985 : decode y_L_law.2.1 985 = .ok (.iload 4, 2) := by decide +kernel
theorem d_L_law_987 : decode y_L_law.2.1 987 = .ok (.iconst 1, 1) := by decide +kernel
theorem d_L_law_988 : decode y_L_law.2.1 988 = .ok (.iadd, 1) := by decide +kernel
theorem d_L_law_989 : decode y_L_law.2.1 989 = .ok (.iaload, 1) := by decide +kernel
theorem d_L_law_990 : decode y_L_law.2.1 990 = .ok (.aload_n 0, 1) := by decide +kernel
theorem d_L_law_991 : decode y_L_law.2.1 991 = .ok (.iload 4, 2) := by decide +kernel
theorem d_L_law_993 : decode y_L_law.2.1 993 = .ok (.iconst 2, 1) := by decide +kernel
theorem d_L_law_994 : decode y_L_law.2.1 994 = .ok (.iadd, 1) := by decide +kernel
theorem d_L_law_995 : decode y_L_law.2.1 995 = .ok (.iaload, 1) := by decide +kernel
theorem d_L_law_996 : decode y_L_law.2.1 996 = .ok (.aload_n 0, 1) := by decide +kernel
theorem d_L_law_997 : decode y_L_law.2.1 997 = .ok (.iload 4, 2) := by decide +kernel
theorem d_L_law_999 : decode y_L_law.2.1 999 = .ok (.iconst 3, 1) := by decide +kernel
theorem d_L_law_1000 : decode y_L_law.2.1 1000 = .ok (.iadd, 1) := by decide +kernel
theorem d_L_law_1001 : decode y_L_law.2.1 1001 = .ok (.iaload, 1) := by decide +kernel
theorem d_L_law_1002 : decode y_L_law.2.1 1002 = .ok (.invokevirtual 191, 3) := by decide +kernel
theorem d_L_law_1005 : decode y_L_law.2.1 1005 = .ok (.istore 6, 2) := by decide +kernel
theorem d_L_law_1007 : decode y_L_law.2.1 1007 = .ok (.aload_n 2, 1) := by decide +kernel
theorem d_L_law_1008 : decode y_L_law.2.1 1008 = .ok (.invokevirtual 156, 3) := by decide +kernel
theorem d_L_law_1011 : decode y_L_law.2.1 1011 = .ok (.iload 5, 2) := by decide +kernel
theorem d_L_law_1013 : decode y_L_law.2.1 1013 = .ok (.if_icmp .eq 5, 3) := by decide +kernel
theorem d_L_law_1016 : decode y_L_law.2.1 1016 = .ok (.iconst 0, 1) := by decide +kernel
theorem d_L_law_1017 : decode y_L_law.2.1 1017 = .ok (.ireturn, 1) := by decide +kernel
theorem d_L_law_1018 : decode y_L_law.2.1 1018 = .ok (.iload 5, 2) := by decide +kernel
theorem d_L_law_1020 : decode y_L_law.2.1 1020 = .ok (.ifCond .ne 15, 3) := by decide +kernel
theorem d_L_law_1023 : decode y_L_law.2.1 1023 = .ok (.aload_n 3, 1) := by decide +kernel
theorem d_L_law_1024 : decode y_L_law.2.1 1024 = .ok (.iconst 0, 1) := by decide +kernel
theorem d_L_law_1025 : decode y_L_law.2.1 1025 = .ok (.laload, 1) := by decide +kernel
theorem d_L_law_1026 : decode y_L_law.2.1 1026 = .ok (.iload 6, 2) := by decide +kernel
theorem d_L_law_1028 : decode y_L_law.2.1 1028 = .ok (.i2l, 1) := by decide +kernel
theorem d_L_law_1029 : decode y_L_law.2.1 1029 = .ok (.lcmp, 1) := by decide +kernel
theorem d_L_law_1030 : decode y_L_law.2.1 1030 = .ok (.ifCond .eq 5, 3) := by decide +kernel
theorem d_L_law_1033 : decode y_L_law.2.1 1033 = .ok (.iconst 0, 1) := by decide +kernel
theorem d_L_law_1034 : decode y_L_law.2.1 1034 = .ok (.ireturn, 1) := by decide +kernel
theorem d_L_law_1035 : decode y_L_law.2.1 1035 = .ok (.goto 2834, 3) := by decide +kernel
theorem d_L_law_1038 : decode y_L_law.2.1 1038 = .ok (.aload_n 1, 1) := by decide +kernel
theorem d_L_law_1039 : decode y_L_law.2.1 1039 = .ok (.aload_n 0, 1) := by decide +kernel
theorem d_L_law_1040 : decode y_L_law.2.1 1040 = .ok (.iload 4, 2) := by decide +kernel
theorem d_L_law_1042 : decode y_L_law.2.1 1042 = .ok (.iconst 1, 1) := by decide +kernel
theorem d_L_law_1043 : decode y_L_law.2.1 1043 = .ok (.iadd, 1) := by decide +kernel
theorem d_L_law_1044 : decode y_L_law.2.1 1044 = .ok (.iaload, 1) := by decide +kernel
theorem d_L_law_1045 : decode y_L_law.2.1 1045 = .ok (.aload_n 0, 1) := by decide +kernel
theorem d_L_law_1046 : decode y_L_law.2.1 1046 = .ok (.iload 4, 2) := by decide +kernel
theorem d_L_law_1048 : decode y_L_law.2.1 1048 = .ok (.iconst 2, 1) := by decide +kernel
theorem d_L_law_1049 : decode y_L_law.2.1 1049 = .ok (.iadd, 1) := by decide +kernel
theorem d_L_law_1050 : decode y_L_law.2.1 1050 = .ok (.iaload, 1) := by decide +kernel
theorem d_L_law_1051 : decode y_L_law.2.1 1051 = .ok (.ifCond .eq 7, 3) := by decide +kernel
theorem d_L_law_1054 : decode y_L_law.2.1 1054 = .ok (.iconst 1, 1) := by decide +kernel
theorem d_L_law_1055 : decode y_L_law.2.1 1055 = .ok (.goto 4, 3) := by decide +kernel
theorem d_L_law_1058 : decode y_L_law.2.1 1058 = .ok (.iconst 0, 1) := by decide +kernel
theorem d_L_law_1059 : decode y_L_law.2.1 1059 = .ok (.aload_n 3, 1) := by decide +kernel
theorem d_L_law_1060 : decode y_L_law.2.1 1060 = .ok (.invokestatic 192, 3) := by decide +kernel
theorem d_L_law_1063 : decode y_L_law.2.1 1063 = .ok (.istore 5, 2) := by decide +kernel
theorem d_L_law_1065 : decode y_L_law.2.1 1065 = .ok (.aload_n 2, 1) := by decide +kernel
theorem d_L_law_1066 : decode y_L_law.2.1 1066 = .ok (.aload_n 0, 1) := by decide +kernel
theorem d_L_law_1067 : decode y_L_law.2.1 1067 = .ok (.iload 4, 2) := by decide +kernel
theorem d_L_law_1069 : decode y_L_law.2.1 1069 = .ok (.iconst 1, 1) := by decide +kernel
theorem d_L_law_1070 : decode y_L_law.2.1 1070 = .ok (.iadd, 1) := by decide +kernel
theorem d_L_law_1071 : decode y_L_law.2.1 1071 = .ok (.iaload, 1) := by decide +kernel
theorem d_L_law_1072 : decode y_L_law.2.1 1072 = .ok (.aload_n 0, 1) := by decide +kernel
theorem d_L_law_1073 : decode y_L_law.2.1 1073 = .ok (.iload 4, 2) := by decide +kernel
theorem d_L_law_1075 : decode y_L_law.2.1 1075 = .ok (.iconst 2, 1) := by decide +kernel
theorem d_L_law_1076 : decode y_L_law.2.1 1076 = .ok (.iadd, 1) := by decide +kernel
theorem d_L_law_1077 : decode y_L_law.2.1 1077 = .ok (.iaload, 1) := by decide +kernel
theorem d_L_law_1078 : decode y_L_law.2.1 1078 = .ok (.ifCond .eq 7, 3) := by decide +kernel
theorem d_L_law_1081 : decode y_L_law.2.1 1081 = .ok (.iconst 1, 1) := by decide +kernel
theorem d_L_law_1082 : decode y_L_law.2.1 1082 = .ok (.goto 4, 3) := by decide +kernel
theorem d_L_law_1085 : decode y_L_law.2.1 1085 = .ok (.iconst 0, 1) := by decide +kernel
theorem d_L_law_1086 : decode y_L_law.2.1 1086 = .ok (.invokevirtual 195, 3) := by decide +kernel
theorem d_L_law_1089 : decode y_L_law.2.1 1089 = .ok (.istore 6, 2) := by decide +kernel
theorem d_L_law_1091 : decode y_L_law.2.1 1091 = .ok (.aload_n 2, 1) := by decide +kernel
theorem d_L_law_1092 : decode y_L_law.2.1 1092 = .ok (.invokevirtual 156, 3) := by decide +kernel
theorem d_L_law_1095 : decode y_L_law.2.1 1095 = .ok (.iload 5, 2) := by decide +kernel
theorem d_L_law_1097 : decode y_L_law.2.1 1097 = .ok (.if_icmp .eq 5, 3) := by decide +kernel
theorem d_L_law_1100 : decode y_L_law.2.1 1100 = .ok (.iconst 0, 1) := by decide +kernel
theorem d_L_law_1101 : decode y_L_law.2.1 1101 = .ok (.ireturn, 1) := by decide +kernel
theorem d_L_law_1102 : decode y_L_law.2.1 1102 = .ok (.iload 5, 2) := by decide +kernel
theorem d_L_law_1104 : decode y_L_law.2.1 1104 = .ok (.ifCond .ne 22, 3) := by decide +kernel
theorem d_L_law_1107 : decode y_L_law.2.1 1107 = .ok (.aload_n 3, 1) := by decide +kernel
theorem d_L_law_1108 : decode y_L_law.2.1 1108 = .ok (.iconst 0, 1) := by decide +kernel
theorem d_L_law_1109 : decode y_L_law.2.1 1109 = .ok (.laload, 1) := by decide +kernel
theorem d_L_law_1110 : decode y_L_law.2.1 1110 = .ok (.iload 6, 2) := by decide +kernel
theorem d_L_law_1112 : decode y_L_law.2.1 1112 = .ok (.ifCond .eq 7, 3) := by decide +kernel
theorem d_L_law_1115 : decode y_L_law.2.1 1115 = .ok (.lconst 1, 1) := by decide +kernel
theorem d_L_law_1116 : decode y_L_law.2.1 1116 = .ok (.goto 4, 3) := by decide +kernel
theorem d_L_law_1119 : decode y_L_law.2.1 1119 = .ok (.lconst 0, 1) := by decide +kernel
theorem d_L_law_1120 : decode y_L_law.2.1 1120 = .ok (.lcmp, 1) := by decide +kernel
theorem d_L_law_1121 : decode y_L_law.2.1 1121 = .ok (.ifCond .eq 5, 3) := by decide +kernel
theorem d_L_law_1124 : decode y_L_law.2.1 1124 = .ok (.iconst 0, 1) := by decide +kernel
theorem d_L_law_1125 : decode y_L_law.2.1 1125 = .ok (.ireturn, 1) := by decide +kernel
theorem d_L_law_1126 : decode y_L_law.2.1 1126 = .ok (.goto 2743, 3) := by decide +kernel
theorem d_L_law_1129 : decode y_L_law.2.1 1129 = .ok (.aload_n 1, 1) := by decide +kernel
theorem d_L_law_1130 : decode y_L_law.2.1 1130 = .ok (.aload_n 0, 1) := by decide +kernel
theorem d_L_law_1131 : decode y_L_law.2.1 1131 = .ok (.iload 4, 2) := by decide +kernel
theorem d_L_law_1133 : decode y_L_law.2.1 1133 = .ok (.iconst 1, 1) := by decide +kernel
theorem d_L_law_1134 : decode y_L_law.2.1 1134 = .ok (.iadd, 1) := by decide +kernel
theorem d_L_law_1135 : decode y_L_law.2.1 1135 = .ok (.iaload, 1) := by decide +kernel
theorem d_L_law_1136 : decode y_L_law.2.1 1136 = .ok (.aload_n 0, 1) := by decide +kernel
theorem d_L_law_1137 : decode y_L_law.2.1 1137 = .ok (.iload 4, 2) := by decide +kernel
theorem d_L_law_1139 : decode y_L_law.2.1 1139 = .ok (.iconst 2, 1) := by decide +kernel
theorem d_L_law_1140 : decode y_L_law.2.1 1140 = .ok (.iadd, 1) := by decide +kernel
theorem d_L_law_1141 : decode y_L_law.2.1 1141 = .ok (.iaload, 1) := by decide +kernel
theorem d_L_law_1142 : decode y_L_law.2.1 1142 = .ok (.aload_n 0, 1) := by decide +kernel
theorem d_L_law_1143 : decode y_L_law.2.1 1143 = .ok (.iload 4, 2) := by decide +kernel
theorem d_L_law_1145 : decode y_L_law.2.1 1145 = .ok (.iconst 3, 1) := by decide +kernel
theorem d_L_law_1146 : decode y_L_law.2.1 1146 = .ok (.iadd, 1) := by decide +kernel
theorem d_L_law_1147 : decode y_L_law.2.1 1147 = .ok (.iaload, 1) := by decide +kernel
theorem d_L_law_1148 : decode y_L_law.2.1 1148 = .ok (.invokestatic 196, 3) := by decide +kernel
theorem d_L_law_1151 : decode y_L_law.2.1 1151 = .ok (.istore 5, 2) := by decide +kernel
theorem d_L_law_1153 : decode y_L_law.2.1 1153 = .ok (.aload_n 2, 1) := by decide +kernel
theorem d_L_law_1154 : decode y_L_law.2.1 1154 = .ok (.aload_n 0, 1) := by decide +kernel
theorem d_L_law_1155 : decode y_L_law.2.1 1155 = .ok (.iload 4, 2) := by decide +kernel
theorem d_L_law_1157 : decode y_L_law.2.1 1157 = .ok (.iconst 1, 1) := by decide +kernel
theorem d_L_law_1158 : decode y_L_law.2.1 1158 = .ok (.iadd, 1) := by decide +kernel
theorem d_L_law_1159 : decode y_L_law.2.1 1159 = .ok (.iaload, 1) := by decide +kernel
theorem d_L_law_1160 : decode y_L_law.2.1 1160 = .ok (.aload_n 0, 1) := by decide +kernel
theorem d_L_law_1161 : decode y_L_law.2.1 1161 = .ok (.iload 4, 2) := by decide +kernel
theorem d_L_law_1163 : decode y_L_law.2.1 1163 = .ok (.iconst 2, 1) := by decide +kernel
theorem d_L_law_1164 : decode y_L_law.2.1 1164 = .ok (.iadd, 1) := by decide +kernel
theorem d_L_law_1165 : decode y_L_law.2.1 1165 = .ok (.iaload, 1) := by decide +kernel
theorem d_L_law_1166 : decode y_L_law.2.1 1166 = .ok (.aload_n 0, 1) := by decide +kernel
theorem d_L_law_1167 : decode y_L_law.2.1 1167 = .ok (.iload 4, 2) := by decide +kernel
theorem d_L_law_1169 : decode y_L_law.2.1 1169 = .ok (.iconst 3, 1) := by decide +kernel
theorem d_L_law_1170 : decode y_L_law.2.1 1170 = .ok (.iadd, 1) := by decide +kernel
theorem d_L_law_1171 : decode y_L_law.2.1 1171 = .ok (.iaload, 1) := by decide +kernel
theorem d_L_law_1172 : decode y_L_law.2.1 1172 = .ok (.invokevirtual 199, 3) := by decide +kernel
theorem d_L_law_1175 : decode y_L_law.2.1 1175 = .ok (.aload_n 2, 1) := by decide +kernel
theorem d_L_law_1176 : decode y_L_law.2.1 1176 = .ok (.invokevirtual 156, 3) := by decide +kernel
theorem d_L_law_1179 : decode y_L_law.2.1 1179 = .ok (.iload 5, 2) := by decide +kernel
theorem d_L_law_1181 : decode y_L_law.2.1 1181 = .ok (.if_icmp .eq 5, 3) := by decide +kernel
theorem d_L_law_1184 : decode y_L_law.2.1 1184 = .ok (.iconst 0, 1) := by decide +kernel
theorem d_L_law_1185 : decode y_L_law.2.1 1185 = .ok (.ireturn, 1) := by decide +kernel
theorem d_L_law_1186 : decode y_L_law.2.1 1186 = .ok (.goto 2683, 3) := by decide +kernel
theorem d_L_law_1189 : decode y_L_law.2.1 1189 = .ok (.aload_n 1, 1) := by decide +kernel
theorem d_L_law_1190 : decode y_L_law.2.1 1190 = .ok (.aload_n 0, 1) := by decide +kernel
theorem d_L_law_1191 : decode y_L_law.2.1 1191 = .ok (.iload 4, 2) := by decide +kernel
theorem d_L_law_1193 : decode y_L_law.2.1 1193 = .ok (.iconst 1, 1) := by decide +kernel
theorem d_L_law_1194 : decode y_L_law.2.1 1194 = .ok (.iadd, 1) := by decide +kernel
theorem d_L_law_1195 : decode y_L_law.2.1 1195 = .ok (.iaload, 1) := by decide +kernel
theorem d_L_law_1196 : decode y_L_law.2.1 1196 = .ok (.aload_n 0, 1) := by decide +kernel
theorem d_L_law_1197 : decode y_L_law.2.1 1197 = .ok (.iload 4, 2) := by decide +kernel
theorem d_L_law_1199 : decode y_L_law.2.1 1199 = .ok (.iconst 2, 1) := by decide +kernel
theorem d_L_law_1200 : decode y_L_law.2.1 1200 = .ok (.iadd, 1) := by decide +kernel
theorem d_L_law_1201 : decode y_L_law.2.1 1201 = .ok (.iaload, 1) := by decide +kernel
theorem d_L_law_1202 : decode y_L_law.2.1 1202 = .ok (.aload_n 0, 1) := by decide +kernel
theorem d_L_law_1203 : decode y_L_law.2.1 1203 = .ok (.iload 4, 2) := by decide +kernel
theorem d_L_law_1205 : decode y_L_law.2.1 1205 = .ok (.iconst 3, 1) := by decide +kernel
theorem d_L_law_1206 : decode y_L_law.2.1 1206 = .ok (.iadd, 1) := by decide +kernel
theorem d_L_law_1207 : decode y_L_law.2.1 1207 = .ok (.iaload, 1) := by decide +kernel
theorem d_L_law_1208 : decode y_L_law.2.1 1208 = .ok (.aload_n 0, 1) := by decide +kernel
theorem d_L_law_1209 : decode y_L_law.2.1 1209 = .ok (.iload 4, 2) := by decide +kernel
theorem d_L_law_1211 : decode y_L_law.2.1 1211 = .ok (.iconst 4, 1) := by decide +kernel
theorem d_L_law_1212 : decode y_L_law.2.1 1212 = .ok (.iadd, 1) := by decide +kernel
theorem d_L_law_1213 : decode y_L_law.2.1 1213 = .ok (.iaload, 1) := by decide +kernel
theorem d_L_law_1214 : decode y_L_law.2.1 1214 = .ok (.aload_n 0, 1) := by decide +kernel
theorem d_L_law_1215 : decode y_L_law.2.1 1215 = .ok (.iload 4, 2) := by decide +kernel
theorem d_L_law_1217 : decode y_L_law.2.1 1217 = .ok (.iconst 5, 1) := by decide +kernel
theorem d_L_law_1218 : decode y_L_law.2.1 1218 = .ok (.iadd, 1) := by decide +kernel
theorem d_L_law_1219 : decode y_L_law.2.1 1219 = .ok (.iaload, 1) := by decide +kernel
theorem d_L_law_1220 : decode y_L_law.2.1 1220 = .ok (.aload_n 0, 1) := by decide +kernel
theorem d_L_law_1221 : decode y_L_law.2.1 1221 = .ok (.iload 4, 2) := by decide +kernel
theorem d_L_law_1223 : decode y_L_law.2.1 1223 = .ok (.bipush 6, 2) := by decide +kernel
theorem d_L_law_1225 : decode y_L_law.2.1 1225 = .ok (.iadd, 1) := by decide +kernel
theorem d_L_law_1226 : decode y_L_law.2.1 1226 = .ok (.iaload, 1) := by decide +kernel
theorem d_L_law_1227 : decode y_L_law.2.1 1227 = .ok (.aload_n 3, 1) := by decide +kernel
theorem d_L_law_1228 : decode y_L_law.2.1 1228 = .ok (.invokestatic 200, 3) := by decide +kernel
theorem d_L_law_1231 : decode y_L_law.2.1 1231 = .ok (.istore 5, 2) := by decide +kernel
theorem d_L_law_1233 : decode y_L_law.2.1 1233 = .ok (.aload_n 2, 1) := by decide +kernel
theorem d_L_law_1234 : decode y_L_law.2.1 1234 = .ok (.aload_n 0, 1) := by decide +kernel
theorem d_L_law_1235 : decode y_L_law.2.1 1235 = .ok (.iload 4, 2) := by decide +kernel
theorem d_L_law_1237 : decode y_L_law.2.1 1237 = .ok (.iconst 1, 1) := by decide +kernel
theorem d_L_law_1238 : decode y_L_law.2.1 1238 = .ok (.iadd, 1) := by decide +kernel
theorem d_L_law_1239 : decode y_L_law.2.1 1239 = .ok (.iaload, 1) := by decide +kernel
theorem d_L_law_1240 : decode y_L_law.2.1 1240 = .ok (.aload_n 0, 1) := by decide +kernel
theorem d_L_law_1241 : decode y_L_law.2.1 1241 = .ok (.iload 4, 2) := by decide +kernel
theorem d_L_law_1243 : decode y_L_law.2.1 1243 = .ok (.iconst 2, 1) := by decide +kernel
theorem d_L_law_1244 : decode y_L_law.2.1 1244 = .ok (.iadd, 1) := by decide +kernel
theorem d_L_law_1245 : decode y_L_law.2.1 1245 = .ok (.iaload, 1) := by decide +kernel
theorem d_L_law_1246 : decode y_L_law.2.1 1246 = .ok (.aload_n 0, 1) := by decide +kernel
theorem d_L_law_1247 : decode y_L_law.2.1 1247 = .ok (.iload 4, 2) := by decide +kernel
theorem d_L_law_1249 : decode y_L_law.2.1 1249 = .ok (.iconst 3, 1) := by decide +kernel
theorem d_L_law_1250 : decode y_L_law.2.1 1250 = .ok (.iadd, 1) := by decide +kernel
theorem d_L_law_1251 : decode y_L_law.2.1 1251 = .ok (.iaload, 1) := by decide +kernel
theorem d_L_law_1252 : decode y_L_law.2.1 1252 = .ok (.aload_n 0, 1) := by decide +kernel
theorem d_L_law_1253 : decode y_L_law.2.1 1253 = .ok (.iload 4, 2) := by decide +kernel
theorem d_L_law_1255 : decode y_L_law.2.1 1255 = .ok (.iconst 4, 1) := by decide +kernel
theorem d_L_law_1256 : decode y_L_law.2.1 1256 = .ok (.iadd, 1) := by decide +kernel
theorem d_L_law_1257 : decode y_L_law.2.1 1257 = .ok (.iaload, 1) := by decide +kernel
theorem d_L_law_1258 : decode y_L_law.2.1 1258 = .ok (.aload_n 0, 1) := by decide +kernel
theorem d_L_law_1259 : decode y_L_law.2.1 1259 = .ok (.iload 4, 2) := by decide +kernel
theorem d_L_law_1261 : decode y_L_law.2.1 1261 = .ok (.iconst 5, 1) := by decide +kernel
theorem d_L_law_1262 : decode y_L_law.2.1 1262 = .ok (.iadd, 1) := by decide +kernel
theorem d_L_law_1263 : decode y_L_law.2.1 1263 = .ok (.iaload, 1) := by decide +kernel
theorem d_L_law_1264 : decode y_L_law.2.1 1264 = .ok (.aload_n 0, 1) := by decide +kernel
theorem d_L_law_1265 : decode y_L_law.2.1 1265 = .ok (.iload 4, 2) := by decide +kernel
theorem d_L_law_1267 : decode y_L_law.2.1 1267 = .ok (.bipush 6, 2) := by decide +kernel
theorem d_L_law_1269 : decode y_L_law.2.1 1269 = .ok (.iadd, 1) := by decide +kernel
theorem d_L_law_1270 : decode y_L_law.2.1 1270 = .ok (.iaload, 1) := by decide +kernel
theorem d_L_law_1271 : decode y_L_law.2.1 1271 = .ok (.invokevirtual 202, 3) := by decide +kernel
theorem d_L_law_1274 : decode y_L_law.2.1 1274 = .ok (.istore 6, 2) := by decide +kernel
theorem d_L_law_1276 : decode y_L_law.2.1 1276 = .ok (.aload_n 2, 1) := by decide +kernel
theorem d_L_law_1277 : decode y_L_law.2.1 1277 = .ok (.invokevirtual 156, 3) := by decide +kernel
theorem d_L_law_1280 : decode y_L_law.2.1 1280 = .ok (.iload 5, 2) := by decide +kernel
theorem d_L_law_1282 : decode y_L_law.2.1 1282 = .ok (.if_icmp .eq 5, 3) := by decide +kernel
theorem d_L_law_1285 : decode y_L_law.2.1 1285 = .ok (.iconst 0, 1) := by decide +kernel
theorem d_L_law_1286 : decode y_L_law.2.1 1286 = .ok (.ireturn, 1) := by decide +kernel
theorem d_L_law_1287 : decode y_L_law.2.1 1287 = .ok (.iload 5, 2) := by decide +kernel
theorem d_L_law_1289 : decode y_L_law.2.1 1289 = .ok (.ifCond .ne 15, 3) := by decide +kernel
theorem d_L_law_1292 : decode y_L_law.2.1 1292 = .ok (.aload_n 3, 1) := by decide +kernel
theorem d_L_law_1293 : decode y_L_law.2.1 1293 = .ok (.iconst 0, 1) := by decide +kernel
theorem d_L_law_1294 : decode y_L_law.2.1 1294 = .ok (.laload, 1) := by decide +kernel
theorem d_L_law_1295 : decode y_L_law.2.1 1295 = .ok (.iload 6, 2) := by decide +kernel
theorem d_L_law_1297 : decode y_L_law.2.1 1297 = .ok (.i2l, 1) := by decide +kernel
theorem d_L_law_1298 : decode y_L_law.2.1 1298 = .ok (.lcmp, 1) := by decide +kernel
theorem d_L_law_1299 : decode y_L_law.2.1 1299 = .ok (.ifCond .eq 5, 3) := by decide +kernel
theorem d_L_law_1302 : decode y_L_law.2.1 1302 = .ok (.iconst 0, 1) := by decide +kernel
theorem d_L_law_1303 : decode y_L_law.2.1 1303 = .ok (.ireturn, 1) := by decide +kernel
theorem d_L_law_1304 : decode y_L_law.2.1 1304 = .ok (.goto 2565, 3) := by decide +kernel
theorem d_L_law_1307 : decode y_L_law.2.1 1307 = .ok (.aload_n 1, 1) := by decide +kernel
theorem d_L_law_1308 : decode y_L_law.2.1 1308 = .ok (.aload_n 0, 1) := by decide +kernel
theorem d_L_law_1309 : decode y_L_law.2.1 1309 = .ok (.iload 4, 2) := by decide +kernel
theorem d_L_law_1311 : decode y_L_law.2.1 1311 = .ok (.iconst 1, 1) := by decide +kernel
theorem d_L_law_1312 : decode y_L_law.2.1 1312 = .ok (.iadd, 1) := by decide +kernel
theorem d_L_law_1313 : decode y_L_law.2.1 1313 = .ok (.iaload, 1) := by decide +kernel
theorem d_L_law_1314 : decode y_L_law.2.1 1314 = .ok (.aload_n 0, 1) := by decide +kernel
theorem d_L_law_1315 : decode y_L_law.2.1 1315 = .ok (.iload 4, 2) := by decide +kernel
theorem d_L_law_1317 : decode y_L_law.2.1 1317 = .ok (.iconst 2, 1) := by decide +kernel
theorem d_L_law_1318 : decode y_L_law.2.1 1318 = .ok (.iadd, 1) := by decide +kernel
theorem d_L_law_1319 : decode y_L_law.2.1 1319 = .ok (.iaload, 1) := by decide +kernel
theorem d_L_law_1320 : decode y_L_law.2.1 1320 = .ok (.aload_n 0, 1) := by decide +kernel
