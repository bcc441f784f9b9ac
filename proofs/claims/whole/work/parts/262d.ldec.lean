/-! ===== the law decoded, 4 ===== -/
theorem dl_972 : decode code 972 = .ok (.iload_n 3, 1) := by decide +kernel
theorem dl_973 : decode code 973 = .ok (.iconst 1, 1) := by decide +kernel
theorem dl_974 : decode code 974 = .ok (.iadd, 1) := by decide +kernel
theorem dl_975 : decode code 975 = .ok (.iaload, 1) := by decide +kernel
theorem dl_976 : decode code 976 = .ok (.aload_n 0, 1) := by decide +kernel
theorem dl_977 : decode code 977 = .ok (.iload_n 3, 1) := by decide +kernel
theorem dl_978 : decode code 978 = .ok (.iconst 2, 1) := by decide +kernel
theorem dl_979 : decode code 979 = .ok (.iadd, 1) := by decide +kernel
theorem dl_980 : decode code 980 = .ok (.iaload, 1) := by decide +kernel
theorem dl_981 : decode code 981 = .ok (.invokevirtual 115, 3) := by decide +kernel
theorem dl_984 : decode code 984 = .ok (.aload_n 2, 1) := by decide +kernel
theorem dl_985 : decode code 985 = .ok (.aload_n 0, 1) := by decide +kernel
theorem dl_986 : decode code 986 = .ok (.iload_n 3, 1) := by decide +kernel
theorem dl_987 : decode code 987 = .ok (.iconst 1, 1) := by decide +kernel
theorem dl_988 : decode code 988 = .ok (.iadd, 1) := by decide +kernel
theorem dl_989 : decode code 989 = .ok (.iaload, 1) := by decide +kernel
theorem dl_990 : decode code 990 = .ok (.aload_n 0, 1) := by decide +kernel
theorem dl_991 : decode code 991 = .ok (.iload_n 3, 1) := by decide +kernel
theorem dl_992 : decode code 992 = .ok (.iconst 2, 1) := by decide +kernel
theorem dl_993 : decode code 993 = .ok (.iadd, 1) := by decide +kernel
theorem dl_994 : decode code 994 = .ok (.iaload, 1) := by decide +kernel
theorem dl_995 : decode code 995 = .ok (.invokevirtual 118, 3) := by decide +kernel
theorem dl_998 : decode code 998 = .ok (.if_icmp .eq 253, 3) := by decide +kernel
theorem dl_1001 : decode code 1001 = .ok (.iconst 0, 1) := by decide +kernel
theorem dl_1002 : decode code 1002 = .ok (.ireturn, 1) := by decide +kernel
theorem dl_1003 : decode code 1003 = .ok (.aload_n 1, 1) := by decide +kernel
theorem dl_1004 : decode code 1004 = .ok (.aload_n 0, 1) := by decide +kernel
theorem dl_1005 : decode code 1005 = .ok (.iload_n 3, 1) := by decide +kernel
theorem dl_1006 : decode code 1006 = .ok (.iconst 1, 1) := by decide +kernel
theorem dl_1007 : decode code 1007 = .ok (.iadd, 1) := by decide +kernel
theorem dl_1008 : decode code 1008 = .ok (.iaload, 1) := by decide +kernel
theorem dl_1009 : decode code 1009 = .ok (.aload_n 0, 1) := by decide +kernel
theorem dl_1010 : decode code 1010 = .ok (.iload_n 3, 1) := by decide +kernel
theorem dl_1011 : decode code 1011 = .ok (.iconst 2, 1) := by decide +kernel
theorem dl_1012 : decode code 1012 = .ok (.iadd, 1) := by decide +kernel
theorem dl_1013 : decode code 1013 = .ok (.iaload, 1) := by decide +kernel
theorem dl_1014 : decode code 1014 = .ok (.invokevirtual 119, 3) := by decide +kernel
theorem dl_1017 : decode code 1017 = .ok (.aload_n 2, 1) := by decide +kernel
theorem dl_1018 : decode code 1018 = .ok (.aload_n 0, 1) := by decide +kernel
theorem dl_1019 : decode code 1019 = .ok (.iload_n 3, 1) := by decide +kernel
theorem dl_1020 : decode code 1020 = .ok (.iconst 1, 1) := by decide +kernel
theorem dl_1021 : decode code 1021 = .ok (.iadd, 1) := by decide +kernel
theorem dl_1022 : decode code 1022 = .ok (.iaload, 1) := by decide +kernel
theorem dl_1023 : decode code 1023 = .ok (.aload_n 0, 1) := by decide +kernel
theorem dl_1024 : decode code 1024 = .ok (.iload_n 3, 1) := by decide +kernel
theorem dl_1025 : decode code 1025 = .ok (.iconst 2, 1) := by decide +kernel
theorem dl_1026 : decode code 1026 = .ok (.iadd, 1) := by decide +kernel
theorem dl_1027 : decode code 1027 = .ok (.iaload, 1) := by decide +kernel
theorem dl_1028 : decode code 1028 = .ok (.invokevirtual 122, 3) := by decide +kernel
theorem dl_1031 : decode code 1031 = .ok (.if_icmp .eq 220, 3) := by decide +kernel
theorem dl_1034 : decode code 1034 = .ok (.iconst 0, 1) := by decide +kernel
theorem dl_1035 : decode code 1035 = .ok (.ireturn, 1) := by decide +kernel
theorem dl_1036 : decode code 1036 = .ok (.aload_n 1, 1) := by decide +kernel
theorem dl_1037 : decode code 1037 = .ok (.aload_n 0, 1) := by decide +kernel
theorem dl_1038 : decode code 1038 = .ok (.iload_n 3, 1) := by decide +kernel
theorem dl_1039 : decode code 1039 = .ok (.iconst 1, 1) := by decide +kernel
theorem dl_1040 : decode code 1040 = .ok (.iadd, 1) := by decide +kernel
theorem dl_1041 : decode code 1041 = .ok (.iaload, 1) := by decide +kernel
theorem dl_1042 : decode code 1042 = .ok (.aload_n 0, 1) := by decide +kernel
theorem dl_1043 : decode code 1043 = .ok (.iload_n 3, 1) := by decide +kernel
theorem dl_1044 : decode code 1044 = .ok (.iconst 2, 1) := by decide +kernel
theorem dl_1045 : decode code 1045 = .ok (.iadd, 1) := by decide +kernel
theorem dl_1046 : decode code 1046 = .ok (.iaload, 1) := by decide +kernel
theorem dl_1047 : decode code 1047 = .ok (.aload_n 0, 1) := by decide +kernel
theorem dl_1048 : decode code 1048 = .ok (.iload_n 3, 1) := by decide +kernel
theorem dl_1049 : decode code 1049 = .ok (.iconst 3, 1) := by decide +kernel
theorem dl_1050 : decode code 1050 = .ok (.iadd, 1) := by decide +kernel
theorem dl_1051 : decode code 1051 = .ok (.iaload, 1) := by decide +kernel
theorem dl_1052 : decode code 1052 = .ok (.invokevirtual 123, 3) := by decide +kernel
theorem dl_1055 : decode code 1055 = .ok (.aload_n 2, 1) := by decide +kernel
theorem dl_1056 : decode code 1056 = .ok (.aload_n 0, 1) := by decide +kernel
theorem dl_1057 : decode code 1057 = .ok (.iload_n 3, 1) := by decide +kernel
theorem dl_1058 : decode code 1058 = .ok (.iconst 1, 1) := by decide +kernel
theorem dl_1059 : decode code 1059 = .ok (.iadd, 1) := by decide +kernel
theorem dl_1060 : decode code 1060 = .ok (.iaload, 1) := by decide +kernel
theorem dl_1061 : decode code 1061 = .ok (.aload_n 0, 1) := by decide +kernel
theorem dl_1062 : decode code 1062 = .ok (.iload_n 3, 1) := by decide +kernel
theorem dl_1063 : decode code 1063 = .ok (.iconst 2, 1) := by decide +kernel
theorem dl_1064 : decode code 1064 = .ok (.iadd, 1) := by decide +kernel
theorem dl_1065 : decode code 1065 = .ok (.iaload, 1) := by decide +kernel
theorem dl_1066 : decode code 1066 = .ok (.aload_n 0, 1) := by decide +kernel
theorem dl_1067 : decode code 1067 = .ok (.iload_n 3, 1) := by decide +kernel
theorem dl_1068 : decode code 1068 = .ok (.iconst 3, 1) := by decide +kernel
theorem dl_1069 : decode code 1069 = .ok (.iadd, 1) := by decide +kernel
theorem dl_1070 : decode code 1070 = .ok (.iaload, 1) := by decide +kernel
theorem dl_1071 : decode code 1071 = .ok (.invokevirtual 126, 3) := by decide +kernel
theorem dl_1074 : decode code 1074 = .ok (.if_icmp .eq 177, 3) := by decide +kernel
theorem dl_1077 : decode code 1077 = .ok (.iconst 0, 1) := by decide +kernel
theorem dl_1078 : decode code 1078 = .ok (.ireturn, 1) := by decide +kernel
theorem dl_1079 : decode code 1079 = .ok (.aload_n 1, 1) := by decide +kernel
theorem dl_1080 : decode code 1080 = .ok (.aload_n 0, 1) := by decide +kernel
theorem dl_1081 : decode code 1081 = .ok (.iload_n 3, 1) := by decide +kernel
theorem dl_1082 : decode code 1082 = .ok (.iconst 1, 1) := by decide +kernel
theorem dl_1083 : decode code 1083 = .ok (.iadd, 1) := by decide +kernel
theorem dl_1084 : decode code 1084 = .ok (.iaload, 1) := by decide +kernel
theorem dl_1085 : decode code 1085 = .ok (.invokevirtual 127, 3) := by decide +kernel
theorem dl_1088 : decode code 1088 = .ok (.aload_n 2, 1) := by decide +kernel
theorem dl_1089 : decode code 1089 = .ok (.aload_n 0, 1) := by decide +kernel
theorem dl_1090 : decode code 1090 = .ok (.iload_n 3, 1) := by decide +kernel
theorem dl_1091 : decode code 1091 = .ok (.iconst 1, 1) := by decide +kernel
theorem dl_1092 : decode code 1092 = .ok (.iadd, 1) := by decide +kernel
theorem dl_1093 : decode code 1093 = .ok (.iaload, 1) := by decide +kernel
theorem dl_1094 : decode code 1094 = .ok (.invokevirtual 130, 3) := by decide +kernel
theorem dl_1097 : decode code 1097 = .ok (.lcmp, 1) := by decide +kernel
theorem dl_1098 : decode code 1098 = .ok (.ifCond .eq 153, 3) := by decide +kernel
theorem dl_1101 : decode code 1101 = .ok (.iconst 0, 1) := by decide +kernel
theorem dl_1102 : decode code 1102 = .ok (.ireturn, 1) := by decide +kernel
theorem dl_1103 : decode code 1103 = .ok (.aload_n 1, 1) := by decide +kernel
theorem dl_1104 : decode code 1104 = .ok (.aload_n 0, 1) := by decide +kernel
theorem dl_1105 : decode code 1105 = .ok (.iload_n 3, 1) := by decide +kernel
theorem dl_1106 : decode code 1106 = .ok (.iconst 1, 1) := by decide +kernel
theorem dl_1107 : decode code 1107 = .ok (.iadd, 1) := by decide +kernel
theorem dl_1108 : decode code 1108 = .ok (.iaload, 1) := by decide +kernel
theorem dl_1109 : decode code 1109 = .ok (.i2l, 1) := by decide +kernel
theorem dl_1110 : decode code 1110 = .ok (.bipush 32, 2) := by decide +kernel
theorem dl_1112 : decode code 1112 = .ok (.lshl, 1) := by decide +kernel
theorem dl_1113 : decode code 1113 = .ok (.aload_n 0, 1) := by decide +kernel
theorem dl_1114 : decode code 1114 = .ok (.iload_n 3, 1) := by decide +kernel
theorem dl_1115 : decode code 1115 = .ok (.iconst 2, 1) := by decide +kernel
theorem dl_1116 : decode code 1116 = .ok (.iadd, 1) := by decide +kernel
theorem dl_1117 : decode code 1117 = .ok (.iaload, 1) := by decide +kernel
theorem dl_1118 : decode code 1118 = .ok (.i2l, 1) := by decide +kernel
theorem dl_1119 : decode code 1119 = .ok (.ldc2_w 70, 3) := by decide +kernel
theorem dl_1122 : decode code 1122 = .ok (.land, 1) := by decide +kernel
theorem dl_1123 : decode code 1123 = .ok (.lor, 1) := by decide +kernel
theorem dl_1124 : decode code 1124 = .ok (.invokevirtual 131, 3) := by decide +kernel
theorem dl_1127 : decode code 1127 = .ok (.aload_n 2, 1) := by decide +kernel
theorem dl_1128 : decode code 1128 = .ok (.aload_n 0, 1) := by decide +kernel
theorem dl_1129 : decode code 1129 = .ok (.iload_n 3, 1) := by decide +kernel
theorem dl_1130 : decode code 1130 = .ok (.iconst 1, 1) := by decide +kernel
theorem dl_1131 : decode code 1131 = .ok (.iadd, 1) := by decide +kernel
theorem dl_1132 : decode code 1132 = .ok (.iaload, 1) := by decide +kernel
theorem dl_1133 : decode code 1133 = .ok (.i2l, 1) := by decide +kernel
theorem dl_1134 : decode code 1134 = .ok (.bipush 32, 2) := by decide +kernel
theorem dl_1136 : decode code 1136 = .ok (.lshl, 1) := by decide +kernel
theorem dl_1137 : decode code 1137 = .ok (.aload_n 0, 1) := by decide +kernel
theorem dl_1138 : decode code 1138 = .ok (.iload_n 3, 1) := by decide +kernel
theorem dl_1139 : decode code 1139 = .ok (.iconst 2, 1) := by decide +kernel
theorem dl_1140 : decode code 1140 = .ok (.iadd, 1) := by decide +kernel
theorem dl_1141 : decode code 1141 = .ok (.iaload, 1) := by decide +kernel
theorem dl_1142 : decode code 1142 = .ok (.i2l, 1) := by decide +kernel
theorem dl_1143 : decode code 1143 = .ok (.ldc2_w 70, 3) := by decide +kernel
theorem dl_1146 : decode code 1146 = .ok (.land, 1) := by decide +kernel
theorem dl_1147 : decode code 1147 = .ok (.lor, 1) := by decide +kernel
theorem dl_1148 : decode code 1148 = .ok (.invokevirtual 135, 3) := by decide +kernel
theorem dl_1151 : decode code 1151 = .ok (.if_icmp .eq 100, 3) := by decide +kernel
theorem dl_1154 : decode code 1154 = .ok (.iconst 0, 1) := by decide +kernel
theorem dl_1155 : decode code 1155 = .ok (.ireturn, 1) := by decide +kernel
theorem dl_1156 : decode code 1156 = .ok (.aload_n 1, 1) := by decide +kernel
theorem dl_1157 : decode code 1157 = .ok (.invokevirtual 136, 3) := by decide +kernel
theorem dl_1160 : decode code 1160 = .ok (.aload_n 2, 1) := by decide +kernel
theorem dl_1161 : decode code 1161 = .ok (.invokevirtual 140, 3) := by decide +kernel
theorem dl_1164 : decode code 1164 = .ok (.if_icmp .eq 87, 3) := by decide +kernel
theorem dl_1167 : decode code 1167 = .ok (.iconst 0, 1) := by decide +kernel
theorem dl_1168 : decode code 1168 = .ok (.ireturn, 1) := by decide +kernel
theorem dl_1169 : decode code 1169 = .ok (.aload_n 1, 1) := by decide +kernel
theorem dl_1170 : decode code 1170 = .ok (.aload_n 0, 1) := by decide +kernel
theorem dl_1171 : decode code 1171 = .ok (.iload_n 3, 1) := by decide +kernel
theorem dl_1172 : decode code 1172 = .ok (.iconst 1, 1) := by decide +kernel
theorem dl_1173 : decode code 1173 = .ok (.iadd, 1) := by decide +kernel
theorem dl_1174 : decode code 1174 = .ok (.iaload, 1) := by decide +kernel
theorem dl_1175 : decode code 1175 = .ok (.invokevirtual 141, 3) := by decide +kernel
theorem dl_1178 : decode code 1178 = .ok (.aload_n 2, 1) := by decide +kernel
theorem dl_1179 : decode code 1179 = .ok (.aload_n 0, 1) := by decide +kernel
theorem dl_1180 : decode code 1180 = .ok (.iload_n 3, 1) := by decide +kernel
theorem dl_1181 : decode code 1181 = .ok (.iconst 1, 1) := by decide +kernel
theorem dl_1182 : decode code 1182 = .ok (.iadd, 1) := by decide +kernel
theorem dl_1183 : decode code 1183 = .ok (.iaload, 1) := by decide +kernel
theorem dl_1184 : decode code 1184 = .ok (.invokevirtual 144, 3) := by decide +kernel
theorem dl_1187 : decode code 1187 = .ok (.if_icmp .eq 64, 3) := by decide +kernel
theorem dl_1190 : decode code 1190 = .ok (.iconst 0, 1) := by decide +kernel
theorem dl_1191 : decode code 1191 = .ok (.ireturn, 1) := by decide +kernel
theorem dl_1192 : decode code 1192 = .ok (.aload_n 1, 1) := by decide +kernel
theorem dl_1193 : decode code 1193 = .ok (.invokevirtual 145, 3) := by decide +kernel
theorem dl_1196 : decode code 1196 = .ok (.aload_n 2, 1) := by decide +kernel
theorem dl_1197 : decode code 1197 = .ok (.invokevirtual 148, 3) := by decide +kernel
theorem dl_1200 : decode code 1200 = .ok (.if_icmp .eq 51, 3) := by decide +kernel
theorem dl_1203 : decode code 1203 = .ok (.iconst 0, 1) := by decide +kernel
theorem dl_1204 : decode code 1204 = .ok (.ireturn, 1) := by decide +kernel
theorem dl_1205 : decode code 1205 = .ok (.aload_n 1, 1) := by decide +kernel
theorem dl_1206 : decode code 1206 = .ok (.aload_n 0, 1) := by decide +kernel
theorem dl_1207 : decode code 1207 = .ok (.iload_n 3, 1) := by decide +kernel
theorem dl_1208 : decode code 1208 = .ok (.iconst 1, 1) := by decide +kernel
theorem dl_1209 : decode code 1209 = .ok (.iadd, 1) := by decide +kernel
theorem dl_1210 : decode code 1210 = .ok (.iaload, 1) := by decide +kernel
theorem dl_1211 : decode code 1211 = .ok (.invokevirtual 149, 3) := by decide +kernel
theorem dl_1214 : decode code 1214 = .ok (.aload_n 2, 1) := by decide +kernel
theorem dl_1215 : decode code 1215 = .ok (.aload_n 0, 1) := by decide +kernel
theorem dl_1216 : decode code 1216 = .ok (.iload_n 3, 1) := by decide +kernel
theorem dl_1217 : decode code 1217 = .ok (.iconst 1, 1) := by decide +kernel
theorem dl_1218 : decode code 1218 = .ok (.iadd, 1) := by decide +kernel
theorem dl_1219 : decode code 1219 = .ok (.iaload, 1) := by decide +kernel
theorem dl_1220 : decode code 1220 = .ok (.invokevirtual 152, 3) := by decide +kernel
theorem dl_1223 : decode code 1223 = .ok (.if_icmp .eq 28, 3) := by decide +kernel
theorem dl_1226 : decode code 1226 = .ok (.iconst 0, 1) := by decide +kernel
theorem dl_1227 : decode code 1227 = .ok (.ireturn, 1) := by decide +kernel
theorem dl_1228 : decode code 1228 = .ok (.aload_n 1, 1) := by decide +kernel
theorem dl_1229 : decode code 1229 = .ok (.aload_n 0, 1) := by decide +kernel
theorem dl_1230 : decode code 1230 = .ok (.iload_n 3, 1) := by decide +kernel
theorem dl_1231 : decode code 1231 = .ok (.iconst 1, 1) := by decide +kernel
theorem dl_1232 : decode code 1232 = .ok (.iadd, 1) := by decide +kernel
theorem dl_1233 : decode code 1233 = .ok (.iaload, 1) := by decide +kernel
theorem dl_1234 : decode code 1234 = .ok (.invokevirtual 153, 3) := by decide +kernel
theorem dl_1237 : decode code 1237 = .ok (.aload_n 2, 1) := by decide +kernel
theorem dl_1238 : decode code 1238 = .ok (.aload_n 0, 1) := by decide +kernel
theorem dl_1239 : decode code 1239 = .ok (.iload_n 3, 1) := by decide +kernel
theorem dl_1240 : decode code 1240 = .ok (.iconst 1, 1) := by decide +kernel
theorem dl_1241 : decode code 1241 = .ok (.iadd, 1) := by decide +kernel
theorem dl_1242 : decode code 1242 = .ok (.iaload, 1) := by decide +kernel
theorem dl_1243 : decode code 1243 = .ok (.invokevirtual 156, 3) := by decide +kernel
theorem dl_1246 : decode code 1246 = .ok (.if_icmp .eq 5, 3) := by decide +kernel
theorem dl_1249 : decode code 1249 = .ok (.iconst 0, 1) := by decide +kernel
theorem dl_1250 : decode code 1250 = .ok (.ireturn, 1) := by decide +kernel
theorem dl_1251 : decode code 1251 = .ok (.iinc 3 7, 3) := by decide +kernel
theorem dl_1254 : decode code 1254 = .ok (.goto (-1236), 3) := by decide +kernel
theorem dl_1257 : decode code 1257 = .ok (.iconst 1, 1) := by decide +kernel
theorem dl_1258 : decode code 1258 = .ok (.ireturn, 1) := by decide +kernel
