/-! The law's instructions. -/
theorem dL_law_993 : decode cL_law 993 = .ok (.aload_n 0, 1) := by decide +kernel
theorem dL_law_994 : decode cL_law 994 = .ok (.iload 4, 2) := by decide +kernel
theorem dL_law_996 : decode cL_law 996 = .ok (.iconst 1, 1) := by decide +kernel
theorem dL_law_997 : decode cL_law 997 = .ok (.iadd, 1) := by decide +kernel
theorem dL_law_998 : decode cL_law 998 = .ok (.iaload, 1) := by decide +kernel
theorem dL_law_999 : decode cL_law 999 = .ok (.invokevirtual 134, 3) := by decide +kernel
theorem dL_law_1002 : decode cL_law 1002 = .ok (.pop, 1) := by decide +kernel
theorem dL_law_1003 : decode cL_law 1003 = .ok (.goto 387, 3) := by decide +kernel
theorem dL_law_1006 : decode cL_law 1006 = .ok (.aload_n 1, 1) := by decide +kernel
theorem dL_law_1007 : decode cL_law 1007 = .ok (.aload_n 0, 1) := by decide +kernel
theorem dL_law_1008 : decode cL_law 1008 = .ok (.iload 4, 2) := by decide +kernel
theorem dL_law_1010 : decode cL_law 1010 = .ok (.iconst 1, 1) := by decide +kernel
theorem dL_law_1011 : decode cL_law 1011 = .ok (.iadd, 1) := by decide +kernel
theorem dL_law_1012 : decode cL_law 1012 = .ok (.iaload, 1) := by decide +kernel
theorem dL_law_1013 : decode cL_law 1013 = .ok (.aload_n 0, 1) := by decide +kernel
theorem dL_law_1014 : decode cL_law 1014 = .ok (.iload 4, 2) := by decide +kernel
theorem dL_law_1016 : decode cL_law 1016 = .ok (.iconst 2, 1) := by decide +kernel
theorem dL_law_1017 : decode cL_law 1017 = .ok (.iadd, 1) := by decide +kernel
theorem dL_law_1018 : decode cL_law 1018 = .ok (.iaload, 1) := by decide +kernel
theorem dL_law_1019 : decode cL_law 1019 = .ok (.invokevirtual 135, 3) := by decide +kernel
theorem dL_law_1022 : decode cL_law 1022 = .ok (.pop, 1) := by decide +kernel
theorem dL_law_1023 : decode cL_law 1023 = .ok (.aload_n 2, 1) := by decide +kernel
theorem dL_law_1024 : decode cL_law 1024 = .ok (.aload_n 0, 1) := by decide +kernel
theorem dL_law_1025 : decode cL_law 1025 = .ok (.iload 4, 2) := by decide +kernel
theorem dL_law_1027 : decode cL_law 1027 = .ok (.iconst 1, 1) := by decide +kernel
theorem dL_law_1028 : decode cL_law 1028 = .ok (.iadd, 1) := by decide +kernel
theorem dL_law_1029 : decode cL_law 1029 = .ok (.iaload, 1) := by decide +kernel
theorem dL_law_1030 : decode cL_law 1030 = .ok (.aload_n 0, 1) := by decide +kernel
theorem dL_law_1031 : decode cL_law 1031 = .ok (.iload 4, 2) := by decide +kernel
theorem dL_law_1033 : decode cL_law 1033 = .ok (.iconst 2, 1) := by decide +kernel
theorem dL_law_1034 : decode cL_law 1034 = .ok (.iadd, 1) := by decide +kernel
theorem dL_law_1035 : decode cL_law 1035 = .ok (.iaload, 1) := by decide +kernel
theorem dL_law_1036 : decode cL_law 1036 = .ok (.invokevirtual 139, 3) := by decide +kernel
theorem dL_law_1039 : decode cL_law 1039 = .ok (.pop, 1) := by decide +kernel
theorem dL_law_1040 : decode cL_law 1040 = .ok (.goto 350, 3) := by decide +kernel
theorem dL_law_1043 : decode cL_law 1043 = .ok (.aload_n 1, 1) := by decide +kernel
theorem dL_law_1044 : decode cL_law 1044 = .ok (.aload_n 0, 1) := by decide +kernel
theorem dL_law_1045 : decode cL_law 1045 = .ok (.iload 4, 2) := by decide +kernel
theorem dL_law_1047 : decode cL_law 1047 = .ok (.iconst 1, 1) := by decide +kernel
theorem dL_law_1048 : decode cL_law 1048 = .ok (.iadd, 1) := by decide +kernel
theorem dL_law_1049 : decode cL_law 1049 = .ok (.iaload, 1) := by decide +kernel
theorem dL_law_1050 : decode cL_law 1050 = .ok (.aload_n 0, 1) := by decide +kernel
theorem dL_law_1051 : decode cL_law 1051 = .ok (.iload 4, 2) := by decide +kernel
theorem dL_law_1053 : decode cL_law 1053 = .ok (.iconst 2, 1) := by decide +kernel
theorem dL_law_1054 : decode cL_law 1054 = .ok (.iadd, 1) := by decide +kernel
theorem dL_law_1055 : decode cL_law 1055 = .ok (.iaload, 1) := by decide +kernel
theorem dL_law_1056 : decode cL_law 1056 = .ok (.aload_n 0, 1) := by decide +kernel
theorem dL_law_1057 : decode cL_law 1057 = .ok (.iload 4, 2) := by decide +kernel
theorem dL_law_1059 : decode cL_law 1059 = .ok (.iconst 3, 1) := by decide +kernel
theorem dL_law_1060 : decode cL_law 1060 = .ok (.iadd, 1) := by decide +kernel
theorem dL_law_1061 : decode cL_law 1061 = .ok (.iaload, 1) := by decide +kernel
theorem dL_law_1062 : decode cL_law 1062 = .ok (.aload_n 0, 1) := by decide +kernel
theorem dL_law_1063 : decode cL_law 1063 = .ok (.iload 4, 2) := by decide +kernel
theorem dL_law_1065 : decode cL_law 1065 = .ok (.iconst 4, 1) := by decide +kernel
theorem dL_law_1066 : decode cL_law 1066 = .ok (.iadd, 1) := by decide +kernel
theorem dL_law_1067 : decode cL_law 1067 = .ok (.iaload, 1) := by decide +kernel
theorem dL_law_1068 : decode cL_law 1068 = .ok (.invokevirtual 140, 3) := by decide +kernel
theorem dL_law_1071 : decode cL_law 1071 = .ok (.pop, 1) := by decide +kernel
theorem dL_law_1072 : decode cL_law 1072 = .ok (.aload_n 2, 1) := by decide +kernel
theorem dL_law_1073 : decode cL_law 1073 = .ok (.aload_n 0, 1) := by decide +kernel
theorem dL_law_1074 : decode cL_law 1074 = .ok (.iload 4, 2) := by decide +kernel
theorem dL_law_1076 : decode cL_law 1076 = .ok (.iconst 1, 1) := by decide +kernel
theorem dL_law_1077 : decode cL_law 1077 = .ok (.iadd, 1) := by decide +kernel
theorem dL_law_1078 : decode cL_law 1078 = .ok (.iaload, 1) := by decide +kernel
theorem dL_law_1079 : decode cL_law 1079 = .ok (.aload_n 0, 1) := by decide +kernel
theorem dL_law_1080 : decode cL_law 1080 = .ok (.iload 4, 2) := by decide +kernel
theorem dL_law_1082 : decode cL_law 1082 = .ok (.iconst 2, 1) := by decide +kernel
theorem dL_law_1083 : decode cL_law 1083 = .ok (.iadd, 1) := by decide +kernel
theorem dL_law_1084 : decode cL_law 1084 = .ok (.iaload, 1) := by decide +kernel
theorem dL_law_1085 : decode cL_law 1085 = .ok (.aload_n 0, 1) := by decide +kernel
theorem dL_law_1086 : decode cL_law 1086 = .ok (.iload 4, 2) := by decide +kernel
theorem dL_law_1088 : decode cL_law 1088 = .ok (.iconst 3, 1) := by decide +kernel
theorem dL_law_1089 : decode cL_law 1089 = .ok (.iadd, 1) := by decide +kernel
theorem dL_law_1090 : decode cL_law 1090 = .ok (.iaload, 1) := by decide +kernel
theorem dL_law_1091 : decode cL_law 1091 = .ok (.aload_n 0, 1) := by decide +kernel
theorem dL_law_1092 : decode cL_law 1092 = .ok (.iload 4, 2) := by decide +kernel
theorem dL_law_1094 : decode cL_law 1094 = .ok (.iconst 4, 1) := by decide +kernel
theorem dL_law_1095 : decode cL_law 1095 = .ok (.iadd, 1) := by decide +kernel
theorem dL_law_1096 : decode cL_law 1096 = .ok (.iaload, 1) := by decide +kernel
theorem dL_law_1097 : decode cL_law 1097 = .ok (.invokevirtual 143, 3) := by decide +kernel
theorem dL_law_1100 : decode cL_law 1100 = .ok (.pop, 1) := by decide +kernel
theorem dL_law_1101 : decode cL_law 1101 = .ok (.goto 289, 3) := by decide +kernel
theorem dL_law_1104 : decode cL_law 1104 = .ok (.aload_n 1, 1) := by decide +kernel
theorem dL_law_1105 : decode cL_law 1105 = .ok (.aload_n 0, 1) := by decide +kernel
theorem dL_law_1106 : decode cL_law 1106 = .ok (.iload 4, 2) := by decide +kernel
theorem dL_law_1108 : decode cL_law 1108 = .ok (.iconst 1, 1) := by decide +kernel
theorem dL_law_1109 : decode cL_law 1109 = .ok (.iadd, 1) := by decide +kernel
theorem dL_law_1110 : decode cL_law 1110 = .ok (.iaload, 1) := by decide +kernel
theorem dL_law_1111 : decode cL_law 1111 = .ok (.aload_n 0, 1) := by decide +kernel
theorem dL_law_1112 : decode cL_law 1112 = .ok (.iload 4, 2) := by decide +kernel
theorem dL_law_1114 : decode cL_law 1114 = .ok (.iconst 2, 1) := by decide +kernel
theorem dL_law_1115 : decode cL_law 1115 = .ok (.iadd, 1) := by decide +kernel
theorem dL_law_1116 : decode cL_law 1116 = .ok (.iaload, 1) := by decide +kernel
theorem dL_law_1117 : decode cL_law 1117 = .ok (.aload_n 0, 1) := by decide +kernel
theorem dL_law_1118 : decode cL_law 1118 = .ok (.iload 4, 2) := by decide +kernel
theorem dL_law_1120 : decode cL_law 1120 = .ok (.iconst 3, 1) := by decide +kernel
theorem dL_law_1121 : decode cL_law 1121 = .ok (.iadd, 1) := by decide +kernel
theorem dL_law_1122 : decode cL_law 1122 = .ok (.iaload, 1) := by decide +kernel
theorem dL_law_1123 : decode cL_law 1123 = .ok (.aload_n 0, 1) := by decide +kernel
theorem dL_law_1124 : decode cL_law 1124 = .ok (.iload 4, 2) := by decide +kernel
theorem dL_law_1126 : decode cL_law 1126 = .ok (.iconst 4, 1) := by decide +kernel
theorem dL_law_1127 : decode cL_law 1127 = .ok (.iadd, 1) := by decide +kernel
theorem dL_law_1128 : decode cL_law 1128 = .ok (.iaload, 1) := by decide +kernel
theorem dL_law_1129 : decode cL_law 1129 = .ok (.invokevirtual 144, 3) := by decide +kernel
theorem dL_law_1132 : decode cL_law 1132 = .ok (.pop, 1) := by decide +kernel
theorem dL_law_1133 : decode cL_law 1133 = .ok (.aload_n 2, 1) := by decide +kernel
theorem dL_law_1134 : decode cL_law 1134 = .ok (.aload_n 0, 1) := by decide +kernel
theorem dL_law_1135 : decode cL_law 1135 = .ok (.iload 4, 2) := by decide +kernel
theorem dL_law_1137 : decode cL_law 1137 = .ok (.iconst 1, 1) := by decide +kernel
theorem dL_law_1138 : decode cL_law 1138 = .ok (.iadd, 1) := by decide +kernel
theorem dL_law_1139 : decode cL_law 1139 = .ok (.iaload, 1) := by decide +kernel
theorem dL_law_1140 : decode cL_law 1140 = .ok (.aload_n 0, 1) := by decide +kernel
theorem dL_law_1141 : decode cL_law 1141 = .ok (.iload 4, 2) := by decide +kernel
theorem dL_law_1143 : decode cL_law 1143 = .ok (.iconst 2, 1) := by decide +kernel
theorem dL_law_1144 : decode cL_law 1144 = .ok (.iadd, 1) := by decide +kernel
theorem dL_law_1145 : decode cL_law 1145 = .ok (.iaload, 1) := by decide +kernel
theorem dL_law_1146 : decode cL_law 1146 = .ok (.aload_n 0, 1) := by decide +kernel
theorem dL_law_1147 : decode cL_law 1147 = .ok (.iload 4, 2) := by decide +kernel
theorem dL_law_1149 : decode cL_law 1149 = .ok (.iconst 3, 1) := by decide +kernel
theorem dL_law_1150 : decode cL_law 1150 = .ok (.iadd, 1) := by decide +kernel
theorem dL_law_1151 : decode cL_law 1151 = .ok (.iaload, 1) := by decide +kernel
theorem dL_law_1152 : decode cL_law 1152 = .ok (.aload_n 0, 1) := by decide +kernel
theorem dL_law_1153 : decode cL_law 1153 = .ok (.iload 4, 2) := by decide +kernel
theorem dL_law_1155 : decode cL_law 1155 = .ok (.iconst 4, 1) := by decide +kernel
theorem dL_law_1156 : decode cL_law 1156 = .ok (.iadd, 1) := by decide +kernel
theorem dL_law_1157 : decode cL_law 1157 = .ok (.iaload, 1) := by decide +kernel
theorem dL_law_1158 : decode cL_law 1158 = .ok (.invokevirtual 147, 3) := by decide +kernel
theorem dL_law_1161 : decode cL_law 1161 = .ok (.pop, 1) := by decide +kernel
theorem dL_law_1162 : decode cL_law 1162 = .ok (.goto 228, 3) := by decide +kernel
theorem dL_law_1165 : decode cL_law 1165 = .ok (.aload_n 1, 1) := by decide +kernel
theorem dL_law_1166 : decode cL_law 1166 = .ok (.aload_n 0, 1) := by decide +kernel
theorem dL_law_1167 : decode cL_law 1167 = .ok (.iload 4, 2) := by decide +kernel
theorem dL_law_1169 : decode cL_law 1169 = .ok (.iconst 1, 1) := by decide +kernel
theorem dL_law_1170 : decode cL_law 1170 = .ok (.iadd, 1) := by decide +kernel
theorem dL_law_1171 : decode cL_law 1171 = .ok (.iaload, 1) := by decide +kernel
theorem dL_law_1172 : decode cL_law 1172 = .ok (.aload_n 0, 1) := by decide +kernel
theorem dL_law_1173 : decode cL_law 1173 = .ok (.iload 4, 2) := by decide +kernel
theorem dL_law_1175 : decode cL_law 1175 = .ok (.iconst 2, 1) := by decide +kernel
theorem dL_law_1176 : decode cL_law 1176 = .ok (.iadd, 1) := by decide +kernel
theorem dL_law_1177 : decode cL_law 1177 = .ok (.iaload, 1) := by decide +kernel
theorem dL_law_1178 : decode cL_law 1178 = .ok (.aload_n 0, 1) := by decide +kernel
theorem dL_law_1179 : decode cL_law 1179 = .ok (.iload 4, 2) := by decide +kernel
theorem dL_law_1181 : decode cL_law 1181 = .ok (.iconst 3, 1) := by decide +kernel
theorem dL_law_1182 : decode cL_law 1182 = .ok (.iadd, 1) := by decide +kernel
theorem dL_law_1183 : decode cL_law 1183 = .ok (.iaload, 1) := by decide +kernel
theorem dL_law_1184 : decode cL_law 1184 = .ok (.invokevirtual 148, 3) := by decide +kernel
theorem dL_law_1187 : decode cL_law 1187 = .ok (.pop, 1) := by decide +kernel
theorem dL_law_1188 : decode cL_law 1188 = .ok (.aload_n 2, 1) := by decide +kernel
theorem dL_law_1189 : decode cL_law 1189 = .ok (.aload_n 0, 1) := by decide +kernel
theorem dL_law_1190 : decode cL_law 1190 = .ok (.iload 4, 2) := by decide +kernel
theorem dL_law_1192 : decode cL_law 1192 = .ok (.iconst 1, 1) := by decide +kernel
theorem dL_law_1193 : decode cL_law 1193 = .ok (.iadd, 1) := by decide +kernel
theorem dL_law_1194 : decode cL_law 1194 = .ok (.iaload, 1) := by decide +kernel
theorem dL_law_1195 : decode cL_law 1195 = .ok (.aload_n 0, 1) := by decide +kernel
theorem dL_law_1196 : decode cL_law 1196 = .ok (.iload 4, 2) := by decide +kernel
theorem dL_law_1198 : decode cL_law 1198 = .ok (.iconst 2, 1) := by decide +kernel
theorem dL_law_1199 : decode cL_law 1199 = .ok (.iadd, 1) := by decide +kernel
theorem dL_law_1200 : decode cL_law 1200 = .ok (.iaload, 1) := by decide +kernel
theorem dL_law_1201 : decode cL_law 1201 = .ok (.aload_n 0, 1) := by decide +kernel
theorem dL_law_1202 : decode cL_law 1202 = .ok (.iload 4, 2) := by decide +kernel
theorem dL_law_1204 : decode cL_law 1204 = .ok (.iconst 3, 1) := by decide +kernel
theorem dL_law_1205 : decode cL_law 1205 = .ok (.iadd, 1) := by decide +kernel
theorem dL_law_1206 : decode cL_law 1206 = .ok (.iaload, 1) := by decide +kernel
theorem dL_law_1207 : decode cL_law 1207 = .ok (.invokevirtual 151, 3) := by decide +kernel
theorem dL_law_1210 : decode cL_law 1210 = .ok (.pop, 1) := by decide +kernel
theorem dL_law_1211 : decode cL_law 1211 = .ok (.goto 179, 3) := by decide +kernel
theorem dL_law_1214 : decode cL_law 1214 = .ok (.aload_n 1, 1) := by decide +kernel
theorem dL_law_1215 : decode cL_law 1215 = .ok (.invokevirtual 152, 3) := by decide +kernel
theorem dL_law_1218 : decode cL_law 1218 = .ok (.pop, 1) := by decide +kernel
theorem dL_law_1219 : decode cL_law 1219 = .ok (.aload_n 2, 1) := by decide +kernel
theorem dL_law_1220 : decode cL_law 1220 = .ok (.invokevirtual 155, 3) := by decide +kernel
theorem dL_law_1223 : decode cL_law 1223 = .ok (.pop, 1) := by decide +kernel
theorem dL_law_1224 : decode cL_law 1224 = .ok (.goto 166, 3) := by decide +kernel
theorem dL_law_1227 : decode cL_law 1227 = .ok (.aload_n 1, 1) := by decide +kernel
theorem dL_law_1228 : decode cL_law 1228 = .ok (.aload_n 0, 1) := by decide +kernel
theorem dL_law_1229 : decode cL_law 1229 = .ok (.iload 4, 2) := by decide +kernel
theorem dL_law_1231 : decode cL_law 1231 = .ok (.iconst 1, 1) := by decide +kernel
theorem dL_law_1232 : decode cL_law 1232 = .ok (.iadd, 1) := by decide +kernel
theorem dL_law_1233 : decode cL_law 1233 = .ok (.iaload, 1) := by decide +kernel
theorem dL_law_1234 : decode cL_law 1234 = .ok (.invokevirtual 156, 3) := by decide +kernel
theorem dL_law_1237 : decode cL_law 1237 = .ok (.pop, 1) := by decide +kernel
theorem dL_law_1238 : decode cL_law 1238 = .ok (.aload_n 2, 1) := by decide +kernel
theorem dL_law_1239 : decode cL_law 1239 = .ok (.aload_n 0, 1) := by decide +kernel
theorem dL_law_1240 : decode cL_law 1240 = .ok (.iload 4, 2) := by decide +kernel
theorem dL_law_1242 : decode cL_law 1242 = .ok (.iconst 1, 1) := by decide +kernel
theorem dL_law_1243 : decode cL_law 1243 = .ok (.iadd, 1) := by decide +kernel
theorem dL_law_1244 : decode cL_law 1244 = .ok (.iaload, 1) := by decide +kernel
theorem dL_law_1245 : decode cL_law 1245 = .ok (.invokevirtual 159, 3) := by decide +kernel
theorem dL_law_1248 : decode cL_law 1248 = .ok (.pop, 1) := by decide +kernel
theorem dL_law_1249 : decode cL_law 1249 = .ok (.goto 141, 3) := by decide +kernel
theorem dL_law_1252 : decode cL_law 1252 = .ok (.aload_n 1, 1) := by decide +kernel
theorem dL_law_1253 : decode cL_law 1253 = .ok (.aload_n 0, 1) := by decide +kernel
theorem dL_law_1254 : decode cL_law 1254 = .ok (.iload 4, 2) := by decide +kernel
theorem dL_law_1256 : decode cL_law 1256 = .ok (.iconst 1, 1) := by decide +kernel
theorem dL_law_1257 : decode cL_law 1257 = .ok (.iadd, 1) := by decide +kernel
theorem dL_law_1258 : decode cL_law 1258 = .ok (.iaload, 1) := by decide +kernel
theorem dL_law_1259 : decode cL_law 1259 = .ok (.invokevirtual 160, 3) := by decide +kernel
theorem dL_law_1262 : decode cL_law 1262 = .ok (.pop, 1) := by decide +kernel
theorem dL_law_1263 : decode cL_law 1263 = .ok (.aload_n 2, 1) := by decide +kernel
theorem dL_law_1264 : decode cL_law 1264 = .ok (.aload_n 0, 1) := by decide +kernel
theorem dL_law_1265 : decode cL_law 1265 = .ok (.iload 4, 2) := by decide +kernel
theorem dL_law_1267 : decode cL_law 1267 = .ok (.iconst 1, 1) := by decide +kernel
theorem dL_law_1268 : decode cL_law 1268 = .ok (.iadd, 1) := by decide +kernel
theorem dL_law_1269 : decode cL_law 1269 = .ok (.iaload, 1) := by decide +kernel
theorem dL_law_1270 : decode cL_law 1270 = .ok (.invokevirtual 163, 3) := by decide +kernel
theorem dL_law_1273 : decode cL_law 1273 = .ok (.pop, 1) := by decide +kernel
theorem dL_law_1274 : decode cL_law 1274 = .ok (.goto 116, 3) := by decide +kernel
theorem dL_law_1277 : decode cL_law 1277 = .ok (.aload_n 1, 1) := by decide +kernel
theorem dL_law_1278 : decode cL_law 1278 = .ok (.invokevirtual 164, 3) := by decide +kernel
theorem dL_law_1281 : decode cL_law 1281 = .ok (.pop, 1) := by decide +kernel
theorem dL_law_1282 : decode cL_law 1282 = .ok (.aload_n 2, 1) := by decide +kernel
theorem dL_law_1283 : decode cL_law 1283 = .ok (.invokevirtual 167, 3) := by decide +kernel
theorem dL_law_1286 : decode cL_law 1286 = .ok (.pop, 1) := by decide +kernel
theorem dL_law_1287 : decode cL_law 1287 = .ok (.goto 103, 3) := by decide +kernel
theorem dL_law_1290 : decode cL_law 1290 = .ok (.aload_n 1, 1) := by decide +kernel
theorem dL_law_1291 : decode cL_law 1291 = .ok (.aload_n 0, 1) := by decide +kernel
theorem dL_law_1292 : decode cL_law 1292 = .ok (.iload 4, 2) := by decide +kernel
theorem dL_law_1294 : decode cL_law 1294 = .ok (.iconst 1, 1) := by decide +kernel
theorem dL_law_1295 : decode cL_law 1295 = .ok (.iadd, 1) := by decide +kernel
theorem dL_law_1296 : decode cL_law 1296 = .ok (.iaload, 1) := by decide +kernel
theorem dL_law_1297 : decode cL_law 1297 = .ok (.invokevirtual 168, 3) := by decide +kernel
theorem dL_law_1300 : decode cL_law 1300 = .ok (.pop, 1) := by decide +kernel
theorem dL_law_1301 : decode cL_law 1301 = .ok (.aload_n 2, 1) := by decide +kernel
theorem dL_law_1302 : decode cL_law 1302 = .ok (.aload_n 0, 1) := by decide +kernel
theorem dL_law_1303 : decode cL_law 1303 = .ok (.iload 4, 2) := by decide +kernel
theorem dL_law_1305 : decode cL_law 1305 = .ok (.iconst 1, 1) := by decide +kernel
theorem dL_law_1306 : decode cL_law 1306 = .ok (.iadd, 1) := by decide +kernel
theorem dL_law_1307 : decode cL_law 1307 = .ok (.iaload, 1) := by decide +kernel
theorem dL_law_1308 : decode cL_law 1308 = .ok (.invokevirtual 171, 3) := by decide +kernel
theorem dL_law_1311 : decode cL_law 1311 = .ok (.pop, 1) := by decide +kernel
theorem dL_law_1312 : decode cL_law 1312 = .ok (.goto 78, 3) := by decide +kernel
theorem dL_law_1315 : decode cL_law 1315 = .ok (.aload_n 1, 1) := by decide +kernel
theorem dL_law_1316 : decode cL_law 1316 = .ok (.aload_n 0, 1) := by decide +kernel
theorem dL_law_1317 : decode cL_law 1317 = .ok (.iload 4, 2) := by decide +kernel
theorem dL_law_1319 : decode cL_law 1319 = .ok (.iconst 1, 1) := by decide +kernel
theorem dL_law_1320 : decode cL_law 1320 = .ok (.iadd, 1) := by decide +kernel
theorem dL_law_1321 : decode cL_law 1321 = .ok (.iaload, 1) := by decide +kernel
theorem dL_law_1322 : decode cL_law 1322 = .ok (.invokevirtual 172, 3) := by decide +kernel
theorem dL_law_1325 : decode cL_law 1325 = .ok (.pop, 1) := by decide +kernel
theorem dL_law_1326 : decode cL_law 1326 = .ok (.aload_n 2, 1) := by decide +kernel
theorem dL_law_1327 : decode cL_law 1327 = .ok (.aload_n 0, 1) := by decide +kernel
theorem dL_law_1328 : decode cL_law 1328 = .ok (.iload 4, 2) := by decide +kernel
theorem dL_law_1330 : decode cL_law 1330 = .ok (.iconst 1, 1) := by decide +kernel
theorem dL_law_1331 : decode cL_law 1331 = .ok (.iadd, 1) := by decide +kernel
theorem dL_law_1332 : decode cL_law 1332 = .ok (.iaload, 1) := by decide +kernel
theorem dL_law_1333 : decode cL_law 1333 = .ok (.invokevirtual 175, 3) := by decide +kernel
theorem dL_law_1336 : decode cL_law 1336 = .ok (.pop, 1) := by decide +kernel
theorem dL_law_1337 : decode cL_law 1337 = .ok (.goto 53, 3) := by decide +kernel
theorem dL_law_1340 : decode cL_law 1340 = .ok (.aload_n 1, 1) := by decide +kernel
theorem dL_law_1341 : decode cL_law 1341 = .ok (.aload_n 0, 1) := by decide +kernel
theorem dL_law_1342 : decode cL_law 1342 = .ok (.iload 4, 2) := by decide +kernel
theorem dL_law_1344 : decode cL_law 1344 = .ok (.iconst 1, 1) := by decide +kernel
theorem dL_law_1345 : decode cL_law 1345 = .ok (.iadd, 1) := by decide +kernel
theorem dL_law_1346 : decode cL_law 1346 = .ok (.iaload, 1) := by decide +kernel
theorem dL_law_1347 : decode cL_law 1347 = .ok (.invokevirtual 176, 3) := by decide +kernel
theorem dL_law_1350 : decode cL_law 1350 = .ok (.pop, 1) := by decide +kernel
theorem dL_law_1351 : decode cL_law 1351 = .ok (.aload_n 2, 1) := by decide +kernel
theorem dL_law_1352 : decode cL_law 1352 = .ok (.aload_n 0, 1) := by decide +kernel
theorem dL_law_1353 : decode cL_law 1353 = .ok (.iload 4, 2) := by decide +kernel
theorem dL_law_1355 : decode cL_law 1355 = .ok (.iconst 1, 1) := by decide +kernel
theorem dL_law_1356 : decode cL_law 1356 = .ok (.iadd, 1) := by decide +kernel
theorem dL_law_1357 : decode cL_law 1357 = .ok (.iaload, 1) := by decide +kernel
theorem dL_law_1358 : decode cL_law 1358 = .ok (.invokevirtual 179, 3) := by decide +kernel
theorem dL_law_1361 : decode cL_law 1361 = .ok (.pop, 1) := by decide +kernel
theorem dL_law_1362 : decode cL_law 1362 = .ok (.goto 28, 3) := by decide +kernel
theorem dL_law_1365 : decode cL_law 1365 = .ok (.aload_n 1, 1) := by decide +kernel
theorem dL_law_1366 : decode cL_law 1366 = .ok (.aload_n 0, 1) := by decide +kernel
theorem dL_law_1367 : decode cL_law 1367 = .ok (.iload 4, 2) := by decide +kernel
theorem dL_law_1369 : decode cL_law 1369 = .ok (.iconst 1, 1) := by decide +kernel
theorem dL_law_1370 : decode cL_law 1370 = .ok (.iadd, 1) := by decide +kernel
theorem dL_law_1371 : decode cL_law 1371 = .ok (.iaload, 1) := by decide +kernel
theorem dL_law_1372 : decode cL_law 1372 = .ok (.invokevirtual 180, 3) := by decide +kernel
theorem dL_law_1375 : decode cL_law 1375 = .ok (.pop, 1) := by decide +kernel
theorem dL_law_1376 : decode cL_law 1376 = .ok (.aload_n 2, 1) := by decide +kernel
theorem dL_law_1377 : decode cL_law 1377 = .ok (.aload_n 0, 1) := by decide +kernel
theorem dL_law_1378 : decode cL_law 1378 = .ok (.iload 4, 2) := by decide +kernel
theorem dL_law_1380 : decode cL_law 1380 = .ok (.iconst 1, 1) := by decide +kernel
theorem dL_law_1381 : decode cL_law 1381 = .ok (.iadd, 1) := by decide +kernel
theorem dL_law_1382 : decode cL_law 1382 = .ok (.iaload, 1) := by decide +kernel
theorem dL_law_1383 : decode cL_law 1383 = .ok (.invokevirtual 183, 3) := by decide +kernel
theorem dL_law_1386 : decode cL_law 1386 = .ok (.pop, 1) := by decide +kernel
theorem dL_law_1387 : decode cL_law 1387 = .ok (.goto 3, 3) := by decide +kernel
theorem dL_law_1390 : decode cL_law 1390 = .ok (.iinc 4 6, 3) := by decide +kernel
theorem dL_law_1393 : decode cL_law 1393 = .ok (.goto (-1370), 3) := by decide +kernel
theorem dL_law_1396 : decode cL_law 1396 = .ok (.iconst 1, 1) := by decide +kernel
theorem dL_law_1397 : decode cL_law 1397 = .ok (.ireturn, 1) := by decide +kernel
