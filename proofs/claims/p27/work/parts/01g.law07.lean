theorem dL_acts_1028 : decode cL_acts 1028 = .ok (.istore 38, 2) := by decide +kernel
theorem dL_acts_1030 : decode cL_acts 1030 = .ok (.iload 38, 2) := by decide +kernel
theorem dL_acts_1032 : decode cL_acts 1032 = .ok (.bipush 10, 2) := by decide +kernel
theorem dL_acts_1034 : decode cL_acts 1034 = .ok (.if_icmp .ge 188, 3) := by decide +kernel
theorem dL_acts_1037 : decode cL_acts 1037 = .ok (.aload_n 3, 1) := by decide +kernel
theorem dL_acts_1038 : decode cL_acts 1038 = .ok (.aload 4, 2) := by decide +kernel
theorem dL_acts_1040 : decode cL_acts 1040 = .ok (.iload 30, 2) := by decide +kernel
theorem dL_acts_1042 : decode cL_acts 1042 = .ok (.iload 33, 2) := by decide +kernel
theorem dL_acts_1044 : decode cL_acts 1044 = .ok (.iload 38, 2) := by decide +kernel
theorem dL_acts_1046 : decode cL_acts 1046 = .ok (.invokestatic 19, 3) := by decide +kernel
theorem dL_acts_1049 : decode cL_acts 1049 = .ok (.istore 39, 2) := by decide +kernel
theorem dL_acts_1051 : decode cL_acts 1051 = .ok (.lload 34, 2) := by decide +kernel
theorem dL_acts_1053 : decode cL_acts 1053 = .ok (.bipush 11, 2) := by decide +kernel
theorem dL_acts_1055 : decode cL_acts 1055 = .ok (.iload 38, 2) := by decide +kernel
theorem dL_acts_1057 : decode cL_acts 1057 = .ok (.invokestatic 15, 3) := by decide +kernel
theorem dL_acts_1060 : decode cL_acts 1060 = .ok (.istore 40, 2) := by decide +kernel
theorem dL_acts_1062 : decode cL_acts 1062 = .ok (.bipush 10, 2) := by decide +kernel
theorem dL_acts_1064 : decode cL_acts 1064 = .ok (.istore 41, 2) := by decide +kernel
theorem dL_acts_1066 : decode cL_acts 1066 = .ok (.bipush 9, 2) := by decide +kernel
theorem dL_acts_1068 : decode cL_acts 1068 = .ok (.istore 42, 2) := by decide +kernel
theorem dL_acts_1070 : decode cL_acts 1070 = .ok (.iload 42, 2) := by decide +kernel
theorem dL_acts_1072 : decode cL_acts 1072 = .ok (.ifCond .lt 42, 3) := by decide +kernel
theorem dL_acts_1075 : decode cL_acts 1075 = .ok (.iload 39, 2) := by decide +kernel
theorem dL_acts_1077 : decode cL_acts 1077 = .ok (.bipush 10, 2) := by decide +kernel
theorem dL_acts_1079 : decode cL_acts 1079 = .ok (.if_icmp .ge 35, 3) := by decide +kernel
theorem dL_acts_1082 : decode cL_acts 1082 = .ok (.aload 4, 2) := by decide +kernel
theorem dL_acts_1084 : decode cL_acts 1084 = .ok (.iload 31, 2) := by decide +kernel
theorem dL_acts_1086 : decode cL_acts 1086 = .ok (.laload, 1) := by decide +kernel
theorem dL_acts_1087 : decode cL_acts 1087 = .ok (.bipush 10, 2) := by decide +kernel
theorem dL_acts_1089 : decode cL_acts 1089 = .ok (.iload 42, 2) := by decide +kernel
theorem dL_acts_1091 : decode cL_acts 1091 = .ok (.invokestatic 15, 3) := by decide +kernel
theorem dL_acts_1094 : decode cL_acts 1094 = .ok (.iload 39, 2) := by decide +kernel
theorem dL_acts_1096 : decode cL_acts 1096 = .ok (.if_icmp .ne 8, 3) := by decide +kernel
theorem dL_acts_1099 : decode cL_acts 1099 = .ok (.iload 42, 2) := by decide +kernel
theorem dL_acts_1101 : decode cL_acts 1101 = .ok (.goto 5, 3) := by decide +kernel
theorem dL_acts_1104 : decode cL_acts 1104 = .ok (.iload 41, 2) := by decide +kernel
theorem dL_acts_1106 : decode cL_acts 1106 = .ok (.istore 41, 2) := by decide +kernel
theorem dL_acts_1108 : decode cL_acts 1108 = .ok (.iinc 42 (-1), 3) := by decide +kernel
theorem dL_acts_1111 : decode cL_acts 1111 = .ok (.goto (-41), 3) := by decide +kernel
theorem dL_acts_1114 : decode cL_acts 1114 = .ok (.iload 37, 2) := by decide +kernel
theorem dL_acts_1116 : decode cL_acts 1116 = .ok (.ifCond .ne 17, 3) := by decide +kernel
theorem dL_acts_1119 : decode cL_acts 1119 = .ok (.iload 39, 2) := by decide +kernel
theorem dL_acts_1121 : decode cL_acts 1121 = .ok (.bipush 10, 2) := by decide +kernel
theorem dL_acts_1123 : decode cL_acts 1123 = .ok (.if_icmp .ge 14, 3) := by decide +kernel
theorem dL_acts_1126 : decode cL_acts 1126 = .ok (.iload 41, 2) := by decide +kernel
theorem dL_acts_1128 : decode cL_acts 1128 = .ok (.bipush 10, 2) := by decide +kernel
theorem dL_acts_1130 : decode cL_acts 1130 = .ok (.if_icmp .ne 7, 3) := by decide +kernel
theorem dL_acts_1133 : decode cL_acts 1133 = .ok (.iconst 1, 1) := by decide +kernel
theorem dL_acts_1134 : decode cL_acts 1134 = .ok (.goto 4, 3) := by decide +kernel
theorem dL_acts_1137 : decode cL_acts 1137 = .ok (.iconst 0, 1) := by decide +kernel
theorem dL_acts_1138 : decode cL_acts 1138 = .ok (.istore 37, 2) := by decide +kernel
theorem dL_acts_1140 : decode cL_acts 1140 = .ok (.iload 39, 2) := by decide +kernel
theorem dL_acts_1142 : decode cL_acts 1142 = .ok (.bipush 10, 2) := by decide +kernel
theorem dL_acts_1144 : decode cL_acts 1144 = .ok (.if_icmp .ge 32, 3) := by decide +kernel
theorem dL_acts_1147 : decode cL_acts 1147 = .ok (.iload 40, 2) := by decide +kernel
theorem dL_acts_1149 : decode cL_acts 1149 = .ok (.bipush 10, 2) := by decide +kernel
theorem dL_acts_1151 : decode cL_acts 1151 = .ok (.if_icmp .ge 25, 3) := by decide +kernel
theorem dL_acts_1154 : decode cL_acts 1154 = .ok (.aload 4, 2) := by decide +kernel
theorem dL_acts_1156 : decode cL_acts 1156 = .ok (.iload 31, 2) := by decide +kernel
theorem dL_acts_1158 : decode cL_acts 1158 = .ok (.laload, 1) := by decide +kernel
theorem dL_acts_1159 : decode cL_acts 1159 = .ok (.bipush 10, 2) := by decide +kernel
theorem dL_acts_1161 : decode cL_acts 1161 = .ok (.iload 40, 2) := by decide +kernel
theorem dL_acts_1163 : decode cL_acts 1163 = .ok (.invokestatic 15, 3) := by decide +kernel
theorem dL_acts_1166 : decode cL_acts 1166 = .ok (.iload 39, 2) := by decide +kernel
theorem dL_acts_1168 : decode cL_acts 1168 = .ok (.if_icmp .ne 8, 3) := by decide +kernel
theorem dL_acts_1171 : decode cL_acts 1171 = .ok (.iload 40, 2) := by decide +kernel
theorem dL_acts_1173 : decode cL_acts 1173 = .ok (.goto 5, 3) := by decide +kernel
theorem dL_acts_1176 : decode cL_acts 1176 = .ok (.iload 41, 2) := by decide +kernel
theorem dL_acts_1178 : decode cL_acts 1178 = .ok (.istore 41, 2) := by decide +kernel
theorem dL_acts_1180 : decode cL_acts 1180 = .ok (.iload 36, 2) := by decide +kernel
theorem dL_acts_1182 : decode cL_acts 1182 = .ok (.iload 41, 2) := by decide +kernel
theorem dL_acts_1184 : decode cL_acts 1184 = .ok (.iload 40, 2) := by decide +kernel
theorem dL_acts_1186 : decode cL_acts 1186 = .ok (.if_icmp .ne 7, 3) := by decide +kernel
theorem dL_acts_1189 : decode cL_acts 1189 = .ok (.iconst 0, 1) := by decide +kernel
theorem dL_acts_1190 : decode cL_acts 1190 = .ok (.goto 4, 3) := by decide +kernel
theorem dL_acts_1193 : decode cL_acts 1193 = .ok (.iconst 1, 1) := by decide +kernel
theorem dL_acts_1194 : decode cL_acts 1194 = .ok (.iadd, 1) := by decide +kernel
theorem dL_acts_1195 : decode cL_acts 1195 = .ok (.istore 36, 2) := by decide +kernel
theorem dL_acts_1197 : decode cL_acts 1197 = .ok (.lload 34, 2) := by decide +kernel
theorem dL_acts_1199 : decode cL_acts 1199 = .ok (.iload 41, 2) := by decide +kernel
theorem dL_acts_1201 : decode cL_acts 1201 = .ok (.iload 40, 2) := by decide +kernel
theorem dL_acts_1203 : decode cL_acts 1203 = .ok (.isub, 1) := by decide +kernel
theorem dL_acts_1204 : decode cL_acts 1204 = .ok (.i2l, 1) := by decide +kernel
theorem dL_acts_1205 : decode cL_acts 1205 = .ok (.bipush 11, 2) := by decide +kernel
theorem dL_acts_1207 : decode cL_acts 1207 = .ok (.iload 38, 2) := by decide +kernel
theorem dL_acts_1209 : decode cL_acts 1209 = .ok (.invokestatic 9, 3) := by decide +kernel
theorem dL_acts_1212 : decode cL_acts 1212 = .ok (.lmul, 1) := by decide +kernel
theorem dL_acts_1213 : decode cL_acts 1213 = .ok (.ladd, 1) := by decide +kernel
theorem dL_acts_1214 : decode cL_acts 1214 = .ok (.lstore 34, 2) := by decide +kernel
theorem dL_acts_1216 : decode cL_acts 1216 = .ok (.iinc 38 1, 3) := by decide +kernel
theorem dL_acts_1219 : decode cL_acts 1219 = .ok (.goto (-189), 3) := by decide +kernel
theorem dL_acts_1222 : decode cL_acts 1222 = .ok (.iload 37, 2) := by decide +kernel
theorem dL_acts_1224 : decode cL_acts 1224 = .ok (.ifCond .eq 22, 3) := by decide +kernel
theorem dL_acts_1227 : decode cL_acts 1227 = .ok (.aload_n 0, 1) := by decide +kernel
theorem dL_acts_1228 : decode cL_acts 1228 = .ok (.iload 13, 2) := by decide +kernel
theorem dL_acts_1230 : decode cL_acts 1230 = .ok (.iload 30, 2) := by decide +kernel
theorem dL_acts_1232 : decode cL_acts 1232 = .ok (.invokevirtual 86, 3) := by decide +kernel
theorem dL_acts_1235 : decode cL_acts 1235 = .ok (.bipush (-2), 2) := by decide +kernel
theorem dL_acts_1237 : decode cL_acts 1237 = .ok (.if_icmp .ne 7, 3) := by decide +kernel
theorem dL_acts_1240 : decode cL_acts 1240 = .ok (.iconst 1, 1) := by decide +kernel
theorem dL_acts_1241 : decode cL_acts 1241 = .ok (.goto 4, 3) := by decide +kernel
theorem dL_acts_1244 : decode cL_acts 1244 = .ok (.iconst 0, 1) := by decide +kernel
theorem dL_acts_1245 : decode cL_acts 1245 = .ok (.ireturn, 1) := by decide +kernel
theorem dL_acts_1246 : decode cL_acts 1246 = .ok (.aload_n 3, 1) := by decide +kernel
theorem dL_acts_1247 : decode cL_acts 1247 = .ok (.iconst 4, 1) := by decide +kernel
theorem dL_acts_1248 : decode cL_acts 1248 = .ok (.iload 31, 2) := by decide +kernel
theorem dL_acts_1250 : decode cL_acts 1250 = .ok (.imul, 1) := by decide +kernel
theorem dL_acts_1251 : decode cL_acts 1251 = .ok (.iload 32, 2) := by decide +kernel
theorem dL_acts_1253 : decode cL_acts 1253 = .ok (.iadd, 1) := by decide +kernel
theorem dL_acts_1254 : decode cL_acts 1254 = .ok (.lload 34, 2) := by decide +kernel
theorem dL_acts_1256 : decode cL_acts 1256 = .ok (.lastore, 1) := by decide +kernel
theorem dL_acts_1257 : decode cL_acts 1257 = .ok (.aload_n 2, 1) := by decide +kernel
theorem dL_acts_1258 : decode cL_acts 1258 = .ok (.iload 31, 2) := by decide +kernel
theorem dL_acts_1260 : decode cL_acts 1260 = .ok (.dup2, 1) := by decide +kernel
theorem dL_acts_1261 : decode cL_acts 1261 = .ok (.iaload, 1) := by decide +kernel
theorem dL_acts_1262 : decode cL_acts 1262 = .ok (.iload 36, 2) := by decide +kernel
theorem dL_acts_1264 : decode cL_acts 1264 = .ok (.ifCond .le 7, 3) := by decide +kernel
theorem dL_acts_1267 : decode cL_acts 1267 = .ok (.iconst 1, 1) := by decide +kernel
theorem dL_acts_1268 : decode cL_acts 1268 = .ok (.goto 4, 3) := by decide +kernel
theorem dL_acts_1271 : decode cL_acts 1271 = .ok (.iconst 0, 1) := by decide +kernel
theorem dL_acts_1272 : decode cL_acts 1272 = .ok (.iadd, 1) := by decide +kernel
theorem dL_acts_1273 : decode cL_acts 1273 = .ok (.iastore, 1) := by decide +kernel
theorem dL_acts_1274 : decode cL_acts 1274 = .ok (.aload_n 0, 1) := by decide +kernel
theorem dL_acts_1275 : decode cL_acts 1275 = .ok (.iload 13, 2) := by decide +kernel
theorem dL_acts_1277 : decode cL_acts 1277 = .ok (.iload 30, 2) := by decide +kernel
theorem dL_acts_1279 : decode cL_acts 1279 = .ok (.invokevirtual 86, 3) := by decide +kernel
theorem dL_acts_1282 : decode cL_acts 1282 = .ok (.iload 36, 2) := by decide +kernel
theorem dL_acts_1284 : decode cL_acts 1284 = .ok (.if_icmp .ne 7, 3) := by decide +kernel
theorem dL_acts_1287 : decode cL_acts 1287 = .ok (.iconst 1, 1) := by decide +kernel
theorem dL_acts_1288 : decode cL_acts 1288 = .ok (.goto 4, 3) := by decide +kernel
theorem dL_acts_1291 : decode cL_acts 1291 = .ok (.iconst 0, 1) := by decide +kernel
theorem dL_acts_1292 : decode cL_acts 1292 = .ok (.ireturn, 1) := by decide +kernel
theorem dL_acts_1293 : decode cL_acts 1293 = .ok (.iconst 1, 1) := by decide +kernel
theorem dL_acts_1294 : decode cL_acts 1294 = .ok (.istore 38, 2) := by decide +kernel
theorem dL_acts_1296 : decode cL_acts 1296 = .ok (.iconst 0, 1) := by decide +kernel
theorem dL_acts_1297 : decode cL_acts 1297 = .ok (.istore 39, 2) := by decide +kernel
theorem dL_acts_1299 : decode cL_acts 1299 = .ok (.iload 39, 2) := by decide +kernel
theorem dL_acts_1301 : decode cL_acts 1301 = .ok (.iconst 4, 1) := by decide +kernel
theorem dL_acts_1302 : decode cL_acts 1302 = .ok (.if_icmp .ge 48, 3) := by decide +kernel
theorem dL_acts_1305 : decode cL_acts 1305 = .ok (.aload_n 1, 1) := by decide +kernel
theorem dL_acts_1306 : decode cL_acts 1306 = .ok (.iload 8, 2) := by decide +kernel
theorem dL_acts_1308 : decode cL_acts 1308 = .ok (.iload 39, 2) := by decide +kernel
theorem dL_acts_1310 : decode cL_acts 1310 = .ok (.invokestatic 89, 3) := by decide +kernel
theorem dL_acts_1313 : decode cL_acts 1313 = .ok (.istore 40, 2) := by decide +kernel
theorem dL_acts_1315 : decode cL_acts 1315 = .ok (.iload 38, 2) := by decide +kernel
theorem dL_acts_1317 : decode cL_acts 1317 = .ok (.ifCond .eq 24, 3) := by decide +kernel
theorem dL_acts_1320 : decode cL_acts 1320 = .ok (.iload 40, 2) := by decide +kernel
theorem dL_acts_1322 : decode cL_acts 1322 = .ok (.ifCond .lt 15, 3) := by decide +kernel
theorem dL_acts_1325 : decode cL_acts 1325 = .ok (.aload_n 1, 1) := by decide +kernel
theorem dL_acts_1326 : decode cL_acts 1326 = .ok (.iconst 4, 1) := by decide +kernel
theorem dL_acts_1327 : decode cL_acts 1327 = .ok (.iaload, 1) := by decide +kernel
theorem dL_acts_1328 : decode cL_acts 1328 = .ok (.iload 40, 2) := by decide +kernel
theorem dL_acts_1330 : decode cL_acts 1330 = .ok (.ishr, 1) := by decide +kernel
theorem dL_acts_1331 : decode cL_acts 1331 = .ok (.iconst 1, 1) := by decide +kernel
theorem dL_acts_1332 : decode cL_acts 1332 = .ok (.iand, 1) := by decide +kernel
theorem dL_acts_1333 : decode cL_acts 1333 = .ok (.iconst 1, 1) := by decide +kernel
theorem dL_acts_1334 : decode cL_acts 1334 = .ok (.if_icmp .ne 7, 3) := by decide +kernel
theorem dL_acts_1337 : decode cL_acts 1337 = .ok (.iconst 1, 1) := by decide +kernel
theorem dL_acts_1338 : decode cL_acts 1338 = .ok (.goto 4, 3) := by decide +kernel
theorem dL_acts_1341 : decode cL_acts 1341 = .ok (.iconst 0, 1) := by decide +kernel
theorem dL_acts_1342 : decode cL_acts 1342 = .ok (.istore 38, 2) := by decide +kernel
theorem dL_acts_1344 : decode cL_acts 1344 = .ok (.iinc 39 1, 3) := by decide +kernel
theorem dL_acts_1347 : decode cL_acts 1347 = .ok (.goto (-48), 3) := by decide +kernel
theorem dL_acts_1350 : decode cL_acts 1350 = .ok (.aload_n 2, 1) := by decide +kernel
theorem dL_acts_1351 : decode cL_acts 1351 = .ok (.bipush 6, 2) := by decide +kernel
theorem dL_acts_1353 : decode cL_acts 1353 = .ok (.iload 8, 2) := by decide +kernel
