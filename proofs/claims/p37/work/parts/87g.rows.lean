theorem dL_law_1161 : decode cL_law 1161 = .ok (.ifCond .ne 7, 3) := by decide +kernel
theorem dL_law_1164 : decode cL_law 1164 = .ok (.iconst 0, 1) := by decide +kernel
theorem dL_law_1165 : decode cL_law 1165 = .ok (.goto 10, 3) := by decide +kernel
theorem dL_law_1168 : decode cL_law 1168 = .ok (.iconst 1, 1) := by decide +kernel
theorem dL_law_1169 : decode cL_law 1169 = .ok (.iload 15, 2) := by decide +kernel
theorem dL_law_1171 : decode cL_law 1171 = .ok (.bipush 9, 2) := by decide +kernel
theorem dL_law_1173 : decode cL_law 1173 = .ok (.irem, 1) := by decide +kernel
theorem dL_law_1174 : decode cL_law 1174 = .ok (.iadd, 1) := by decide +kernel
theorem dL_law_1175 : decode cL_law 1175 = .ok (.istore 19, 2) := by decide +kernel
theorem dL_law_1177 : decode cL_law 1177 = .ok (.aload_n 1, 1) := by decide +kernel
theorem dL_law_1178 : decode cL_law 1178 = .ok (.invokevirtual 180, 3) := by decide +kernel
theorem dL_law_1181 : decode cL_law 1181 = .ok (.istore 20, 2) := by decide +kernel
theorem dL_law_1183 : decode cL_law 1183 = .ok (.aload_n 1, 1) := by decide +kernel
theorem dL_law_1184 : decode cL_law 1184 = .ok (.iload 19, 2) := by decide +kernel
theorem dL_law_1186 : decode cL_law 1186 = .ok (.invokestatic 183, 3) := by decide +kernel
theorem dL_law_1189 : decode cL_law 1189 = .ok (.istore 17, 2) := by decide +kernel
theorem dL_law_1191 : decode cL_law 1191 = .ok (.iload 17, 2) := by decide +kernel
theorem dL_law_1193 : decode cL_law 1193 = .ok (.ifCond .ge 7, 3) := by decide +kernel
theorem dL_law_1196 : decode cL_law 1196 = .ok (.iconst 1, 1) := by decide +kernel
theorem dL_law_1197 : decode cL_law 1197 = .ok (.goto 4, 3) := by decide +kernel
theorem dL_law_1200 : decode cL_law 1200 = .ok (.iconst 0, 1) := by decide +kernel
theorem dL_law_1201 : decode cL_law 1201 = .ok (.istore 18, 2) := by decide +kernel
theorem dL_law_1203 : decode cL_law 1203 = .ok (.iload 17, 2) := by decide +kernel
theorem dL_law_1205 : decode cL_law 1205 = .ok (.ifCond .lt 15, 3) := by decide +kernel
theorem dL_law_1208 : decode cL_law 1208 = .ok (.aload_n 1, 1) := by decide +kernel
theorem dL_law_1209 : decode cL_law 1209 = .ok (.invokevirtual 180, 3) := by decide +kernel
theorem dL_law_1212 : decode cL_law 1212 = .ok (.iload 20, 2) := by decide +kernel
theorem dL_law_1214 : decode cL_law 1214 = .ok (.iload 19, 2) := by decide +kernel
theorem dL_law_1216 : decode cL_law 1216 = .ok (.iadd, 1) := by decide +kernel
theorem dL_law_1217 : decode cL_law 1217 = .ok (.if_icmp .ne 7, 3) := by decide +kernel
theorem dL_law_1220 : decode cL_law 1220 = .ok (.iconst 1, 1) := by decide +kernel
theorem dL_law_1221 : decode cL_law 1221 = .ok (.goto 4, 3) := by decide +kernel
theorem dL_law_1224 : decode cL_law 1224 = .ok (.iconst 0, 1) := by decide +kernel
theorem dL_law_1225 : decode cL_law 1225 = .ok (.istore 8, 2) := by decide +kernel
theorem dL_law_1227 : decode cL_law 1227 = .ok (.iinc 9 3, 3) := by decide +kernel
theorem dL_law_1230 : decode cL_law 1230 = .ok (.iload 8, 2) := by decide +kernel
theorem dL_law_1232 : decode cL_law 1232 = .ok (.iload 18, 2) := by decide +kernel
theorem dL_law_1234 : decode cL_law 1234 = .ok (.ifCond .eq 13, 3) := by decide +kernel
theorem dL_law_1237 : decode cL_law 1237 = .ok (.aload_n 1, 1) := by decide +kernel
theorem dL_law_1238 : decode cL_law 1238 = .ok (.invokestatic 122, 3) := by decide +kernel
theorem dL_law_1241 : decode cL_law 1241 = .ok (.lload 11, 2) := by decide +kernel
theorem dL_law_1243 : decode cL_law 1243 = .ok (.lcmp, 1) := by decide +kernel
theorem dL_law_1244 : decode cL_law 1244 = .ok (.ifCond .ne 7, 3) := by decide +kernel
theorem dL_law_1247 : decode cL_law 1247 = .ok (.iconst 1, 1) := by decide +kernel
theorem dL_law_1248 : decode cL_law 1248 = .ok (.goto 4, 3) := by decide +kernel
theorem dL_law_1251 : decode cL_law 1251 = .ok (.iconst 0, 1) := by decide +kernel
theorem dL_law_1252 : decode cL_law 1252 = .ok (.iand, 1) := by decide +kernel
theorem dL_law_1253 : decode cL_law 1253 = .ok (.istore 8, 2) := by decide +kernel
theorem dL_law_1255 : decode cL_law 1255 = .ok (.iload 8, 2) := by decide +kernel
theorem dL_law_1257 : decode cL_law 1257 = .ok (.aload_n 1, 1) := by decide +kernel
theorem dL_law_1258 : decode cL_law 1258 = .ok (.iload 6, 2) := by decide +kernel
theorem dL_law_1260 : decode cL_law 1260 = .ok (.aload_n 3, 1) := by decide +kernel
theorem dL_law_1261 : decode cL_law 1261 = .ok (.invokestatic 185, 3) := by decide +kernel
theorem dL_law_1264 : decode cL_law 1264 = .ok (.ifCond .eq 21, 3) := by decide +kernel
theorem dL_law_1267 : decode cL_law 1267 = .ok (.aload_n 1, 1) := by decide +kernel
theorem dL_law_1268 : decode cL_law 1268 = .ok (.iload 7, 2) := by decide +kernel
theorem dL_law_1270 : decode cL_law 1270 = .ok (.aload 5, 2) := by decide +kernel
theorem dL_law_1272 : decode cL_law 1272 = .ok (.aload_n 2, 1) := by decide +kernel
theorem dL_law_1273 : decode cL_law 1273 = .ok (.aload 4, 2) := by decide +kernel
theorem dL_law_1275 : decode cL_law 1275 = .ok (.invokestatic 189, 3) := by decide +kernel
theorem dL_law_1278 : decode cL_law 1278 = .ok (.ifCond .eq 7, 3) := by decide +kernel
theorem dL_law_1281 : decode cL_law 1281 = .ok (.iconst 1, 1) := by decide +kernel
theorem dL_law_1282 : decode cL_law 1282 = .ok (.goto 4, 3) := by decide +kernel
theorem dL_law_1285 : decode cL_law 1285 = .ok (.iconst 0, 1) := by decide +kernel
theorem dL_law_1286 : decode cL_law 1286 = .ok (.iand, 1) := by decide +kernel
theorem dL_law_1287 : decode cL_law 1287 = .ok (.istore 8, 2) := by decide +kernel
theorem dL_law_1289 : decode cL_law 1289 = .ok (.iinc 10 1, 3) := by decide +kernel
theorem dL_law_1292 : decode cL_law 1292 = .ok (.goto (-1139), 3) := by decide +kernel
theorem dL_law_1295 : decode cL_law 1295 = .ok (.iload 8, 2) := by decide +kernel
theorem dL_law_1297 : decode cL_law 1297 = .ok (.ifCond .eq 16, 3) := by decide +kernel
theorem dL_law_1300 : decode cL_law 1300 = .ok (.aload_n 1, 1) := by decide +kernel
theorem dL_law_1301 : decode cL_law 1301 = .ok (.iload 7, 2) := by decide +kernel
theorem dL_law_1303 : decode cL_law 1303 = .ok (.invokestatic 193, 3) := by decide +kernel
theorem dL_law_1306 : decode cL_law 1306 = .ok (.ifCond .eq 7, 3) := by decide +kernel
theorem dL_law_1309 : decode cL_law 1309 = .ok (.iconst 1, 1) := by decide +kernel
theorem dL_law_1310 : decode cL_law 1310 = .ok (.goto 4, 3) := by decide +kernel
theorem dL_law_1313 : decode cL_law 1313 = .ok (.iconst 0, 1) := by decide +kernel
theorem dL_law_1314 : decode cL_law 1314 = .ok (.ireturn, 1) := by decide +kernel
