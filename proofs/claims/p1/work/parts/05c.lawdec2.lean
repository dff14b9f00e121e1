theorem ydb_2_0 : (decode cL_law 1112 = .ok (.iload 6, 2)) ∧ (decode cL_law 1114 = .ok (.if_icmp .eq 5, 3)) ∧ (decode cL_law 1119 = .ok (.iload 6, 2)) ∧ (decode cL_law 1121 = .ok (.ifCond .ne 15, 3)) ∧ (decode cL_law 1136 = .ok (.goto 2001, 3)) ∧ (decode cL_law 1139 = .ok (.aload_n 1, 1)) ∧ (decode cL_law 1140 = .ok (.aload_n 0, 1)) ∧ (decode cL_law 1141 = .ok (.iload 5, 2)) ∧ (decode cL_law 1143 = .ok (.iconst 1, 1)) ∧ (decode cL_law 1144 = .ok (.iadd, 1)) ∧ (decode cL_law 1145 = .ok (.iaload, 1)) ∧ (decode cL_law 1146 = .ok (.aload_n 0, 1)) := by decide +kernel
theorem dL_law_1112 : decode cL_law 1112 = .ok (.iload 6, 2) := ydb_2_0.1
theorem dL_law_1114 : decode cL_law 1114 = .ok (.if_icmp .eq 5, 3) := ydb_2_0.2.1
theorem dL_law_1119 : decode cL_law 1119 = .ok (.iload 6, 2) := ydb_2_0.2.2.1
theorem dL_law_1121 : decode cL_law 1121 = .ok (.ifCond .ne 15, 3) := ydb_2_0.2.2.2.1
theorem dL_law_1136 : decode cL_law 1136 = .ok (.goto 2001, 3) := ydb_2_0.2.2.2.2.1
theorem dL_law_1139 : decode cL_law 1139 = .ok (.aload_n 1, 1) := ydb_2_0.2.2.2.2.2.1
theorem dL_law_1140 : decode cL_law 1140 = .ok (.aload_n 0, 1) := ydb_2_0.2.2.2.2.2.2.1
theorem dL_law_1141 : decode cL_law 1141 = .ok (.iload 5, 2) := ydb_2_0.2.2.2.2.2.2.2.1
theorem dL_law_1143 : decode cL_law 1143 = .ok (.iconst 1, 1) := ydb_2_0.2.2.2.2.2.2.2.2.1
theorem dL_law_1144 : decode cL_law 1144 = .ok (.iadd, 1) := ydb_2_0.2.2.2.2.2.2.2.2.2.1
theorem dL_law_1145 : decode cL_law 1145 = .ok (.iaload, 1) := ydb_2_0.2.2.2.2.2.2.2.2.2.2.1
theorem dL_law_1146 : decode cL_law 1146 = .ok (.aload_n 0, 1) := ydb_2_0.2.2.2.2.2.2.2.2.2.2.2
theorem ydb_2_12 : (decode cL_law 1147 = .ok (.iload 5, 2)) ∧ (decode cL_law 1149 = .ok (.iconst 2, 1)) ∧ (decode cL_law 1150 = .ok (.iadd, 1)) ∧ (decode cL_law 1151 = .ok (.iaload, 1)) ∧ (decode cL_law 1152 = .ok (.aload_n 0, 1)) ∧ (decode cL_law 1153 = .ok (.iload 5, 2)) ∧ (decode cL_law 1155 = .ok (.iconst 3, 1)) ∧ (decode cL_law 1156 = .ok (.iadd, 1)) ∧ (decode cL_law 1157 = .ok (.iaload, 1)) ∧ (decode cL_law 1158 = .ok (.aload_n 3, 1)) ∧ (decode cL_law 1159 = .ok (.invokestatic 211, 3)) ∧ (decode cL_law 1162 = .ok (.istore 6, 2)) := by decide +kernel
theorem dL_law_1147 : decode cL_law 1147 = .ok (.iload 5, 2) := ydb_2_12.1
theorem dL_law_1149 : decode cL_law 1149 = .ok (.iconst 2, 1) := ydb_2_12.2.1
theorem dL_law_1150 : decode cL_law 1150 = .ok (.iadd, 1) := ydb_2_12.2.2.1
theorem dL_law_1151 : decode cL_law 1151 = .ok (.iaload, 1) := ydb_2_12.2.2.2.1
theorem dL_law_1152 : decode cL_law 1152 = .ok (.aload_n 0, 1) := ydb_2_12.2.2.2.2.1
theorem dL_law_1153 : decode cL_law 1153 = .ok (.iload 5, 2) := ydb_2_12.2.2.2.2.2.1
theorem dL_law_1155 : decode cL_law 1155 = .ok (.iconst 3, 1) := ydb_2_12.2.2.2.2.2.2.1
theorem dL_law_1156 : decode cL_law 1156 = .ok (.iadd, 1) := ydb_2_12.2.2.2.2.2.2.2.1
theorem dL_law_1157 : decode cL_law 1157 = .ok (.iaload, 1) := ydb_2_12.2.2.2.2.2.2.2.2.1
theorem dL_law_1158 : decode cL_law 1158 = .ok (.aload_n 3, 1) := ydb_2_12.2.2.2.2.2.2.2.2.2.1
theorem dL_law_1159 : decode cL_law 1159 = .ok (.invokestatic 211, 3) := ydb_2_12.2.2.2.2.2.2.2.2.2.2.1
theorem dL_law_1162 : decode cL_law 1162 = .ok (.istore 6, 2) := ydb_2_12.2.2.2.2.2.2.2.2.2.2.2
theorem ydb_2_24 : (decode cL_law 1164 = .ok (.aload_n 2, 1)) ∧ (decode cL_law 1165 = .ok (.aload_n 0, 1)) ∧ (decode cL_law 1166 = .ok (.iload 5, 2)) ∧ (decode cL_law 1168 = .ok (.iconst 1, 1)) ∧ (decode cL_law 1169 = .ok (.iadd, 1)) ∧ (decode cL_law 1170 = .ok (.iaload, 1)) ∧ (decode cL_law 1171 = .ok (.aload_n 0, 1)) ∧ (decode cL_law 1172 = .ok (.iload 5, 2)) ∧ (decode cL_law 1174 = .ok (.iconst 2, 1)) ∧ (decode cL_law 1175 = .ok (.iadd, 1)) ∧ (decode cL_law 1176 = .ok (.iaload, 1)) ∧ (decode cL_law 1177 = .ok (.aload_n 0, 1)) := by decide +kernel
theorem dL_law_1164 : decode cL_law 1164 = .ok (.aload_n 2, 1) := ydb_2_24.1
theorem dL_law_1165 : decode cL_law 1165 = .ok (.aload_n 0, 1) := ydb_2_24.2.1
theorem dL_law_1166 : decode cL_law 1166 = .ok (.iload 5, 2) := ydb_2_24.2.2.1
theorem dL_law_1168 : decode cL_law 1168 = .ok (.iconst 1, 1) := ydb_2_24.2.2.2.1
theorem dL_law_1169 : decode cL_law 1169 = .ok (.iadd, 1) := ydb_2_24.2.2.2.2.1
theorem dL_law_1170 : decode cL_law 1170 = .ok (.iaload, 1) := ydb_2_24.2.2.2.2.2.1
theorem dL_law_1171 : decode cL_law 1171 = .ok (.aload_n 0, 1) := ydb_2_24.2.2.2.2.2.2.1
theorem dL_law_1172 : decode cL_law 1172 = .ok (.iload 5, 2) := ydb_2_24.2.2.2.2.2.2.2.1
theorem dL_law_1174 : decode cL_law 1174 = .ok (.iconst 2, 1) := ydb_2_24.2.2.2.2.2.2.2.2.1
theorem dL_law_1175 : decode cL_law 1175 = .ok (.iadd, 1) := ydb_2_24.2.2.2.2.2.2.2.2.2.1
theorem dL_law_1176 : decode cL_law 1176 = .ok (.iaload, 1) := ydb_2_24.2.2.2.2.2.2.2.2.2.2.1
theorem dL_law_1177 : decode cL_law 1177 = .ok (.aload_n 0, 1) := ydb_2_24.2.2.2.2.2.2.2.2.2.2.2
theorem ydb_2_36 : (decode cL_law 1178 = .ok (.iload 5, 2)) ∧ (decode cL_law 1180 = .ok (.iconst 3, 1)) ∧ (decode cL_law 1181 = .ok (.iadd, 1)) ∧ (decode cL_law 1182 = .ok (.iaload, 1)) ∧ (decode cL_law 1183 = .ok (.invokevirtual 213, 3)) ∧ (decode cL_law 1186 = .ok (.istore 7, 2)) ∧ (decode cL_law 1188 = .ok (.aload_n 2, 1)) ∧ (decode cL_law 1189 = .ok (.invokevirtual 165, 3)) ∧ (decode cL_law 1192 = .ok (.iload 6, 2)) ∧ (decode cL_law 1194 = .ok (.if_icmp .eq 5, 3)) ∧ (decode cL_law 1199 = .ok (.iload 6, 2)) ∧ (decode cL_law 1201 = .ok (.ifCond .ne 15, 3)) := by decide +kernel
theorem dL_law_1178 : decode cL_law 1178 = .ok (.iload 5, 2) := ydb_2_36.1
theorem dL_law_1180 : decode cL_law 1180 = .ok (.iconst 3, 1) := ydb_2_36.2.1
theorem dL_law_1181 : decode cL_law 1181 = .ok (.iadd, 1) := ydb_2_36.2.2.1
theorem dL_law_1182 : decode cL_law 1182 = .ok (.iaload, 1) := ydb_2_36.2.2.2.1
theorem dL_law_1183 : decode cL_law 1183 = .ok (.invokevirtual 213, 3) := ydb_2_36.2.2.2.2.1
theorem dL_law_1186 : decode cL_law 1186 = .ok (.istore 7, 2) := ydb_2_36.2.2.2.2.2.1
theorem dL_law_1188 : decode cL_law 1188 = .ok (.aload_n 2, 1) := ydb_2_36.2.2.2.2.2.2.1
theorem dL_law_1189 : decode cL_law 1189 = .ok (.invokevirtual 165, 3) := ydb_2_36.2.2.2.2.2.2.2.1
theorem dL_law_1192 : decode cL_law 1192 = .ok (.iload 6, 2) := ydb_2_36.2.2.2.2.2.2.2.2.1
theorem dL_law_1194 : decode cL_law 1194 = .ok (.if_icmp .eq 5, 3) := ydb_2_36.2.2.2.2.2.2.2.2.2.1
theorem dL_law_1199 : decode cL_law 1199 = .ok (.iload 6, 2) := ydb_2_36.2.2.2.2.2.2.2.2.2.2.1
theorem dL_law_1201 : decode cL_law 1201 = .ok (.ifCond .ne 15, 3) := ydb_2_36.2.2.2.2.2.2.2.2.2.2.2
theorem ydb_2_48 : (decode cL_law 1216 = .ok (.goto 1921, 3)) ∧ (decode cL_law 1219 = .ok (.aload_n 1, 1)) ∧ (decode cL_law 1220 = .ok (.aload_n 0, 1)) ∧ (decode cL_law 1221 = .ok (.iload 5, 2)) ∧ (decode cL_law 1223 = .ok (.iconst 1, 1)) ∧ (decode cL_law 1224 = .ok (.iadd, 1)) ∧ (decode cL_law 1225 = .ok (.iaload, 1)) ∧ (decode cL_law 1226 = .ok (.aload_n 0, 1)) ∧ (decode cL_law 1227 = .ok (.iload 5, 2)) ∧ (decode cL_law 1229 = .ok (.iconst 2, 1)) ∧ (decode cL_law 1230 = .ok (.iadd, 1)) ∧ (decode cL_law 1231 = .ok (.iaload, 1)) := by decide +kernel
theorem dL_law_1216 : decode cL_law 1216 = .ok (.goto 1921, 3) := ydb_2_48.1
theorem dL_law_1219 : decode cL_law 1219 = .ok (.aload_n 1, 1) := ydb_2_48.2.1
theorem dL_law_1220 : decode cL_law 1220 = .ok (.aload_n 0, 1) := ydb_2_48.2.2.1
theorem dL_law_1221 : decode cL_law 1221 = .ok (.iload 5, 2) := ydb_2_48.2.2.2.1
theorem dL_law_1223 : decode cL_law 1223 = .ok (.iconst 1, 1) := ydb_2_48.2.2.2.2.1
theorem dL_law_1224 : decode cL_law 1224 = .ok (.iadd, 1) := ydb_2_48.2.2.2.2.2.1
theorem dL_law_1225 : decode cL_law 1225 = .ok (.iaload, 1) := ydb_2_48.2.2.2.2.2.2.1
theorem dL_law_1226 : decode cL_law 1226 = .ok (.aload_n 0, 1) := ydb_2_48.2.2.2.2.2.2.2.1
theorem dL_law_1227 : decode cL_law 1227 = .ok (.iload 5, 2) := ydb_2_48.2.2.2.2.2.2.2.2.1
theorem dL_law_1229 : decode cL_law 1229 = .ok (.iconst 2, 1) := ydb_2_48.2.2.2.2.2.2.2.2.2.1
theorem dL_law_1230 : decode cL_law 1230 = .ok (.iadd, 1) := ydb_2_48.2.2.2.2.2.2.2.2.2.2.1
theorem dL_law_1231 : decode cL_law 1231 = .ok (.iaload, 1) := ydb_2_48.2.2.2.2.2.2.2.2.2.2.2
theorem ydb_2_60 : (decode cL_law 1232 = .ok (.aload_n 0, 1)) ∧ (decode cL_law 1233 = .ok (.iload 5, 2)) ∧ (decode cL_law 1235 = .ok (.iconst 3, 1)) ∧ (decode cL_law 1236 = .ok (.iadd, 1)) ∧ (decode cL_law 1237 = .ok (.iaload, 1)) ∧ (decode cL_law 1238 = .ok (.aload_n 0, 1)) ∧ (decode cL_law 1239 = .ok (.iload 5, 2)) ∧ (decode cL_law 1241 = .ok (.iconst 4, 1)) ∧ (decode cL_law 1242 = .ok (.iadd, 1)) ∧ (decode cL_law 1243 = .ok (.iaload, 1)) ∧ (decode cL_law 1244 = .ok (.aload_n 3, 1)) ∧ (decode cL_law 1245 = .ok (.invokestatic 214, 3)) := by decide +kernel
theorem dL_law_1232 : decode cL_law 1232 = .ok (.aload_n 0, 1) := ydb_2_60.1
theorem dL_law_1233 : decode cL_law 1233 = .ok (.iload 5, 2) := ydb_2_60.2.1
theorem dL_law_1235 : decode cL_law 1235 = .ok (.iconst 3, 1) := ydb_2_60.2.2.1
theorem dL_law_1236 : decode cL_law 1236 = .ok (.iadd, 1) := ydb_2_60.2.2.2.1
theorem dL_law_1237 : decode cL_law 1237 = .ok (.iaload, 1) := ydb_2_60.2.2.2.2.1
theorem dL_law_1238 : decode cL_law 1238 = .ok (.aload_n 0, 1) := ydb_2_60.2.2.2.2.2.1
theorem dL_law_1239 : decode cL_law 1239 = .ok (.iload 5, 2) := ydb_2_60.2.2.2.2.2.2.1
theorem dL_law_1241 : decode cL_law 1241 = .ok (.iconst 4, 1) := ydb_2_60.2.2.2.2.2.2.2.1
theorem dL_law_1242 : decode cL_law 1242 = .ok (.iadd, 1) := ydb_2_60.2.2.2.2.2.2.2.2.1
theorem dL_law_1243 : decode cL_law 1243 = .ok (.iaload, 1) := ydb_2_60.2.2.2.2.2.2.2.2.2.1
theorem dL_law_1244 : decode cL_law 1244 = .ok (.aload_n 3, 1) := ydb_2_60.2.2.2.2.2.2.2.2.2.2.1
theorem dL_law_1245 : decode cL_law 1245 = .ok (.invokestatic 214, 3) := ydb_2_60.2.2.2.2.2.2.2.2.2.2.2
theorem ydb_2_72 : (decode cL_law 1248 = .ok (.istore 6, 2)) ∧ (decode cL_law 1250 = .ok (.aload_n 2, 1)) ∧ (decode cL_law 1251 = .ok (.aload_n 0, 1)) ∧ (decode cL_law 1252 = .ok (.iload 5, 2)) ∧ (decode cL_law 1254 = .ok (.iconst 1, 1)) ∧ (decode cL_law 1255 = .ok (.iadd, 1)) ∧ (decode cL_law 1256 = .ok (.iaload, 1)) ∧ (decode cL_law 1257 = .ok (.aload_n 0, 1)) ∧ (decode cL_law 1258 = .ok (.iload 5, 2)) ∧ (decode cL_law 1260 = .ok (.iconst 2, 1)) ∧ (decode cL_law 1261 = .ok (.iadd, 1)) ∧ (decode cL_law 1262 = .ok (.iaload, 1)) := by decide +kernel
theorem dL_law_1248 : decode cL_law 1248 = .ok (.istore 6, 2) := ydb_2_72.1
theorem dL_law_1250 : decode cL_law 1250 = .ok (.aload_n 2, 1) := ydb_2_72.2.1
theorem dL_law_1251 : decode cL_law 1251 = .ok (.aload_n 0, 1) := ydb_2_72.2.2.1
theorem dL_law_1252 : decode cL_law 1252 = .ok (.iload 5, 2) := ydb_2_72.2.2.2.1
theorem dL_law_1254 : decode cL_law 1254 = .ok (.iconst 1, 1) := ydb_2_72.2.2.2.2.1
theorem dL_law_1255 : decode cL_law 1255 = .ok (.iadd, 1) := ydb_2_72.2.2.2.2.2.1
theorem dL_law_1256 : decode cL_law 1256 = .ok (.iaload, 1) := ydb_2_72.2.2.2.2.2.2.1
theorem dL_law_1257 : decode cL_law 1257 = .ok (.aload_n 0, 1) := ydb_2_72.2.2.2.2.2.2.2.1
theorem dL_law_1258 : decode cL_law 1258 = .ok (.iload 5, 2) := ydb_2_72.2.2.2.2.2.2.2.2.1
theorem dL_law_1260 : decode cL_law 1260 = .ok (.iconst 2, 1) := ydb_2_72.2.2.2.2.2.2.2.2.2.1
theorem dL_law_1261 : decode cL_law 1261 = .ok (.iadd, 1) := ydb_2_72.2.2.2.2.2.2.2.2.2.2.1
theorem dL_law_1262 : decode cL_law 1262 = .ok (.iaload, 1) := ydb_2_72.2.2.2.2.2.2.2.2.2.2.2
theorem ydb_2_84 : (decode cL_law 1263 = .ok (.aload_n 0, 1)) ∧ (decode cL_law 1264 = .ok (.iload 5, 2)) ∧ (decode cL_law 1266 = .ok (.iconst 3, 1)) ∧ (decode cL_law 1267 = .ok (.iadd, 1)) ∧ (decode cL_law 1268 = .ok (.iaload, 1)) ∧ (decode cL_law 1269 = .ok (.aload_n 0, 1)) ∧ (decode cL_law 1270 = .ok (.iload 5, 2)) ∧ (decode cL_law 1272 = .ok (.iconst 4, 1)) ∧ (decode cL_law 1273 = .ok (.iadd, 1)) ∧ (decode cL_law 1274 = .ok (.iaload, 1)) ∧ (decode cL_law 1275 = .ok (.invokevirtual 217, 3)) ∧ (decode cL_law 1278 = .ok (.istore 7, 2)) := by decide +kernel
theorem dL_law_1263 : decode cL_law 1263 = .ok (.aload_n 0, 1) := ydb_2_84.1
theorem dL_law_1264 : decode cL_law 1264 = .ok (.iload 5, 2) := ydb_2_84.2.1
theorem dL_law_1266 : decode cL_law 1266 = .ok (.iconst 3, 1) := ydb_2_84.2.2.1
theorem dL_law_1267 : decode cL_law 1267 = .ok (.iadd, 1) := ydb_2_84.2.2.2.1
theorem dL_law_1268 : decode cL_law 1268 = .ok (.iaload, 1) := ydb_2_84.2.2.2.2.1
theorem dL_law_1269 : decode cL_law 1269 = .ok (.aload_n 0, 1) := ydb_2_84.2.2.2.2.2.1
theorem dL_law_1270 : decode cL_law 1270 = .ok (.iload 5, 2) := ydb_2_84.2.2.2.2.2.2.1
theorem dL_law_1272 : decode cL_law 1272 = .ok (.iconst 4, 1) := ydb_2_84.2.2.2.2.2.2.2.1
theorem dL_law_1273 : decode cL_law 1273 = .ok (.iadd, 1) := ydb_2_84.2.2.2.2.2.2.2.2.1
theorem dL_law_1274 : decode cL_law 1274 = .ok (.iaload, 1) := ydb_2_84.2.2.2.2.2.2.2.2.2.1
theorem dL_law_1275 : decode cL_law 1275 = .ok (.invokevirtual 217, 3) := ydb_2_84.2.2.2.2.2.2.2.2.2.2.1
theorem dL_law_1278 : decode cL_law 1278 = .ok (.istore 7, 2) := ydb_2_84.2.2.2.2.2.2.2.2.2.2.2
theorem ydb_2_96 : (decode cL_law 1280 = .ok (.aload_n 2, 1)) ∧ (decode cL_law 1281 = .ok (.invokevirtual 165, 3)) ∧ (decode cL_law 1284 = .ok (.iload 6, 2)) ∧ (decode cL_law 1286 = .ok (.if_icmp .eq 5, 3)) ∧ (decode cL_law 1291 = .ok (.iload 6, 2)) ∧ (decode cL_law 1293 = .ok (.ifCond .ne 15, 3)) ∧ (decode cL_law 1308 = .ok (.goto 1829, 3)) ∧ (decode cL_law 1311 = .ok (.aload_n 1, 1)) ∧ (decode cL_law 1312 = .ok (.invokevirtual 218, 3)) ∧ (decode cL_law 1315 = .ok (.aload_n 2, 1)) ∧ (decode cL_law 1316 = .ok (.invokevirtual 221, 3)) ∧ (decode cL_law 1319 = .ok (.if_icmp .eq 1818, 3)) := by decide +kernel
theorem dL_law_1280 : decode cL_law 1280 = .ok (.aload_n 2, 1) := ydb_2_96.1
theorem dL_law_1281 : decode cL_law 1281 = .ok (.invokevirtual 165, 3) := ydb_2_96.2.1
theorem dL_law_1284 : decode cL_law 1284 = .ok (.iload 6, 2) := ydb_2_96.2.2.1
theorem dL_law_1286 : decode cL_law 1286 = .ok (.if_icmp .eq 5, 3) := ydb_2_96.2.2.2.1
theorem dL_law_1291 : decode cL_law 1291 = .ok (.iload 6, 2) := ydb_2_96.2.2.2.2.1
theorem dL_law_1293 : decode cL_law 1293 = .ok (.ifCond .ne 15, 3) := ydb_2_96.2.2.2.2.2.1
theorem dL_law_1308 : decode cL_law 1308 = .ok (.goto 1829, 3) := ydb_2_96.2.2.2.2.2.2.1
theorem dL_law_1311 : decode cL_law 1311 = .ok (.aload_n 1, 1) := ydb_2_96.2.2.2.2.2.2.2.1
theorem dL_law_1312 : decode cL_law 1312 = .ok (.invokevirtual 218, 3) := ydb_2_96.2.2.2.2.2.2.2.2.1
theorem dL_law_1315 : decode cL_law 1315 = .ok (.aload_n 2, 1) := ydb_2_96.2.2.2.2.2.2.2.2.2.1
theorem dL_law_1316 : decode cL_law 1316 = .ok (.invokevirtual 221, 3) := ydb_2_96.2.2.2.2.2.2.2.2.2.2.1
theorem dL_law_1319 : decode cL_law 1319 = .ok (.if_icmp .eq 1818, 3) := ydb_2_96.2.2.2.2.2.2.2.2.2.2.2
theorem ydb_2_108 : (decode cL_law 1324 = .ok (.aload_n 1, 1)) ∧ (decode cL_law 1325 = .ok (.aload_n 0, 1)) ∧ (decode cL_law 1326 = .ok (.iload 5, 2)) ∧ (decode cL_law 1328 = .ok (.iconst 1, 1)) ∧ (decode cL_law 1329 = .ok (.iadd, 1)) ∧ (decode cL_law 1330 = .ok (.iaload, 1)) ∧ (decode cL_law 1331 = .ok (.aload_n 0, 1)) ∧ (decode cL_law 1332 = .ok (.iload 5, 2)) ∧ (decode cL_law 1334 = .ok (.iconst 2, 1)) ∧ (decode cL_law 1335 = .ok (.iadd, 1)) ∧ (decode cL_law 1336 = .ok (.iaload, 1)) ∧ (decode cL_law 1337 = .ok (.aload_n 0, 1)) := by decide +kernel
theorem dL_law_1324 : decode cL_law 1324 = .ok (.aload_n 1, 1) := ydb_2_108.1
theorem dL_law_1325 : decode cL_law 1325 = .ok (.aload_n 0, 1) := ydb_2_108.2.1
theorem dL_law_1326 : decode cL_law 1326 = .ok (.iload 5, 2) := ydb_2_108.2.2.1
theorem dL_law_1328 : decode cL_law 1328 = .ok (.iconst 1, 1) := ydb_2_108.2.2.2.1
theorem dL_law_1329 : decode cL_law 1329 = .ok (.iadd, 1) := ydb_2_108.2.2.2.2.1
theorem dL_law_1330 : decode cL_law 1330 = .ok (.iaload, 1) := ydb_2_108.2.2.2.2.2.1
theorem dL_law_1331 : decode cL_law 1331 = .ok (.aload_n 0, 1) := ydb_2_108.2.2.2.2.2.2.1
theorem dL_law_1332 : decode cL_law 1332 = .ok (.iload 5, 2) := ydb_2_108.2.2.2.2.2.2.2.1
theorem dL_law_1334 : decode cL_law 1334 = .ok (.iconst 2, 1) := ydb_2_108.2.2.2.2.2.2.2.2.1
theorem dL_law_1335 : decode cL_law 1335 = .ok (.iadd, 1) := ydb_2_108.2.2.2.2.2.2.2.2.2.1
theorem dL_law_1336 : decode cL_law 1336 = .ok (.iaload, 1) := ydb_2_108.2.2.2.2.2.2.2.2.2.2.1
theorem dL_law_1337 : decode cL_law 1337 = .ok (.aload_n 0, 1) := ydb_2_108.2.2.2.2.2.2.2.2.2.2.2
theorem ydb_2_120 : (decode cL_law 1338 = .ok (.iload 5, 2)) ∧ (decode cL_law 1340 = .ok (.iconst 3, 1)) ∧ (decode cL_law 1341 = .ok (.iadd, 1)) ∧ (decode cL_law 1342 = .ok (.iaload, 1)) ∧ (decode cL_law 1343 = .ok (.aload_n 3, 1)) ∧ (decode cL_law 1344 = .ok (.invokestatic 222, 3)) ∧ (decode cL_law 1347 = .ok (.istore 6, 2)) ∧ (decode cL_law 1349 = .ok (.aload_n 2, 1)) ∧ (decode cL_law 1350 = .ok (.aload_n 0, 1)) ∧ (decode cL_law 1351 = .ok (.iload 5, 2)) ∧ (decode cL_law 1353 = .ok (.iconst 1, 1)) ∧ (decode cL_law 1354 = .ok (.iadd, 1)) := by decide +kernel
theorem dL_law_1338 : decode cL_law 1338 = .ok (.iload 5, 2) := ydb_2_120.1
theorem dL_law_1340 : decode cL_law 1340 = .ok (.iconst 3, 1) := ydb_2_120.2.1
theorem dL_law_1341 : decode cL_law 1341 = .ok (.iadd, 1) := ydb_2_120.2.2.1
theorem dL_law_1342 : decode cL_law 1342 = .ok (.iaload, 1) := ydb_2_120.2.2.2.1
theorem dL_law_1343 : decode cL_law 1343 = .ok (.aload_n 3, 1) := ydb_2_120.2.2.2.2.1
theorem dL_law_1344 : decode cL_law 1344 = .ok (.invokestatic 222, 3) := ydb_2_120.2.2.2.2.2.1
theorem dL_law_1347 : decode cL_law 1347 = .ok (.istore 6, 2) := ydb_2_120.2.2.2.2.2.2.1
theorem dL_law_1349 : decode cL_law 1349 = .ok (.aload_n 2, 1) := ydb_2_120.2.2.2.2.2.2.2.1
theorem dL_law_1350 : decode cL_law 1350 = .ok (.aload_n 0, 1) := ydb_2_120.2.2.2.2.2.2.2.2.1
theorem dL_law_1351 : decode cL_law 1351 = .ok (.iload 5, 2) := ydb_2_120.2.2.2.2.2.2.2.2.2.1
theorem dL_law_1353 : decode cL_law 1353 = .ok (.iconst 1, 1) := ydb_2_120.2.2.2.2.2.2.2.2.2.2.1
theorem dL_law_1354 : decode cL_law 1354 = .ok (.iadd, 1) := ydb_2_120.2.2.2.2.2.2.2.2.2.2.2
theorem ydb_2_132 : (decode cL_law 1355 = .ok (.iaload, 1)) ∧ (decode cL_law 1356 = .ok (.aload_n 0, 1)) ∧ (decode cL_law 1357 = .ok (.iload 5, 2)) ∧ (decode cL_law 1359 = .ok (.iconst 2, 1)) ∧ (decode cL_law 1360 = .ok (.iadd, 1)) ∧ (decode cL_law 1361 = .ok (.iaload, 1)) ∧ (decode cL_law 1362 = .ok (.aload_n 0, 1)) ∧ (decode cL_law 1363 = .ok (.iload 5, 2)) ∧ (decode cL_law 1365 = .ok (.iconst 3, 1)) ∧ (decode cL_law 1366 = .ok (.iadd, 1)) ∧ (decode cL_law 1367 = .ok (.iaload, 1)) ∧ (decode cL_law 1368 = .ok (.invokevirtual 224, 3)) := by decide +kernel
theorem dL_law_1355 : decode cL_law 1355 = .ok (.iaload, 1) := ydb_2_132.1
theorem dL_law_1356 : decode cL_law 1356 = .ok (.aload_n 0, 1) := ydb_2_132.2.1
theorem dL_law_1357 : decode cL_law 1357 = .ok (.iload 5, 2) := ydb_2_132.2.2.1
theorem dL_law_1359 : decode cL_law 1359 = .ok (.iconst 2, 1) := ydb_2_132.2.2.2.1
theorem dL_law_1360 : decode cL_law 1360 = .ok (.iadd, 1) := ydb_2_132.2.2.2.2.1
theorem dL_law_1361 : decode cL_law 1361 = .ok (.iaload, 1) := ydb_2_132.2.2.2.2.2.1
theorem dL_law_1362 : decode cL_law 1362 = .ok (.aload_n 0, 1) := ydb_2_132.2.2.2.2.2.2.1
theorem dL_law_1363 : decode cL_law 1363 = .ok (.iload 5, 2) := ydb_2_132.2.2.2.2.2.2.2.1
theorem dL_law_1365 : decode cL_law 1365 = .ok (.iconst 3, 1) := ydb_2_132.2.2.2.2.2.2.2.2.1
theorem dL_law_1366 : decode cL_law 1366 = .ok (.iadd, 1) := ydb_2_132.2.2.2.2.2.2.2.2.2.1
theorem dL_law_1367 : decode cL_law 1367 = .ok (.iaload, 1) := ydb_2_132.2.2.2.2.2.2.2.2.2.2.1
theorem dL_law_1368 : decode cL_law 1368 = .ok (.invokevirtual 224, 3) := ydb_2_132.2.2.2.2.2.2.2.2.2.2.2
theorem ydb_2_144 : (decode cL_law 1371 = .ok (.istore 7, 2)) ∧ (decode cL_law 1373 = .ok (.aload_n 2, 1)) ∧ (decode cL_law 1374 = .ok (.invokevirtual 165, 3)) ∧ (decode cL_law 1377 = .ok (.iload 6, 2)) ∧ (decode cL_law 1379 = .ok (.if_icmp .eq 5, 3)) ∧ (decode cL_law 1384 = .ok (.iload 6, 2)) ∧ (decode cL_law 1386 = .ok (.ifCond .ne 22, 3)) ∧ (decode cL_law 1408 = .ok (.goto 1729, 3)) ∧ (decode cL_law 1411 = .ok (.aload_n 1, 1)) ∧ (decode cL_law 1412 = .ok (.aload_n 0, 1)) ∧ (decode cL_law 1413 = .ok (.iload 5, 2)) ∧ (decode cL_law 1415 = .ok (.iconst 1, 1)) := by decide +kernel
theorem dL_law_1371 : decode cL_law 1371 = .ok (.istore 7, 2) := ydb_2_144.1
theorem dL_law_1373 : decode cL_law 1373 = .ok (.aload_n 2, 1) := ydb_2_144.2.1
theorem dL_law_1374 : decode cL_law 1374 = .ok (.invokevirtual 165, 3) := ydb_2_144.2.2.1
theorem dL_law_1377 : decode cL_law 1377 = .ok (.iload 6, 2) := ydb_2_144.2.2.2.1
theorem dL_law_1379 : decode cL_law 1379 = .ok (.if_icmp .eq 5, 3) := ydb_2_144.2.2.2.2.1
theorem dL_law_1384 : decode cL_law 1384 = .ok (.iload 6, 2) := ydb_2_144.2.2.2.2.2.1
theorem dL_law_1386 : decode cL_law 1386 = .ok (.ifCond .ne 22, 3) := ydb_2_144.2.2.2.2.2.2.1
theorem dL_law_1408 : decode cL_law 1408 = .ok (.goto 1729, 3) := ydb_2_144.2.2.2.2.2.2.2.1
theorem dL_law_1411 : decode cL_law 1411 = .ok (.aload_n 1, 1) := ydb_2_144.2.2.2.2.2.2.2.2.1
theorem dL_law_1412 : decode cL_law 1412 = .ok (.aload_n 0, 1) := ydb_2_144.2.2.2.2.2.2.2.2.2.1
theorem dL_law_1413 : decode cL_law 1413 = .ok (.iload 5, 2) := ydb_2_144.2.2.2.2.2.2.2.2.2.2.1
theorem dL_law_1415 : decode cL_law 1415 = .ok (.iconst 1, 1) := ydb_2_144.2.2.2.2.2.2.2.2.2.2.2
theorem ydb_2_156 : (decode cL_law 1416 = .ok (.iadd, 1)) ∧ (decode cL_law 1417 = .ok (.iaload, 1)) ∧ (decode cL_law 1418 = .ok (.aload_n 0, 1)) ∧ (decode cL_law 1419 = .ok (.iload 5, 2)) ∧ (decode cL_law 1421 = .ok (.iconst 2, 1)) ∧ (decode cL_law 1422 = .ok (.iadd, 1)) ∧ (decode cL_law 1423 = .ok (.iaload, 1)) ∧ (decode cL_law 1424 = .ok (.aload_n 3, 1)) ∧ (decode cL_law 1425 = .ok (.invokestatic 225, 3)) ∧ (decode cL_law 1428 = .ok (.istore 6, 2)) ∧ (decode cL_law 1430 = .ok (.aload_n 2, 1)) ∧ (decode cL_law 1431 = .ok (.aload_n 0, 1)) := by decide +kernel
theorem dL_law_1416 : decode cL_law 1416 = .ok (.iadd, 1) := ydb_2_156.1
theorem dL_law_1417 : decode cL_law 1417 = .ok (.iaload, 1) := ydb_2_156.2.1
theorem dL_law_1418 : decode cL_law 1418 = .ok (.aload_n 0, 1) := ydb_2_156.2.2.1
theorem dL_law_1419 : decode cL_law 1419 = .ok (.iload 5, 2) := ydb_2_156.2.2.2.1
theorem dL_law_1421 : decode cL_law 1421 = .ok (.iconst 2, 1) := ydb_2_156.2.2.2.2.1
theorem dL_law_1422 : decode cL_law 1422 = .ok (.iadd, 1) := ydb_2_156.2.2.2.2.2.1
theorem dL_law_1423 : decode cL_law 1423 = .ok (.iaload, 1) := ydb_2_156.2.2.2.2.2.2.1
theorem dL_law_1424 : decode cL_law 1424 = .ok (.aload_n 3, 1) := ydb_2_156.2.2.2.2.2.2.2.1
theorem dL_law_1425 : decode cL_law 1425 = .ok (.invokestatic 225, 3) := ydb_2_156.2.2.2.2.2.2.2.2.1
theorem dL_law_1428 : decode cL_law 1428 = .ok (.istore 6, 2) := ydb_2_156.2.2.2.2.2.2.2.2.2.1
theorem dL_law_1430 : decode cL_law 1430 = .ok (.aload_n 2, 1) := ydb_2_156.2.2.2.2.2.2.2.2.2.2.1
theorem dL_law_1431 : decode cL_law 1431 = .ok (.aload_n 0, 1) := ydb_2_156.2.2.2.2.2.2.2.2.2.2.2
theorem ydb_2_168 : (decode cL_law 1432 = .ok (.iload 5, 2)) ∧ (decode cL_law 1434 = .ok (.iconst 1, 1)) ∧ (decode cL_law 1435 = .ok (.iadd, 1)) ∧ (decode cL_law 1436 = .ok (.iaload, 1)) ∧ (decode cL_law 1437 = .ok (.aload_n 0, 1)) ∧ (decode cL_law 1438 = .ok (.iload 5, 2)) ∧ (decode cL_law 1440 = .ok (.iconst 2, 1)) ∧ (decode cL_law 1441 = .ok (.iadd, 1)) ∧ (decode cL_law 1442 = .ok (.iaload, 1)) ∧ (decode cL_law 1443 = .ok (.invokevirtual 227, 3)) ∧ (decode cL_law 1446 = .ok (.istore 7, 2)) ∧ (decode cL_law 1448 = .ok (.aload_n 2, 1)) := by decide +kernel
theorem dL_law_1432 : decode cL_law 1432 = .ok (.iload 5, 2) := ydb_2_168.1
theorem dL_law_1434 : decode cL_law 1434 = .ok (.iconst 1, 1) := ydb_2_168.2.1
theorem dL_law_1435 : decode cL_law 1435 = .ok (.iadd, 1) := ydb_2_168.2.2.1
theorem dL_law_1436 : decode cL_law 1436 = .ok (.iaload, 1) := ydb_2_168.2.2.2.1
theorem dL_law_1437 : decode cL_law 1437 = .ok (.aload_n 0, 1) := ydb_2_168.2.2.2.2.1
theorem dL_law_1438 : decode cL_law 1438 = .ok (.iload 5, 2) := ydb_2_168.2.2.2.2.2.1
theorem dL_law_1440 : decode cL_law 1440 = .ok (.iconst 2, 1) := ydb_2_168.2.2.2.2.2.2.1
theorem dL_law_1441 : decode cL_law 1441 = .ok (.iadd, 1) := ydb_2_168.2.2.2.2.2.2.2.1
theorem dL_law_1442 : decode cL_law 1442 = .ok (.iaload, 1) := ydb_2_168.2.2.2.2.2.2.2.2.1
theorem dL_law_1443 : decode cL_law 1443 = .ok (.invokevirtual 227, 3) := ydb_2_168.2.2.2.2.2.2.2.2.2.1
theorem dL_law_1446 : decode cL_law 1446 = .ok (.istore 7, 2) := ydb_2_168.2.2.2.2.2.2.2.2.2.2.1
theorem dL_law_1448 : decode cL_law 1448 = .ok (.aload_n 2, 1) := ydb_2_168.2.2.2.2.2.2.2.2.2.2.2
theorem ydb_2_180 : (decode cL_law 1449 = .ok (.invokevirtual 165, 3)) ∧ (decode cL_law 1452 = .ok (.iload 6, 2)) ∧ (decode cL_law 1454 = .ok (.if_icmp .eq 5, 3)) ∧ (decode cL_law 1459 = .ok (.iload 6, 2)) ∧ (decode cL_law 1461 = .ok (.ifCond .ne 22, 3)) ∧ (decode cL_law 1483 = .ok (.goto 1654, 3)) ∧ (decode cL_law 1486 = .ok (.aload_n 1, 1)) ∧ (decode cL_law 1487 = .ok (.aload_n 0, 1)) ∧ (decode cL_law 1488 = .ok (.iload 5, 2)) ∧ (decode cL_law 1490 = .ok (.iconst 1, 1)) ∧ (decode cL_law 1491 = .ok (.iadd, 1)) ∧ (decode cL_law 1492 = .ok (.iaload, 1)) := by decide +kernel
theorem dL_law_1449 : decode cL_law 1449 = .ok (.invokevirtual 165, 3) := ydb_2_180.1
theorem dL_law_1452 : decode cL_law 1452 = .ok (.iload 6, 2) := ydb_2_180.2.1
theorem dL_law_1454 : decode cL_law 1454 = .ok (.if_icmp .eq 5, 3) := ydb_2_180.2.2.1
theorem dL_law_1459 : decode cL_law 1459 = .ok (.iload 6, 2) := ydb_2_180.2.2.2.1
theorem dL_law_1461 : decode cL_law 1461 = .ok (.ifCond .ne 22, 3) := ydb_2_180.2.2.2.2.1
theorem dL_law_1483 : decode cL_law 1483 = .ok (.goto 1654, 3) := ydb_2_180.2.2.2.2.2.1
theorem dL_law_1486 : decode cL_law 1486 = .ok (.aload_n 1, 1) := ydb_2_180.2.2.2.2.2.2.1
theorem dL_law_1487 : decode cL_law 1487 = .ok (.aload_n 0, 1) := ydb_2_180.2.2.2.2.2.2.2.1
theorem dL_law_1488 : decode cL_law 1488 = .ok (.iload 5, 2) := ydb_2_180.2.2.2.2.2.2.2.2.1
theorem dL_law_1490 : decode cL_law 1490 = .ok (.iconst 1, 1) := ydb_2_180.2.2.2.2.2.2.2.2.2.1
theorem dL_law_1491 : decode cL_law 1491 = .ok (.iadd, 1) := ydb_2_180.2.2.2.2.2.2.2.2.2.2.1
theorem dL_law_1492 : decode cL_law 1492 = .ok (.iaload, 1) := ydb_2_180.2.2.2.2.2.2.2.2.2.2.2
theorem ydb_2_192 : (decode cL_law 1493 = .ok (.aload_n 3, 1)) ∧ (decode cL_law 1494 = .ok (.invokestatic 228, 3)) ∧ (decode cL_law 1497 = .ok (.istore 6, 2)) ∧ (decode cL_law 1499 = .ok (.aload_n 2, 1)) ∧ (decode cL_law 1500 = .ok (.aload_n 0, 1)) ∧ (decode cL_law 1501 = .ok (.iload 5, 2)) ∧ (decode cL_law 1503 = .ok (.iconst 1, 1)) ∧ (decode cL_law 1504 = .ok (.iadd, 1)) ∧ (decode cL_law 1505 = .ok (.iaload, 1)) ∧ (decode cL_law 1506 = .ok (.invokevirtual 230, 3)) ∧ (decode cL_law 1509 = .ok (.istore 7, 2)) ∧ (decode cL_law 1511 = .ok (.aload_n 2, 1)) := by decide +kernel
theorem dL_law_1493 : decode cL_law 1493 = .ok (.aload_n 3, 1) := ydb_2_192.1
theorem dL_law_1494 : decode cL_law 1494 = .ok (.invokestatic 228, 3) := ydb_2_192.2.1
theorem dL_law_1497 : decode cL_law 1497 = .ok (.istore 6, 2) := ydb_2_192.2.2.1
theorem dL_law_1499 : decode cL_law 1499 = .ok (.aload_n 2, 1) := ydb_2_192.2.2.2.1
theorem dL_law_1500 : decode cL_law 1500 = .ok (.aload_n 0, 1) := ydb_2_192.2.2.2.2.1
theorem dL_law_1501 : decode cL_law 1501 = .ok (.iload 5, 2) := ydb_2_192.2.2.2.2.2.1
theorem dL_law_1503 : decode cL_law 1503 = .ok (.iconst 1, 1) := ydb_2_192.2.2.2.2.2.2.1
theorem dL_law_1504 : decode cL_law 1504 = .ok (.iadd, 1) := ydb_2_192.2.2.2.2.2.2.2.1
theorem dL_law_1505 : decode cL_law 1505 = .ok (.iaload, 1) := ydb_2_192.2.2.2.2.2.2.2.2.1
theorem dL_law_1506 : decode cL_law 1506 = .ok (.invokevirtual 230, 3) := ydb_2_192.2.2.2.2.2.2.2.2.2.1
theorem dL_law_1509 : decode cL_law 1509 = .ok (.istore 7, 2) := ydb_2_192.2.2.2.2.2.2.2.2.2.2.1
theorem dL_law_1511 : decode cL_law 1511 = .ok (.aload_n 2, 1) := ydb_2_192.2.2.2.2.2.2.2.2.2.2.2
theorem ydb_2_204 : (decode cL_law 1512 = .ok (.invokevirtual 165, 3)) ∧ (decode cL_law 1515 = .ok (.iload 6, 2)) ∧ (decode cL_law 1517 = .ok (.if_icmp .eq 5, 3)) ∧ (decode cL_law 1522 = .ok (.iload 6, 2)) ∧ (decode cL_law 1524 = .ok (.ifCond .ne 15, 3)) ∧ (decode cL_law 1539 = .ok (.goto 1598, 3)) ∧ (decode cL_law 1542 = .ok (.aload_n 1, 1)) ∧ (decode cL_law 1543 = .ok (.aload_n 0, 1)) ∧ (decode cL_law 1544 = .ok (.iload 5, 2)) ∧ (decode cL_law 1546 = .ok (.iconst 1, 1)) ∧ (decode cL_law 1547 = .ok (.iadd, 1)) ∧ (decode cL_law 1548 = .ok (.iaload, 1)) := by decide +kernel
theorem dL_law_1512 : decode cL_law 1512 = .ok (.invokevirtual 165, 3) := ydb_2_204.1
theorem dL_law_1515 : decode cL_law 1515 = .ok (.iload 6, 2) := ydb_2_204.2.1
theorem dL_law_1517 : decode cL_law 1517 = .ok (.if_icmp .eq 5, 3) := ydb_2_204.2.2.1
theorem dL_law_1522 : decode cL_law 1522 = .ok (.iload 6, 2) := ydb_2_204.2.2.2.1
theorem dL_law_1524 : decode cL_law 1524 = .ok (.ifCond .ne 15, 3) := ydb_2_204.2.2.2.2.1
theorem dL_law_1539 : decode cL_law 1539 = .ok (.goto 1598, 3) := ydb_2_204.2.2.2.2.2.1
theorem dL_law_1542 : decode cL_law 1542 = .ok (.aload_n 1, 1) := ydb_2_204.2.2.2.2.2.2.1
theorem dL_law_1543 : decode cL_law 1543 = .ok (.aload_n 0, 1) := ydb_2_204.2.2.2.2.2.2.2.1
theorem dL_law_1544 : decode cL_law 1544 = .ok (.iload 5, 2) := ydb_2_204.2.2.2.2.2.2.2.2.1
theorem dL_law_1546 : decode cL_law 1546 = .ok (.iconst 1, 1) := ydb_2_204.2.2.2.2.2.2.2.2.2.1
theorem dL_law_1547 : decode cL_law 1547 = .ok (.iadd, 1) := ydb_2_204.2.2.2.2.2.2.2.2.2.2.1
theorem dL_law_1548 : decode cL_law 1548 = .ok (.iaload, 1) := ydb_2_204.2.2.2.2.2.2.2.2.2.2.2
theorem ydb_2_216 : (decode cL_law 1549 = .ok (.i2c, 1)) ∧ (decode cL_law 1550 = .ok (.aload_n 0, 1)) ∧ (decode cL_law 1551 = .ok (.iload 5, 2)) ∧ (decode cL_law 1553 = .ok (.iconst 2, 1)) ∧ (decode cL_law 1554 = .ok (.iadd, 1)) ∧ (decode cL_law 1555 = .ok (.iaload, 1)) ∧ (decode cL_law 1556 = .ok (.aload_n 0, 1)) ∧ (decode cL_law 1557 = .ok (.iload 5, 2)) ∧ (decode cL_law 1559 = .ok (.iconst 3, 1)) ∧ (decode cL_law 1560 = .ok (.iadd, 1)) ∧ (decode cL_law 1561 = .ok (.iaload, 1)) ∧ (decode cL_law 1562 = .ok (.aload_n 3, 1)) := by decide +kernel
theorem dL_law_1549 : decode cL_law 1549 = .ok (.i2c, 1) := ydb_2_216.1
theorem dL_law_1550 : decode cL_law 1550 = .ok (.aload_n 0, 1) := ydb_2_216.2.1
theorem dL_law_1551 : decode cL_law 1551 = .ok (.iload 5, 2) := ydb_2_216.2.2.1
theorem dL_law_1553 : decode cL_law 1553 = .ok (.iconst 2, 1) := ydb_2_216.2.2.2.1
theorem dL_law_1554 : decode cL_law 1554 = .ok (.iadd, 1) := ydb_2_216.2.2.2.2.1
theorem dL_law_1555 : decode cL_law 1555 = .ok (.iaload, 1) := ydb_2_216.2.2.2.2.2.1
theorem dL_law_1556 : decode cL_law 1556 = .ok (.aload_n 0, 1) := ydb_2_216.2.2.2.2.2.2.1
theorem dL_law_1557 : decode cL_law 1557 = .ok (.iload 5, 2) := ydb_2_216.2.2.2.2.2.2.2.1
theorem dL_law_1559 : decode cL_law 1559 = .ok (.iconst 3, 1) := ydb_2_216.2.2.2.2.2.2.2.2.1
theorem dL_law_1560 : decode cL_law 1560 = .ok (.iadd, 1) := ydb_2_216.2.2.2.2.2.2.2.2.2.1
theorem dL_law_1561 : decode cL_law 1561 = .ok (.iaload, 1) := ydb_2_216.2.2.2.2.2.2.2.2.2.2.1
theorem dL_law_1562 : decode cL_law 1562 = .ok (.aload_n 3, 1) := ydb_2_216.2.2.2.2.2.2.2.2.2.2.2
theorem ydb_2_228 : (decode cL_law 1563 = .ok (.invokestatic 231, 3)) ∧ (decode cL_law 1566 = .ok (.istore 6, 2)) ∧ (decode cL_law 1568 = .ok (.aload_n 2, 1)) ∧ (decode cL_law 1569 = .ok (.aload_n 0, 1)) ∧ (decode cL_law 1570 = .ok (.iload 5, 2)) ∧ (decode cL_law 1572 = .ok (.iconst 1, 1)) ∧ (decode cL_law 1573 = .ok (.iadd, 1)) ∧ (decode cL_law 1574 = .ok (.iaload, 1)) ∧ (decode cL_law 1575 = .ok (.i2c, 1)) ∧ (decode cL_law 1576 = .ok (.aload_n 0, 1)) ∧ (decode cL_law 1577 = .ok (.iload 5, 2)) ∧ (decode cL_law 1579 = .ok (.iconst 2, 1)) := by decide +kernel
theorem dL_law_1563 : decode cL_law 1563 = .ok (.invokestatic 231, 3) := ydb_2_228.1
theorem dL_law_1566 : decode cL_law 1566 = .ok (.istore 6, 2) := ydb_2_228.2.1
theorem dL_law_1568 : decode cL_law 1568 = .ok (.aload_n 2, 1) := ydb_2_228.2.2.1
theorem dL_law_1569 : decode cL_law 1569 = .ok (.aload_n 0, 1) := ydb_2_228.2.2.2.1
theorem dL_law_1570 : decode cL_law 1570 = .ok (.iload 5, 2) := ydb_2_228.2.2.2.2.1
theorem dL_law_1572 : decode cL_law 1572 = .ok (.iconst 1, 1) := ydb_2_228.2.2.2.2.2.1
theorem dL_law_1573 : decode cL_law 1573 = .ok (.iadd, 1) := ydb_2_228.2.2.2.2.2.2.1
theorem dL_law_1574 : decode cL_law 1574 = .ok (.iaload, 1) := ydb_2_228.2.2.2.2.2.2.2.1
theorem dL_law_1575 : decode cL_law 1575 = .ok (.i2c, 1) := ydb_2_228.2.2.2.2.2.2.2.2.1
theorem dL_law_1576 : decode cL_law 1576 = .ok (.aload_n 0, 1) := ydb_2_228.2.2.2.2.2.2.2.2.2.1
theorem dL_law_1577 : decode cL_law 1577 = .ok (.iload 5, 2) := ydb_2_228.2.2.2.2.2.2.2.2.2.2.1
theorem dL_law_1579 : decode cL_law 1579 = .ok (.iconst 2, 1) := ydb_2_228.2.2.2.2.2.2.2.2.2.2.2
theorem ydb_2_240 : (decode cL_law 1580 = .ok (.iadd, 1)) ∧ (decode cL_law 1581 = .ok (.iaload, 1)) ∧ (decode cL_law 1582 = .ok (.aload_n 0, 1)) ∧ (decode cL_law 1583 = .ok (.iload 5, 2)) ∧ (decode cL_law 1585 = .ok (.iconst 3, 1)) ∧ (decode cL_law 1586 = .ok (.iadd, 1)) ∧ (decode cL_law 1587 = .ok (.iaload, 1)) ∧ (decode cL_law 1588 = .ok (.invokevirtual 233, 3)) ∧ (decode cL_law 1591 = .ok (.istore 7, 2)) ∧ (decode cL_law 1593 = .ok (.aload_n 2, 1)) := by decide +kernel
theorem dL_law_1580 : decode cL_law 1580 = .ok (.iadd, 1) := ydb_2_240.1
theorem dL_law_1581 : decode cL_law 1581 = .ok (.iaload, 1) := ydb_2_240.2.1
theorem dL_law_1582 : decode cL_law 1582 = .ok (.aload_n 0, 1) := ydb_2_240.2.2.1
theorem dL_law_1583 : decode cL_law 1583 = .ok (.iload 5, 2) := ydb_2_240.2.2.2.1
theorem dL_law_1585 : decode cL_law 1585 = .ok (.iconst 3, 1) := ydb_2_240.2.2.2.2.1
theorem dL_law_1586 : decode cL_law 1586 = .ok (.iadd, 1) := ydb_2_240.2.2.2.2.2.1
theorem dL_law_1587 : decode cL_law 1587 = .ok (.iaload, 1) := ydb_2_240.2.2.2.2.2.2.1
theorem dL_law_1588 : decode cL_law 1588 = .ok (.invokevirtual 233, 3) := ydb_2_240.2.2.2.2.2.2.2.1
theorem dL_law_1591 : decode cL_law 1591 = .ok (.istore 7, 2) := ydb_2_240.2.2.2.2.2.2.2.2.1
theorem dL_law_1593 : decode cL_law 1593 = .ok (.aload_n 2, 1) := ydb_2_240.2.2.2.2.2.2.2.2.2
