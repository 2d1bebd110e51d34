def dl_6 : List (Nat × (Instr × Nat)) := [(1140, (.iadd, 1)), (1141, (.iaload, 1)), (1142, (.invokevirtual 134, 3)), (1145, (.pop, 1)), (1146, (.goto 1514, 3)), (1149, (.aload_n 1, 1)), (1150, (.invokevirtual 135, 3)), (1153, (.pop, 1)), (1154, (.aload_n 2, 1)), (1155, (.invokevirtual 138, 3)), (1158, (.pop, 1)), (1159, (.goto 1501, 3)), (1162, (.aload_n 1, 1)), (1163, (.aload_n 0, 1)), (1164, (.iload_n 3, 1)), (1165, (.iconst 1, 1)), (1166, (.iadd, 1)), (1167, (.iaload, 1)), (1168, (.aload_n 0, 1)), (1169, (.iload_n 3, 1)), (1170, (.iconst 2, 1)), (1171, (.iadd, 1)), (1172, (.iaload, 1)), (1173, (.invokevirtual 139, 3)), (1176, (.pop, 1)), (1177, (.aload_n 2, 1)), (1178, (.aload_n 0, 1)), (1179, (.iload_n 3, 1)), (1180, (.iconst 1, 1)), (1181, (.iadd, 1)), (1182, (.iaload, 1)), (1183, (.aload_n 0, 1)), (1184, (.iload_n 3, 1)), (1185, (.iconst 2, 1)), (1186, (.iadd, 1)), (1187, (.iaload, 1)), (1188, (.invokevirtual 142, 3)), (1191, (.pop, 1)), (1192, (.goto 1468, 3)), (1195, (.aload_n 1, 1)), (1196, (.invokevirtual 143, 3)), (1199, (.pop, 1)), (1200, (.aload_n 2, 1)), (1201, (.invokevirtual 146, 3)), (1204, (.pop, 1)), (1205, (.goto 1455, 3)), (1208, (.aload_n 1, 1)), (1209, (.aload_n 0, 1)), (1210, (.iload_n 3, 1)), (1211, (.iconst 1, 1)), (1212, (.iadd, 1)), (1213, (.iaload, 1)), (1214, (.invokevirtual 147, 3)), (1217, (.pop, 1)), (1218, (.aload_n 2, 1)), (1219, (.aload_n 0, 1)), (1220, (.iload_n 3, 1)), (1221, (.iconst 1, 1)), (1222, (.iadd, 1)), (1223, (.iaload, 1)), (1224, (.invokevirtual 150, 3)), (1227, (.pop, 1)), (1228, (.goto 1432, 3)), (1231, (.aload_n 1, 1)), (1232, (.invokevirtual 151, 3)), (1235, (.pop, 1)), (1236, (.aload_n 2, 1)), (1237, (.invokevirtual 154, 3)), (1240, (.pop, 1)), (1241, (.goto 1419, 3)), (1244, (.aload_n 1, 1)), (1245, (.aload_n 0, 1)), (1246, (.iload_n 3, 1)), (1247, (.iconst 1, 1)), (1248, (.iadd, 1)), (1249, (.iaload, 1)), (1250, (.invokevirtual 155, 3)), (1253, (.pop, 1)), (1254, (.aload_n 2, 1)), (1255, (.aload_n 0, 1)), (1256, (.iload_n 3, 1)), (1257, (.iconst 1, 1)), (1258, (.iadd, 1)), (1259, (.iaload, 1)), (1260, (.invokevirtual 158, 3)), (1263, (.pop, 1)), (1264, (.goto 1396, 3)), (1267, (.aload_n 1, 1)), (1268, (.aload_n 0, 1)), (1269, (.iload_n 3, 1)), (1270, (.iconst 1, 1)), (1271, (.iadd, 1)), (1272, (.iaload, 1)), (1273, (.invokevirtual 159, 3)), (1276, (.pop, 1)), (1277, (.aload_n 2, 1)), (1278, (.aload_n 0, 1)), (1279, (.iload_n 3, 1)), (1280, (.iconst 1, 1)), (1281, (.iadd, 1))]
set_option maxRecDepth 100000 in
theorem dl_6_ok : ∀ x ∈ dl_6, decode code x.1 = .ok x.2 := by decide +kernel
set_option maxRecDepth 100000 in
theorem dL_law_1140 : decode code 1140 = .ok (.iadd, 1) := dl_6_ok (1140, (.iadd, 1)) (List.mem_of_getElem? (i := 0) rfl)
set_option maxRecDepth 100000 in
theorem dL_law_1141 : decode code 1141 = .ok (.iaload, 1) := dl_6_ok (1141, (.iaload, 1)) (List.mem_of_getElem? (i := 1) rfl)
set_option maxRecDepth 100000 in
theorem dL_law_1142 : decode code 1142 = .ok (.invokevirtual 134, 3) := dl_6_ok (1142, (.invokevirtual 134, 3)) (List.mem_of_getElem? (i := 2) rfl)
set_option maxRecDepth 100000 in
theorem dL_law_1145 : decode code 1145 = .ok (.pop, 1) := dl_6_ok (1145, (.pop, 1)) (List.mem_of_getElem? (i := 3) rfl)
set_option maxRecDepth 100000 in
theorem dL_law_1146 : decode code 1146 = .ok (.goto 1514, 3) := dl_6_ok (1146, (.goto 1514, 3)) (List.mem_of_getElem? (i := 4) rfl)
set_option maxRecDepth 100000 in
theorem dL_law_1149 : decode code 1149 = .ok (.aload_n 1, 1) := dl_6_ok (1149, (.aload_n 1, 1)) (List.mem_of_getElem? (i := 5) rfl)
set_option maxRecDepth 100000 in
theorem dL_law_1150 : decode code 1150 = .ok (.invokevirtual 135, 3) := dl_6_ok (1150, (.invokevirtual 135, 3)) (List.mem_of_getElem? (i := 6) rfl)
set_option maxRecDepth 100000 in
theorem dL_law_1153 : decode code 1153 = .ok (.pop, 1) := dl_6_ok (1153, (.pop, 1)) (List.mem_of_getElem? (i := 7) rfl)
set_option maxRecDepth 100000 in
theorem dL_law_1154 : decode code 1154 = .ok (.aload_n 2, 1) := dl_6_ok (1154, (.aload_n 2, 1)) (List.mem_of_getElem? (i := 8) rfl)
set_option maxRecDepth 100000 in
theorem dL_law_1155 : decode code 1155 = .ok (.invokevirtual 138, 3) := dl_6_ok (1155, (.invokevirtual 138, 3)) (List.mem_of_getElem? (i := 9) rfl)
set_option maxRecDepth 100000 in
theorem dL_law_1158 : decode code 1158 = .ok (.pop, 1) := dl_6_ok (1158, (.pop, 1)) (List.mem_of_getElem? (i := 10) rfl)
set_option maxRecDepth 100000 in
theorem dL_law_1159 : decode code 1159 = .ok (.goto 1501, 3) := dl_6_ok (1159, (.goto 1501, 3)) (List.mem_of_getElem? (i := 11) rfl)
set_option maxRecDepth 100000 in
theorem dL_law_1162 : decode code 1162 = .ok (.aload_n 1, 1) := dl_6_ok (1162, (.aload_n 1, 1)) (List.mem_of_getElem? (i := 12) rfl)
set_option maxRecDepth 100000 in
theorem dL_law_1163 : decode code 1163 = .ok (.aload_n 0, 1) := dl_6_ok (1163, (.aload_n 0, 1)) (List.mem_of_getElem? (i := 13) rfl)
set_option maxRecDepth 100000 in
theorem dL_law_1164 : decode code 1164 = .ok (.iload_n 3, 1) := dl_6_ok (1164, (.iload_n 3, 1)) (List.mem_of_getElem? (i := 14) rfl)
set_option maxRecDepth 100000 in
theorem dL_law_1165 : decode code 1165 = .ok (.iconst 1, 1) := dl_6_ok (1165, (.iconst 1, 1)) (List.mem_of_getElem? (i := 15) rfl)
set_option maxRecDepth 100000 in
theorem dL_law_1166 : decode code 1166 = .ok (.iadd, 1) := dl_6_ok (1166, (.iadd, 1)) (List.mem_of_getElem? (i := 16) rfl)
set_option maxRecDepth 100000 in
theorem dL_law_1167 : decode code 1167 = .ok (.iaload, 1) := dl_6_ok (1167, (.iaload, 1)) (List.mem_of_getElem? (i := 17) rfl)
set_option maxRecDepth 100000 in
theorem dL_law_1168 : decode code 1168 = .ok (.aload_n 0, 1) := dl_6_ok (1168, (.aload_n 0, 1)) (List.mem_of_getElem? (i := 18) rfl)
set_option maxRecDepth 100000 in
theorem dL_law_1169 : decode code 1169 = .ok (.iload_n 3, 1) := dl_6_ok (1169, (.iload_n 3, 1)) (List.mem_of_getElem? (i := 19) rfl)
set_option maxRecDepth 100000 in
theorem dL_law_1170 : decode code 1170 = .ok (.iconst 2, 1) := dl_6_ok (1170, (.iconst 2, 1)) (List.mem_of_getElem? (i := 20) rfl)
set_option maxRecDepth 100000 in
theorem dL_law_1171 : decode code 1171 = .ok (.iadd, 1) := dl_6_ok (1171, (.iadd, 1)) (List.mem_of_getElem? (i := 21) rfl)
set_option maxRecDepth 100000 in
theorem dL_law_1172 : decode code 1172 = .ok (.iaload, 1) := dl_6_ok (1172, (.iaload, 1)) (List.mem_of_getElem? (i := 22) rfl)
set_option maxRecDepth 100000 in
theorem dL_law_1173 : decode code 1173 = .ok (.invokevirtual 139, 3) := dl_6_ok (1173, (.invokevirtual 139, 3)) (List.mem_of_getElem? (i := 23) rfl)
set_option maxRecDepth 100000 in
theorem dL_law_1176 : decode code 1176 = .ok (.pop, 1) := dl_6_ok (1176, (.pop, 1)) (List.mem_of_getElem? (i := 24) rfl)
set_option maxRecDepth 100000 in
theorem dL_law_1177 : decode code 1177 = .ok (.aload_n 2, 1) := dl_6_ok (1177, (.aload_n 2, 1)) (List.mem_of_getElem? (i := 25) rfl)
set_option maxRecDepth 100000 in
theorem dL_law_1178 : decode code 1178 = .ok (.aload_n 0, 1) := dl_6_ok (1178, (.aload_n 0, 1)) (List.mem_of_getElem? (i := 26) rfl)
set_option maxRecDepth 100000 in
theorem dL_law_1179 : decode code 1179 = .ok (.iload_n 3, 1) := dl_6_ok (1179, (.iload_n 3, 1)) (List.mem_of_getElem? (i := 27) rfl)
set_option maxRecDepth 100000 in
theorem dL_law_1180 : decode code 1180 = .ok (.iconst 1, 1) := dl_6_ok (1180, (.iconst 1, 1)) (List.mem_of_getElem? (i := 28) rfl)
set_option maxRecDepth 100000 in
theorem dL_law_1181 : decode code 1181 = .ok (.iadd, 1) := dl_6_ok (1181, (.iadd, 1)) (List.mem_of_getElem? (i := 29) rfl)
set_option maxRecDepth 100000 in
theorem dL_law_1182 : decode code 1182 = .ok (.iaload, 1) := dl_6_ok (1182, (.iaload, 1)) (List.mem_of_getElem? (i := 30) rfl)
set_option maxRecDepth 100000 in
theorem dL_law_1183 : decode code 1183 = .ok (.aload_n 0, 1) := dl_6_ok (1183, (.aload_n 0, 1)) (List.mem_of_getElem? (i := 31) rfl)
set_option maxRecDepth 100000 in
theorem dL_law_1184 : decode code 1184 = .ok (.iload_n 3, 1) := dl_6_ok (1184, (.iload_n 3, 1)) (List.mem_of_getElem? (i := 32) rfl)
set_option maxRecDepth 100000 in
theorem dL_law_1185 : decode code 1185 = .ok (.iconst 2, 1) := dl_6_ok (1185, (.iconst 2, 1)) (List.mem_of_getElem? (i := 33) rfl)
set_option maxRecDepth 100000 in
theorem dL_law_1186 : decode code 1186 = .ok (.iadd, 1) := dl_6_ok (1186, (.iadd, 1)) (List.mem_of_getElem? (i := 34) rfl)
set_option maxRecDepth 100000 in
theorem dL_law_1187 : decode code 1187 = .ok (.iaload, 1) := dl_6_ok (1187, (.iaload, 1)) (List.mem_of_getElem? (i := 35) rfl)
set_option maxRecDepth 100000 in
theorem dL_law_1188 : decode code 1188 = .ok (.invokevirtual 142, 3) := dl_6_ok (1188, (.invokevirtual 142, 3)) (List.mem_of_getElem? (i := 36) rfl)
set_option maxRecDepth 100000 in
theorem dL_law_1191 : decode code 1191 = .ok (.pop, 1) := dl_6_ok (1191, (.pop, 1)) (List.mem_of_getElem? (i := 37) rfl)
set_option maxRecDepth 100000 in
theorem dL_law_1192 : decode code 1192 = .ok (.goto 1468, 3) := dl_6_ok (1192, (.goto 1468, 3)) (List.mem_of_getElem? (i := 38) rfl)
set_option maxRecDepth 100000 in
theorem dL_law_1195 : decode code 1195 = .ok (.aload_n 1, 1) := dl_6_ok (1195, (.aload_n 1, 1)) (List.mem_of_getElem? (i := 39) rfl)
set_option maxRecDepth 100000 in
theorem dL_law_1196 : decode code 1196 = .ok (.invokevirtual 143, 3) := dl_6_ok (1196, (.invokevirtual 143, 3)) (List.mem_of_getElem? (i := 40) rfl)
set_option maxRecDepth 100000 in
theorem dL_law_1199 : decode code 1199 = .ok (.pop, 1) := dl_6_ok (1199, (.pop, 1)) (List.mem_of_getElem? (i := 41) rfl)
set_option maxRecDepth 100000 in
theorem dL_law_1200 : decode code 1200 = .ok (.aload_n 2, 1) := dl_6_ok (1200, (.aload_n 2, 1)) (List.mem_of_getElem? (i := 42) rfl)
set_option maxRecDepth 100000 in
theorem dL_law_1201 : decode code 1201 = .ok (.invokevirtual 146, 3) := dl_6_ok (1201, (.invokevirtual 146, 3)) (List.mem_of_getElem? (i := 43) rfl)
set_option maxRecDepth 100000 in
theorem dL_law_1204 : decode code 1204 = .ok (.pop, 1) := dl_6_ok (1204, (.pop, 1)) (List.mem_of_getElem? (i := 44) rfl)
set_option maxRecDepth 100000 in
theorem dL_law_1205 : decode code 1205 = .ok (.goto 1455, 3) := dl_6_ok (1205, (.goto 1455, 3)) (List.mem_of_getElem? (i := 45) rfl)
set_option maxRecDepth 100000 in
theorem dL_law_1208 : decode code 1208 = .ok (.aload_n 1, 1) := dl_6_ok (1208, (.aload_n 1, 1)) (List.mem_of_getElem? (i := 46) rfl)
set_option maxRecDepth 100000 in
theorem dL_law_1209 : decode code 1209 = .ok (.aload_n 0, 1) := dl_6_ok (1209, (.aload_n 0, 1)) (List.mem_of_getElem? (i := 47) rfl)
set_option maxRecDepth 100000 in
theorem dL_law_1210 : decode code 1210 = .ok (.iload_n 3, 1) := dl_6_ok (1210, (.iload_n 3, 1)) (List.mem_of_getElem? (i := 48) rfl)
set_option maxRecDepth 100000 in
theorem dL_law_1211 : decode code 1211 = .ok (.iconst 1, 1) := dl_6_ok (1211, (.iconst 1, 1)) (List.mem_of_getElem? (i := 49) rfl)
set_option maxRecDepth 100000 in
theorem dL_law_1212 : decode code 1212 = .ok (.iadd, 1) := dl_6_ok (1212, (.iadd, 1)) (List.mem_of_getElem? (i := 50) rfl)
set_option maxRecDepth 100000 in
theorem dL_law_1213 : decode code 1213 = .ok (.iaload, 1) := dl_6_ok (1213, (.iaload, 1)) (List.mem_of_getElem? (i := 51) rfl)
set_option maxRecDepth 100000 in
theorem dL_law_1214 : decode code 1214 = .ok (.invokevirtual 147, 3) := dl_6_ok (1214, (.invokevirtual 147, 3)) (List.mem_of_getElem? (i := 52) rfl)
set_option maxRecDepth 100000 in
theorem dL_law_1217 : decode code 1217 = .ok (.pop, 1) := dl_6_ok (1217, (.pop, 1)) (List.mem_of_getElem? (i := 53) rfl)
set_option maxRecDepth 100000 in
theorem dL_law_1218 : decode code 1218 = .ok (.aload_n 2, 1) := dl_6_ok (1218, (.aload_n 2, 1)) (List.mem_of_getElem? (i := 54) rfl)
set_option maxRecDepth 100000 in
theorem dL_law_1219 : decode code 1219 = .ok (.aload_n 0, 1) := dl_6_ok (1219, (.aload_n 0, 1)) (List.mem_of_getElem? (i := 55) rfl)
set_option maxRecDepth 100000 in
theorem dL_law_1220 : decode code 1220 = .ok (.iload_n 3, 1) := dl_6_ok (1220, (.iload_n 3, 1)) (List.mem_of_getElem? (i := 56) rfl)
set_option maxRecDepth 100000 in
theorem dL_law_1221 : decode code 1221 = .ok (.iconst 1, 1) := dl_6_ok (1221, (.iconst 1, 1)) (List.mem_of_getElem? (i := 57) rfl)
set_option maxRecDepth 100000 in
theorem dL_law_1222 : decode code 1222 = .ok (.iadd, 1) := dl_6_ok (1222, (.iadd, 1)) (List.mem_of_getElem? (i := 58) rfl)
set_option maxRecDepth 100000 in
theorem dL_law_1223 : decode code 1223 = .ok (.iaload, 1) := dl_6_ok (1223, (.iaload, 1)) (List.mem_of_getElem? (i := 59) rfl)
set_option maxRecDepth 100000 in
theorem dL_law_1224 : decode code 1224 = .ok (.invokevirtual 150, 3) := dl_6_ok (1224, (.invokevirtual 150, 3)) (List.mem_of_getElem? (i := 60) rfl)
set_option maxRecDepth 100000 in
theorem dL_law_1227 : decode code 1227 = .ok (.pop, 1) := dl_6_ok (1227, (.pop, 1)) (List.mem_of_getElem? (i := 61) rfl)
set_option maxRecDepth 100000 in
theorem dL_law_1228 : decode code 1228 = .ok (.goto 1432, 3) := dl_6_ok (1228, (.goto 1432, 3)) (List.mem_of_getElem? (i := 62) rfl)
set_option maxRecDepth 100000 in
theorem dL_law_1231 : decode code 1231 = .ok (.aload_n 1, 1) := dl_6_ok (1231, (.aload_n 1, 1)) (List.mem_of_getElem? (i := 63) rfl)
set_option maxRecDepth 100000 in
theorem dL_law_1232 : decode code 1232 = .ok (.invokevirtual 151, 3) := dl_6_ok (1232, (.invokevirtual 151, 3)) (List.mem_of_getElem? (i := 64) rfl)
set_option maxRecDepth 100000 in
theorem dL_law_1235 : decode code 1235 = .ok (.pop, 1) := dl_6_ok (1235, (.pop, 1)) (List.mem_of_getElem? (i := 65) rfl)
set_option maxRecDepth 100000 in
theorem dL_law_1236 : decode code 1236 = .ok (.aload_n 2, 1) := dl_6_ok (1236, (.aload_n 2, 1)) (List.mem_of_getElem? (i := 66) rfl)
set_option maxRecDepth 100000 in
theorem dL_law_1237 : decode code 1237 = .ok (.invokevirtual 154, 3) := dl_6_ok (1237, (.invokevirtual 154, 3)) (List.mem_of_getElem? (i := 67) rfl)
set_option maxRecDepth 100000 in
theorem dL_law_1240 : decode code 1240 = .ok (.pop, 1) := dl_6_ok (1240, (.pop, 1)) (List.mem_of_getElem? (i := 68) rfl)
set_option maxRecDepth 100000 in
theorem dL_law_1241 : decode code 1241 = .ok (.goto 1419, 3) := dl_6_ok (1241, (.goto 1419, 3)) (List.mem_of_getElem? (i := 69) rfl)
set_option maxRecDepth 100000 in
theorem dL_law_1244 : decode code 1244 = .ok (.aload_n 1, 1) := dl_6_ok (1244, (.aload_n 1, 1)) (List.mem_of_getElem? (i := 70) rfl)
set_option maxRecDepth 100000 in
theorem dL_law_1245 : decode code 1245 = .ok (.aload_n 0, 1) := dl_6_ok (1245, (.aload_n 0, 1)) (List.mem_of_getElem? (i := 71) rfl)
set_option maxRecDepth 100000 in
theorem dL_law_1246 : decode code 1246 = .ok (.iload_n 3, 1) := dl_6_ok (1246, (.iload_n 3, 1)) (List.mem_of_getElem? (i := 72) rfl)
set_option maxRecDepth 100000 in
theorem dL_law_1247 : decode code 1247 = .ok (.iconst 1, 1) := dl_6_ok (1247, (.iconst 1, 1)) (List.mem_of_getElem? (i := 73) rfl)
set_option maxRecDepth 100000 in
theorem dL_law_1248 : decode code 1248 = .ok (.iadd, 1) := dl_6_ok (1248, (.iadd, 1)) (List.mem_of_getElem? (i := 74) rfl)
set_option maxRecDepth 100000 in
theorem dL_law_1249 : decode code 1249 = .ok (.iaload, 1) := dl_6_ok (1249, (.iaload, 1)) (List.mem_of_getElem? (i := 75) rfl)
set_option maxRecDepth 100000 in
theorem dL_law_1250 : decode code 1250 = .ok (.invokevirtual 155, 3) := dl_6_ok (1250, (.invokevirtual 155, 3)) (List.mem_of_getElem? (i := 76) rfl)
set_option maxRecDepth 100000 in
theorem dL_law_1253 : decode code 1253 = .ok (.pop, 1) := dl_6_ok (1253, (.pop, 1)) (List.mem_of_getElem? (i := 77) rfl)
set_option maxRecDepth 100000 in
theorem dL_law_1254 : decode code 1254 = .ok (.aload_n 2, 1) := dl_6_ok (1254, (.aload_n 2, 1)) (List.mem_of_getElem? (i := 78) rfl)
set_option maxRecDepth 100000 in
theorem dL_law_1255 : decode code 1255 = .ok (.aload_n 0, 1) := dl_6_ok (1255, (.aload_n 0, 1)) (List.mem_of_getElem? (i := 79) rfl)
set_option maxRecDepth 100000 in
theorem dL_law_1256 : decode code 1256 = .ok (.iload_n 3, 1) := dl_6_ok (1256, (.iload_n 3, 1)) (List.mem_of_getElem? (i := 80) rfl)
set_option maxRecDepth 100000 in
theorem dL_law_1257 : decode code 1257 = .ok (.iconst 1, 1) := dl_6_ok (1257, (.iconst 1, 1)) (List.mem_of_getElem? (i := 81) rfl)
set_option maxRecDepth 100000 in
theorem dL_law_1258 : decode code 1258 = .ok (.iadd, 1) := dl_6_ok (1258, (.iadd, 1)) (List.mem_of_getElem? (i := 82) rfl)
set_option maxRecDepth 100000 in
theorem dL_law_1259 : decode code 1259 = .ok (.iaload, 1) := dl_6_ok (1259, (.iaload, 1)) (List.mem_of_getElem? (i := 83) rfl)
set_option maxRecDepth 100000 in
theorem dL_law_1260 : decode code 1260 = .ok (.invokevirtual 158, 3) := dl_6_ok (1260, (.invokevirtual 158, 3)) (List.mem_of_getElem? (i := 84) rfl)
set_option maxRecDepth 100000 in
theorem dL_law_1263 : decode code 1263 = .ok (.pop, 1) := dl_6_ok (1263, (.pop, 1)) (List.mem_of_getElem? (i := 85) rfl)
set_option maxRecDepth 100000 in
theorem dL_law_1264 : decode code 1264 = .ok (.goto 1396, 3) := dl_6_ok (1264, (.goto 1396, 3)) (List.mem_of_getElem? (i := 86) rfl)
set_option maxRecDepth 100000 in
theorem dL_law_1267 : decode code 1267 = .ok (.aload_n 1, 1) := dl_6_ok (1267, (.aload_n 1, 1)) (List.mem_of_getElem? (i := 87) rfl)
set_option maxRecDepth 100000 in
theorem dL_law_1268 : decode code 1268 = .ok (.aload_n 0, 1) := dl_6_ok (1268, (.aload_n 0, 1)) (List.mem_of_getElem? (i := 88) rfl)
set_option maxRecDepth 100000 in
theorem dL_law_1269 : decode code 1269 = .ok (.iload_n 3, 1) := dl_6_ok (1269, (.iload_n 3, 1)) (List.mem_of_getElem? (i := 89) rfl)
set_option maxRecDepth 100000 in
theorem dL_law_1270 : decode code 1270 = .ok (.iconst 1, 1) := dl_6_ok (1270, (.iconst 1, 1)) (List.mem_of_getElem? (i := 90) rfl)
set_option maxRecDepth 100000 in
theorem dL_law_1271 : decode code 1271 = .ok (.iadd, 1) := dl_6_ok (1271, (.iadd, 1)) (List.mem_of_getElem? (i := 91) rfl)
set_option maxRecDepth 100000 in
theorem dL_law_1272 : decode code 1272 = .ok (.iaload, 1) := dl_6_ok (1272, (.iaload, 1)) (List.mem_of_getElem? (i := 92) rfl)
set_option maxRecDepth 100000 in
theorem dL_law_1273 : decode code 1273 = .ok (.invokevirtual 159, 3) := dl_6_ok (1273, (.invokevirtual 159, 3)) (List.mem_of_getElem? (i := 93) rfl)
set_option maxRecDepth 100000 in
theorem dL_law_1276 : decode code 1276 = .ok (.pop, 1) := dl_6_ok (1276, (.pop, 1)) (List.mem_of_getElem? (i := 94) rfl)
set_option maxRecDepth 100000 in
theorem dL_law_1277 : decode code 1277 = .ok (.aload_n 2, 1) := dl_6_ok (1277, (.aload_n 2, 1)) (List.mem_of_getElem? (i := 95) rfl)
set_option maxRecDepth 100000 in
theorem dL_law_1278 : decode code 1278 = .ok (.aload_n 0, 1) := dl_6_ok (1278, (.aload_n 0, 1)) (List.mem_of_getElem? (i := 96) rfl)
set_option maxRecDepth 100000 in
theorem dL_law_1279 : decode code 1279 = .ok (.iload_n 3, 1) := dl_6_ok (1279, (.iload_n 3, 1)) (List.mem_of_getElem? (i := 97) rfl)
set_option maxRecDepth 100000 in
theorem dL_law_1280 : decode code 1280 = .ok (.iconst 1, 1) := dl_6_ok (1280, (.iconst 1, 1)) (List.mem_of_getElem? (i := 98) rfl)
set_option maxRecDepth 100000 in
theorem dL_law_1281 : decode code 1281 = .ok (.iadd, 1) := dl_6_ok (1281, (.iadd, 1)) (List.mem_of_getElem? (i := 99) rfl)
def dl_7 : List (Nat × (Instr × Nat)) := [(1282, (.iaload, 1)), (1283, (.invokevirtual 162, 3)), (1286, (.pop, 1)), (1287, (.goto 1373, 3)), (1290, (.aload_n 1, 1)), (1291, (.aload_n 0, 1)), (1292, (.iload_n 3, 1)), (1293, (.iconst 1, 1)), (1294, (.iadd, 1)), (1295, (.iaload, 1)), (1296, (.aload_n 0, 1)), (1297, (.iload_n 3, 1)), (1298, (.iconst 2, 1)), (1299, (.iadd, 1)), (1300, (.iaload, 1)), (1301, (.invokevirtual 163, 3)), (1304, (.pop, 1)), (1305, (.aload_n 2, 1)), (1306, (.aload_n 0, 1)), (1307, (.iload_n 3, 1)), (1308, (.iconst 1, 1)), (1309, (.iadd, 1)), (1310, (.iaload, 1)), (1311, (.aload_n 0, 1)), (1312, (.iload_n 3, 1)), (1313, (.iconst 2, 1)), (1314, (.iadd, 1)), (1315, (.iaload, 1)), (1316, (.invokevirtual 166, 3)), (1319, (.pop, 1)), (1320, (.goto 1340, 3)), (1323, (.aload_n 1, 1)), (1324, (.aload_n 0, 1)), (1325, (.iload_n 3, 1)), (1326, (.iconst 1, 1)), (1327, (.iadd, 1)), (1328, (.iaload, 1)), (1329, (.aload_n 0, 1)), (1330, (.iload_n 3, 1)), (1331, (.iconst 2, 1)), (1332, (.iadd, 1)), (1333, (.iaload, 1)), (1334, (.invokevirtual 167, 3)), (1337, (.pop, 1)), (1338, (.aload_n 2, 1)), (1339, (.aload_n 0, 1)), (1340, (.iload_n 3, 1)), (1341, (.iconst 1, 1)), (1342, (.iadd, 1)), (1343, (.iaload, 1)), (1344, (.aload_n 0, 1)), (1345, (.iload_n 3, 1)), (1346, (.iconst 2, 1)), (1347, (.iadd, 1)), (1348, (.iaload, 1)), (1349, (.invokevirtual 170, 3)), (1352, (.pop, 1)), (1353, (.goto 1307, 3)), (1356, (.aload_n 1, 1)), (1357, (.aload_n 0, 1)), (1358, (.iload_n 3, 1)), (1359, (.iconst 1, 1)), (1360, (.iadd, 1)), (1361, (.iaload, 1)), (1362, (.invokevirtual 171, 3)), (1365, (.pop, 1)), (1366, (.aload_n 2, 1)), (1367, (.aload_n 0, 1)), (1368, (.iload_n 3, 1)), (1369, (.iconst 1, 1)), (1370, (.iadd, 1)), (1371, (.iaload, 1)), (1372, (.invokevirtual 174, 3)), (1375, (.pop, 1)), (1376, (.goto 1284, 3)), (1379, (.aload_n 1, 1)), (1380, (.aload_n 0, 1)), (1381, (.iload_n 3, 1)), (1382, (.iconst 1, 1)), (1383, (.iadd, 1)), (1384, (.iaload, 1)), (1385, (.invokevirtual 175, 3)), (1388, (.pop, 1)), (1389, (.aload_n 2, 1)), (1390, (.aload_n 0, 1)), (1391, (.iload_n 3, 1)), (1392, (.iconst 1, 1)), (1393, (.iadd, 1)), (1394, (.iaload, 1)), (1395, (.invokevirtual 178, 3)), (1398, (.pop, 1)), (1399, (.goto 1261, 3)), (1402, (.aload_n 1, 1)), (1403, (.aload_n 0, 1)), (1404, (.iload_n 3, 1)), (1405, (.iconst 1, 1)), (1406, (.iadd, 1)), (1407, (.iaload, 1)), (1408, (.invokevirtual 179, 3)), (1411, (.pop, 1))]
set_option maxRecDepth 100000 in
theorem dl_7_ok : ∀ x ∈ dl_7, decode code x.1 = .ok x.2 := by decide +kernel
set_option maxRecDepth 100000 in
theorem dL_law_1282 : decode code 1282 = .ok (.iaload, 1) := dl_7_ok (1282, (.iaload, 1)) (List.mem_of_getElem? (i := 0) rfl)
set_option maxRecDepth 100000 in
theorem dL_law_1283 : decode code 1283 = .ok (.invokevirtual 162, 3) := dl_7_ok (1283, (.invokevirtual 162, 3)) (List.mem_of_getElem? (i := 1) rfl)
set_option maxRecDepth 100000 in
theorem dL_law_1286 : decode code 1286 = .ok (.pop, 1) := dl_7_ok (1286, (.pop, 1)) (List.mem_of_getElem? (i := 2) rfl)
set_option maxRecDepth 100000 in
theorem dL_law_1287 : decode code 1287 = .ok (.goto 1373, 3) := dl_7_ok (1287, (.goto 1373, 3)) (List.mem_of_getElem? (i := 3) rfl)
set_option maxRecDepth 100000 in
theorem dL_law_1290 : decode code 1290 = .ok (.aload_n 1, 1) := dl_7_ok (1290, (.aload_n 1, 1)) (List.mem_of_getElem? (i := 4) rfl)
set_option maxRecDepth 100000 in
theorem dL_law_1291 : decode code 1291 = .ok (.aload_n 0, 1) := dl_7_ok (1291, (.aload_n 0, 1)) (List.mem_of_getElem? (i := 5) rfl)
set_option maxRecDepth 100000 in
theorem dL_law_1292 : decode code 1292 = .ok (.iload_n 3, 1) := dl_7_ok (1292, (.iload_n 3, 1)) (List.mem_of_getElem? (i := 6) rfl)
set_option maxRecDepth 100000 in
theorem dL_law_1293 : decode code 1293 = .ok (.iconst 1, 1) := dl_7_ok (1293, (.iconst 1, 1)) (List.mem_of_getElem? (i := 7) rfl)
set_option maxRecDepth 100000 in
theorem dL_law_1294 : decode code 1294 = .ok (.iadd, 1) := dl_7_ok (1294, (.iadd, 1)) (List.mem_of_getElem? (i := 8) rfl)
set_option maxRecDepth 100000 in
theorem dL_law_1295 : decode code 1295 = .ok (.iaload, 1) := dl_7_ok (1295, (.iaload, 1)) (List.mem_of_getElem? (i := 9) rfl)
set_option maxRecDepth 100000 in
theorem dL_law_1296 : decode code 1296 = .ok (.aload_n 0, 1) := dl_7_ok (1296, (.aload_n 0, 1)) (List.mem_of_getElem? (i := 10) rfl)
set_option maxRecDepth 100000 in
theorem dL_law_1297 : decode code 1297 = .ok (.iload_n 3, 1) := dl_7_ok (1297, (.iload_n 3, 1)) (List.mem_of_getElem? (i := 11) rfl)
set_option maxRecDepth 100000 in
theorem dL_law_1298 : decode code 1298 = .ok (.iconst 2, 1) := dl_7_ok (1298, (.iconst 2, 1)) (List.mem_of_getElem? (i := 12) rfl)
set_option maxRecDepth 100000 in
theorem dL_law_1299 : decode code 1299 = .ok (.iadd, 1) := dl_7_ok (1299, (.iadd, 1)) (List.mem_of_getElem? (i := 13) rfl)
set_option maxRecDepth 100000 in
theorem dL_law_1300 : decode code 1300 = .ok (.iaload, 1) := dl_7_ok (1300, (.iaload, 1)) (List.mem_of_getElem? (i := 14) rfl)
set_option maxRecDepth 100000 in
theorem dL_law_1301 : decode code 1301 = .ok (.invokevirtual 163, 3) := dl_7_ok (1301, (.invokevirtual 163, 3)) (List.mem_of_getElem? (i := 15) rfl)
set_option maxRecDepth 100000 in
theorem dL_law_1304 : decode code 1304 = .ok (.pop, 1) := dl_7_ok (1304, (.pop, 1)) (List.mem_of_getElem? (i := 16) rfl)
set_option maxRecDepth 100000 in
theorem dL_law_1305 : decode code 1305 = .ok (.aload_n 2, 1) := dl_7_ok (1305, (.aload_n 2, 1)) (List.mem_of_getElem? (i := 17) rfl)
set_option maxRecDepth 100000 in
theorem dL_law_1306 : decode code 1306 = .ok (.aload_n 0, 1) := dl_7_ok (1306, (.aload_n 0, 1)) (List.mem_of_getElem? (i := 18) rfl)
set_option maxRecDepth 100000 in
theorem dL_law_1307 : decode code 1307 = .ok (.iload_n 3, 1) := dl_7_ok (1307, (.iload_n 3, 1)) (List.mem_of_getElem? (i := 19) rfl)
set_option maxRecDepth 100000 in
theorem dL_law_1308 : decode code 1308 = .ok (.iconst 1, 1) := dl_7_ok (1308, (.iconst 1, 1)) (List.mem_of_getElem? (i := 20) rfl)
set_option maxRecDepth 100000 in
theorem dL_law_1309 : decode code 1309 = .ok (.iadd, 1) := dl_7_ok (1309, (.iadd, 1)) (List.mem_of_getElem? (i := 21) rfl)
set_option maxRecDepth 100000 in
theorem dL_law_1310 : decode code 1310 = .ok (.iaload, 1) := dl_7_ok (1310, (.iaload, 1)) (List.mem_of_getElem? (i := 22) rfl)
set_option maxRecDepth 100000 in
theorem dL_law_1311 : decode code 1311 = .ok (.aload_n 0, 1) := dl_7_ok (1311, (.aload_n 0, 1)) (List.mem_of_getElem? (i := 23) rfl)
set_option maxRecDepth 100000 in
theorem dL_law_1312 : decode code 1312 = .ok (.iload_n 3, 1) := dl_7_ok (1312, (.iload_n 3, 1)) (List.mem_of_getElem? (i := 24) rfl)
set_option maxRecDepth 100000 in
theorem dL_law_1313 : decode code 1313 = .ok (.iconst 2, 1) := dl_7_ok (1313, (.iconst 2, 1)) (List.mem_of_getElem? (i := 25) rfl)
set_option maxRecDepth 100000 in
theorem dL_law_1314 : decode code 1314 = .ok (.iadd, 1) := dl_7_ok (1314, (.iadd, 1)) (List.mem_of_getElem? (i := 26) rfl)
set_option maxRecDepth 100000 in
theorem dL_law_1315 : decode code 1315 = .ok (.iaload, 1) := dl_7_ok (1315, (.iaload, 1)) (List.mem_of_getElem? (i := 27) rfl)
set_option maxRecDepth 100000 in
theorem dL_law_1316 : decode code 1316 = .ok (.invokevirtual 166, 3) := dl_7_ok (1316, (.invokevirtual 166, 3)) (List.mem_of_getElem? (i := 28) rfl)
set_option maxRecDepth 100000 in
theorem dL_law_1319 : decode code 1319 = .ok (.pop, 1) := dl_7_ok (1319, (.pop, 1)) (List.mem_of_getElem? (i := 29) rfl)
set_option maxRecDepth 100000 in
theorem dL_law_1320 : decode code 1320 = .ok (.goto 1340, 3) := dl_7_ok (1320, (.goto 1340, 3)) (List.mem_of_getElem? (i := 30) rfl)
set_option maxRecDepth 100000 in
theorem dL_law_1323 : decode code 1323 = .ok (.aload_n 1, 1) := dl_7_ok (1323, (.aload_n 1, 1)) (List.mem_of_getElem? (i := 31) rfl)
set_option maxRecDepth 100000 in
theorem dL_law_1324 : decode code 1324 = .ok (.aload_n 0, 1) := dl_7_ok (1324, (.aload_n 0, 1)) (List.mem_of_getElem? (i := 32) rfl)
set_option maxRecDepth 100000 in
theorem dL_law_1325 : decode code 1325 = .ok (.iload_n 3, 1) := dl_7_ok (1325, (.iload_n 3, 1)) (List.mem_of_getElem? (i := 33) rfl)
set_option maxRecDepth 100000 in
theorem dL_law_1326 : decode code 1326 = .ok (.iconst 1, 1) := dl_7_ok (1326, (.iconst 1, 1)) (List.mem_of_getElem? (i := 34) rfl)
set_option maxRecDepth 100000 in
theorem dL_law_1327 : decode code 1327 = .ok (.iadd, 1) := dl_7_ok (1327, (.iadd, 1)) (List.mem_of_getElem? (i := 35) rfl)
set_option maxRecDepth 100000 in
theorem dL_law_1328 : decode code 1328 = .ok (.iaload, 1) := dl_7_ok (1328, (.iaload, 1)) (List.mem_of_getElem? (i := 36) rfl)
set_option maxRecDepth 100000 in
theorem dL_law_1329 : decode code 1329 = .ok (.aload_n 0, 1) := dl_7_ok (1329, (.aload_n 0, 1)) (List.mem_of_getElem? (i := 37) rfl)
set_option maxRecDepth 100000 in
theorem dL_law_1330 : decode code 1330 = .ok (.iload_n 3, 1) := dl_7_ok (1330, (.iload_n 3, 1)) (List.mem_of_getElem? (i := 38) rfl)
set_option maxRecDepth 100000 in
theorem dL_law_1331 : decode code 1331 = .ok (.iconst 2, 1) := dl_7_ok (1331, (.iconst 2, 1)) (List.mem_of_getElem? (i := 39) rfl)
set_option maxRecDepth 100000 in
theorem dL_law_1332 : decode code 1332 = .ok (.iadd, 1) := dl_7_ok (1332, (.iadd, 1)) (List.mem_of_getElem? (i := 40) rfl)
set_option maxRecDepth 100000 in
theorem dL_law_1333 : decode code 1333 = .ok (.iaload, 1) := dl_7_ok (1333, (.iaload, 1)) (List.mem_of_getElem? (i := 41) rfl)
set_option maxRecDepth 100000 in
theorem dL_law_1334 : decode code 1334 = .ok (.invokevirtual 167, 3) := dl_7_ok (1334, (.invokevirtual 167, 3)) (List.mem_of_getElem? (i := 42) rfl)
set_option maxRecDepth 100000 in
theorem dL_law_1337 : decode code 1337 = .ok (.pop, 1) := dl_7_ok (1337, (.pop, 1)) (List.mem_of_getElem? (i := 43) rfl)
set_option maxRecDepth 100000 in
theorem dL_law_1338 : decode code 1338 = .ok (.aload_n 2, 1) := dl_7_ok (1338, (.aload_n 2, 1)) (List.mem_of_getElem? (i := 44) rfl)
set_option maxRecDepth 100000 in
theorem dL_law_1339 : decode code 1339 = .ok (.aload_n 0, 1) := dl_7_ok (1339, (.aload_n 0, 1)) (List.mem_of_getElem? (i := 45) rfl)
set_option maxRecDepth 100000 in
theorem dL_law_1340 : decode code 1340 = .ok (.iload_n 3, 1) := dl_7_ok (1340, (.iload_n 3, 1)) (List.mem_of_getElem? (i := 46) rfl)
set_option maxRecDepth 100000 in
theorem dL_law_1341 : decode code 1341 = .ok (.iconst 1, 1) := dl_7_ok (1341, (.iconst 1, 1)) (List.mem_of_getElem? (i := 47) rfl)
set_option maxRecDepth 100000 in
theorem dL_law_1342 : decode code 1342 = .ok (.iadd, 1) := dl_7_ok (1342, (.iadd, 1)) (List.mem_of_getElem? (i := 48) rfl)
set_option maxRecDepth 100000 in
theorem dL_law_1343 : decode code 1343 = .ok (.iaload, 1) := dl_7_ok (1343, (.iaload, 1)) (List.mem_of_getElem? (i := 49) rfl)
set_option maxRecDepth 100000 in
theorem dL_law_1344 : decode code 1344 = .ok (.aload_n 0, 1) := dl_7_ok (1344, (.aload_n 0, 1)) (List.mem_of_getElem? (i := 50) rfl)
set_option maxRecDepth 100000 in
theorem dL_law_1345 : decode code 1345 = .ok (.iload_n 3, 1) := dl_7_ok (1345, (.iload_n 3, 1)) (List.mem_of_getElem? (i := 51) rfl)
set_option maxRecDepth 100000 in
theorem dL_law_1346 : decode code 1346 = .ok (.iconst 2, 1) := dl_7_ok (1346, (.iconst 2, 1)) (List.mem_of_getElem? (i := 52) rfl)
set_option maxRecDepth 100000 in
theorem dL_law_1347 : decode code 1347 = .ok (.iadd, 1) := dl_7_ok (1347, (.iadd, 1)) (List.mem_of_getElem? (i := 53) rfl)
set_option maxRecDepth 100000 in
theorem dL_law_1348 : decode code 1348 = .ok (.iaload, 1) := dl_7_ok (1348, (.iaload, 1)) (List.mem_of_getElem? (i := 54) rfl)
set_option maxRecDepth 100000 in
theorem dL_law_1349 : decode code 1349 = .ok (.invokevirtual 170, 3) := dl_7_ok (1349, (.invokevirtual 170, 3)) (List.mem_of_getElem? (i := 55) rfl)
set_option maxRecDepth 100000 in
theorem dL_law_1352 : decode code 1352 = .ok (.pop, 1) := dl_7_ok (1352, (.pop, 1)) (List.mem_of_getElem? (i := 56) rfl)
set_option maxRecDepth 100000 in
theorem dL_law_1353 : decode code 1353 = .ok (.goto 1307, 3) := dl_7_ok (1353, (.goto 1307, 3)) (List.mem_of_getElem? (i := 57) rfl)
set_option maxRecDepth 100000 in
theorem dL_law_1356 : decode code 1356 = .ok (.aload_n 1, 1) := dl_7_ok (1356, (.aload_n 1, 1)) (List.mem_of_getElem? (i := 58) rfl)
set_option maxRecDepth 100000 in
theorem dL_law_1357 : decode code 1357 = .ok (.aload_n 0, 1) := dl_7_ok (1357, (.aload_n 0, 1)) (List.mem_of_getElem? (i := 59) rfl)
set_option maxRecDepth 100000 in
theorem dL_law_1358 : decode code 1358 = .ok (.iload_n 3, 1) := dl_7_ok (1358, (.iload_n 3, 1)) (List.mem_of_getElem? (i := 60) rfl)
set_option maxRecDepth 100000 in
theorem dL_law_1359 : decode code 1359 = .ok (.iconst 1, 1) := dl_7_ok (1359, (.iconst 1, 1)) (List.mem_of_getElem? (i := 61) rfl)
set_option maxRecDepth 100000 in
theorem dL_law_1360 : decode code 1360 = .ok (.iadd, 1) := dl_7_ok (1360, (.iadd, 1)) (List.mem_of_getElem? (i := 62) rfl)
set_option maxRecDepth 100000 in
theorem dL_law_1361 : decode code 1361 = .ok (.iaload, 1) := dl_7_ok (1361, (.iaload, 1)) (List.mem_of_getElem? (i := 63) rfl)
set_option maxRecDepth 100000 in
theorem dL_law_1362 : decode code 1362 = .ok (.invokevirtual 171, 3) := dl_7_ok (1362, (.invokevirtual 171, 3)) (List.mem_of_getElem? (i := 64) rfl)
set_option maxRecDepth 100000 in
theorem dL_law_1365 : decode code 1365 = .ok (.pop, 1) := dl_7_ok (1365, (.pop, 1)) (List.mem_of_getElem? (i := 65) rfl)
set_option maxRecDepth 100000 in
theorem dL_law_1366 : decode code 1366 = .ok (.aload_n 2, 1) := dl_7_ok (1366, (.aload_n 2, 1)) (List.mem_of_getElem? (i := 66) rfl)
set_option maxRecDepth 100000 in
theorem dL_law_1367 : decode code 1367 = .ok (.aload_n 0, 1) := dl_7_ok (1367, (.aload_n 0, 1)) (List.mem_of_getElem? (i := 67) rfl)
set_option maxRecDepth 100000 in
theorem dL_law_1368 : decode code 1368 = .ok (.iload_n 3, 1) := dl_7_ok (1368, (.iload_n 3, 1)) (List.mem_of_getElem? (i := 68) rfl)
set_option maxRecDepth 100000 in
theorem dL_law_1369 : decode code 1369 = .ok (.iconst 1, 1) := dl_7_ok (1369, (.iconst 1, 1)) (List.mem_of_getElem? (i := 69) rfl)
set_option maxRecDepth 100000 in
theorem dL_law_1370 : decode code 1370 = .ok (.iadd, 1) := dl_7_ok (1370, (.iadd, 1)) (List.mem_of_getElem? (i := 70) rfl)
set_option maxRecDepth 100000 in
theorem dL_law_1371 : decode code 1371 = .ok (.iaload, 1) := dl_7_ok (1371, (.iaload, 1)) (List.mem_of_getElem? (i := 71) rfl)
set_option maxRecDepth 100000 in
theorem dL_law_1372 : decode code 1372 = .ok (.invokevirtual 174, 3) := dl_7_ok (1372, (.invokevirtual 174, 3)) (List.mem_of_getElem? (i := 72) rfl)
set_option maxRecDepth 100000 in
theorem dL_law_1375 : decode code 1375 = .ok (.pop, 1) := dl_7_ok (1375, (.pop, 1)) (List.mem_of_getElem? (i := 73) rfl)
set_option maxRecDepth 100000 in
theorem dL_law_1376 : decode code 1376 = .ok (.goto 1284, 3) := dl_7_ok (1376, (.goto 1284, 3)) (List.mem_of_getElem? (i := 74) rfl)
set_option maxRecDepth 100000 in
theorem dL_law_1379 : decode code 1379 = .ok (.aload_n 1, 1) := dl_7_ok (1379, (.aload_n 1, 1)) (List.mem_of_getElem? (i := 75) rfl)
set_option maxRecDepth 100000 in
theorem dL_law_1380 : decode code 1380 = .ok (.aload_n 0, 1) := dl_7_ok (1380, (.aload_n 0, 1)) (List.mem_of_getElem? (i := 76) rfl)
set_option maxRecDepth 100000 in
theorem dL_law_1381 : decode code 1381 = .ok (.iload_n 3, 1) := dl_7_ok (1381, (.iload_n 3, 1)) (List.mem_of_getElem? (i := 77) rfl)
set_option maxRecDepth 100000 in
theorem dL_law_1382 : decode code 1382 = .ok (.iconst 1, 1) := dl_7_ok (1382, (.iconst 1, 1)) (List.mem_of_getElem? (i := 78) rfl)
set_option maxRecDepth 100000 in
theorem dL_law_1383 : decode code 1383 = .ok (.iadd, 1) := dl_7_ok (1383, (.iadd, 1)) (List.mem_of_getElem? (i := 79) rfl)
set_option maxRecDepth 100000 in
theorem dL_law_1384 : decode code 1384 = .ok (.iaload, 1) := dl_7_ok (1384, (.iaload, 1)) (List.mem_of_getElem? (i := 80) rfl)
set_option maxRecDepth 100000 in
theorem dL_law_1385 : decode code 1385 = .ok (.invokevirtual 175, 3) := dl_7_ok (1385, (.invokevirtual 175, 3)) (List.mem_of_getElem? (i := 81) rfl)
set_option maxRecDepth 100000 in
theorem dL_law_1388 : decode code 1388 = .ok (.pop, 1) := dl_7_ok (1388, (.pop, 1)) (List.mem_of_getElem? (i := 82) rfl)
set_option maxRecDepth 100000 in
theorem dL_law_1389 : decode code 1389 = .ok (.aload_n 2, 1) := dl_7_ok (1389, (.aload_n 2, 1)) (List.mem_of_getElem? (i := 83) rfl)
set_option maxRecDepth 100000 in
theorem dL_law_1390 : decode code 1390 = .ok (.aload_n 0, 1) := dl_7_ok (1390, (.aload_n 0, 1)) (List.mem_of_getElem? (i := 84) rfl)
set_option maxRecDepth 100000 in
theorem dL_law_1391 : decode code 1391 = .ok (.iload_n 3, 1) := dl_7_ok (1391, (.iload_n 3, 1)) (List.mem_of_getElem? (i := 85) rfl)
set_option maxRecDepth 100000 in
theorem dL_law_1392 : decode code 1392 = .ok (.iconst 1, 1) := dl_7_ok (1392, (.iconst 1, 1)) (List.mem_of_getElem? (i := 86) rfl)
set_option maxRecDepth 100000 in
theorem dL_law_1393 : decode code 1393 = .ok (.iadd, 1) := dl_7_ok (1393, (.iadd, 1)) (List.mem_of_getElem? (i := 87) rfl)
set_option maxRecDepth 100000 in
theorem dL_law_1394 : decode code 1394 = .ok (.iaload, 1) := dl_7_ok (1394, (.iaload, 1)) (List.mem_of_getElem? (i := 88) rfl)
set_option maxRecDepth 100000 in
theorem dL_law_1395 : decode code 1395 = .ok (.invokevirtual 178, 3) := dl_7_ok (1395, (.invokevirtual 178, 3)) (List.mem_of_getElem? (i := 89) rfl)
set_option maxRecDepth 100000 in
theorem dL_law_1398 : decode code 1398 = .ok (.pop, 1) := dl_7_ok (1398, (.pop, 1)) (List.mem_of_getElem? (i := 90) rfl)
set_option maxRecDepth 100000 in
theorem dL_law_1399 : decode code 1399 = .ok (.goto 1261, 3) := dl_7_ok (1399, (.goto 1261, 3)) (List.mem_of_getElem? (i := 91) rfl)
set_option maxRecDepth 100000 in
theorem dL_law_1402 : decode code 1402 = .ok (.aload_n 1, 1) := dl_7_ok (1402, (.aload_n 1, 1)) (List.mem_of_getElem? (i := 92) rfl)
set_option maxRecDepth 100000 in
theorem dL_law_1403 : decode code 1403 = .ok (.aload_n 0, 1) := dl_7_ok (1403, (.aload_n 0, 1)) (List.mem_of_getElem? (i := 93) rfl)
set_option maxRecDepth 100000 in
theorem dL_law_1404 : decode code 1404 = .ok (.iload_n 3, 1) := dl_7_ok (1404, (.iload_n 3, 1)) (List.mem_of_getElem? (i := 94) rfl)
set_option maxRecDepth 100000 in
theorem dL_law_1405 : decode code 1405 = .ok (.iconst 1, 1) := dl_7_ok (1405, (.iconst 1, 1)) (List.mem_of_getElem? (i := 95) rfl)
set_option maxRecDepth 100000 in
theorem dL_law_1406 : decode code 1406 = .ok (.iadd, 1) := dl_7_ok (1406, (.iadd, 1)) (List.mem_of_getElem? (i := 96) rfl)
set_option maxRecDepth 100000 in
theorem dL_law_1407 : decode code 1407 = .ok (.iaload, 1) := dl_7_ok (1407, (.iaload, 1)) (List.mem_of_getElem? (i := 97) rfl)
set_option maxRecDepth 100000 in
theorem dL_law_1408 : decode code 1408 = .ok (.invokevirtual 179, 3) := dl_7_ok (1408, (.invokevirtual 179, 3)) (List.mem_of_getElem? (i := 98) rfl)
set_option maxRecDepth 100000 in
theorem dL_law_1411 : decode code 1411 = .ok (.pop, 1) := dl_7_ok (1411, (.pop, 1)) (List.mem_of_getElem? (i := 99) rfl)
def dl_8 : List (Nat × (Instr × Nat)) := [(1412, (.aload_n 2, 1)), (1413, (.aload_n 0, 1)), (1414, (.iload_n 3, 1)), (1415, (.iconst 1, 1)), (1416, (.iadd, 1)), (1417, (.iaload, 1)), (1418, (.invokevirtual 182, 3)), (1421, (.pop, 1)), (1422, (.goto 1238, 3)), (1425, (.aload_n 1, 1)), (1426, (.invokevirtual 183, 3)), (1429, (.pop, 1)), (1430, (.aload_n 2, 1)), (1431, (.invokevirtual 186, 3)), (1434, (.pop, 1)), (1435, (.goto 1225, 3)), (1438, (.aload_n 1, 1)), (1439, (.invokevirtual 187, 3)), (1442, (.pop, 1)), (1443, (.aload_n 2, 1)), (1444, (.invokevirtual 190, 3)), (1447, (.pop, 1)), (1448, (.goto 1212, 3)), (1451, (.aload_n 1, 1)), (1452, (.invokevirtual 191, 3)), (1455, (.pop, 1)), (1456, (.aload_n 2, 1)), (1457, (.invokevirtual 194, 3)), (1460, (.pop, 1)), (1461, (.goto 1199, 3)), (1464, (.aload_n 1, 1)), (1465, (.aload_n 0, 1)), (1466, (.iload_n 3, 1)), (1467, (.iconst 1, 1)), (1468, (.iadd, 1)), (1469, (.iaload, 1)), (1470, (.invokevirtual 195, 3)), (1473, (.pop, 1)), (1474, (.aload_n 2, 1)), (1475, (.aload_n 0, 1)), (1476, (.iload_n 3, 1)), (1477, (.iconst 1, 1)), (1478, (.iadd, 1)), (1479, (.iaload, 1)), (1480, (.invokevirtual 198, 3)), (1483, (.pop, 1)), (1484, (.goto 1176, 3)), (1487, (.aload_n 1, 1)), (1488, (.aload_n 0, 1)), (1489, (.iload_n 3, 1)), (1490, (.iconst 1, 1)), (1491, (.iadd, 1)), (1492, (.iaload, 1)), (1493, (.aload_n 0, 1)), (1494, (.iload_n 3, 1)), (1495, (.iconst 2, 1)), (1496, (.iadd, 1)), (1497, (.iaload, 1)), (1498, (.invokevirtual 199, 3)), (1501, (.pop, 1)), (1502, (.aload_n 2, 1)), (1503, (.aload_n 0, 1)), (1504, (.iload_n 3, 1)), (1505, (.iconst 1, 1)), (1506, (.iadd, 1)), (1507, (.iaload, 1)), (1508, (.aload_n 0, 1)), (1509, (.iload_n 3, 1)), (1510, (.iconst 2, 1)), (1511, (.iadd, 1)), (1512, (.iaload, 1)), (1513, (.invokevirtual 202, 3)), (1516, (.pop, 1)), (1517, (.goto 1143, 3)), (1520, (.aload_n 1, 1)), (1521, (.aload_n 0, 1)), (1522, (.iload_n 3, 1)), (1523, (.iconst 1, 1)), (1524, (.iadd, 1)), (1525, (.iaload, 1)), (1526, (.invokevirtual 203, 3)), (1529, (.pop, 1)), (1530, (.aload_n 2, 1)), (1531, (.aload_n 0, 1)), (1532, (.iload_n 3, 1)), (1533, (.iconst 1, 1)), (1534, (.iadd, 1)), (1535, (.iaload, 1)), (1536, (.invokevirtual 206, 3)), (1539, (.pop, 1)), (1540, (.goto 1120, 3)), (1543, (.aload_n 1, 1)), (1544, (.aload_n 0, 1)), (1545, (.iload_n 3, 1)), (1546, (.iconst 1, 1)), (1547, (.iadd, 1)), (1548, (.iaload, 1)), (1549, (.invokevirtual 207, 3)), (1552, (.pop, 1)), (1553, (.aload_n 2, 1))]
set_option maxRecDepth 100000 in
theorem dl_8_ok : ∀ x ∈ dl_8, decode code x.1 = .ok x.2 := by decide +kernel
set_option maxRecDepth 100000 in
theorem dL_law_1412 : decode code 1412 = .ok (.aload_n 2, 1) := dl_8_ok (1412, (.aload_n 2, 1)) (List.mem_of_getElem? (i := 0) rfl)
set_option maxRecDepth 100000 in
theorem dL_law_1413 : decode code 1413 = .ok (.aload_n 0, 1) := dl_8_ok (1413, (.aload_n 0, 1)) (List.mem_of_getElem? (i := 1) rfl)
set_option maxRecDepth 100000 in
theorem dL_law_1414 : decode code 1414 = .ok (.iload_n 3, 1) := dl_8_ok (1414, (.iload_n 3, 1)) (List.mem_of_getElem? (i := 2) rfl)
set_option maxRecDepth 100000 in
theorem dL_law_1415 : decode code 1415 = .ok (.iconst 1, 1) := dl_8_ok (1415, (.iconst 1, 1)) (List.mem_of_getElem? (i := 3) rfl)
set_option maxRecDepth 100000 in
theorem dL_law_1416 : decode code 1416 = .ok (.iadd, 1) := dl_8_ok (1416, (.iadd, 1)) (List.mem_of_getElem? (i := 4) rfl)
set_option maxRecDepth 100000 in
theorem dL_law_1417 : decode code 1417 = .ok (.iaload, 1) := dl_8_ok (1417, (.iaload, 1)) (List.mem_of_getElem? (i := 5) rfl)
set_option maxRecDepth 100000 in
theorem dL_law_1418 : decode code 1418 = .ok (.invokevirtual 182, 3) := dl_8_ok (1418, (.invokevirtual 182, 3)) (List.mem_of_getElem? (i := 6) rfl)
set_option maxRecDepth 100000 in
theorem dL_law_1421 : decode code 1421 = .ok (.pop, 1) := dl_8_ok (1421, (.pop, 1)) (List.mem_of_getElem? (i := 7) rfl)
set_option maxRecDepth 100000 in
theorem dL_law_1422 : decode code 1422 = .ok (.goto 1238, 3) := dl_8_ok (1422, (.goto 1238, 3)) (List.mem_of_getElem? (i := 8) rfl)
set_option maxRecDepth 100000 in
theorem dL_law_1425 : decode code 1425 = .ok (.aload_n 1, 1) := dl_8_ok (1425, (.aload_n 1, 1)) (List.mem_of_getElem? (i := 9) rfl)
set_option maxRecDepth 100000 in
theorem dL_law_1426 : decode code 1426 = .ok (.invokevirtual 183, 3) := dl_8_ok (1426, (.invokevirtual 183, 3)) (List.mem_of_getElem? (i := 10) rfl)
set_option maxRecDepth 100000 in
theorem dL_law_1429 : decode code 1429 = .ok (.pop, 1) := dl_8_ok (1429, (.pop, 1)) (List.mem_of_getElem? (i := 11) rfl)
set_option maxRecDepth 100000 in
theorem dL_law_1430 : decode code 1430 = .ok (.aload_n 2, 1) := dl_8_ok (1430, (.aload_n 2, 1)) (List.mem_of_getElem? (i := 12) rfl)
set_option maxRecDepth 100000 in
theorem dL_law_1431 : decode code 1431 = .ok (.invokevirtual 186, 3) := dl_8_ok (1431, (.invokevirtual 186, 3)) (List.mem_of_getElem? (i := 13) rfl)
set_option maxRecDepth 100000 in
theorem dL_law_1434 : decode code 1434 = .ok (.pop, 1) := dl_8_ok (1434, (.pop, 1)) (List.mem_of_getElem? (i := 14) rfl)
set_option maxRecDepth 100000 in
theorem dL_law_1435 : decode code 1435 = .ok (.goto 1225, 3) := dl_8_ok (1435, (.goto 1225, 3)) (List.mem_of_getElem? (i := 15) rfl)
set_option maxRecDepth 100000 in
theorem dL_law_1438 : decode code 1438 = .ok (.aload_n 1, 1) := dl_8_ok (1438, (.aload_n 1, 1)) (List.mem_of_getElem? (i := 16) rfl)
set_option maxRecDepth 100000 in
theorem dL_law_1439 : decode code 1439 = .ok (.invokevirtual 187, 3) := dl_8_ok (1439, (.invokevirtual 187, 3)) (List.mem_of_getElem? (i := 17) rfl)
set_option maxRecDepth 100000 in
theorem dL_law_1442 : decode code 1442 = .ok (.pop, 1) := dl_8_ok (1442, (.pop, 1)) (List.mem_of_getElem? (i := 18) rfl)
set_option maxRecDepth 100000 in
theorem dL_law_1443 : decode code 1443 = .ok (.aload_n 2, 1) := dl_8_ok (1443, (.aload_n 2, 1)) (List.mem_of_getElem? (i := 19) rfl)
set_option maxRecDepth 100000 in
theorem dL_law_1444 : decode code 1444 = .ok (.invokevirtual 190, 3) := dl_8_ok (1444, (.invokevirtual 190, 3)) (List.mem_of_getElem? (i := 20) rfl)
set_option maxRecDepth 100000 in
theorem dL_law_1447 : decode code 1447 = .ok (.pop, 1) := dl_8_ok (1447, (.pop, 1)) (List.mem_of_getElem? (i := 21) rfl)
set_option maxRecDepth 100000 in
theorem dL_law_1448 : decode code 1448 = .ok (.goto 1212, 3) := dl_8_ok (1448, (.goto 1212, 3)) (List.mem_of_getElem? (i := 22) rfl)
set_option maxRecDepth 100000 in
theorem dL_law_1451 : decode code 1451 = .ok (.aload_n 1, 1) := dl_8_ok (1451, (.aload_n 1, 1)) (List.mem_of_getElem? (i := 23) rfl)
set_option maxRecDepth 100000 in
theorem dL_law_1452 : decode code 1452 = .ok (.invokevirtual 191, 3) := dl_8_ok (1452, (.invokevirtual 191, 3)) (List.mem_of_getElem? (i := 24) rfl)
set_option maxRecDepth 100000 in
theorem dL_law_1455 : decode code 1455 = .ok (.pop, 1) := dl_8_ok (1455, (.pop, 1)) (List.mem_of_getElem? (i := 25) rfl)
set_option maxRecDepth 100000 in
theorem dL_law_1456 : decode code 1456 = .ok (.aload_n 2, 1) := dl_8_ok (1456, (.aload_n 2, 1)) (List.mem_of_getElem? (i := 26) rfl)
set_option maxRecDepth 100000 in
theorem dL_law_1457 : decode code 1457 = .ok (.invokevirtual 194, 3) := dl_8_ok (1457, (.invokevirtual 194, 3)) (List.mem_of_getElem? (i := 27) rfl)
set_option maxRecDepth 100000 in
theorem dL_law_1460 : decode code 1460 = .ok (.pop, 1) := dl_8_ok (1460, (.pop, 1)) (List.mem_of_getElem? (i := 28) rfl)
set_option maxRecDepth 100000 in
theorem dL_law_1461 : decode code 1461 = .ok (.goto 1199, 3) := dl_8_ok (1461, (.goto 1199, 3)) (List.mem_of_getElem? (i := 29) rfl)
set_option maxRecDepth 100000 in
theorem dL_law_1464 : decode code 1464 = .ok (.aload_n 1, 1) := dl_8_ok (1464, (.aload_n 1, 1)) (List.mem_of_getElem? (i := 30) rfl)
set_option maxRecDepth 100000 in
theorem dL_law_1465 : decode code 1465 = .ok (.aload_n 0, 1) := dl_8_ok (1465, (.aload_n 0, 1)) (List.mem_of_getElem? (i := 31) rfl)
set_option maxRecDepth 100000 in
theorem dL_law_1466 : decode code 1466 = .ok (.iload_n 3, 1) := dl_8_ok (1466, (.iload_n 3, 1)) (List.mem_of_getElem? (i := 32) rfl)
set_option maxRecDepth 100000 in
theorem dL_law_1467 : decode code 1467 = .ok (.iconst 1, 1) := dl_8_ok (1467, (.iconst 1, 1)) (List.mem_of_getElem? (i := 33) rfl)
set_option maxRecDepth 100000 in
theorem dL_law_1468 : decode code 1468 = .ok (.iadd, 1) := dl_8_ok (1468, (.iadd, 1)) (List.mem_of_getElem? (i := 34) rfl)
set_option maxRecDepth 100000 in
theorem dL_law_1469 : decode code 1469 = .ok (.iaload, 1) := dl_8_ok (1469, (.iaload, 1)) (List.mem_of_getElem? (i := 35) rfl)
set_option maxRecDepth 100000 in
theorem dL_law_1470 : decode code 1470 = .ok (.invokevirtual 195, 3) := dl_8_ok (1470, (.invokevirtual 195, 3)) (List.mem_of_getElem? (i := 36) rfl)
set_option maxRecDepth 100000 in
theorem dL_law_1473 : decode code 1473 = .ok (.pop, 1) := dl_8_ok (1473, (.pop, 1)) (List.mem_of_getElem? (i := 37) rfl)
set_option maxRecDepth 100000 in
theorem dL_law_1474 : decode code 1474 = .ok (.aload_n 2, 1) := dl_8_ok (1474, (.aload_n 2, 1)) (List.mem_of_getElem? (i := 38) rfl)
set_option maxRecDepth 100000 in
theorem dL_law_1475 : decode code 1475 = .ok (.aload_n 0, 1) := dl_8_ok (1475, (.aload_n 0, 1)) (List.mem_of_getElem? (i := 39) rfl)
set_option maxRecDepth 100000 in
theorem dL_law_1476 : decode code 1476 = .ok (.iload_n 3, 1) := dl_8_ok (1476, (.iload_n 3, 1)) (List.mem_of_getElem? (i := 40) rfl)
set_option maxRecDepth 100000 in
theorem dL_law_1477 : decode code 1477 = .ok (.iconst 1, 1) := dl_8_ok (1477, (.iconst 1, 1)) (List.mem_of_getElem? (i := 41) rfl)
set_option maxRecDepth 100000 in
theorem dL_law_1478 : decode code 1478 = .ok (.iadd, 1) := dl_8_ok (1478, (.iadd, 1)) (List.mem_of_getElem? (i := 42) rfl)
set_option maxRecDepth 100000 in
theorem dL_law_1479 : decode code 1479 = .ok (.iaload, 1) := dl_8_ok (1479, (.iaload, 1)) (List.mem_of_getElem? (i := 43) rfl)
set_option maxRecDepth 100000 in
theorem dL_law_1480 : decode code 1480 = .ok (.invokevirtual 198, 3) := dl_8_ok (1480, (.invokevirtual 198, 3)) (List.mem_of_getElem? (i := 44) rfl)
set_option maxRecDepth 100000 in
theorem dL_law_1483 : decode code 1483 = .ok (.pop, 1) := dl_8_ok (1483, (.pop, 1)) (List.mem_of_getElem? (i := 45) rfl)
set_option maxRecDepth 100000 in
theorem dL_law_1484 : decode code 1484 = .ok (.goto 1176, 3) := dl_8_ok (1484, (.goto 1176, 3)) (List.mem_of_getElem? (i := 46) rfl)
set_option maxRecDepth 100000 in
theorem dL_law_1487 : decode code 1487 = .ok (.aload_n 1, 1) := dl_8_ok (1487, (.aload_n 1, 1)) (List.mem_of_getElem? (i := 47) rfl)
set_option maxRecDepth 100000 in
theorem dL_law_1488 : decode code 1488 = .ok (.aload_n 0, 1) := dl_8_ok (1488, (.aload_n 0, 1)) (List.mem_of_getElem? (i := 48) rfl)
set_option maxRecDepth 100000 in
theorem dL_law_1489 : decode code 1489 = .ok (.iload_n 3, 1) := dl_8_ok (1489, (.iload_n 3, 1)) (List.mem_of_getElem? (i := 49) rfl)
set_option maxRecDepth 100000 in
theorem dL_law_1490 : decode code 1490 = .ok (.iconst 1, 1) := dl_8_ok (1490, (.iconst 1, 1)) (List.mem_of_getElem? (i := 50) rfl)
set_option maxRecDepth 100000 in
theorem dL_law_1491 : decode code 1491 = .ok (.iadd, 1) := dl_8_ok (1491, (.iadd, 1)) (List.mem_of_getElem? (i := 51) rfl)
set_option maxRecDepth 100000 in
theorem dL_law_1492 : decode code 1492 = .ok (.iaload, 1) := dl_8_ok (1492, (.iaload, 1)) (List.mem_of_getElem? (i := 52) rfl)
set_option maxRecDepth 100000 in
theorem dL_law_1493 : decode code 1493 = .ok (.aload_n 0, 1) := dl_8_ok (1493, (.aload_n 0, 1)) (List.mem_of_getElem? (i := 53) rfl)
set_option maxRecDepth 100000 in
theorem dL_law_1494 : decode code 1494 = .ok (.iload_n 3, 1) := dl_8_ok (1494, (.iload_n 3, 1)) (List.mem_of_getElem? (i := 54) rfl)
set_option maxRecDepth 100000 in
theorem dL_law_1495 : decode code 1495 = .ok (.iconst 2, 1) := dl_8_ok (1495, (.iconst 2, 1)) (List.mem_of_getElem? (i := 55) rfl)
set_option maxRecDepth 100000 in
theorem dL_law_1496 : decode code 1496 = .ok (.iadd, 1) := dl_8_ok (1496, (.iadd, 1)) (List.mem_of_getElem? (i := 56) rfl)
set_option maxRecDepth 100000 in
theorem dL_law_1497 : decode code 1497 = .ok (.iaload, 1) := dl_8_ok (1497, (.iaload, 1)) (List.mem_of_getElem? (i := 57) rfl)
set_option maxRecDepth 100000 in
theorem dL_law_1498 : decode code 1498 = .ok (.invokevirtual 199, 3) := dl_8_ok (1498, (.invokevirtual 199, 3)) (List.mem_of_getElem? (i := 58) rfl)
set_option maxRecDepth 100000 in
theorem dL_law_1501 : decode code 1501 = .ok (.pop, 1) := dl_8_ok (1501, (.pop, 1)) (List.mem_of_getElem? (i := 59) rfl)
set_option maxRecDepth 100000 in
theorem dL_law_1502 : decode code 1502 = .ok (.aload_n 2, 1) := dl_8_ok (1502, (.aload_n 2, 1)) (List.mem_of_getElem? (i := 60) rfl)
set_option maxRecDepth 100000 in
theorem dL_law_1503 : decode code 1503 = .ok (.aload_n 0, 1) := dl_8_ok (1503, (.aload_n 0, 1)) (List.mem_of_getElem? (i := 61) rfl)
set_option maxRecDepth 100000 in
theorem dL_law_1504 : decode code 1504 = .ok (.iload_n 3, 1) := dl_8_ok (1504, (.iload_n 3, 1)) (List.mem_of_getElem? (i := 62) rfl)
set_option maxRecDepth 100000 in
theorem dL_law_1505 : decode code 1505 = .ok (.iconst 1, 1) := dl_8_ok (1505, (.iconst 1, 1)) (List.mem_of_getElem? (i := 63) rfl)
set_option maxRecDepth 100000 in
theorem dL_law_1506 : decode code 1506 = .ok (.iadd, 1) := dl_8_ok (1506, (.iadd, 1)) (List.mem_of_getElem? (i := 64) rfl)
set_option maxRecDepth 100000 in
theorem dL_law_1507 : decode code 1507 = .ok (.iaload, 1) := dl_8_ok (1507, (.iaload, 1)) (List.mem_of_getElem? (i := 65) rfl)
set_option maxRecDepth 100000 in
theorem dL_law_1508 : decode code 1508 = .ok (.aload_n 0, 1) := dl_8_ok (1508, (.aload_n 0, 1)) (List.mem_of_getElem? (i := 66) rfl)
set_option maxRecDepth 100000 in
theorem dL_law_1509 : decode code 1509 = .ok (.iload_n 3, 1) := dl_8_ok (1509, (.iload_n 3, 1)) (List.mem_of_getElem? (i := 67) rfl)
set_option maxRecDepth 100000 in
theorem dL_law_1510 : decode code 1510 = .ok (.iconst 2, 1) := dl_8_ok (1510, (.iconst 2, 1)) (List.mem_of_getElem? (i := 68) rfl)
set_option maxRecDepth 100000 in
theorem dL_law_1511 : decode code 1511 = .ok (.iadd, 1) := dl_8_ok (1511, (.iadd, 1)) (List.mem_of_getElem? (i := 69) rfl)
set_option maxRecDepth 100000 in
theorem dL_law_1512 : decode code 1512 = .ok (.iaload, 1) := dl_8_ok (1512, (.iaload, 1)) (List.mem_of_getElem? (i := 70) rfl)
set_option maxRecDepth 100000 in
theorem dL_law_1513 : decode code 1513 = .ok (.invokevirtual 202, 3) := dl_8_ok (1513, (.invokevirtual 202, 3)) (List.mem_of_getElem? (i := 71) rfl)
set_option maxRecDepth 100000 in
theorem dL_law_1516 : decode code 1516 = .ok (.pop, 1) := dl_8_ok (1516, (.pop, 1)) (List.mem_of_getElem? (i := 72) rfl)
set_option maxRecDepth 100000 in
theorem dL_law_1517 : decode code 1517 = .ok (.goto 1143, 3) := dl_8_ok (1517, (.goto 1143, 3)) (List.mem_of_getElem? (i := 73) rfl)
set_option maxRecDepth 100000 in
theorem dL_law_1520 : decode code 1520 = .ok (.aload_n 1, 1) := dl_8_ok (1520, (.aload_n 1, 1)) (List.mem_of_getElem? (i := 74) rfl)
set_option maxRecDepth 100000 in
theorem dL_law_1521 : decode code 1521 = .ok (.aload_n 0, 1) := dl_8_ok (1521, (.aload_n 0, 1)) (List.mem_of_getElem? (i := 75) rfl)
set_option maxRecDepth 100000 in
theorem dL_law_1522 : decode code 1522 = .ok (.iload_n 3, 1) := dl_8_ok (1522, (.iload_n 3, 1)) (List.mem_of_getElem? (i := 76) rfl)
set_option maxRecDepth 100000 in
theorem dL_law_1523 : decode code 1523 = .ok (.iconst 1, 1) := dl_8_ok (1523, (.iconst 1, 1)) (List.mem_of_getElem? (i := 77) rfl)
set_option maxRecDepth 100000 in
theorem dL_law_1524 : decode code 1524 = .ok (.iadd, 1) := dl_8_ok (1524, (.iadd, 1)) (List.mem_of_getElem? (i := 78) rfl)
set_option maxRecDepth 100000 in
theorem dL_law_1525 : decode code 1525 = .ok (.iaload, 1) := dl_8_ok (1525, (.iaload, 1)) (List.mem_of_getElem? (i := 79) rfl)
set_option maxRecDepth 100000 in
theorem dL_law_1526 : decode code 1526 = .ok (.invokevirtual 203, 3) := dl_8_ok (1526, (.invokevirtual 203, 3)) (List.mem_of_getElem? (i := 80) rfl)
set_option maxRecDepth 100000 in
theorem dL_law_1529 : decode code 1529 = .ok (.pop, 1) := dl_8_ok (1529, (.pop, 1)) (List.mem_of_getElem? (i := 81) rfl)
set_option maxRecDepth 100000 in
theorem dL_law_1530 : decode code 1530 = .ok (.aload_n 2, 1) := dl_8_ok (1530, (.aload_n 2, 1)) (List.mem_of_getElem? (i := 82) rfl)
set_option maxRecDepth 100000 in
theorem dL_law_1531 : decode code 1531 = .ok (.aload_n 0, 1) := dl_8_ok (1531, (.aload_n 0, 1)) (List.mem_of_getElem? (i := 83) rfl)
set_option maxRecDepth 100000 in
theorem dL_law_1532 : decode code 1532 = .ok (.iload_n 3, 1) := dl_8_ok (1532, (.iload_n 3, 1)) (List.mem_of_getElem? (i := 84) rfl)
set_option maxRecDepth 100000 in
theorem dL_law_1533 : decode code 1533 = .ok (.iconst 1, 1) := dl_8_ok (1533, (.iconst 1, 1)) (List.mem_of_getElem? (i := 85) rfl)
set_option maxRecDepth 100000 in
theorem dL_law_1534 : decode code 1534 = .ok (.iadd, 1) := dl_8_ok (1534, (.iadd, 1)) (List.mem_of_getElem? (i := 86) rfl)
set_option maxRecDepth 100000 in
theorem dL_law_1535 : decode code 1535 = .ok (.iaload, 1) := dl_8_ok (1535, (.iaload, 1)) (List.mem_of_getElem? (i := 87) rfl)
set_option maxRecDepth 100000 in
theorem dL_law_1536 : decode code 1536 = .ok (.invokevirtual 206, 3) := dl_8_ok (1536, (.invokevirtual 206, 3)) (List.mem_of_getElem? (i := 88) rfl)
set_option maxRecDepth 100000 in
theorem dL_law_1539 : decode code 1539 = .ok (.pop, 1) := dl_8_ok (1539, (.pop, 1)) (List.mem_of_getElem? (i := 89) rfl)
set_option maxRecDepth 100000 in
theorem dL_law_1540 : decode code 1540 = .ok (.goto 1120, 3) := dl_8_ok (1540, (.goto 1120, 3)) (List.mem_of_getElem? (i := 90) rfl)
set_option maxRecDepth 100000 in
theorem dL_law_1543 : decode code 1543 = .ok (.aload_n 1, 1) := dl_8_ok (1543, (.aload_n 1, 1)) (List.mem_of_getElem? (i := 91) rfl)
set_option maxRecDepth 100000 in
theorem dL_law_1544 : decode code 1544 = .ok (.aload_n 0, 1) := dl_8_ok (1544, (.aload_n 0, 1)) (List.mem_of_getElem? (i := 92) rfl)
set_option maxRecDepth 100000 in
theorem dL_law_1545 : decode code 1545 = .ok (.iload_n 3, 1) := dl_8_ok (1545, (.iload_n 3, 1)) (List.mem_of_getElem? (i := 93) rfl)
set_option maxRecDepth 100000 in
theorem dL_law_1546 : decode code 1546 = .ok (.iconst 1, 1) := dl_8_ok (1546, (.iconst 1, 1)) (List.mem_of_getElem? (i := 94) rfl)
set_option maxRecDepth 100000 in
theorem dL_law_1547 : decode code 1547 = .ok (.iadd, 1) := dl_8_ok (1547, (.iadd, 1)) (List.mem_of_getElem? (i := 95) rfl)
set_option maxRecDepth 100000 in
theorem dL_law_1548 : decode code 1548 = .ok (.iaload, 1) := dl_8_ok (1548, (.iaload, 1)) (List.mem_of_getElem? (i := 96) rfl)
set_option maxRecDepth 100000 in
theorem dL_law_1549 : decode code 1549 = .ok (.invokevirtual 207, 3) := dl_8_ok (1549, (.invokevirtual 207, 3)) (List.mem_of_getElem? (i := 97) rfl)
set_option maxRecDepth 100000 in
theorem dL_law_1552 : decode code 1552 = .ok (.pop, 1) := dl_8_ok (1552, (.pop, 1)) (List.mem_of_getElem? (i := 98) rfl)
set_option maxRecDepth 100000 in
theorem dL_law_1553 : decode code 1553 = .ok (.aload_n 2, 1) := dl_8_ok (1553, (.aload_n 2, 1)) (List.mem_of_getElem? (i := 99) rfl)
