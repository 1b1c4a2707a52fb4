set_option maxRecDepth 100000 in
theorem z_m161 : z_mPr 0 161 2 8 := ⟨⟨1157, rfl⟩, ⟨177, rfl⟩, z_g8, by decide, Or.inl ⟨rfl, ⟨1155, rfl⟩, ⟨1, rfl, z_d5⟩, _, _, _, 1156, rfl, rfl⟩⟩
set_option maxRecDepth 100000 in
theorem z_m162 : z_mPr 0 162 2 8 := ⟨⟨1161, rfl⟩, ⟨177, rfl⟩, z_g8, by decide, Or.inl ⟨rfl, ⟨1159, rfl⟩, ⟨1, rfl, z_d5⟩, _, _, _, 1160, rfl, rfl⟩⟩
set_option maxRecDepth 100000 in
theorem z_m163 : z_mPr 0 163 3 2 := ⟨⟨1165, rfl⟩, ⟨176, rfl⟩, z_g2, by decide, Or.inl ⟨rfl, ⟨1163, rfl⟩, ⟨2, rfl, z_d9⟩, _, _, _, 1164, rfl, rfl⟩⟩
set_option maxRecDepth 100000 in
theorem z_m164 : z_mPr 0 164 2 2 := ⟨⟨1169, rfl⟩, ⟨176, rfl⟩, z_g2, by decide, Or.inl ⟨rfl, ⟨1167, rfl⟩, ⟨1, rfl, z_d6⟩, _, _, _, 1168, rfl, rfl⟩⟩
set_option maxRecDepth 100000 in
theorem z_m165 : z_mPr 0 165 2 2 := ⟨⟨1174, rfl⟩, ⟨176, rfl⟩, z_g2, by decide, Or.inl ⟨rfl, ⟨1172, rfl⟩, ⟨1, rfl, z_d6⟩, _, _, _, 1173, rfl, rfl⟩⟩
set_option maxRecDepth 100000 in
theorem z_m166 : z_mPr 0 166 3 2 := ⟨⟨1178, rfl⟩, ⟨176, rfl⟩, z_g2, by decide, Or.inl ⟨rfl, ⟨1177, rfl⟩, ⟨2, rfl, z_d10⟩, _, _, _, 58, rfl, rfl⟩⟩
set_option maxRecDepth 100000 in
theorem z_m167 : z_mPr 0 167 3 3 := ⟨⟨1182, rfl⟩, ⟨169, rfl⟩, z_g3, by decide, Or.inl ⟨rfl, ⟨1180, rfl⟩, ⟨2, rfl, z_d8⟩, _, _, _, 1181, rfl, rfl⟩⟩
set_option maxRecDepth 100000 in
theorem z_m168 : z_mPr 0 168 3 3 := ⟨⟨1187, rfl⟩, ⟨169, rfl⟩, z_g3, by decide, Or.inl ⟨rfl, ⟨1185, rfl⟩, ⟨2, rfl, z_d8⟩, _, _, _, 1186, rfl, rfl⟩⟩
set_option maxRecDepth 100000 in
theorem z_m169 : z_mPr 0 169 3 1 := ⟨⟨1191, rfl⟩, ⟨180, rfl⟩, z_g1, by decide, Or.inl ⟨rfl, ⟨1190, rfl⟩, ⟨2, rfl, z_d9⟩, _, _, _, 59, rfl, rfl⟩⟩
set_option maxRecDepth 100000 in
theorem z_m170 : z_mPr 0 170 3 1 := ⟨⟨1195, rfl⟩, ⟨180, rfl⟩, z_g1, by decide, Or.inl ⟨rfl, ⟨1194, rfl⟩, ⟨2, rfl, z_d9⟩, _, _, _, 60, rfl, rfl⟩⟩
set_option maxRecDepth 100000 in
theorem z_m171 : z_mPr 0 171 2 1 := ⟨⟨1199, rfl⟩, ⟨180, rfl⟩, z_g1, by decide, Or.inl ⟨rfl, ⟨1198, rfl⟩, ⟨1, rfl, z_d6⟩, _, _, _, 61, rfl, rfl⟩⟩
set_option maxRecDepth 100000 in
theorem z_m172 : z_mPr 0 172 2 1 := ⟨⟨1204, rfl⟩, ⟨180, rfl⟩, z_g1, by decide, Or.inl ⟨rfl, ⟨1203, rfl⟩, ⟨1, rfl, z_d5⟩, _, _, _, 62, rfl, rfl⟩⟩
set_option maxRecDepth 100000 in
theorem z_m173 : z_mPr 0 173 2 1 := ⟨⟨1208, rfl⟩, ⟨180, rfl⟩, z_g1, by decide, Or.inl ⟨rfl, ⟨1207, rfl⟩, ⟨1, rfl, z_d6⟩, _, _, _, 63, rfl, rfl⟩⟩
set_option maxRecDepth 100000 in
theorem z_m174 : z_mPr 0 174 2 8 := ⟨⟨1212, rfl⟩, ⟨177, rfl⟩, z_g8, by decide, Or.inl ⟨rfl, ⟨1210, rfl⟩, ⟨1, rfl, z_d5⟩, _, _, _, 1211, rfl, rfl⟩⟩
set_option maxRecDepth 100000 in
theorem z_m175 : z_mPr 0 175 2 1 := ⟨⟨1217, rfl⟩, ⟨180, rfl⟩, z_g1, by decide, Or.inl ⟨rfl, ⟨1216, rfl⟩, ⟨1, rfl, z_d7⟩, _, _, _, 64, rfl, rfl⟩⟩
set_option maxRecDepth 100000 in
theorem z_m176 : z_mPr 0 176 3 1 := ⟨⟨1221, rfl⟩, ⟨180, rfl⟩, z_g1, by decide, Or.inl ⟨rfl, ⟨1220, rfl⟩, ⟨2, rfl, z_d9⟩, _, _, _, 65, rfl, rfl⟩⟩
set_option maxRecDepth 100000 in
theorem z_m177 : z_mPr 0 177 2 1 := ⟨⟨1225, rfl⟩, ⟨180, rfl⟩, z_g1, by decide, Or.inl ⟨rfl, ⟨1224, rfl⟩, ⟨1, rfl, z_d5⟩, _, _, _, 66, rfl, rfl⟩⟩
set_option maxRecDepth 100000 in
theorem z_m178 : z_mPr 0 178 3 1 := ⟨⟨1229, rfl⟩, ⟨180, rfl⟩, z_g1, by decide, Or.inl ⟨rfl, ⟨1228, rfl⟩, ⟨2, rfl, z_d9⟩, _, _, _, 67, rfl, rfl⟩⟩
set_option maxRecDepth 100000 in
theorem z_m179 : z_mPr 0 179 3 1 := ⟨⟨1233, rfl⟩, ⟨180, rfl⟩, z_g1, by decide, Or.inl ⟨rfl, ⟨1232, rfl⟩, ⟨2, rfl, z_d9⟩, _, _, _, 68, rfl, rfl⟩⟩
set_option maxRecDepth 100000 in
theorem z_m180 : z_mPr 0 180 2 5 := ⟨⟨1237, rfl⟩, ⟨178, rfl⟩, z_g5, by decide, Or.inl ⟨rfl, ⟨1235, rfl⟩, ⟨1, rfl, z_d5⟩, _, _, _, 1236, rfl, rfl⟩⟩
set_option maxRecDepth 100000 in
theorem z_m181 : z_mPr 0 181 3 1 := ⟨⟨1242, rfl⟩, ⟨180, rfl⟩, z_g1, by decide, Or.inl ⟨rfl, ⟨1241, rfl⟩, ⟨2, rfl, z_d9⟩, _, _, _, 69, rfl, rfl⟩⟩
set_option maxRecDepth 100000 in
theorem z_m182 : z_mPr 0 182 3 1 := ⟨⟨1246, rfl⟩, ⟨180, rfl⟩, z_g1, by decide, Or.inl ⟨rfl, ⟨1245, rfl⟩, ⟨2, rfl, z_d9⟩, _, _, _, 70, rfl, rfl⟩⟩
set_option maxRecDepth 100000 in
theorem z_m183 : z_mPr 0 183 3 1 := ⟨⟨1250, rfl⟩, ⟨180, rfl⟩, z_g1, by decide, Or.inl ⟨rfl, ⟨1249, rfl⟩, ⟨2, rfl, z_d9⟩, _, _, _, 71, rfl, rfl⟩⟩
set_option maxRecDepth 100000 in
theorem z_m184 : z_mPr 0 184 3 1 := ⟨⟨1254, rfl⟩, ⟨180, rfl⟩, z_g1, by decide, Or.inl ⟨rfl, ⟨1253, rfl⟩, ⟨2, rfl, z_d9⟩, _, _, _, 72, rfl, rfl⟩⟩
set_option maxRecDepth 100000 in
theorem z_m185 : z_mPr 0 185 2 1 := ⟨⟨1258, rfl⟩, ⟨180, rfl⟩, z_g1, by decide, Or.inl ⟨rfl, ⟨1257, rfl⟩, ⟨1, rfl, z_d6⟩, _, _, _, 73, rfl, rfl⟩⟩
set_option maxRecDepth 100000 in
theorem z_m186 : z_mPr 0 186 3 8 := ⟨⟨1263, rfl⟩, ⟨177, rfl⟩, z_g8, by decide, Or.inl ⟨rfl, ⟨1261, rfl⟩, ⟨2, rfl, z_d9⟩, _, _, _, 1262, rfl, rfl⟩⟩
set_option maxRecDepth 100000 in
theorem z_m187 : z_mPr 0 187 1 1 := ⟨⟨1267, rfl⟩, ⟨180, rfl⟩, z_g1, by decide, Or.inl ⟨rfl, ⟨1266, rfl⟩, ⟨0, rfl, z_d1⟩, _, _, _, 74, rfl, rfl⟩⟩
set_option maxRecDepth 100000 in
theorem z_m188 : z_mPr 0 188 2 1 := ⟨⟨1271, rfl⟩, ⟨180, rfl⟩, z_g1, by decide, Or.inl ⟨rfl, ⟨1270, rfl⟩, ⟨1, rfl, z_d6⟩, _, _, _, 75, rfl, rfl⟩⟩
set_option maxRecDepth 100000 in
theorem z_m189 : z_mPr 0 189 2 1 := ⟨⟨1275, rfl⟩, ⟨180, rfl⟩, z_g1, by decide, Or.inl ⟨rfl, ⟨1274, rfl⟩, ⟨1, rfl, z_d6⟩, _, _, _, 76, rfl, rfl⟩⟩
set_option maxRecDepth 100000 in
theorem z_m190 : z_mPr 0 190 2 2 := ⟨⟨1279, rfl⟩, ⟨176, rfl⟩, z_g2, by decide, Or.inl ⟨rfl, ⟨1277, rfl⟩, ⟨1, rfl, z_d5⟩, _, _, _, 1278, rfl, rfl⟩⟩
set_option maxRecDepth 100000 in
theorem z_m191 : z_mPr 0 191 2 0 := ⟨⟨1283, rfl⟩, ⟨167, rfl⟩, z_g0, by decide, Or.inl ⟨rfl, ⟨1281, rfl⟩, ⟨1, rfl, z_d5⟩, _, _, _, 1282, rfl, rfl⟩⟩
set_option maxRecDepth 100000 in
theorem z_m192 : z_mPr 0 192 2 0 := ⟨⟨1287, rfl⟩, ⟨167, rfl⟩, z_g0, by decide, Or.inl ⟨rfl, ⟨1285, rfl⟩, ⟨1, rfl, z_d5⟩, _, _, _, 1286, rfl, rfl⟩⟩
set_option maxRecDepth 100000 in
theorem z_m193 : z_mPr 0 193 1 2 := ⟨⟨1291, rfl⟩, ⟨176, rfl⟩, z_g2, by decide, Or.inl ⟨rfl, ⟨1289, rfl⟩, ⟨0, rfl, z_d1⟩, _, _, _, 1290, rfl, rfl⟩⟩
set_option maxRecDepth 100000 in
theorem z_m194 : z_mPr 0 194 1 2 := ⟨⟨1295, rfl⟩, ⟨176, rfl⟩, z_g2, by decide, Or.inl ⟨rfl, ⟨1293, rfl⟩, ⟨0, rfl, z_d1⟩, _, _, _, 1294, rfl, rfl⟩⟩
set_option maxRecDepth 100000 in
theorem z_m195 : z_mPr 0 195 1 3 := ⟨⟨1299, rfl⟩, ⟨169, rfl⟩, z_g3, by decide, Or.inl ⟨rfl, ⟨1297, rfl⟩, ⟨0, rfl, z_d1⟩, _, _, _, 1298, rfl, rfl⟩⟩
set_option maxRecDepth 100000 in
theorem z_m196 : z_mPr 0 196 3 0 := ⟨⟨1304, rfl⟩, ⟨167, rfl⟩, z_g0, by decide, Or.inl ⟨rfl, ⟨1302, rfl⟩, ⟨2, rfl, z_d8⟩, _, _, _, 1303, rfl, rfl⟩⟩
set_option maxRecDepth 100000 in
theorem z_m197 : z_mPr 0 197 3 2 := ⟨⟨1308, rfl⟩, ⟨176, rfl⟩, z_g2, by decide, Or.inl ⟨rfl, ⟨1306, rfl⟩, ⟨2, rfl, z_d8⟩, _, _, _, 1307, rfl, rfl⟩⟩
set_option maxRecDepth 100000 in
theorem z_m198 : z_mPr 0 198 3 0 := ⟨⟨1312, rfl⟩, ⟨167, rfl⟩, z_g0, by decide, Or.inl ⟨rfl, ⟨1310, rfl⟩, ⟨2, rfl, z_d8⟩, _, _, _, 1311, rfl, rfl⟩⟩
set_option maxRecDepth 100000 in
theorem z_m199 : z_mPr 0 199 3 2 := ⟨⟨1316, rfl⟩, ⟨176, rfl⟩, z_g2, by decide, Or.inl ⟨rfl, ⟨1314, rfl⟩, ⟨2, rfl, z_d8⟩, _, _, _, 1315, rfl, rfl⟩⟩
set_option maxRecDepth 100000 in
theorem z_m200 : z_mPr 0 200 3 0 := ⟨⟨1321, rfl⟩, ⟨167, rfl⟩, z_g0, by decide, Or.inl ⟨rfl, ⟨1319, rfl⟩, ⟨2, rfl, z_d8⟩, _, _, _, 1320, rfl, rfl⟩⟩
set_option maxRecDepth 100000 in
theorem z_m201 : z_mPr 0 201 3 0 := ⟨⟨1327, rfl⟩, ⟨167, rfl⟩, z_g0, by decide, Or.inl ⟨rfl, ⟨1325, rfl⟩, ⟨2, rfl, z_d8⟩, _, _, _, 1326, rfl, rfl⟩⟩
set_option maxRecDepth 100000 in
theorem z_m202 : z_mPr 0 202 2 2 := ⟨⟨1331, rfl⟩, ⟨176, rfl⟩, z_g2, by decide, Or.inl ⟨rfl, ⟨1329, rfl⟩, ⟨1, rfl, z_d5⟩, _, _, _, 1330, rfl, rfl⟩⟩
set_option maxRecDepth 100000 in
theorem z_m203 : z_mPr 0 203 1 0 := ⟨⟨1335, rfl⟩, ⟨167, rfl⟩, z_g0, by decide, Or.inl ⟨rfl, ⟨1333, rfl⟩, ⟨0, rfl, z_d1⟩, _, _, _, 1334, rfl, rfl⟩⟩
set_option maxRecDepth 100000 in
theorem z_m204 : z_mPr 2 204 1 9 := ⟨⟨1340, rfl⟩, ⟨181, rfl⟩, z_g9, by decide, Or.inr (Or.inr (Or.inr ⟨rfl, ⟨1339, rfl⟩, ⟨0, rfl, z_d2⟩, rfl, rfl, rfl⟩))⟩
set_option maxRecDepth 100000 in
theorem z_m205 : z_mPr 2 205 1 10 := ⟨⟨1346, rfl⟩, ⟨182, rfl⟩, z_g10, by decide, Or.inr (Or.inr (Or.inr ⟨rfl, ⟨1345, rfl⟩, ⟨0, rfl, z_d2⟩, rfl, rfl, rfl⟩))⟩
set_option maxRecDepth 100000 in
theorem z_m206 : z_mPr 0 206 1 9 := ⟨⟨1362, rfl⟩, ⟨181, rfl⟩, z_g9, by decide, Or.inl ⟨rfl, ⟨1361, rfl⟩, ⟨0, rfl, z_d2⟩, _, _, _, 77, rfl, rfl⟩⟩
set_option maxRecDepth 100000 in
theorem z_m207 : z_mPr 0 207 2 10 := ⟨⟨1370, rfl⟩, ⟨182, rfl⟩, z_g10, by decide, Or.inl ⟨rfl, ⟨1368, rfl⟩, ⟨1, rfl, z_d5⟩, _, _, _, 1369, rfl, rfl⟩⟩
set_option maxRecDepth 100000 in
theorem z_m208 : z_mPr 0 208 2 9 := ⟨⟨1507, rfl⟩, ⟨181, rfl⟩, z_g9, by decide, Or.inl ⟨rfl, ⟨1505, rfl⟩, ⟨1, rfl, z_d21⟩, _, _, _, 1506, rfl, rfl⟩⟩
set_option maxRecDepth 100000 in
theorem z_m209 : z_mPr 0 209 2 9 := ⟨⟨1512, rfl⟩, ⟨181, rfl⟩, z_g9, by decide, Or.inl ⟨rfl, ⟨1510, rfl⟩, ⟨1, rfl, z_d5⟩, _, _, _, 1511, rfl, rfl⟩⟩
set_option maxRecDepth 100000 in
theorem z_m210 : z_mPr 0 210 1 9 := ⟨⟨1520, rfl⟩, ⟨181, rfl⟩, z_g9, by decide, Or.inl ⟨rfl, ⟨1519, rfl⟩, ⟨0, rfl, z_d2⟩, _, _, _, 78, rfl, rfl⟩⟩
set_option maxRecDepth 100000 in
theorem z_m211 : z_mPr 0 211 2 9 := ⟨⟨1524, rfl⟩, ⟨181, rfl⟩, z_g9, by decide, Or.inl ⟨rfl, ⟨1523, rfl⟩, ⟨1, rfl, z_d5⟩, _, _, _, 79, rfl, rfl⟩⟩
set_option maxRecDepth 100000 in
theorem z_m212 : z_mPr 0 212 2 9 := ⟨⟨1528, rfl⟩, ⟨181, rfl⟩, z_g9, by decide, Or.inl ⟨rfl, ⟨1527, rfl⟩, ⟨1, rfl, z_d5⟩, _, _, _, 80, rfl, rfl⟩⟩
set_option maxRecDepth 100000 in
theorem z_m213 : z_mPr 0 213 2 9 := ⟨⟨1532, rfl⟩, ⟨181, rfl⟩, z_g9, by decide, Or.inl ⟨rfl, ⟨1531, rfl⟩, ⟨1, rfl, z_d5⟩, _, _, _, 81, rfl, rfl⟩⟩
set_option maxRecDepth 100000 in
theorem z_m214 : z_mPr 1 214 1 0 := ⟨⟨1535, rfl⟩, ⟨181, rfl⟩, z_g9, by decide, Or.inr (Or.inr (Or.inl ⟨rfl, ⟨1534, rfl⟩, z_d7, rfl⟩))⟩
set_option maxRecDepth 100000 in
theorem z_m215 : z_mPr 1 215 1 0 := ⟨⟨1538, rfl⟩, ⟨181, rfl⟩, z_g9, by decide, Or.inr (Or.inr (Or.inl ⟨rfl, ⟨1537, rfl⟩, z_d7, rfl⟩))⟩
set_option maxRecDepth 100000 in
theorem z_m216 : z_mPr 1 216 1 0 := ⟨⟨1541, rfl⟩, ⟨181, rfl⟩, z_g9, by decide, Or.inr (Or.inr (Or.inl ⟨rfl, ⟨1540, rfl⟩, z_d7, rfl⟩))⟩
set_option maxRecDepth 100000 in
theorem z_m217 : z_mPr 1 217 1 0 := ⟨⟨1544, rfl⟩, ⟨181, rfl⟩, z_g9, by decide, Or.inr (Or.inr (Or.inl ⟨rfl, ⟨1543, rfl⟩, z_d7, rfl⟩))⟩
set_option maxRecDepth 100000 in
theorem z_m218 : z_mPr 0 218 3 9 := ⟨⟨1548, rfl⟩, ⟨181, rfl⟩, z_g9, by decide, Or.inl ⟨rfl, ⟨1547, rfl⟩, ⟨2, rfl, z_d9⟩, _, _, _, 82, rfl, rfl⟩⟩
set_option maxRecDepth 100000 in
theorem z_m219 : z_mPr 0 219 3 9 := ⟨⟨1552, rfl⟩, ⟨181, rfl⟩, z_g9, by decide, Or.inl ⟨rfl, ⟨1551, rfl⟩, ⟨2, rfl, z_d8⟩, _, _, _, 83, rfl, rfl⟩⟩
set_option maxRecDepth 100000 in
theorem z_m220 : z_mPr 0 220 3 9 := ⟨⟨1557, rfl⟩, ⟨181, rfl⟩, z_g9, by decide, Or.inl ⟨rfl, ⟨1556, rfl⟩, ⟨2, rfl, z_d8⟩, _, _, _, 84, rfl, rfl⟩⟩
set_option maxRecDepth 100000 in
theorem z_m221 : z_mPr 0 221 4 9 := ⟨⟨1561, rfl⟩, ⟨181, rfl⟩, z_g9, by decide, Or.inl ⟨rfl, ⟨1560, rfl⟩, ⟨3, rfl, z_d13⟩, _, _, _, 85, rfl, rfl⟩⟩
set_option maxRecDepth 100000 in
theorem z_m222 : z_mPr 0 222 3 9 := ⟨⟨1565, rfl⟩, ⟨181, rfl⟩, z_g9, by decide, Or.inl ⟨rfl, ⟨1564, rfl⟩, ⟨2, rfl, z_d8⟩, _, _, _, 86, rfl, rfl⟩⟩
set_option maxRecDepth 100000 in
theorem z_m223 : z_mPr 0 223 4 9 := ⟨⟨1569, rfl⟩, ⟨181, rfl⟩, z_g9, by decide, Or.inl ⟨rfl, ⟨1568, rfl⟩, ⟨3, rfl, z_d13⟩, _, _, _, 87, rfl, rfl⟩⟩
set_option maxRecDepth 100000 in
theorem z_m224 : z_mPr 0 224 5 9 := ⟨⟨1573, rfl⟩, ⟨181, rfl⟩, z_g9, by decide, Or.inl ⟨rfl, ⟨1572, rfl⟩, ⟨4, rfl, z_d15⟩, _, _, _, 88, rfl, rfl⟩⟩
set_option maxRecDepth 100000 in
theorem z_m225 : z_mPr 0 225 2 9 := ⟨⟨1577, rfl⟩, ⟨181, rfl⟩, z_g9, by decide, Or.inl ⟨rfl, ⟨1576, rfl⟩, ⟨1, rfl, z_d5⟩, _, _, _, 89, rfl, rfl⟩⟩
set_option maxRecDepth 100000 in
theorem z_m226 : z_mPr 0 226 2 9 := ⟨⟨1585, rfl⟩, ⟨181, rfl⟩, z_g9, by decide, Or.inl ⟨rfl, ⟨1584, rfl⟩, ⟨1, rfl, z_d5⟩, _, _, _, 90, rfl, rfl⟩⟩
set_option maxRecDepth 100000 in
theorem z_m227 : z_mPr 0 227 1 9 := ⟨⟨1589, rfl⟩, ⟨181, rfl⟩, z_g9, by decide, Or.inl ⟨rfl, ⟨1588, rfl⟩, ⟨0, rfl, z_d1⟩, _, _, _, 91, rfl, rfl⟩⟩
set_option maxRecDepth 100000 in
theorem z_m228 : z_mPr 0 228 1 9 := ⟨⟨1593, rfl⟩, ⟨181, rfl⟩, z_g9, by decide, Or.inl ⟨rfl, ⟨1592, rfl⟩, ⟨0, rfl, z_d3⟩, _, _, _, 92, rfl, rfl⟩⟩
set_option maxRecDepth 100000 in
theorem z_m229 : z_mPr 0 229 1 9 := ⟨⟨1597, rfl⟩, ⟨181, rfl⟩, z_g9, by decide, Or.inl ⟨rfl, ⟨1596, rfl⟩, ⟨0, rfl, z_d3⟩, _, _, _, 93, rfl, rfl⟩⟩
set_option maxRecDepth 100000 in
theorem z_m230 : z_mPr 0 230 2 9 := ⟨⟨1601, rfl⟩, ⟨181, rfl⟩, z_g9, by decide, Or.inl ⟨rfl, ⟨1600, rfl⟩, ⟨1, rfl, z_d7⟩, _, _, _, 94, rfl, rfl⟩⟩
set_option maxRecDepth 100000 in
theorem z_m231 : z_mPr 0 231 2 9 := ⟨⟨1605, rfl⟩, ⟨181, rfl⟩, z_g9, by decide, Or.inl ⟨rfl, ⟨1604, rfl⟩, ⟨1, rfl, z_d7⟩, _, _, _, 95, rfl, rfl⟩⟩
set_option maxRecDepth 100000 in
theorem z_m232 : z_mPr 0 232 2 9 := ⟨⟨1609, rfl⟩, ⟨181, rfl⟩, z_g9, by decide, Or.inl ⟨rfl, ⟨1608, rfl⟩, ⟨1, rfl, z_d6⟩, _, _, _, 96, rfl, rfl⟩⟩
set_option maxRecDepth 100000 in
theorem z_m233 : z_mPr 0 233 1 9 := ⟨⟨1613, rfl⟩, ⟨181, rfl⟩, z_g9, by decide, Or.inl ⟨rfl, ⟨1612, rfl⟩, ⟨0, rfl, z_d1⟩, _, _, _, 97, rfl, rfl⟩⟩
set_option maxRecDepth 100000 in
theorem z_m234 : z_mPr 0 234 2 9 := ⟨⟨1617, rfl⟩, ⟨181, rfl⟩, z_g9, by decide, Or.inl ⟨rfl, ⟨1616, rfl⟩, ⟨1, rfl, z_d27⟩, _, _, _, 98, rfl, rfl⟩⟩
set_option maxRecDepth 100000 in
theorem z_m235 : z_mPr 0 235 1 9 := ⟨⟨1621, rfl⟩, ⟨181, rfl⟩, z_g9, by decide, Or.inl ⟨rfl, ⟨1620, rfl⟩, ⟨0, rfl, z_d2⟩, _, _, _, 99, rfl, rfl⟩⟩
set_option maxRecDepth 100000 in
theorem z_m236 : z_mPr 0 236 1 9 := ⟨⟨1625, rfl⟩, ⟨181, rfl⟩, z_g9, by decide, Or.inl ⟨rfl, ⟨1624, rfl⟩, ⟨0, rfl, z_d1⟩, _, _, _, 100, rfl, rfl⟩⟩
