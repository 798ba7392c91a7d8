/-- X3_isSlot -/
def zc_1191 : zcon := ([(5, 0, 0), (0, (-2147483648), (-1))], some (0, 0, 0), [], [], [], [], [])
/-- X3_isSlot -/
def zc_1192 : zcon := ([(5, 0, 0), (0, 0, 3)], some (0, 1, 1), [], [], [], [], [])
/-- X3_isSlot -/
def zc_1193 : zcon := ([(5, 0, 0), (0, 4, 2147483647)], some (0, 0, 0), [], [], [], [], [])
/-- X6_in -/
def zc_1221 : zcon := ([(1, (-2147483648), (-1)), (1, 0, 0), (1, 3, 3)], some (0, 0, 0), [], [], [], [], [])
/-- X6_in -/
def zc_1222 : zcon := ([(1, 0, 3), (1, 0, 0), (1, 3, 3)], some (0, 1, 1), [], [], [], [], [])
/-- X6_in -/
def zc_1223 : zcon := ([(1, 4, 2147483647), (1, 0, 0), (1, 3, 3)], some (0, 0, 0), [], [], [], [], [])
/-- X5_row -/
def zc_1194 : zcon := ([(7, 0, 0), (0, (-2147483648), (-1)), (0, (-2147483648), (-1)), (0, (-2147483648), (-1))], some (0, (-2), (-2)), [], [], [], [], [])
/-- X5_row -/
def zc_1195 : zcon := ([(7, 0, 0), (0, (-2147483648), (-1)), (0, (-2147483648), (-1)), (0, 0, 60)], some (0, (-2), (-2)), [], [], [], [], [])
/-- X5_row -/
def zc_1196 : zcon := ([(7, 0, 0), (0, (-2147483648), (-1)), (0, (-2147483648), (-1)), (0, 61, 2147483647)], some (0, (-2), (-2)), [], [], [], [], [])
/-- X5_row -/
def zc_1197 : zcon := ([(7, 0, 0), (0, (-2147483648), (-1)), (0, 0, 3), (0, (-2147483648), (-1))], some (0, (-2), (-2)), [], [], [], [], [])
/-- X5_row -/
def zc_1198 : zcon := ([(7, 0, 0), (0, (-2147483648), (-1)), (0, 0, 3), (0, 0, 60)], some (0, (-2), (-2)), [], [], [], [], [])
/-- X5_row -/
def zc_1199 : zcon := ([(7, 0, 0), (0, (-2147483648), (-1)), (0, 0, 3), (0, 61, 2147483647)], some (0, (-2), (-2)), [], [], [], [], [])
/-- X5_row -/
def zc_1200 : zcon := ([(7, 0, 0), (0, (-2147483648), (-1)), (0, 4, 2147483647), (0, (-2147483648), (-1))], some (0, (-2), (-2)), [], [], [], [], [])
/-- X5_row -/
def zc_1201 : zcon := ([(7, 0, 0), (0, (-2147483648), (-1)), (0, 4, 2147483647), (0, 0, 60)], some (0, (-2), (-2)), [], [], [], [], [])
/-- X5_row -/
def zc_1202 : zcon := ([(7, 0, 0), (0, (-2147483648), (-1)), (0, 4, 2147483647), (0, 61, 2147483647)], some (0, (-2), (-2)), [], [], [], [], [])
/-- X5_row -/
def zc_1203 : zcon := ([(7, 0, 0), (0, 0, 3), (0, (-2147483648), (-1)), (0, (-2147483648), (-1))], some (0, (-2), (-2)), [], [], [], [], [])
/-- X5_row -/
def zc_1204 : zcon := ([(7, 0, 0), (0, 0, 3), (0, (-2147483648), (-1)), (0, 0, 60)], some (0, (-2), (-2)), [], [], [], [], [])
/-- X5_row -/
def zc_1205 : zcon := ([(7, 0, 0), (0, 0, 3), (0, (-2147483648), (-1)), (0, 61, 2147483647)], some (0, (-2), (-2)), [], [], [], [], [])
/-- X5_row -/
def zc_1206 : zcon := ([(7, 0, 0), (0, 0, 3), (0, 0, 3), (0, (-2147483648), (-1))], some (0, (-3), (-3)), [], [], [], [], [])
/-- X5_row -/
def zc_1207 : zcon := ([(7, 0, 0), (0, 0, 3), (0, 0, 3), (0, 0, 60)], some (0, 0, 0), [], [], [], ([(29, 1000), (29, 1001), (29, 1002), (29, 1003), (30, 1000), (30, 1001), (30, 1002), (30, 1003), (31, 1000), (31, 1001), (31, 1002), (31, 1003)] ++ zrun 32 1000 1 240), [])
/-- X5_row -/
def zc_1208 : zcon := ([(7, 0, 0), (0, 0, 3), (0, 0, 3), (0, 61, 2147483647)], some (0, (-2), (-2)), [], [], [], [], [])
/-- X5_row -/
def zc_1209 : zcon := ([(7, 0, 0), (0, 0, 3), (0, 4, 2147483647), (0, (-2147483648), (-1))], some (0, (-2), (-2)), [], [], [], [], [])
/-- X5_row -/
def zc_1210 : zcon := ([(7, 0, 0), (0, 0, 3), (0, 4, 2147483647), (0, 0, 60)], some (0, (-2), (-2)), [], [], [], [], [])
/-- X5_row -/
def zc_1211 : zcon := ([(7, 0, 0), (0, 0, 3), (0, 4, 2147483647), (0, 61, 2147483647)], some (0, (-2), (-2)), [], [], [], [], [])
/-- X5_row -/
def zc_1212 : zcon := ([(7, 0, 0), (0, 4, 2147483647), (0, (-2147483648), (-1)), (0, (-2147483648), (-1))], some (0, (-2), (-2)), [], [], [], [], [])
/-- X5_row -/
def zc_1213 : zcon := ([(7, 0, 0), (0, 4, 2147483647), (0, (-2147483648), (-1)), (0, 0, 60)], some (0, (-2), (-2)), [], [], [], [], [])
/-- X5_row -/
def zc_1214 : zcon := ([(7, 0, 0), (0, 4, 2147483647), (0, (-2147483648), (-1)), (0, 61, 2147483647)], some (0, (-2), (-2)), [], [], [], [], [])
/-- X5_row -/
def zc_1215 : zcon := ([(7, 0, 0), (0, 4, 2147483647), (0, 0, 3), (0, (-2147483648), (-1))], some (0, (-2), (-2)), [], [], [], [], [])
/-- X5_row -/
def zc_1216 : zcon := ([(7, 0, 0), (0, 4, 2147483647), (0, 0, 3), (0, 0, 60)], some (0, (-2), (-2)), [], [], [], [], [])
/-- X5_row -/
def zc_1217 : zcon := ([(7, 0, 0), (0, 4, 2147483647), (0, 0, 3), (0, 61, 2147483647)], some (0, (-2), (-2)), [], [], [], [], [])
/-- X5_row -/
def zc_1218 : zcon := ([(7, 0, 0), (0, 4, 2147483647), (0, 4, 2147483647), (0, (-2147483648), (-1))], some (0, (-2), (-2)), [], [], [], [], [])
/-- X5_row -/
def zc_1219 : zcon := ([(7, 0, 0), (0, 4, 2147483647), (0, 4, 2147483647), (0, 0, 60)], some (0, (-2), (-2)), [], [], [], [], [])
/-- X5_row -/
def zc_1220 : zcon := ([(7, 0, 0), (0, 4, 2147483647), (0, 4, 2147483647), (0, 61, 2147483647)], some (0, (-2), (-2)), [], [], [], [], [])
/-- X6_isSlot -/
def zc_1224 : zcon := ([(0, (-2147483648), (-1))], some (0, 0, 0), [], [], [], [], [])
/-- X6_isSlot -/
def zc_1225 : zcon := ([(0, 0, 3)], some (0, 1, 1), [], [], [], [], [])
/-- X6_isSlot -/
def zc_1226 : zcon := ([(0, 4, 2147483647)], some (0, 0, 0), [], [], [], [], [])
/-- X6_row -/
def zc_1227 : zcon := ([(8, 0, 0), (0, (-2147483648), (-1)), (0, (-2147483648), (-1)), (0, (-2147483648), (-1))], some (0, (-2), (-2)), [], [], [], [(6, 0)], [])
/-- X6_row -/
def zc_1228 : zcon := ([(8, 0, 0), (0, (-2147483648), (-1)), (0, (-2147483648), (-1)), (0, 0, 60)], some (0, (-2), (-2)), [], [], [], [(6, 0)], [])
/-- X6_row -/
def zc_1229 : zcon := ([(8, 0, 0), (0, (-2147483648), (-1)), (0, (-2147483648), (-1)), (0, 61, 2147483647)], some (0, (-2), (-2)), [], [], [], [(6, 0)], [])
/-- X6_row -/
def zc_1230 : zcon := ([(8, 0, 0), (0, (-2147483648), (-1)), (0, 0, 3), (0, (-2147483648), (-1))], some (0, (-2), (-2)), [], [], [], [(6, 0)], [])
/-- X6_row -/
def zc_1231 : zcon := ([(8, 0, 0), (0, (-2147483648), (-1)), (0, 0, 3), (0, 0, 60)], some (0, (-2), (-2)), [], [], [], [(6, 0)], [])
/-- X6_row -/
def zc_1232 : zcon := ([(8, 0, 0), (0, (-2147483648), (-1)), (0, 0, 3), (0, 61, 2147483647)], some (0, (-2), (-2)), [], [], [], [(6, 0)], [])
/-- X6_row -/
def zc_1233 : zcon := ([(8, 0, 0), (0, (-2147483648), (-1)), (0, 4, 2147483647), (0, (-2147483648), (-1))], some (0, (-2), (-2)), [], [], [], [(6, 0)], [])
/-- X6_row -/
def zc_1234 : zcon := ([(8, 0, 0), (0, (-2147483648), (-1)), (0, 4, 2147483647), (0, 0, 60)], some (0, (-2), (-2)), [], [], [], [(6, 0)], [])
/-- X6_row -/
def zc_1235 : zcon := ([(8, 0, 0), (0, (-2147483648), (-1)), (0, 4, 2147483647), (0, 61, 2147483647)], some (0, (-2), (-2)), [], [], [], [(6, 0)], [])
/-- X6_row -/
def zc_1236 : zcon := ([(8, 0, 0), (0, 0, 3), (0, (-2147483648), (-1)), (0, (-2147483648), (-1))], some (0, (-2), (-2)), [], [], [], [(6, 0)], [])
/-- X6_row -/
def zc_1237 : zcon := ([(8, 0, 0), (0, 0, 3), (0, (-2147483648), (-1)), (0, 0, 60)], some (0, (-2), (-2)), [], [], [], [(6, 0)], [])
/-- X6_row -/
def zc_1238 : zcon := ([(8, 0, 0), (0, 0, 3), (0, (-2147483648), (-1)), (0, 61, 2147483647)], some (0, (-2), (-2)), [], [], [], [(6, 0)], [])
/-- X6_row -/
def zc_1239 : zcon := ([(8, 0, 0), (0, 0, 3), (0, 0, 3), (0, (-2147483648), (-1))], some (0, (-3), (-3)), [], [], [], [(6, 0)], [])
/-- X6_row -/
def zc_1240 : zcon := ([(8, 0, 0), (0, 0, 3), (0, 0, 3), (0, 0, 60)], some (0, 0, 0), [], [], [], ([(6, 0), (36, 1000), (36, 1001), (36, 1002), (36, 1003), (37, 1000), (37, 1001), (37, 1002), (37, 1003)] ++ zrun 38 1000 1 240), [])
/-- X6_row -/
def zc_1241 : zcon := ([(8, 0, 0), (0, 0, 3), (0, 0, 3), (0, 61, 2147483647)], some (0, (-2), (-2)), [], [], [], [(6, 0)], [])
/-- X6_row -/
def zc_1242 : zcon := ([(8, 0, 0), (0, 0, 3), (0, 4, 2147483647), (0, (-2147483648), (-1))], some (0, (-2), (-2)), [], [], [], [(6, 0)], [])
/-- X6_row -/
def zc_1243 : zcon := ([(8, 0, 0), (0, 0, 3), (0, 4, 2147483647), (0, 0, 60)], some (0, (-2), (-2)), [], [], [], [(6, 0)], [])
/-- X6_row -/
def zc_1244 : zcon := ([(8, 0, 0), (0, 0, 3), (0, 4, 2147483647), (0, 61, 2147483647)], some (0, (-2), (-2)), [], [], [], [(6, 0)], [])
/-- X6_row -/
def zc_1245 : zcon := ([(8, 0, 0), (0, 4, 2147483647), (0, (-2147483648), (-1)), (0, (-2147483648), (-1))], some (0, (-2), (-2)), [], [], [], [(6, 0)], [])
/-- X6_row -/
def zc_1246 : zcon := ([(8, 0, 0), (0, 4, 2147483647), (0, (-2147483648), (-1)), (0, 0, 60)], some (0, (-2), (-2)), [], [], [], [(6, 0)], [])
/-- X6_row -/
def zc_1247 : zcon := ([(8, 0, 0), (0, 4, 2147483647), (0, (-2147483648), (-1)), (0, 61, 2147483647)], some (0, (-2), (-2)), [], [], [], [(6, 0)], [])
/-- X6_row -/
def zc_1248 : zcon := ([(8, 0, 0), (0, 4, 2147483647), (0, 0, 3), (0, (-2147483648), (-1))], some (0, (-2), (-2)), [], [], [], [(6, 0)], [])
/-- X6_row -/
def zc_1249 : zcon := ([(8, 0, 0), (0, 4, 2147483647), (0, 0, 3), (0, 0, 60)], some (0, (-2), (-2)), [], [], [], [(6, 0)], [])
/-- X6_row -/
def zc_1250 : zcon := ([(8, 0, 0), (0, 4, 2147483647), (0, 0, 3), (0, 61, 2147483647)], some (0, (-2), (-2)), [], [], [], [(6, 0)], [])
/-- X6_row -/
def zc_1251 : zcon := ([(8, 0, 0), (0, 4, 2147483647), (0, 4, 2147483647), (0, (-2147483648), (-1))], some (0, (-2), (-2)), [], [], [], [(6, 0)], [])
/-- X6_row -/
def zc_1252 : zcon := ([(8, 0, 0), (0, 4, 2147483647), (0, 4, 2147483647), (0, 0, 60)], some (0, (-2), (-2)), [], [], [], [(6, 0)], [])
/-- X6_row -/
def zc_1253 : zcon := ([(8, 0, 0), (0, 4, 2147483647), (0, 4, 2147483647), (0, 61, 2147483647)], some (0, (-2), (-2)), [], [], [], [(6, 0)], [])
def zm_1191 : zC := (cX3_isSlot, 2, zc_1191, (zfl_RX3, zwl_RX3), (zk1_RX3, zk2_RX3, []), [], [], [])
def zm_1192 : zC := (cX3_isSlot, 2, zc_1192, (zfl_RX3, zwl_RX3), (zk1_RX3, zk2_RX3, []), [], [], [])
def zm_1193 : zC := (cX3_isSlot, 2, zc_1193, (zfl_RX3, zwl_RX3), (zk1_RX3, zk2_RX3, []), [], [], [])
def zm_1221 : zC := (cX6_in, 6, zc_1221, (zfl_RX6, zwl_RX6), (zk1_RX6, zk2_RX6, []), [], [], [])
def zm_1222 : zC := (cX6_in, 6, zc_1222, (zfl_RX6, zwl_RX6), (zk1_RX6, zk2_RX6, []), [], [], [])
def zm_1223 : zC := (cX6_in, 6, zc_1223, (zfl_RX6, zwl_RX6), (zk1_RX6, zk2_RX6, []), [], [], [])
def zm_1194 : zC := (cX5_row, 4, zc_1194, (zfl_RX5, zwl_RX5), (zk1_RX5, zk2_RX5, []), [(0, 321, zc_1191)], [], [])
def zm_1195 : zC := (cX5_row, 4, zc_1195, (zfl_RX5, zwl_RX5), (zk1_RX5, zk2_RX5, []), [(0, 321, zc_1191)], [], [])
def zm_1196 : zC := (cX5_row, 4, zc_1196, (zfl_RX5, zwl_RX5), (zk1_RX5, zk2_RX5, []), [(0, 321, zc_1191)], [], [])
def zm_1197 : zC := (cX5_row, 4, zc_1197, (zfl_RX5, zwl_RX5), (zk1_RX5, zk2_RX5, []), [(0, 321, zc_1191)], [], [])
def zm_1198 : zC := (cX5_row, 4, zc_1198, (zfl_RX5, zwl_RX5), (zk1_RX5, zk2_RX5, []), [(0, 321, zc_1191)], [], [])
def zm_1199 : zC := (cX5_row, 4, zc_1199, (zfl_RX5, zwl_RX5), (zk1_RX5, zk2_RX5, []), [(0, 321, zc_1191)], [], [])
def zm_1200 : zC := (cX5_row, 4, zc_1200, (zfl_RX5, zwl_RX5), (zk1_RX5, zk2_RX5, []), [(0, 321, zc_1191)], [], [])
def zm_1201 : zC := (cX5_row, 4, zc_1201, (zfl_RX5, zwl_RX5), (zk1_RX5, zk2_RX5, []), [(0, 321, zc_1191)], [], [])
def zm_1202 : zC := (cX5_row, 4, zc_1202, (zfl_RX5, zwl_RX5), (zk1_RX5, zk2_RX5, []), [(0, 321, zc_1191)], [], [])
def zm_1203 : zC := (cX5_row, 4, zc_1203, (zfl_RX5, zwl_RX5), (zk1_RX5, zk2_RX5, []), [(0, 321, zc_1192)], [], [])
def zm_1204 : zC := (cX5_row, 4, zc_1204, (zfl_RX5, zwl_RX5), (zk1_RX5, zk2_RX5, []), [(0, 321, zc_1192)], [], [])
def zm_1205 : zC := (cX5_row, 4, zc_1205, (zfl_RX5, zwl_RX5), (zk1_RX5, zk2_RX5, []), [(0, 321, zc_1192)], [], [])
def zm_1206 : zC := (cX5_row, 4, zc_1206, (zfl_RX5, zwl_RX5), (zk1_RX5, zk2_RX5, []), [(0, 321, zc_1192)], [], [])
def zm_1207 : zC := (cX5_row, 4, zc_1207, (zfl_RX5, zwl_RX5), (zk1_RX5, zk2_RX5, []), [(0, 321, zc_1192), (0, 324, zc_354)], [], [])
def zm_1208 : zC := (cX5_row, 4, zc_1208, (zfl_RX5, zwl_RX5), (zk1_RX5, zk2_RX5, []), [(0, 321, zc_1192)], [], [])
def zm_1209 : zC := (cX5_row, 4, zc_1209, (zfl_RX5, zwl_RX5), (zk1_RX5, zk2_RX5, []), [(0, 321, zc_1192)], [], [])
def zm_1210 : zC := (cX5_row, 4, zc_1210, (zfl_RX5, zwl_RX5), (zk1_RX5, zk2_RX5, []), [(0, 321, zc_1192)], [], [])
def zm_1211 : zC := (cX5_row, 4, zc_1211, (zfl_RX5, zwl_RX5), (zk1_RX5, zk2_RX5, []), [(0, 321, zc_1192)], [], [])
def zm_1212 : zC := (cX5_row, 4, zc_1212, (zfl_RX5, zwl_RX5), (zk1_RX5, zk2_RX5, []), [(0, 321, zc_1193)], [], [])
def zm_1213 : zC := (cX5_row, 4, zc_1213, (zfl_RX5, zwl_RX5), (zk1_RX5, zk2_RX5, []), [(0, 321, zc_1193)], [], [])
def zm_1214 : zC := (cX5_row, 4, zc_1214, (zfl_RX5, zwl_RX5), (zk1_RX5, zk2_RX5, []), [(0, 321, zc_1193)], [], [])
def zm_1215 : zC := (cX5_row, 4, zc_1215, (zfl_RX5, zwl_RX5), (zk1_RX5, zk2_RX5, []), [(0, 321, zc_1193)], [], [])
def zm_1216 : zC := (cX5_row, 4, zc_1216, (zfl_RX5, zwl_RX5), (zk1_RX5, zk2_RX5, []), [(0, 321, zc_1193)], [], [])
def zm_1217 : zC := (cX5_row, 4, zc_1217, (zfl_RX5, zwl_RX5), (zk1_RX5, zk2_RX5, []), [(0, 321, zc_1193)], [], [])
def zm_1218 : zC := (cX5_row, 4, zc_1218, (zfl_RX5, zwl_RX5), (zk1_RX5, zk2_RX5, []), [(0, 321, zc_1193)], [], [])
def zm_1219 : zC := (cX5_row, 4, zc_1219, (zfl_RX5, zwl_RX5), (zk1_RX5, zk2_RX5, []), [(0, 321, zc_1193)], [], [])
def zm_1220 : zC := (cX5_row, 4, zc_1220, (zfl_RX5, zwl_RX5), (zk1_RX5, zk2_RX5, []), [(0, 321, zc_1193)], [], [])
def zm_1224 : zC := (cX6_isSlot, 1, zc_1224, (zfl_RX6, zwl_RX6), (zk1_RX6, zk2_RX6, []), [(1, 76, zc_1221)], [], [])
def zm_1225 : zC := (cX6_isSlot, 1, zc_1225, (zfl_RX6, zwl_RX6), (zk1_RX6, zk2_RX6, []), [(1, 76, zc_1222)], [], [])
def zm_1226 : zC := (cX6_isSlot, 1, zc_1226, (zfl_RX6, zwl_RX6), (zk1_RX6, zk2_RX6, []), [(1, 76, zc_1223)], [], [])
def zm_1227 : zC := (cX6_row, 5, zc_1227, (zfl_RX6, zwl_RX6), (zk1_RX6, zk2_RX6, []), [(1, 80, zc_1224)], [], [])
def zm_1228 : zC := (cX6_row, 5, zc_1228, (zfl_RX6, zwl_RX6), (zk1_RX6, zk2_RX6, []), [(1, 80, zc_1224)], [], [])
def zm_1229 : zC := (cX6_row, 5, zc_1229, (zfl_RX6, zwl_RX6), (zk1_RX6, zk2_RX6, []), [(1, 80, zc_1224)], [], [])
def zm_1230 : zC := (cX6_row, 5, zc_1230, (zfl_RX6, zwl_RX6), (zk1_RX6, zk2_RX6, []), [(1, 80, zc_1224)], [], [])
def zm_1231 : zC := (cX6_row, 5, zc_1231, (zfl_RX6, zwl_RX6), (zk1_RX6, zk2_RX6, []), [(1, 80, zc_1224)], [], [])
def zm_1232 : zC := (cX6_row, 5, zc_1232, (zfl_RX6, zwl_RX6), (zk1_RX6, zk2_RX6, []), [(1, 80, zc_1224)], [], [])
def zm_1233 : zC := (cX6_row, 5, zc_1233, (zfl_RX6, zwl_RX6), (zk1_RX6, zk2_RX6, []), [(1, 80, zc_1224)], [], [])
def zm_1234 : zC := (cX6_row, 5, zc_1234, (zfl_RX6, zwl_RX6), (zk1_RX6, zk2_RX6, []), [(1, 80, zc_1224)], [], [])
def zm_1235 : zC := (cX6_row, 5, zc_1235, (zfl_RX6, zwl_RX6), (zk1_RX6, zk2_RX6, []), [(1, 80, zc_1224)], [], [])
def zm_1236 : zC := (cX6_row, 5, zc_1236, (zfl_RX6, zwl_RX6), (zk1_RX6, zk2_RX6, []), [(1, 76, zc_1221), (1, 80, zc_1225)], [], [])
def zm_1237 : zC := (cX6_row, 5, zc_1237, (zfl_RX6, zwl_RX6), (zk1_RX6, zk2_RX6, []), [(1, 76, zc_1221), (1, 80, zc_1225)], [], [])
def zm_1238 : zC := (cX6_row, 5, zc_1238, (zfl_RX6, zwl_RX6), (zk1_RX6, zk2_RX6, []), [(1, 76, zc_1221), (1, 80, zc_1225)], [], [])
def zm_1239 : zC := (cX6_row, 5, zc_1239, (zfl_RX6, zwl_RX6), (zk1_RX6, zk2_RX6, []), [(1, 76, zc_1222), (1, 80, zc_1225)], [], [])
def zm_1240 : zC := (cX6_row, 5, zc_1240, (zfl_RX6, zwl_RX6), (zk1_RX6, zk2_RX6, []), [(1, 76, zc_1222), (1, 80, zc_1225)], [(57, ([(0, 0), (0, 0), (0, 3), (0, 3), (0, 60), (0, 60), (0, 0)], [(0, (8, 0, 0)), (1, (0, 2, 0)), (2, (0, 3, 0)), (3, (0, 4, 0)), (4, (0, 5, 0))], [], [(6, 0, (0, 6, 0))], []), 60, [0, 0, 0, 0, 0, (-1)])], [])
def zm_1241 : zC := (cX6_row, 5, zc_1241, (zfl_RX6, zwl_RX6), (zk1_RX6, zk2_RX6, []), [(1, 76, zc_1222), (1, 80, zc_1225)], [], [])
def zm_1242 : zC := (cX6_row, 5, zc_1242, (zfl_RX6, zwl_RX6), (zk1_RX6, zk2_RX6, []), [(1, 76, zc_1223), (1, 80, zc_1225)], [], [])
def zm_1243 : zC := (cX6_row, 5, zc_1243, (zfl_RX6, zwl_RX6), (zk1_RX6, zk2_RX6, []), [(1, 76, zc_1223), (1, 80, zc_1225)], [], [])
def zm_1244 : zC := (cX6_row, 5, zc_1244, (zfl_RX6, zwl_RX6), (zk1_RX6, zk2_RX6, []), [(1, 76, zc_1223), (1, 80, zc_1225)], [], [])
def zm_1245 : zC := (cX6_row, 5, zc_1245, (zfl_RX6, zwl_RX6), (zk1_RX6, zk2_RX6, []), [(1, 80, zc_1226)], [], [])
def zm_1246 : zC := (cX6_row, 5, zc_1246, (zfl_RX6, zwl_RX6), (zk1_RX6, zk2_RX6, []), [(1, 80, zc_1226)], [], [])
def zm_1247 : zC := (cX6_row, 5, zc_1247, (zfl_RX6, zwl_RX6), (zk1_RX6, zk2_RX6, []), [(1, 80, zc_1226)], [], [])
def zm_1248 : zC := (cX6_row, 5, zc_1248, (zfl_RX6, zwl_RX6), (zk1_RX6, zk2_RX6, []), [(1, 80, zc_1226)], [], [])
def zm_1249 : zC := (cX6_row, 5, zc_1249, (zfl_RX6, zwl_RX6), (zk1_RX6, zk2_RX6, []), [(1, 80, zc_1226)], [], [])
def zm_1250 : zC := (cX6_row, 5, zc_1250, (zfl_RX6, zwl_RX6), (zk1_RX6, zk2_RX6, []), [(1, 80, zc_1226)], [], [])
def zm_1251 : zC := (cX6_row, 5, zc_1251, (zfl_RX6, zwl_RX6), (zk1_RX6, zk2_RX6, []), [(1, 80, zc_1226)], [], [])
def zm_1252 : zC := (cX6_row, 5, zc_1252, (zfl_RX6, zwl_RX6), (zk1_RX6, zk2_RX6, []), [(1, 80, zc_1226)], [], [])
def zm_1253 : zC := (cX6_row, 5, zc_1253, (zfl_RX6, zwl_RX6), (zk1_RX6, zk2_RX6, []), [(1, 80, zc_1226)], [], [])
set_option maxRecDepth 100000 in
theorem zk_1191 : zmeth zKS zuq zNS zm_1191 4000 = true := zqF (zdt0 _) (by decide +kernel)
theorem zM_1191 {l : Launch} {D : va_G} {cI cZ cB cJ cR : ClassId} {ks ad : List Nat} {Psi : va_W → Prop} (hw : zworld ks ad zuq zNS Psi) (hm : zMan l D cI cZ cB cJ cR ks ad Psi) : zMet l D cI cZ cB cJ cR zKS ks ad Psi yX3_isSlot (.code yX3_isSlot cX3_isSlot 2 (some .boolean)) 0 zc_1191 :=
  zmet_of hw 0 (by decide) 4000 zk_1191 (by decide) (by decide) (fun X => ⟨zg_RX3 X, zp_RX3 X, zl1_RX3 X, zl2_RX3 X, nilz, nilz⟩)
set_option maxRecDepth 100000 in
theorem zk_1192 : zmeth zKS zuq zNS zm_1192 4000 = true := zqF (zdt0 _) (by decide +kernel)
theorem zM_1192 {l : Launch} {D : va_G} {cI cZ cB cJ cR : ClassId} {ks ad : List Nat} {Psi : va_W → Prop} (hw : zworld ks ad zuq zNS Psi) (hm : zMan l D cI cZ cB cJ cR ks ad Psi) : zMet l D cI cZ cB cJ cR zKS ks ad Psi yX3_isSlot (.code yX3_isSlot cX3_isSlot 2 (some .boolean)) 0 zc_1192 :=
  zmet_of hw 0 (by decide) 4000 zk_1192 (by decide) (by decide) (fun X => ⟨zg_RX3 X, zp_RX3 X, zl1_RX3 X, zl2_RX3 X, nilz, nilz⟩)
set_option maxRecDepth 100000 in
theorem zk_1193 : zmeth zKS zuq zNS zm_1193 4000 = true := zqF (zdt0 _) (by decide +kernel)
theorem zM_1193 {l : Launch} {D : va_G} {cI cZ cB cJ cR : ClassId} {ks ad : List Nat} {Psi : va_W → Prop} (hw : zworld ks ad zuq zNS Psi) (hm : zMan l D cI cZ cB cJ cR ks ad Psi) : zMet l D cI cZ cB cJ cR zKS ks ad Psi yX3_isSlot (.code yX3_isSlot cX3_isSlot 2 (some .boolean)) 0 zc_1193 :=
  zmet_of hw 0 (by decide) 4000 zk_1193 (by decide) (by decide) (fun X => ⟨zg_RX3 X, zp_RX3 X, zl1_RX3 X, zl2_RX3 X, nilz, nilz⟩)
set_option maxRecDepth 100000 in
theorem zk_1221 : zmeth zKS zuq zNS zm_1221 4000 = true := zqF (zdt_X6_in) (by decide +kernel)
theorem zM_1221 {l : Launch} {D : va_G} {cI cZ cB cJ cR : ClassId} {ks ad : List Nat} {Psi : va_W → Prop} (hw : zworld ks ad zuq zNS Psi) (hm : zMan l D cI cZ cB cJ cR ks ad Psi) : zMet l D cI cZ cB cJ cR zKS ks ad Psi yX6_in (.code yX6_in cX6_in 6 (some .boolean)) 0 zc_1221 :=
  zmet_of hw 0 (by decide) 4000 zk_1221 (by decide) (by decide) (fun X => ⟨zg_RX6 X, zp_RX6 X, zl1_RX6 X, zl2_RX6 X, nilz, nilz⟩)
set_option maxRecDepth 100000 in
theorem zk_1222 : zmeth zKS zuq zNS zm_1222 4000 = true := zqF (zdt_X6_in) (by decide +kernel)
theorem zM_1222 {l : Launch} {D : va_G} {cI cZ cB cJ cR : ClassId} {ks ad : List Nat} {Psi : va_W → Prop} (hw : zworld ks ad zuq zNS Psi) (hm : zMan l D cI cZ cB cJ cR ks ad Psi) : zMet l D cI cZ cB cJ cR zKS ks ad Psi yX6_in (.code yX6_in cX6_in 6 (some .boolean)) 0 zc_1222 :=
  zmet_of hw 0 (by decide) 4000 zk_1222 (by decide) (by decide) (fun X => ⟨zg_RX6 X, zp_RX6 X, zl1_RX6 X, zl2_RX6 X, nilz, nilz⟩)
set_option maxRecDepth 100000 in
theorem zk_1223 : zmeth zKS zuq zNS zm_1223 4000 = true := zqF (zdt_X6_in) (by decide +kernel)
theorem zM_1223 {l : Launch} {D : va_G} {cI cZ cB cJ cR : ClassId} {ks ad : List Nat} {Psi : va_W → Prop} (hw : zworld ks ad zuq zNS Psi) (hm : zMan l D cI cZ cB cJ cR ks ad Psi) : zMet l D cI cZ cB cJ cR zKS ks ad Psi yX6_in (.code yX6_in cX6_in 6 (some .boolean)) 0 zc_1223 :=
  zmet_of hw 0 (by decide) 4000 zk_1223 (by decide) (by decide) (fun X => ⟨zg_RX6 X, zp_RX6 X, zl1_RX6 X, zl2_RX6 X, nilz, nilz⟩)
set_option maxRecDepth 100000 in
theorem zk_1194 : zmeth zKS zuq zNS zm_1194 4000 = true := zqF (zdt_X5_row) (by decide +kernel)
theorem zM_1194 {l : Launch} {D : va_G} {cI cZ cB cJ cR : ClassId} {ks ad : List Nat} {Psi : va_W → Prop} (hw : zworld ks ad zuq zNS Psi) (hm : zMan l D cI cZ cB cJ cR ks ad Psi) : zMet l D cI cZ cB cJ cR zKS ks ad Psi yX5_row (.code yX5_row cX5_row 4 (some .int)) 1 zc_1194 :=
  zmet_of hw 1 (by decide) 4000 zk_1194 (by decide) (by decide) (fun X => ⟨zg_RX5 X, zp_RX5 X, zl1_RX5 X, zl2_RX5 X, nilz, (List.forall_mem_cons.mpr ⟨zq_RX5_321 X (zM_1191 hw hm) (by decide) rfl rfl, nilz⟩)⟩)
set_option maxRecDepth 100000 in
theorem zk_1195 : zmeth zKS zuq zNS zm_1195 4000 = true := zqF (zdt_X5_row) (by decide +kernel)
theorem zM_1195 {l : Launch} {D : va_G} {cI cZ cB cJ cR : ClassId} {ks ad : List Nat} {Psi : va_W → Prop} (hw : zworld ks ad zuq zNS Psi) (hm : zMan l D cI cZ cB cJ cR ks ad Psi) : zMet l D cI cZ cB cJ cR zKS ks ad Psi yX5_row (.code yX5_row cX5_row 4 (some .int)) 1 zc_1195 :=
  zmet_of hw 1 (by decide) 4000 zk_1195 (by decide) (by decide) (fun X => ⟨zg_RX5 X, zp_RX5 X, zl1_RX5 X, zl2_RX5 X, nilz, (List.forall_mem_cons.mpr ⟨zq_RX5_321 X (zM_1191 hw hm) (by decide) rfl rfl, nilz⟩)⟩)
set_option maxRecDepth 100000 in
theorem zk_1196 : zmeth zKS zuq zNS zm_1196 4000 = true := zqF (zdt_X5_row) (by decide +kernel)
theorem zM_1196 {l : Launch} {D : va_G} {cI cZ cB cJ cR : ClassId} {ks ad : List Nat} {Psi : va_W → Prop} (hw : zworld ks ad zuq zNS Psi) (hm : zMan l D cI cZ cB cJ cR ks ad Psi) : zMet l D cI cZ cB cJ cR zKS ks ad Psi yX5_row (.code yX5_row cX5_row 4 (some .int)) 1 zc_1196 :=
  zmet_of hw 1 (by decide) 4000 zk_1196 (by decide) (by decide) (fun X => ⟨zg_RX5 X, zp_RX5 X, zl1_RX5 X, zl2_RX5 X, nilz, (List.forall_mem_cons.mpr ⟨zq_RX5_321 X (zM_1191 hw hm) (by decide) rfl rfl, nilz⟩)⟩)
set_option maxRecDepth 100000 in
theorem zk_1197 : zmeth zKS zuq zNS zm_1197 4000 = true := zqF (zdt_X5_row) (by decide +kernel)
theorem zM_1197 {l : Launch} {D : va_G} {cI cZ cB cJ cR : ClassId} {ks ad : List Nat} {Psi : va_W → Prop} (hw : zworld ks ad zuq zNS Psi) (hm : zMan l D cI cZ cB cJ cR ks ad Psi) : zMet l D cI cZ cB cJ cR zKS ks ad Psi yX5_row (.code yX5_row cX5_row 4 (some .int)) 1 zc_1197 :=
  zmet_of hw 1 (by decide) 4000 zk_1197 (by decide) (by decide) (fun X => ⟨zg_RX5 X, zp_RX5 X, zl1_RX5 X, zl2_RX5 X, nilz, (List.forall_mem_cons.mpr ⟨zq_RX5_321 X (zM_1191 hw hm) (by decide) rfl rfl, nilz⟩)⟩)
set_option maxRecDepth 100000 in
theorem zk_1198 : zmeth zKS zuq zNS zm_1198 4000 = true := zqF (zdt_X5_row) (by decide +kernel)
theorem zM_1198 {l : Launch} {D : va_G} {cI cZ cB cJ cR : ClassId} {ks ad : List Nat} {Psi : va_W → Prop} (hw : zworld ks ad zuq zNS Psi) (hm : zMan l D cI cZ cB cJ cR ks ad Psi) : zMet l D cI cZ cB cJ cR zKS ks ad Psi yX5_row (.code yX5_row cX5_row 4 (some .int)) 1 zc_1198 :=
  zmet_of hw 1 (by decide) 4000 zk_1198 (by decide) (by decide) (fun X => ⟨zg_RX5 X, zp_RX5 X, zl1_RX5 X, zl2_RX5 X, nilz, (List.forall_mem_cons.mpr ⟨zq_RX5_321 X (zM_1191 hw hm) (by decide) rfl rfl, nilz⟩)⟩)
set_option maxRecDepth 100000 in
theorem zk_1199 : zmeth zKS zuq zNS zm_1199 4000 = true := zqF (zdt_X5_row) (by decide +kernel)
theorem zM_1199 {l : Launch} {D : va_G} {cI cZ cB cJ cR : ClassId} {ks ad : List Nat} {Psi : va_W → Prop} (hw : zworld ks ad zuq zNS Psi) (hm : zMan l D cI cZ cB cJ cR ks ad Psi) : zMet l D cI cZ cB cJ cR zKS ks ad Psi yX5_row (.code yX5_row cX5_row 4 (some .int)) 1 zc_1199 :=
  zmet_of hw 1 (by decide) 4000 zk_1199 (by decide) (by decide) (fun X => ⟨zg_RX5 X, zp_RX5 X, zl1_RX5 X, zl2_RX5 X, nilz, (List.forall_mem_cons.mpr ⟨zq_RX5_321 X (zM_1191 hw hm) (by decide) rfl rfl, nilz⟩)⟩)
set_option maxRecDepth 100000 in
theorem zk_1200 : zmeth zKS zuq zNS zm_1200 4000 = true := zqF (zdt_X5_row) (by decide +kernel)
theorem zM_1200 {l : Launch} {D : va_G} {cI cZ cB cJ cR : ClassId} {ks ad : List Nat} {Psi : va_W → Prop} (hw : zworld ks ad zuq zNS Psi) (hm : zMan l D cI cZ cB cJ cR ks ad Psi) : zMet l D cI cZ cB cJ cR zKS ks ad Psi yX5_row (.code yX5_row cX5_row 4 (some .int)) 1 zc_1200 :=
  zmet_of hw 1 (by decide) 4000 zk_1200 (by decide) (by decide) (fun X => ⟨zg_RX5 X, zp_RX5 X, zl1_RX5 X, zl2_RX5 X, nilz, (List.forall_mem_cons.mpr ⟨zq_RX5_321 X (zM_1191 hw hm) (by decide) rfl rfl, nilz⟩)⟩)
set_option maxRecDepth 100000 in
theorem zk_1201 : zmeth zKS zuq zNS zm_1201 4000 = true := zqF (zdt_X5_row) (by decide +kernel)
theorem zM_1201 {l : Launch} {D : va_G} {cI cZ cB cJ cR : ClassId} {ks ad : List Nat} {Psi : va_W → Prop} (hw : zworld ks ad zuq zNS Psi) (hm : zMan l D cI cZ cB cJ cR ks ad Psi) : zMet l D cI cZ cB cJ cR zKS ks ad Psi yX5_row (.code yX5_row cX5_row 4 (some .int)) 1 zc_1201 :=
  zmet_of hw 1 (by decide) 4000 zk_1201 (by decide) (by decide) (fun X => ⟨zg_RX5 X, zp_RX5 X, zl1_RX5 X, zl2_RX5 X, nilz, (List.forall_mem_cons.mpr ⟨zq_RX5_321 X (zM_1191 hw hm) (by decide) rfl rfl, nilz⟩)⟩)
set_option maxRecDepth 100000 in
theorem zk_1202 : zmeth zKS zuq zNS zm_1202 4000 = true := zqF (zdt_X5_row) (by decide +kernel)
theorem zM_1202 {l : Launch} {D : va_G} {cI cZ cB cJ cR : ClassId} {ks ad : List Nat} {Psi : va_W → Prop} (hw : zworld ks ad zuq zNS Psi) (hm : zMan l D cI cZ cB cJ cR ks ad Psi) : zMet l D cI cZ cB cJ cR zKS ks ad Psi yX5_row (.code yX5_row cX5_row 4 (some .int)) 1 zc_1202 :=
  zmet_of hw 1 (by decide) 4000 zk_1202 (by decide) (by decide) (fun X => ⟨zg_RX5 X, zp_RX5 X, zl1_RX5 X, zl2_RX5 X, nilz, (List.forall_mem_cons.mpr ⟨zq_RX5_321 X (zM_1191 hw hm) (by decide) rfl rfl, nilz⟩)⟩)
set_option maxRecDepth 100000 in
theorem zk_1203 : zmeth zKS zuq zNS zm_1203 4000 = true := zqF (zdt_X5_row) (by decide +kernel)
theorem zM_1203 {l : Launch} {D : va_G} {cI cZ cB cJ cR : ClassId} {ks ad : List Nat} {Psi : va_W → Prop} (hw : zworld ks ad zuq zNS Psi) (hm : zMan l D cI cZ cB cJ cR ks ad Psi) : zMet l D cI cZ cB cJ cR zKS ks ad Psi yX5_row (.code yX5_row cX5_row 4 (some .int)) 1 zc_1203 :=
  zmet_of hw 1 (by decide) 4000 zk_1203 (by decide) (by decide) (fun X => ⟨zg_RX5 X, zp_RX5 X, zl1_RX5 X, zl2_RX5 X, nilz, (List.forall_mem_cons.mpr ⟨zq_RX5_321 X (zM_1192 hw hm) (by decide) rfl rfl, nilz⟩)⟩)
set_option maxRecDepth 100000 in
theorem zk_1204 : zmeth zKS zuq zNS zm_1204 4000 = true := zqF (zdt_X5_row) (by decide +kernel)
theorem zM_1204 {l : Launch} {D : va_G} {cI cZ cB cJ cR : ClassId} {ks ad : List Nat} {Psi : va_W → Prop} (hw : zworld ks ad zuq zNS Psi) (hm : zMan l D cI cZ cB cJ cR ks ad Psi) : zMet l D cI cZ cB cJ cR zKS ks ad Psi yX5_row (.code yX5_row cX5_row 4 (some .int)) 1 zc_1204 :=
  zmet_of hw 1 (by decide) 4000 zk_1204 (by decide) (by decide) (fun X => ⟨zg_RX5 X, zp_RX5 X, zl1_RX5 X, zl2_RX5 X, nilz, (List.forall_mem_cons.mpr ⟨zq_RX5_321 X (zM_1192 hw hm) (by decide) rfl rfl, nilz⟩)⟩)
set_option maxRecDepth 100000 in
theorem zk_1205 : zmeth zKS zuq zNS zm_1205 4000 = true := zqF (zdt_X5_row) (by decide +kernel)
theorem zM_1205 {l : Launch} {D : va_G} {cI cZ cB cJ cR : ClassId} {ks ad : List Nat} {Psi : va_W → Prop} (hw : zworld ks ad zuq zNS Psi) (hm : zMan l D cI cZ cB cJ cR ks ad Psi) : zMet l D cI cZ cB cJ cR zKS ks ad Psi yX5_row (.code yX5_row cX5_row 4 (some .int)) 1 zc_1205 :=
  zmet_of hw 1 (by decide) 4000 zk_1205 (by decide) (by decide) (fun X => ⟨zg_RX5 X, zp_RX5 X, zl1_RX5 X, zl2_RX5 X, nilz, (List.forall_mem_cons.mpr ⟨zq_RX5_321 X (zM_1192 hw hm) (by decide) rfl rfl, nilz⟩)⟩)
set_option maxRecDepth 100000 in
theorem zk_1206 : zmeth zKS zuq zNS zm_1206 4000 = true := zqF (zdt_X5_row) (by decide +kernel)
theorem zM_1206 {l : Launch} {D : va_G} {cI cZ cB cJ cR : ClassId} {ks ad : List Nat} {Psi : va_W → Prop} (hw : zworld ks ad zuq zNS Psi) (hm : zMan l D cI cZ cB cJ cR ks ad Psi) : zMet l D cI cZ cB cJ cR zKS ks ad Psi yX5_row (.code yX5_row cX5_row 4 (some .int)) 1 zc_1206 :=
  zmet_of hw 1 (by decide) 4000 zk_1206 (by decide) (by decide) (fun X => ⟨zg_RX5 X, zp_RX5 X, zl1_RX5 X, zl2_RX5 X, nilz, (List.forall_mem_cons.mpr ⟨zq_RX5_321 X (zM_1192 hw hm) (by decide) rfl rfl, nilz⟩)⟩)
set_option maxRecDepth 100000 in
theorem zk_1207 : zmeth zKS zuq zNS zm_1207 4000 = true := zqF (zdt_X5_row) (by decide +kernel)
theorem zM_1207 {l : Launch} {D : va_G} {cI cZ cB cJ cR : ClassId} {ks ad : List Nat} {Psi : va_W → Prop} (hw : zworld ks ad zuq zNS Psi) (hm : zMan l D cI cZ cB cJ cR ks ad Psi) : zMet l D cI cZ cB cJ cR zKS ks ad Psi yX5_row (.code yX5_row cX5_row 4 (some .int)) 1 zc_1207 :=
  zmet_of hw 1 (by decide) 4000 zk_1207 (by decide) (by decide) (fun X => ⟨zg_RX5 X, zp_RX5 X, zl1_RX5 X, zl2_RX5 X, nilz, (List.forall_mem_cons.mpr ⟨zq_RX5_321 X (zM_1192 hw hm) (by decide) rfl rfl, (List.forall_mem_cons.mpr ⟨zq_RX5_324 X (zM_354 hw hm) (by decide) rfl rfl, nilz⟩)⟩)⟩)
set_option maxRecDepth 100000 in
theorem zk_1208 : zmeth zKS zuq zNS zm_1208 4000 = true := zqF (zdt_X5_row) (by decide +kernel)
theorem zM_1208 {l : Launch} {D : va_G} {cI cZ cB cJ cR : ClassId} {ks ad : List Nat} {Psi : va_W → Prop} (hw : zworld ks ad zuq zNS Psi) (hm : zMan l D cI cZ cB cJ cR ks ad Psi) : zMet l D cI cZ cB cJ cR zKS ks ad Psi yX5_row (.code yX5_row cX5_row 4 (some .int)) 1 zc_1208 :=
  zmet_of hw 1 (by decide) 4000 zk_1208 (by decide) (by decide) (fun X => ⟨zg_RX5 X, zp_RX5 X, zl1_RX5 X, zl2_RX5 X, nilz, (List.forall_mem_cons.mpr ⟨zq_RX5_321 X (zM_1192 hw hm) (by decide) rfl rfl, nilz⟩)⟩)
set_option maxRecDepth 100000 in
theorem zk_1209 : zmeth zKS zuq zNS zm_1209 4000 = true := zqF (zdt_X5_row) (by decide +kernel)
theorem zM_1209 {l : Launch} {D : va_G} {cI cZ cB cJ cR : ClassId} {ks ad : List Nat} {Psi : va_W → Prop} (hw : zworld ks ad zuq zNS Psi) (hm : zMan l D cI cZ cB cJ cR ks ad Psi) : zMet l D cI cZ cB cJ cR zKS ks ad Psi yX5_row (.code yX5_row cX5_row 4 (some .int)) 1 zc_1209 :=
  zmet_of hw 1 (by decide) 4000 zk_1209 (by decide) (by decide) (fun X => ⟨zg_RX5 X, zp_RX5 X, zl1_RX5 X, zl2_RX5 X, nilz, (List.forall_mem_cons.mpr ⟨zq_RX5_321 X (zM_1192 hw hm) (by decide) rfl rfl, nilz⟩)⟩)
set_option maxRecDepth 100000 in
theorem zk_1210 : zmeth zKS zuq zNS zm_1210 4000 = true := zqF (zdt_X5_row) (by decide +kernel)
theorem zM_1210 {l : Launch} {D : va_G} {cI cZ cB cJ cR : ClassId} {ks ad : List Nat} {Psi : va_W → Prop} (hw : zworld ks ad zuq zNS Psi) (hm : zMan l D cI cZ cB cJ cR ks ad Psi) : zMet l D cI cZ cB cJ cR zKS ks ad Psi yX5_row (.code yX5_row cX5_row 4 (some .int)) 1 zc_1210 :=
  zmet_of hw 1 (by decide) 4000 zk_1210 (by decide) (by decide) (fun X => ⟨zg_RX5 X, zp_RX5 X, zl1_RX5 X, zl2_RX5 X, nilz, (List.forall_mem_cons.mpr ⟨zq_RX5_321 X (zM_1192 hw hm) (by decide) rfl rfl, nilz⟩)⟩)
set_option maxRecDepth 100000 in
theorem zk_1211 : zmeth zKS zuq zNS zm_1211 4000 = true := zqF (zdt_X5_row) (by decide +kernel)
theorem zM_1211 {l : Launch} {D : va_G} {cI cZ cB cJ cR : ClassId} {ks ad : List Nat} {Psi : va_W → Prop} (hw : zworld ks ad zuq zNS Psi) (hm : zMan l D cI cZ cB cJ cR ks ad Psi) : zMet l D cI cZ cB cJ cR zKS ks ad Psi yX5_row (.code yX5_row cX5_row 4 (some .int)) 1 zc_1211 :=
  zmet_of hw 1 (by decide) 4000 zk_1211 (by decide) (by decide) (fun X => ⟨zg_RX5 X, zp_RX5 X, zl1_RX5 X, zl2_RX5 X, nilz, (List.forall_mem_cons.mpr ⟨zq_RX5_321 X (zM_1192 hw hm) (by decide) rfl rfl, nilz⟩)⟩)
set_option maxRecDepth 100000 in
theorem zk_1212 : zmeth zKS zuq zNS zm_1212 4000 = true := zqF (zdt_X5_row) (by decide +kernel)
theorem zM_1212 {l : Launch} {D : va_G} {cI cZ cB cJ cR : ClassId} {ks ad : List Nat} {Psi : va_W → Prop} (hw : zworld ks ad zuq zNS Psi) (hm : zMan l D cI cZ cB cJ cR ks ad Psi) : zMet l D cI cZ cB cJ cR zKS ks ad Psi yX5_row (.code yX5_row cX5_row 4 (some .int)) 1 zc_1212 :=
  zmet_of hw 1 (by decide) 4000 zk_1212 (by decide) (by decide) (fun X => ⟨zg_RX5 X, zp_RX5 X, zl1_RX5 X, zl2_RX5 X, nilz, (List.forall_mem_cons.mpr ⟨zq_RX5_321 X (zM_1193 hw hm) (by decide) rfl rfl, nilz⟩)⟩)
set_option maxRecDepth 100000 in
theorem zk_1213 : zmeth zKS zuq zNS zm_1213 4000 = true := zqF (zdt_X5_row) (by decide +kernel)
theorem zM_1213 {l : Launch} {D : va_G} {cI cZ cB cJ cR : ClassId} {ks ad : List Nat} {Psi : va_W → Prop} (hw : zworld ks ad zuq zNS Psi) (hm : zMan l D cI cZ cB cJ cR ks ad Psi) : zMet l D cI cZ cB cJ cR zKS ks ad Psi yX5_row (.code yX5_row cX5_row 4 (some .int)) 1 zc_1213 :=
  zmet_of hw 1 (by decide) 4000 zk_1213 (by decide) (by decide) (fun X => ⟨zg_RX5 X, zp_RX5 X, zl1_RX5 X, zl2_RX5 X, nilz, (List.forall_mem_cons.mpr ⟨zq_RX5_321 X (zM_1193 hw hm) (by decide) rfl rfl, nilz⟩)⟩)
set_option maxRecDepth 100000 in
theorem zk_1214 : zmeth zKS zuq zNS zm_1214 4000 = true := zqF (zdt_X5_row) (by decide +kernel)
theorem zM_1214 {l : Launch} {D : va_G} {cI cZ cB cJ cR : ClassId} {ks ad : List Nat} {Psi : va_W → Prop} (hw : zworld ks ad zuq zNS Psi) (hm : zMan l D cI cZ cB cJ cR ks ad Psi) : zMet l D cI cZ cB cJ cR zKS ks ad Psi yX5_row (.code yX5_row cX5_row 4 (some .int)) 1 zc_1214 :=
  zmet_of hw 1 (by decide) 4000 zk_1214 (by decide) (by decide) (fun X => ⟨zg_RX5 X, zp_RX5 X, zl1_RX5 X, zl2_RX5 X, nilz, (List.forall_mem_cons.mpr ⟨zq_RX5_321 X (zM_1193 hw hm) (by decide) rfl rfl, nilz⟩)⟩)
set_option maxRecDepth 100000 in
theorem zk_1215 : zmeth zKS zuq zNS zm_1215 4000 = true := zqF (zdt_X5_row) (by decide +kernel)
theorem zM_1215 {l : Launch} {D : va_G} {cI cZ cB cJ cR : ClassId} {ks ad : List Nat} {Psi : va_W → Prop} (hw : zworld ks ad zuq zNS Psi) (hm : zMan l D cI cZ cB cJ cR ks ad Psi) : zMet l D cI cZ cB cJ cR zKS ks ad Psi yX5_row (.code yX5_row cX5_row 4 (some .int)) 1 zc_1215 :=
  zmet_of hw 1 (by decide) 4000 zk_1215 (by decide) (by decide) (fun X => ⟨zg_RX5 X, zp_RX5 X, zl1_RX5 X, zl2_RX5 X, nilz, (List.forall_mem_cons.mpr ⟨zq_RX5_321 X (zM_1193 hw hm) (by decide) rfl rfl, nilz⟩)⟩)
set_option maxRecDepth 100000 in
theorem zk_1216 : zmeth zKS zuq zNS zm_1216 4000 = true := zqF (zdt_X5_row) (by decide +kernel)
theorem zM_1216 {l : Launch} {D : va_G} {cI cZ cB cJ cR : ClassId} {ks ad : List Nat} {Psi : va_W → Prop} (hw : zworld ks ad zuq zNS Psi) (hm : zMan l D cI cZ cB cJ cR ks ad Psi) : zMet l D cI cZ cB cJ cR zKS ks ad Psi yX5_row (.code yX5_row cX5_row 4 (some .int)) 1 zc_1216 :=
  zmet_of hw 1 (by decide) 4000 zk_1216 (by decide) (by decide) (fun X => ⟨zg_RX5 X, zp_RX5 X, zl1_RX5 X, zl2_RX5 X, nilz, (List.forall_mem_cons.mpr ⟨zq_RX5_321 X (zM_1193 hw hm) (by decide) rfl rfl, nilz⟩)⟩)
set_option maxRecDepth 100000 in
theorem zk_1217 : zmeth zKS zuq zNS zm_1217 4000 = true := zqF (zdt_X5_row) (by decide +kernel)
theorem zM_1217 {l : Launch} {D : va_G} {cI cZ cB cJ cR : ClassId} {ks ad : List Nat} {Psi : va_W → Prop} (hw : zworld ks ad zuq zNS Psi) (hm : zMan l D cI cZ cB cJ cR ks ad Psi) : zMet l D cI cZ cB cJ cR zKS ks ad Psi yX5_row (.code yX5_row cX5_row 4 (some .int)) 1 zc_1217 :=
  zmet_of hw 1 (by decide) 4000 zk_1217 (by decide) (by decide) (fun X => ⟨zg_RX5 X, zp_RX5 X, zl1_RX5 X, zl2_RX5 X, nilz, (List.forall_mem_cons.mpr ⟨zq_RX5_321 X (zM_1193 hw hm) (by decide) rfl rfl, nilz⟩)⟩)
set_option maxRecDepth 100000 in
theorem zk_1218 : zmeth zKS zuq zNS zm_1218 4000 = true := zqF (zdt_X5_row) (by decide +kernel)
theorem zM_1218 {l : Launch} {D : va_G} {cI cZ cB cJ cR : ClassId} {ks ad : List Nat} {Psi : va_W → Prop} (hw : zworld ks ad zuq zNS Psi) (hm : zMan l D cI cZ cB cJ cR ks ad Psi) : zMet l D cI cZ cB cJ cR zKS ks ad Psi yX5_row (.code yX5_row cX5_row 4 (some .int)) 1 zc_1218 :=
  zmet_of hw 1 (by decide) 4000 zk_1218 (by decide) (by decide) (fun X => ⟨zg_RX5 X, zp_RX5 X, zl1_RX5 X, zl2_RX5 X, nilz, (List.forall_mem_cons.mpr ⟨zq_RX5_321 X (zM_1193 hw hm) (by decide) rfl rfl, nilz⟩)⟩)
set_option maxRecDepth 100000 in
theorem zk_1219 : zmeth zKS zuq zNS zm_1219 4000 = true := zqF (zdt_X5_row) (by decide +kernel)
theorem zM_1219 {l : Launch} {D : va_G} {cI cZ cB cJ cR : ClassId} {ks ad : List Nat} {Psi : va_W → Prop} (hw : zworld ks ad zuq zNS Psi) (hm : zMan l D cI cZ cB cJ cR ks ad Psi) : zMet l D cI cZ cB cJ cR zKS ks ad Psi yX5_row (.code yX5_row cX5_row 4 (some .int)) 1 zc_1219 :=
  zmet_of hw 1 (by decide) 4000 zk_1219 (by decide) (by decide) (fun X => ⟨zg_RX5 X, zp_RX5 X, zl1_RX5 X, zl2_RX5 X, nilz, (List.forall_mem_cons.mpr ⟨zq_RX5_321 X (zM_1193 hw hm) (by decide) rfl rfl, nilz⟩)⟩)
set_option maxRecDepth 100000 in
theorem zk_1220 : zmeth zKS zuq zNS zm_1220 4000 = true := zqF (zdt_X5_row) (by decide +kernel)
theorem zM_1220 {l : Launch} {D : va_G} {cI cZ cB cJ cR : ClassId} {ks ad : List Nat} {Psi : va_W → Prop} (hw : zworld ks ad zuq zNS Psi) (hm : zMan l D cI cZ cB cJ cR ks ad Psi) : zMet l D cI cZ cB cJ cR zKS ks ad Psi yX5_row (.code yX5_row cX5_row 4 (some .int)) 1 zc_1220 :=
  zmet_of hw 1 (by decide) 4000 zk_1220 (by decide) (by decide) (fun X => ⟨zg_RX5 X, zp_RX5 X, zl1_RX5 X, zl2_RX5 X, nilz, (List.forall_mem_cons.mpr ⟨zq_RX5_321 X (zM_1193 hw hm) (by decide) rfl rfl, nilz⟩)⟩)
set_option maxRecDepth 100000 in
theorem zk_1224 : zmeth zKS zuq zNS zm_1224 4000 = true := zqF (zdt0 _) (by decide +kernel)
theorem zM_1224 {l : Launch} {D : va_G} {cI cZ cB cJ cR : ClassId} {ks ad : List Nat} {Psi : va_W → Prop} (hw : zworld ks ad zuq zNS Psi) (hm : zMan l D cI cZ cB cJ cR ks ad Psi) : zMet l D cI cZ cB cJ cR zKS ks ad Psi yX6_isSlot (.code yX6_isSlot cX6_isSlot 1 (some .boolean)) 1 zc_1224 :=
  zmet_of hw 1 (by decide) 4000 zk_1224 (by decide) (by decide) (fun X => ⟨zg_RX6 X, zp_RX6 X, zl1_RX6 X, zl2_RX6 X, nilz, (List.forall_mem_cons.mpr ⟨zq_RX6_76 X (zM_1221 hw hm) (by decide) rfl, nilz⟩)⟩)
set_option maxRecDepth 100000 in
theorem zk_1225 : zmeth zKS zuq zNS zm_1225 4000 = true := zqF (zdt0 _) (by decide +kernel)
theorem zM_1225 {l : Launch} {D : va_G} {cI cZ cB cJ cR : ClassId} {ks ad : List Nat} {Psi : va_W → Prop} (hw : zworld ks ad zuq zNS Psi) (hm : zMan l D cI cZ cB cJ cR ks ad Psi) : zMet l D cI cZ cB cJ cR zKS ks ad Psi yX6_isSlot (.code yX6_isSlot cX6_isSlot 1 (some .boolean)) 1 zc_1225 :=
  zmet_of hw 1 (by decide) 4000 zk_1225 (by decide) (by decide) (fun X => ⟨zg_RX6 X, zp_RX6 X, zl1_RX6 X, zl2_RX6 X, nilz, (List.forall_mem_cons.mpr ⟨zq_RX6_76 X (zM_1222 hw hm) (by decide) rfl, nilz⟩)⟩)
set_option maxRecDepth 100000 in
theorem zk_1226 : zmeth zKS zuq zNS zm_1226 4000 = true := zqF (zdt0 _) (by decide +kernel)
theorem zM_1226 {l : Launch} {D : va_G} {cI cZ cB cJ cR : ClassId} {ks ad : List Nat} {Psi : va_W → Prop} (hw : zworld ks ad zuq zNS Psi) (hm : zMan l D cI cZ cB cJ cR ks ad Psi) : zMet l D cI cZ cB cJ cR zKS ks ad Psi yX6_isSlot (.code yX6_isSlot cX6_isSlot 1 (some .boolean)) 1 zc_1226 :=
  zmet_of hw 1 (by decide) 4000 zk_1226 (by decide) (by decide) (fun X => ⟨zg_RX6 X, zp_RX6 X, zl1_RX6 X, zl2_RX6 X, nilz, (List.forall_mem_cons.mpr ⟨zq_RX6_76 X (zM_1223 hw hm) (by decide) rfl, nilz⟩)⟩)
set_option maxRecDepth 100000 in
theorem zk_1227 : zmeth zKS zuq zNS zm_1227 4000 = true := zqF (zdt_X6_row) (by decide +kernel)
theorem zM_1227 {l : Launch} {D : va_G} {cI cZ cB cJ cR : ClassId} {ks ad : List Nat} {Psi : va_W → Prop} (hw : zworld ks ad zuq zNS Psi) (hm : zMan l D cI cZ cB cJ cR ks ad Psi) : zMet l D cI cZ cB cJ cR zKS ks ad Psi yX6_row (.code yX6_row cX6_row 5 (some .int)) 2 zc_1227 :=
  zmet_of hw 2 (by decide) 4000 zk_1227 (by decide) (by decide) (fun X => ⟨zg_RX6 X, zp_RX6 X, zl1_RX6 X, zl2_RX6 X, nilz, (List.forall_mem_cons.mpr ⟨zq_RX6_80 X (zM_1224 hw hm) (by decide) rfl, nilz⟩)⟩)
set_option maxRecDepth 100000 in
theorem zk_1228 : zmeth zKS zuq zNS zm_1228 4000 = true := zqF (zdt_X6_row) (by decide +kernel)
theorem zM_1228 {l : Launch} {D : va_G} {cI cZ cB cJ cR : ClassId} {ks ad : List Nat} {Psi : va_W → Prop} (hw : zworld ks ad zuq zNS Psi) (hm : zMan l D cI cZ cB cJ cR ks ad Psi) : zMet l D cI cZ cB cJ cR zKS ks ad Psi yX6_row (.code yX6_row cX6_row 5 (some .int)) 2 zc_1228 :=
  zmet_of hw 2 (by decide) 4000 zk_1228 (by decide) (by decide) (fun X => ⟨zg_RX6 X, zp_RX6 X, zl1_RX6 X, zl2_RX6 X, nilz, (List.forall_mem_cons.mpr ⟨zq_RX6_80 X (zM_1224 hw hm) (by decide) rfl, nilz⟩)⟩)
set_option maxRecDepth 100000 in
theorem zk_1229 : zmeth zKS zuq zNS zm_1229 4000 = true := zqF (zdt_X6_row) (by decide +kernel)
theorem zM_1229 {l : Launch} {D : va_G} {cI cZ cB cJ cR : ClassId} {ks ad : List Nat} {Psi : va_W → Prop} (hw : zworld ks ad zuq zNS Psi) (hm : zMan l D cI cZ cB cJ cR ks ad Psi) : zMet l D cI cZ cB cJ cR zKS ks ad Psi yX6_row (.code yX6_row cX6_row 5 (some .int)) 2 zc_1229 :=
  zmet_of hw 2 (by decide) 4000 zk_1229 (by decide) (by decide) (fun X => ⟨zg_RX6 X, zp_RX6 X, zl1_RX6 X, zl2_RX6 X, nilz, (List.forall_mem_cons.mpr ⟨zq_RX6_80 X (zM_1224 hw hm) (by decide) rfl, nilz⟩)⟩)
set_option maxRecDepth 100000 in
theorem zk_1230 : zmeth zKS zuq zNS zm_1230 4000 = true := zqF (zdt_X6_row) (by decide +kernel)
theorem zM_1230 {l : Launch} {D : va_G} {cI cZ cB cJ cR : ClassId} {ks ad : List Nat} {Psi : va_W → Prop} (hw : zworld ks ad zuq zNS Psi) (hm : zMan l D cI cZ cB cJ cR ks ad Psi) : zMet l D cI cZ cB cJ cR zKS ks ad Psi yX6_row (.code yX6_row cX6_row 5 (some .int)) 2 zc_1230 :=
  zmet_of hw 2 (by decide) 4000 zk_1230 (by decide) (by decide) (fun X => ⟨zg_RX6 X, zp_RX6 X, zl1_RX6 X, zl2_RX6 X, nilz, (List.forall_mem_cons.mpr ⟨zq_RX6_80 X (zM_1224 hw hm) (by decide) rfl, nilz⟩)⟩)
set_option maxRecDepth 100000 in
theorem zk_1231 : zmeth zKS zuq zNS zm_1231 4000 = true := zqF (zdt_X6_row) (by decide +kernel)
theorem zM_1231 {l : Launch} {D : va_G} {cI cZ cB cJ cR : ClassId} {ks ad : List Nat} {Psi : va_W → Prop} (hw : zworld ks ad zuq zNS Psi) (hm : zMan l D cI cZ cB cJ cR ks ad Psi) : zMet l D cI cZ cB cJ cR zKS ks ad Psi yX6_row (.code yX6_row cX6_row 5 (some .int)) 2 zc_1231 :=
  zmet_of hw 2 (by decide) 4000 zk_1231 (by decide) (by decide) (fun X => ⟨zg_RX6 X, zp_RX6 X, zl1_RX6 X, zl2_RX6 X, nilz, (List.forall_mem_cons.mpr ⟨zq_RX6_80 X (zM_1224 hw hm) (by decide) rfl, nilz⟩)⟩)
set_option maxRecDepth 100000 in
theorem zk_1232 : zmeth zKS zuq zNS zm_1232 4000 = true := zqF (zdt_X6_row) (by decide +kernel)
theorem zM_1232 {l : Launch} {D : va_G} {cI cZ cB cJ cR : ClassId} {ks ad : List Nat} {Psi : va_W → Prop} (hw : zworld ks ad zuq zNS Psi) (hm : zMan l D cI cZ cB cJ cR ks ad Psi) : zMet l D cI cZ cB cJ cR zKS ks ad Psi yX6_row (.code yX6_row cX6_row 5 (some .int)) 2 zc_1232 :=
  zmet_of hw 2 (by decide) 4000 zk_1232 (by decide) (by decide) (fun X => ⟨zg_RX6 X, zp_RX6 X, zl1_RX6 X, zl2_RX6 X, nilz, (List.forall_mem_cons.mpr ⟨zq_RX6_80 X (zM_1224 hw hm) (by decide) rfl, nilz⟩)⟩)
set_option maxRecDepth 100000 in
theorem zk_1233 : zmeth zKS zuq zNS zm_1233 4000 = true := zqF (zdt_X6_row) (by decide +kernel)
theorem zM_1233 {l : Launch} {D : va_G} {cI cZ cB cJ cR : ClassId} {ks ad : List Nat} {Psi : va_W → Prop} (hw : zworld ks ad zuq zNS Psi) (hm : zMan l D cI cZ cB cJ cR ks ad Psi) : zMet l D cI cZ cB cJ cR zKS ks ad Psi yX6_row (.code yX6_row cX6_row 5 (some .int)) 2 zc_1233 :=
  zmet_of hw 2 (by decide) 4000 zk_1233 (by decide) (by decide) (fun X => ⟨zg_RX6 X, zp_RX6 X, zl1_RX6 X, zl2_RX6 X, nilz, (List.forall_mem_cons.mpr ⟨zq_RX6_80 X (zM_1224 hw hm) (by decide) rfl, nilz⟩)⟩)
set_option maxRecDepth 100000 in
theorem zk_1234 : zmeth zKS zuq zNS zm_1234 4000 = true := zqF (zdt_X6_row) (by decide +kernel)
theorem zM_1234 {l : Launch} {D : va_G} {cI cZ cB cJ cR : ClassId} {ks ad : List Nat} {Psi : va_W → Prop} (hw : zworld ks ad zuq zNS Psi) (hm : zMan l D cI cZ cB cJ cR ks ad Psi) : zMet l D cI cZ cB cJ cR zKS ks ad Psi yX6_row (.code yX6_row cX6_row 5 (some .int)) 2 zc_1234 :=
  zmet_of hw 2 (by decide) 4000 zk_1234 (by decide) (by decide) (fun X => ⟨zg_RX6 X, zp_RX6 X, zl1_RX6 X, zl2_RX6 X, nilz, (List.forall_mem_cons.mpr ⟨zq_RX6_80 X (zM_1224 hw hm) (by decide) rfl, nilz⟩)⟩)
set_option maxRecDepth 100000 in
theorem zk_1235 : zmeth zKS zuq zNS zm_1235 4000 = true := zqF (zdt_X6_row) (by decide +kernel)
theorem zM_1235 {l : Launch} {D : va_G} {cI cZ cB cJ cR : ClassId} {ks ad : List Nat} {Psi : va_W → Prop} (hw : zworld ks ad zuq zNS Psi) (hm : zMan l D cI cZ cB cJ cR ks ad Psi) : zMet l D cI cZ cB cJ cR zKS ks ad Psi yX6_row (.code yX6_row cX6_row 5 (some .int)) 2 zc_1235 :=
  zmet_of hw 2 (by decide) 4000 zk_1235 (by decide) (by decide) (fun X => ⟨zg_RX6 X, zp_RX6 X, zl1_RX6 X, zl2_RX6 X, nilz, (List.forall_mem_cons.mpr ⟨zq_RX6_80 X (zM_1224 hw hm) (by decide) rfl, nilz⟩)⟩)
set_option maxRecDepth 100000 in
theorem zk_1236 : zmeth zKS zuq zNS zm_1236 4000 = true := zqF (zdt_X6_row) (by decide +kernel)
theorem zM_1236 {l : Launch} {D : va_G} {cI cZ cB cJ cR : ClassId} {ks ad : List Nat} {Psi : va_W → Prop} (hw : zworld ks ad zuq zNS Psi) (hm : zMan l D cI cZ cB cJ cR ks ad Psi) : zMet l D cI cZ cB cJ cR zKS ks ad Psi yX6_row (.code yX6_row cX6_row 5 (some .int)) 2 zc_1236 :=
  zmet_of hw 2 (by decide) 4000 zk_1236 (by decide) (by decide) (fun X => ⟨zg_RX6 X, zp_RX6 X, zl1_RX6 X, zl2_RX6 X, nilz, (List.forall_mem_cons.mpr ⟨zq_RX6_76 X (zM_1221 hw hm) (by decide) rfl, (List.forall_mem_cons.mpr ⟨zq_RX6_80 X (zM_1225 hw hm) (by decide) rfl, nilz⟩)⟩)⟩)
set_option maxRecDepth 100000 in
theorem zk_1237 : zmeth zKS zuq zNS zm_1237 4000 = true := zqF (zdt_X6_row) (by decide +kernel)
theorem zM_1237 {l : Launch} {D : va_G} {cI cZ cB cJ cR : ClassId} {ks ad : List Nat} {Psi : va_W → Prop} (hw : zworld ks ad zuq zNS Psi) (hm : zMan l D cI cZ cB cJ cR ks ad Psi) : zMet l D cI cZ cB cJ cR zKS ks ad Psi yX6_row (.code yX6_row cX6_row 5 (some .int)) 2 zc_1237 :=
  zmet_of hw 2 (by decide) 4000 zk_1237 (by decide) (by decide) (fun X => ⟨zg_RX6 X, zp_RX6 X, zl1_RX6 X, zl2_RX6 X, nilz, (List.forall_mem_cons.mpr ⟨zq_RX6_76 X (zM_1221 hw hm) (by decide) rfl, (List.forall_mem_cons.mpr ⟨zq_RX6_80 X (zM_1225 hw hm) (by decide) rfl, nilz⟩)⟩)⟩)
set_option maxRecDepth 100000 in
theorem zk_1238 : zmeth zKS zuq zNS zm_1238 4000 = true := zqF (zdt_X6_row) (by decide +kernel)
theorem zM_1238 {l : Launch} {D : va_G} {cI cZ cB cJ cR : ClassId} {ks ad : List Nat} {Psi : va_W → Prop} (hw : zworld ks ad zuq zNS Psi) (hm : zMan l D cI cZ cB cJ cR ks ad Psi) : zMet l D cI cZ cB cJ cR zKS ks ad Psi yX6_row (.code yX6_row cX6_row 5 (some .int)) 2 zc_1238 :=
  zmet_of hw 2 (by decide) 4000 zk_1238 (by decide) (by decide) (fun X => ⟨zg_RX6 X, zp_RX6 X, zl1_RX6 X, zl2_RX6 X, nilz, (List.forall_mem_cons.mpr ⟨zq_RX6_76 X (zM_1221 hw hm) (by decide) rfl, (List.forall_mem_cons.mpr ⟨zq_RX6_80 X (zM_1225 hw hm) (by decide) rfl, nilz⟩)⟩)⟩)
set_option maxRecDepth 100000 in
theorem zk_1239 : zmeth zKS zuq zNS zm_1239 4000 = true := zqF (zdt_X6_row) (by decide +kernel)
theorem zM_1239 {l : Launch} {D : va_G} {cI cZ cB cJ cR : ClassId} {ks ad : List Nat} {Psi : va_W → Prop} (hw : zworld ks ad zuq zNS Psi) (hm : zMan l D cI cZ cB cJ cR ks ad Psi) : zMet l D cI cZ cB cJ cR zKS ks ad Psi yX6_row (.code yX6_row cX6_row 5 (some .int)) 2 zc_1239 :=
  zmet_of hw 2 (by decide) 4000 zk_1239 (by decide) (by decide) (fun X => ⟨zg_RX6 X, zp_RX6 X, zl1_RX6 X, zl2_RX6 X, nilz, (List.forall_mem_cons.mpr ⟨zq_RX6_76 X (zM_1222 hw hm) (by decide) rfl, (List.forall_mem_cons.mpr ⟨zq_RX6_80 X (zM_1225 hw hm) (by decide) rfl, nilz⟩)⟩)⟩)
set_option maxRecDepth 100000 in
theorem zk_1240 : zmeth zKS zuq zNS zm_1240 4000 = true := zqF (zdt_X6_row) (by decide +kernel)
theorem zM_1240 {l : Launch} {D : va_G} {cI cZ cB cJ cR : ClassId} {ks ad : List Nat} {Psi : va_W → Prop} (hw : zworld ks ad zuq zNS Psi) (hm : zMan l D cI cZ cB cJ cR ks ad Psi) : zMet l D cI cZ cB cJ cR zKS ks ad Psi yX6_row (.code yX6_row cX6_row 5 (some .int)) 2 zc_1240 :=
  zmet_of hw 2 (by decide) 4000 zk_1240 (by decide) (by decide) (fun X => ⟨zg_RX6 X, zp_RX6 X, zl1_RX6 X, zl2_RX6 X, nilz, (List.forall_mem_cons.mpr ⟨zq_RX6_76 X (zM_1222 hw hm) (by decide) rfl, (List.forall_mem_cons.mpr ⟨zq_RX6_80 X (zM_1225 hw hm) (by decide) rfl, nilz⟩)⟩)⟩)
set_option maxRecDepth 100000 in
theorem zk_1241 : zmeth zKS zuq zNS zm_1241 4000 = true := zqF (zdt_X6_row) (by decide +kernel)
theorem zM_1241 {l : Launch} {D : va_G} {cI cZ cB cJ cR : ClassId} {ks ad : List Nat} {Psi : va_W → Prop} (hw : zworld ks ad zuq zNS Psi) (hm : zMan l D cI cZ cB cJ cR ks ad Psi) : zMet l D cI cZ cB cJ cR zKS ks ad Psi yX6_row (.code yX6_row cX6_row 5 (some .int)) 2 zc_1241 :=
  zmet_of hw 2 (by decide) 4000 zk_1241 (by decide) (by decide) (fun X => ⟨zg_RX6 X, zp_RX6 X, zl1_RX6 X, zl2_RX6 X, nilz, (List.forall_mem_cons.mpr ⟨zq_RX6_76 X (zM_1222 hw hm) (by decide) rfl, (List.forall_mem_cons.mpr ⟨zq_RX6_80 X (zM_1225 hw hm) (by decide) rfl, nilz⟩)⟩)⟩)
set_option maxRecDepth 100000 in
theorem zk_1242 : zmeth zKS zuq zNS zm_1242 4000 = true := zqF (zdt_X6_row) (by decide +kernel)
theorem zM_1242 {l : Launch} {D : va_G} {cI cZ cB cJ cR : ClassId} {ks ad : List Nat} {Psi : va_W → Prop} (hw : zworld ks ad zuq zNS Psi) (hm : zMan l D cI cZ cB cJ cR ks ad Psi) : zMet l D cI cZ cB cJ cR zKS ks ad Psi yX6_row (.code yX6_row cX6_row 5 (some .int)) 2 zc_1242 :=
  zmet_of hw 2 (by decide) 4000 zk_1242 (by decide) (by decide) (fun X => ⟨zg_RX6 X, zp_RX6 X, zl1_RX6 X, zl2_RX6 X, nilz, (List.forall_mem_cons.mpr ⟨zq_RX6_76 X (zM_1223 hw hm) (by decide) rfl, (List.forall_mem_cons.mpr ⟨zq_RX6_80 X (zM_1225 hw hm) (by decide) rfl, nilz⟩)⟩)⟩)
set_option maxRecDepth 100000 in
theorem zk_1243 : zmeth zKS zuq zNS zm_1243 4000 = true := zqF (zdt_X6_row) (by decide +kernel)
theorem zM_1243 {l : Launch} {D : va_G} {cI cZ cB cJ cR : ClassId} {ks ad : List Nat} {Psi : va_W → Prop} (hw : zworld ks ad zuq zNS Psi) (hm : zMan l D cI cZ cB cJ cR ks ad Psi) : zMet l D cI cZ cB cJ cR zKS ks ad Psi yX6_row (.code yX6_row cX6_row 5 (some .int)) 2 zc_1243 :=
  zmet_of hw 2 (by decide) 4000 zk_1243 (by decide) (by decide) (fun X => ⟨zg_RX6 X, zp_RX6 X, zl1_RX6 X, zl2_RX6 X, nilz, (List.forall_mem_cons.mpr ⟨zq_RX6_76 X (zM_1223 hw hm) (by decide) rfl, (List.forall_mem_cons.mpr ⟨zq_RX6_80 X (zM_1225 hw hm) (by decide) rfl, nilz⟩)⟩)⟩)
set_option maxRecDepth 100000 in
theorem zk_1244 : zmeth zKS zuq zNS zm_1244 4000 = true := zqF (zdt_X6_row) (by decide +kernel)
theorem zM_1244 {l : Launch} {D : va_G} {cI cZ cB cJ cR : ClassId} {ks ad : List Nat} {Psi : va_W → Prop} (hw : zworld ks ad zuq zNS Psi) (hm : zMan l D cI cZ cB cJ cR ks ad Psi) : zMet l D cI cZ cB cJ cR zKS ks ad Psi yX6_row (.code yX6_row cX6_row 5 (some .int)) 2 zc_1244 :=
  zmet_of hw 2 (by decide) 4000 zk_1244 (by decide) (by decide) (fun X => ⟨zg_RX6 X, zp_RX6 X, zl1_RX6 X, zl2_RX6 X, nilz, (List.forall_mem_cons.mpr ⟨zq_RX6_76 X (zM_1223 hw hm) (by decide) rfl, (List.forall_mem_cons.mpr ⟨zq_RX6_80 X (zM_1225 hw hm) (by decide) rfl, nilz⟩)⟩)⟩)
set_option maxRecDepth 100000 in
theorem zk_1245 : zmeth zKS zuq zNS zm_1245 4000 = true := zqF (zdt_X6_row) (by decide +kernel)
theorem zM_1245 {l : Launch} {D : va_G} {cI cZ cB cJ cR : ClassId} {ks ad : List Nat} {Psi : va_W → Prop} (hw : zworld ks ad zuq zNS Psi) (hm : zMan l D cI cZ cB cJ cR ks ad Psi) : zMet l D cI cZ cB cJ cR zKS ks ad Psi yX6_row (.code yX6_row cX6_row 5 (some .int)) 2 zc_1245 :=
  zmet_of hw 2 (by decide) 4000 zk_1245 (by decide) (by decide) (fun X => ⟨zg_RX6 X, zp_RX6 X, zl1_RX6 X, zl2_RX6 X, nilz, (List.forall_mem_cons.mpr ⟨zq_RX6_80 X (zM_1226 hw hm) (by decide) rfl, nilz⟩)⟩)
set_option maxRecDepth 100000 in
theorem zk_1246 : zmeth zKS zuq zNS zm_1246 4000 = true := zqF (zdt_X6_row) (by decide +kernel)
theorem zM_1246 {l : Launch} {D : va_G} {cI cZ cB cJ cR : ClassId} {ks ad : List Nat} {Psi : va_W → Prop} (hw : zworld ks ad zuq zNS Psi) (hm : zMan l D cI cZ cB cJ cR ks ad Psi) : zMet l D cI cZ cB cJ cR zKS ks ad Psi yX6_row (.code yX6_row cX6_row 5 (some .int)) 2 zc_1246 :=
  zmet_of hw 2 (by decide) 4000 zk_1246 (by decide) (by decide) (fun X => ⟨zg_RX6 X, zp_RX6 X, zl1_RX6 X, zl2_RX6 X, nilz, (List.forall_mem_cons.mpr ⟨zq_RX6_80 X (zM_1226 hw hm) (by decide) rfl, nilz⟩)⟩)
set_option maxRecDepth 100000 in
theorem zk_1247 : zmeth zKS zuq zNS zm_1247 4000 = true := zqF (zdt_X6_row) (by decide +kernel)
theorem zM_1247 {l : Launch} {D : va_G} {cI cZ cB cJ cR : ClassId} {ks ad : List Nat} {Psi : va_W → Prop} (hw : zworld ks ad zuq zNS Psi) (hm : zMan l D cI cZ cB cJ cR ks ad Psi) : zMet l D cI cZ cB cJ cR zKS ks ad Psi yX6_row (.code yX6_row cX6_row 5 (some .int)) 2 zc_1247 :=
  zmet_of hw 2 (by decide) 4000 zk_1247 (by decide) (by decide) (fun X => ⟨zg_RX6 X, zp_RX6 X, zl1_RX6 X, zl2_RX6 X, nilz, (List.forall_mem_cons.mpr ⟨zq_RX6_80 X (zM_1226 hw hm) (by decide) rfl, nilz⟩)⟩)
set_option maxRecDepth 100000 in
theorem zk_1248 : zmeth zKS zuq zNS zm_1248 4000 = true := zqF (zdt_X6_row) (by decide +kernel)
theorem zM_1248 {l : Launch} {D : va_G} {cI cZ cB cJ cR : ClassId} {ks ad : List Nat} {Psi : va_W → Prop} (hw : zworld ks ad zuq zNS Psi) (hm : zMan l D cI cZ cB cJ cR ks ad Psi) : zMet l D cI cZ cB cJ cR zKS ks ad Psi yX6_row (.code yX6_row cX6_row 5 (some .int)) 2 zc_1248 :=
  zmet_of hw 2 (by decide) 4000 zk_1248 (by decide) (by decide) (fun X => ⟨zg_RX6 X, zp_RX6 X, zl1_RX6 X, zl2_RX6 X, nilz, (List.forall_mem_cons.mpr ⟨zq_RX6_80 X (zM_1226 hw hm) (by decide) rfl, nilz⟩)⟩)
set_option maxRecDepth 100000 in
theorem zk_1249 : zmeth zKS zuq zNS zm_1249 4000 = true := zqF (zdt_X6_row) (by decide +kernel)
theorem zM_1249 {l : Launch} {D : va_G} {cI cZ cB cJ cR : ClassId} {ks ad : List Nat} {Psi : va_W → Prop} (hw : zworld ks ad zuq zNS Psi) (hm : zMan l D cI cZ cB cJ cR ks ad Psi) : zMet l D cI cZ cB cJ cR zKS ks ad Psi yX6_row (.code yX6_row cX6_row 5 (some .int)) 2 zc_1249 :=
  zmet_of hw 2 (by decide) 4000 zk_1249 (by decide) (by decide) (fun X => ⟨zg_RX6 X, zp_RX6 X, zl1_RX6 X, zl2_RX6 X, nilz, (List.forall_mem_cons.mpr ⟨zq_RX6_80 X (zM_1226 hw hm) (by decide) rfl, nilz⟩)⟩)
set_option maxRecDepth 100000 in
theorem zk_1250 : zmeth zKS zuq zNS zm_1250 4000 = true := zqF (zdt_X6_row) (by decide +kernel)
theorem zM_1250 {l : Launch} {D : va_G} {cI cZ cB cJ cR : ClassId} {ks ad : List Nat} {Psi : va_W → Prop} (hw : zworld ks ad zuq zNS Psi) (hm : zMan l D cI cZ cB cJ cR ks ad Psi) : zMet l D cI cZ cB cJ cR zKS ks ad Psi yX6_row (.code yX6_row cX6_row 5 (some .int)) 2 zc_1250 :=
  zmet_of hw 2 (by decide) 4000 zk_1250 (by decide) (by decide) (fun X => ⟨zg_RX6 X, zp_RX6 X, zl1_RX6 X, zl2_RX6 X, nilz, (List.forall_mem_cons.mpr ⟨zq_RX6_80 X (zM_1226 hw hm) (by decide) rfl, nilz⟩)⟩)
set_option maxRecDepth 100000 in
theorem zk_1251 : zmeth zKS zuq zNS zm_1251 4000 = true := zqF (zdt_X6_row) (by decide +kernel)
theorem zM_1251 {l : Launch} {D : va_G} {cI cZ cB cJ cR : ClassId} {ks ad : List Nat} {Psi : va_W → Prop} (hw : zworld ks ad zuq zNS Psi) (hm : zMan l D cI cZ cB cJ cR ks ad Psi) : zMet l D cI cZ cB cJ cR zKS ks ad Psi yX6_row (.code yX6_row cX6_row 5 (some .int)) 2 zc_1251 :=
  zmet_of hw 2 (by decide) 4000 zk_1251 (by decide) (by decide) (fun X => ⟨zg_RX6 X, zp_RX6 X, zl1_RX6 X, zl2_RX6 X, nilz, (List.forall_mem_cons.mpr ⟨zq_RX6_80 X (zM_1226 hw hm) (by decide) rfl, nilz⟩)⟩)
set_option maxRecDepth 100000 in
theorem zk_1252 : zmeth zKS zuq zNS zm_1252 4000 = true := zqF (zdt_X6_row) (by decide +kernel)
theorem zM_1252 {l : Launch} {D : va_G} {cI cZ cB cJ cR : ClassId} {ks ad : List Nat} {Psi : va_W → Prop} (hw : zworld ks ad zuq zNS Psi) (hm : zMan l D cI cZ cB cJ cR ks ad Psi) : zMet l D cI cZ cB cJ cR zKS ks ad Psi yX6_row (.code yX6_row cX6_row 5 (some .int)) 2 zc_1252 :=
  zmet_of hw 2 (by decide) 4000 zk_1252 (by decide) (by decide) (fun X => ⟨zg_RX6 X, zp_RX6 X, zl1_RX6 X, zl2_RX6 X, nilz, (List.forall_mem_cons.mpr ⟨zq_RX6_80 X (zM_1226 hw hm) (by decide) rfl, nilz⟩)⟩)
set_option maxRecDepth 100000 in
theorem zk_1253 : zmeth zKS zuq zNS zm_1253 4000 = true := zqF (zdt_X6_row) (by decide +kernel)
theorem zM_1253 {l : Launch} {D : va_G} {cI cZ cB cJ cR : ClassId} {ks ad : List Nat} {Psi : va_W → Prop} (hw : zworld ks ad zuq zNS Psi) (hm : zMan l D cI cZ cB cJ cR ks ad Psi) : zMet l D cI cZ cB cJ cR zKS ks ad Psi yX6_row (.code yX6_row cX6_row 5 (some .int)) 2 zc_1253 :=
  zmet_of hw 2 (by decide) 4000 zk_1253 (by decide) (by decide) (fun X => ⟨zg_RX6 X, zp_RX6 X, zl1_RX6 X, zl2_RX6 X, nilz, (List.forall_mem_cons.mpr ⟨zq_RX6_80 X (zM_1226 hw hm) (by decide) rfl, nilz⟩)⟩)
