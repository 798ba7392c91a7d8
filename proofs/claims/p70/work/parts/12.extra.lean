/-- X3_isSlot -/
def zc_1195 : zcon := ([(5, 0, 0), (0, (-2147483648), (-1))], some (0, 0, 0), [], [], [], [], [])
/-- X3_isSlot -/
def zc_1196 : zcon := ([(5, 0, 0), (0, 0, 0)], some (0, 1, 1), [], [], [], [], [])
/-- X3_isSlot -/
def zc_1197 : zcon := ([(5, 0, 0), (0, 1, 1)], some (0, 1, 1), [], [], [], [], [])
/-- X3_isSlot -/
def zc_1198 : zcon := ([(5, 0, 0), (0, 2, 2)], some (0, 1, 1), [], [], [], [], [])
/-- X3_isSlot -/
def zc_1199 : zcon := ([(5, 0, 0), (0, 3, 3)], some (0, 1, 1), [], [], [], [], [])
/-- X3_isSlot -/
def zc_1200 : zcon := ([(5, 0, 0), (0, 4, 2147483647)], some (0, 0, 0), [], [], [], [], [])
/-- X3_lay -/
def zc_1201 : zcon := ([(5, 0, 0), (0, 0, 0), (0, 0, 3), (0, 0, 60)], none, [], [(29, 1000, 1, 1), (30, 1000, 0, 3), (31, 1000, 0, 60)], [([], 6, 3, 0), ([], 3, 6, 0), ([], 7, 4, 0), ([], 4, 7, 0)], ([(29, 1000), (30, 1000), (31, 1000)] ++ zrun 32 1000 1 60), [])
/-- X3_lay -/
def zc_1202 : zcon := ([(5, 0, 0), (0, 1, 1), (0, 0, 3), (0, 0, 60)], none, [], [(29, 1001, 1, 1), (30, 1001, 0, 3), (31, 1001, 0, 60)], [([], 6, 3, 0), ([], 3, 6, 0), ([], 7, 4, 0), ([], 4, 7, 0)], ([(29, 1001), (30, 1001), (31, 1001)] ++ zrun 32 1060 1 60), [])
/-- X3_lay -/
def zc_1203 : zcon := ([(5, 0, 0), (0, 2, 2), (0, 0, 3), (0, 0, 60)], none, [], [(29, 1002, 1, 1), (30, 1002, 0, 3), (31, 1002, 0, 60)], [([], 6, 3, 0), ([], 3, 6, 0), ([], 7, 4, 0), ([], 4, 7, 0)], ([(29, 1002), (30, 1002), (31, 1002)] ++ zrun 32 1120 1 60), [])
/-- X3_lay -/
def zc_1204 : zcon := ([(5, 0, 0), (0, 3, 3), (0, 0, 3), (0, 0, 60)], none, [], [(29, 1003, 1, 1), (30, 1003, 0, 3), (31, 1003, 0, 60)], [([], 6, 3, 0), ([], 3, 6, 0), ([], 7, 4, 0), ([], 4, 7, 0)], ([(29, 1003), (30, 1003), (31, 1003)] ++ zrun 32 1180 1 60), [])
/-- X6_in -/
def zc_1243 : zcon := ([(1, (-2147483648), (-1)), (1, 0, 0), (1, 3, 3)], some (0, 0, 0), [], [], [], [], [])
/-- X6_in -/
def zc_1244 : zcon := ([(1, 0, 0), (1, 0, 0), (1, 3, 3)], some (0, 1, 1), [], [], [], [], [])
/-- X6_in -/
def zc_1245 : zcon := ([(1, 0, 3), (1, 0, 0), (1, 3, 3)], some (0, 1, 1), [], [], [], [], [])
/-- X6_in -/
def zc_1246 : zcon := ([(1, 1, 1), (1, 0, 0), (1, 3, 3)], some (0, 1, 1), [], [], [], [], [])
/-- X6_in -/
def zc_1247 : zcon := ([(1, 2, 2), (1, 0, 0), (1, 3, 3)], some (0, 1, 1), [], [], [], [], [])
/-- X6_in -/
def zc_1248 : zcon := ([(1, 3, 3), (1, 0, 0), (1, 3, 3)], some (0, 1, 1), [], [], [], [], [])
/-- X6_in -/
def zc_1249 : zcon := ([(1, 4, 2147483647), (1, 0, 0), (1, 3, 3)], some (0, 0, 0), [], [], [], [], [])
/-- X5_row -/
def zc_1205 : zcon := ([(7, 0, 0), (0, (-2147483648), (-1)), (0, (-2147483648), 2147483647), (0, (-2147483648), 2147483647)], some (0, (-2), (-2)), [], [], [], [], [])
/-- X5_row -/
def zc_1206 : zcon := ([(7, 0, 0), (0, 0, 0), (0, (-2147483648), (-1)), (0, (-2147483648), (-1))], some (0, (-2), (-2)), [], [], [], [], [])
/-- X5_row -/
def zc_1207 : zcon := ([(7, 0, 0), (0, 0, 0), (0, (-2147483648), (-1)), (0, 0, 60)], some (0, (-2), (-2)), [], [], [], [], [])
/-- X5_row -/
def zc_1208 : zcon := ([(7, 0, 0), (0, 0, 0), (0, (-2147483648), (-1)), (0, 61, 2147483647)], some (0, (-2), (-2)), [], [], [], [], [])
/-- X5_row -/
def zc_1209 : zcon := ([(7, 0, 0), (0, 0, 0), (0, 0, 3), (0, (-2147483648), (-1))], some (0, (-3), (-3)), [], [], [], [], [])
/-- X5_row -/
def zc_1210 : zcon := ([(7, 0, 0), (0, 0, 0), (0, 0, 3), (0, 0, 60)], some (0, 0, 0), [], [(29, 1000, 1, 1), (30, 1000, 0, 3), (31, 1000, 0, 60)], [([], 6, 3, 0), ([], 3, 6, 0), ([], 7, 4, 0), ([], 4, 7, 0)], ([(29, 1000), (30, 1000), (31, 1000)] ++ zrun 32 1000 1 60), [])
/-- X5_row -/
def zc_1211 : zcon := ([(7, 0, 0), (0, 0, 0), (0, 0, 3), (0, 61, 2147483647)], some (0, (-2), (-2)), [], [], [], [], [])
/-- X5_row -/
def zc_1212 : zcon := ([(7, 0, 0), (0, 0, 0), (0, 4, 2147483647), (0, (-2147483648), (-1))], some (0, (-2), (-2)), [], [], [], [], [])
/-- X5_row -/
def zc_1213 : zcon := ([(7, 0, 0), (0, 0, 0), (0, 4, 2147483647), (0, 0, 60)], some (0, (-2), (-2)), [], [], [], [], [])
/-- X5_row -/
def zc_1214 : zcon := ([(7, 0, 0), (0, 0, 0), (0, 4, 2147483647), (0, 61, 2147483647)], some (0, (-2), (-2)), [], [], [], [], [])
/-- X5_row -/
def zc_1215 : zcon := ([(7, 0, 0), (0, 1, 1), (0, (-2147483648), (-1)), (0, (-2147483648), (-1))], some (0, (-2), (-2)), [], [], [], [], [])
/-- X5_row -/
def zc_1216 : zcon := ([(7, 0, 0), (0, 1, 1), (0, (-2147483648), (-1)), (0, 0, 60)], some (0, (-2), (-2)), [], [], [], [], [])
/-- X5_row -/
def zc_1217 : zcon := ([(7, 0, 0), (0, 1, 1), (0, (-2147483648), (-1)), (0, 61, 2147483647)], some (0, (-2), (-2)), [], [], [], [], [])
/-- X5_row -/
def zc_1218 : zcon := ([(7, 0, 0), (0, 1, 1), (0, 0, 3), (0, (-2147483648), (-1))], some (0, (-3), (-3)), [], [], [], [], [])
/-- X5_row -/
def zc_1219 : zcon := ([(7, 0, 0), (0, 1, 1), (0, 0, 3), (0, 0, 60)], some (0, 0, 0), [], [(29, 1001, 1, 1), (30, 1001, 0, 3), (31, 1001, 0, 60)], [([], 6, 3, 0), ([], 3, 6, 0), ([], 7, 4, 0), ([], 4, 7, 0)], ([(29, 1001), (30, 1001), (31, 1001)] ++ zrun 32 1060 1 60), [])
/-- X5_row -/
def zc_1220 : zcon := ([(7, 0, 0), (0, 1, 1), (0, 0, 3), (0, 61, 2147483647)], some (0, (-2), (-2)), [], [], [], [], [])
/-- X5_row -/
def zc_1221 : zcon := ([(7, 0, 0), (0, 1, 1), (0, 4, 2147483647), (0, (-2147483648), (-1))], some (0, (-2), (-2)), [], [], [], [], [])
/-- X5_row -/
def zc_1222 : zcon := ([(7, 0, 0), (0, 1, 1), (0, 4, 2147483647), (0, 0, 60)], some (0, (-2), (-2)), [], [], [], [], [])
/-- X5_row -/
def zc_1223 : zcon := ([(7, 0, 0), (0, 1, 1), (0, 4, 2147483647), (0, 61, 2147483647)], some (0, (-2), (-2)), [], [], [], [], [])
/-- X5_row -/
def zc_1224 : zcon := ([(7, 0, 0), (0, 2, 2), (0, (-2147483648), (-1)), (0, (-2147483648), (-1))], some (0, (-2), (-2)), [], [], [], [], [])
/-- X5_row -/
def zc_1225 : zcon := ([(7, 0, 0), (0, 2, 2), (0, (-2147483648), (-1)), (0, 0, 60)], some (0, (-2), (-2)), [], [], [], [], [])
/-- X5_row -/
def zc_1226 : zcon := ([(7, 0, 0), (0, 2, 2), (0, (-2147483648), (-1)), (0, 61, 2147483647)], some (0, (-2), (-2)), [], [], [], [], [])
/-- X5_row -/
def zc_1227 : zcon := ([(7, 0, 0), (0, 2, 2), (0, 0, 3), (0, (-2147483648), (-1))], some (0, (-3), (-3)), [], [], [], [], [])
/-- X5_row -/
def zc_1228 : zcon := ([(7, 0, 0), (0, 2, 2), (0, 0, 3), (0, 0, 60)], some (0, 0, 0), [], [(29, 1002, 1, 1), (30, 1002, 0, 3), (31, 1002, 0, 60)], [([], 6, 3, 0), ([], 3, 6, 0), ([], 7, 4, 0), ([], 4, 7, 0)], ([(29, 1002), (30, 1002), (31, 1002)] ++ zrun 32 1120 1 60), [])
/-- X5_row -/
def zc_1229 : zcon := ([(7, 0, 0), (0, 2, 2), (0, 0, 3), (0, 61, 2147483647)], some (0, (-2), (-2)), [], [], [], [], [])
/-- X5_row -/
def zc_1230 : zcon := ([(7, 0, 0), (0, 2, 2), (0, 4, 2147483647), (0, (-2147483648), (-1))], some (0, (-2), (-2)), [], [], [], [], [])
/-- X5_row -/
def zc_1231 : zcon := ([(7, 0, 0), (0, 2, 2), (0, 4, 2147483647), (0, 0, 60)], some (0, (-2), (-2)), [], [], [], [], [])
/-- X5_row -/
def zc_1232 : zcon := ([(7, 0, 0), (0, 2, 2), (0, 4, 2147483647), (0, 61, 2147483647)], some (0, (-2), (-2)), [], [], [], [], [])
/-- X5_row -/
def zc_1233 : zcon := ([(7, 0, 0), (0, 3, 3), (0, (-2147483648), (-1)), (0, (-2147483648), (-1))], some (0, (-2), (-2)), [], [], [], [], [])
/-- X5_row -/
def zc_1234 : zcon := ([(7, 0, 0), (0, 3, 3), (0, (-2147483648), (-1)), (0, 0, 60)], some (0, (-2), (-2)), [], [], [], [], [])
/-- X5_row -/
def zc_1235 : zcon := ([(7, 0, 0), (0, 3, 3), (0, (-2147483648), (-1)), (0, 61, 2147483647)], some (0, (-2), (-2)), [], [], [], [], [])
/-- X5_row -/
def zc_1236 : zcon := ([(7, 0, 0), (0, 3, 3), (0, 0, 3), (0, (-2147483648), (-1))], some (0, (-3), (-3)), [], [], [], [], [])
/-- X5_row -/
def zc_1237 : zcon := ([(7, 0, 0), (0, 3, 3), (0, 0, 3), (0, 0, 60)], some (0, 0, 0), [], [(29, 1003, 1, 1), (30, 1003, 0, 3), (31, 1003, 0, 60)], [([], 6, 3, 0), ([], 3, 6, 0), ([], 7, 4, 0), ([], 4, 7, 0)], ([(29, 1003), (30, 1003), (31, 1003)] ++ zrun 32 1180 1 60), [])
/-- X5_row -/
def zc_1238 : zcon := ([(7, 0, 0), (0, 3, 3), (0, 0, 3), (0, 61, 2147483647)], some (0, (-2), (-2)), [], [], [], [], [])
/-- X5_row -/
def zc_1239 : zcon := ([(7, 0, 0), (0, 3, 3), (0, 4, 2147483647), (0, (-2147483648), (-1))], some (0, (-2), (-2)), [], [], [], [], [])
/-- X5_row -/
def zc_1240 : zcon := ([(7, 0, 0), (0, 3, 3), (0, 4, 2147483647), (0, 0, 60)], some (0, (-2), (-2)), [], [], [], [], [])
/-- X5_row -/
def zc_1241 : zcon := ([(7, 0, 0), (0, 3, 3), (0, 4, 2147483647), (0, 61, 2147483647)], some (0, (-2), (-2)), [], [], [], [], [])
/-- X5_row -/
def zc_1242 : zcon := ([(7, 0, 0), (0, 4, 2147483647), (0, (-2147483648), 2147483647), (0, (-2147483648), 2147483647)], some (0, (-2), (-2)), [], [], [], [], [])
/-- X6_isSlot -/
def zc_1250 : zcon := ([(0, (-2147483648), (-1))], some (0, 0, 0), [], [], [], [], [])
/-- X6_isSlot -/
def zc_1251 : zcon := ([(0, 0, 0)], some (0, 1, 1), [], [], [], [], [])
/-- X6_isSlot -/
def zc_1252 : zcon := ([(0, 1, 1)], some (0, 1, 1), [], [], [], [], [])
/-- X6_isSlot -/
def zc_1253 : zcon := ([(0, 2, 2)], some (0, 1, 1), [], [], [], [], [])
/-- X6_isSlot -/
def zc_1254 : zcon := ([(0, 3, 3)], some (0, 1, 1), [], [], [], [], [])
/-- X6_isSlot -/
def zc_1255 : zcon := ([(0, 4, 2147483647)], some (0, 0, 0), [], [], [], [], [])
/-- X6_row -/
def zc_1256 : zcon := ([(8, 0, 0), (0, (-2147483648), (-1)), (0, (-2147483648), 2147483647), (0, (-2147483648), 2147483647)], some (0, (-2), (-2)), [], [], [], [(6, 0)], [])
/-- X6_row -/
def zc_1257 : zcon := ([(8, 0, 0), (0, 0, 0), (0, (-2147483648), (-1)), (0, (-2147483648), (-1))], some (0, (-2), (-2)), [], [], [], [(6, 0)], [])
/-- X6_row -/
def zc_1258 : zcon := ([(8, 0, 0), (0, 0, 0), (0, (-2147483648), (-1)), (0, 0, 60)], some (0, (-2), (-2)), [], [], [], [(6, 0)], [])
/-- X6_row -/
def zc_1259 : zcon := ([(8, 0, 0), (0, 0, 0), (0, (-2147483648), (-1)), (0, 61, 2147483647)], some (0, (-2), (-2)), [], [], [], [(6, 0)], [])
/-- X6_row -/
def zc_1260 : zcon := ([(8, 0, 0), (0, 0, 0), (0, 0, 3), (0, (-2147483648), (-1))], some (0, (-3), (-3)), [], [], [], [(6, 0)], [])
/-- X6_row -/
def zc_1261 : zcon := ([(8, 0, 0), (0, 0, 0), (0, 0, 3), (0, 0, 60)], some (0, 0, 0), [], [(36, 1000, 0, 3), (37, 1000, 0, 60)], [([], 5, 3, 0), ([], 3, 5, 0), ([], 6, 4, 0), ([], 4, 6, 0)], ([(6, 0), (36, 1000), (37, 1000)] ++ zrun 38 1000 1 60), [])
/-- X6_row -/
def zc_1262 : zcon := ([(8, 0, 0), (0, 0, 0), (0, 0, 3), (0, 61, 2147483647)], some (0, (-2), (-2)), [], [], [], [(6, 0)], [])
/-- X6_row -/
def zc_1263 : zcon := ([(8, 0, 0), (0, 0, 0), (0, 4, 2147483647), (0, (-2147483648), (-1))], some (0, (-2), (-2)), [], [], [], [(6, 0)], [])
/-- X6_row -/
def zc_1264 : zcon := ([(8, 0, 0), (0, 0, 0), (0, 4, 2147483647), (0, 0, 60)], some (0, (-2), (-2)), [], [], [], [(6, 0)], [])
/-- X6_row -/
def zc_1265 : zcon := ([(8, 0, 0), (0, 0, 0), (0, 4, 2147483647), (0, 61, 2147483647)], some (0, (-2), (-2)), [], [], [], [(6, 0)], [])
/-- X6_row -/
def zc_1266 : zcon := ([(8, 0, 0), (0, 1, 1), (0, (-2147483648), (-1)), (0, (-2147483648), (-1))], some (0, (-2), (-2)), [], [], [], [(6, 0)], [])
/-- X6_row -/
def zc_1267 : zcon := ([(8, 0, 0), (0, 1, 1), (0, (-2147483648), (-1)), (0, 0, 60)], some (0, (-2), (-2)), [], [], [], [(6, 0)], [])
/-- X6_row -/
def zc_1268 : zcon := ([(8, 0, 0), (0, 1, 1), (0, (-2147483648), (-1)), (0, 61, 2147483647)], some (0, (-2), (-2)), [], [], [], [(6, 0)], [])
/-- X6_row -/
def zc_1269 : zcon := ([(8, 0, 0), (0, 1, 1), (0, 0, 3), (0, (-2147483648), (-1))], some (0, (-3), (-3)), [], [], [], [(6, 0)], [])
/-- X6_row -/
def zc_1270 : zcon := ([(8, 0, 0), (0, 1, 1), (0, 0, 3), (0, 0, 60)], some (0, 0, 0), [], [(36, 1001, 0, 3), (37, 1001, 0, 60)], [([], 5, 3, 0), ([], 3, 5, 0), ([], 6, 4, 0), ([], 4, 6, 0)], ([(6, 0), (36, 1001), (37, 1001)] ++ zrun 38 1060 1 60), [])
/-- X6_row -/
def zc_1271 : zcon := ([(8, 0, 0), (0, 1, 1), (0, 0, 3), (0, 61, 2147483647)], some (0, (-2), (-2)), [], [], [], [(6, 0)], [])
/-- X6_row -/
def zc_1272 : zcon := ([(8, 0, 0), (0, 1, 1), (0, 4, 2147483647), (0, (-2147483648), (-1))], some (0, (-2), (-2)), [], [], [], [(6, 0)], [])
/-- X6_row -/
def zc_1273 : zcon := ([(8, 0, 0), (0, 1, 1), (0, 4, 2147483647), (0, 0, 60)], some (0, (-2), (-2)), [], [], [], [(6, 0)], [])
/-- X6_row -/
def zc_1274 : zcon := ([(8, 0, 0), (0, 1, 1), (0, 4, 2147483647), (0, 61, 2147483647)], some (0, (-2), (-2)), [], [], [], [(6, 0)], [])
/-- X6_row -/
def zc_1275 : zcon := ([(8, 0, 0), (0, 2, 2), (0, (-2147483648), (-1)), (0, (-2147483648), (-1))], some (0, (-2), (-2)), [], [], [], [(6, 0)], [])
/-- X6_row -/
def zc_1276 : zcon := ([(8, 0, 0), (0, 2, 2), (0, (-2147483648), (-1)), (0, 0, 60)], some (0, (-2), (-2)), [], [], [], [(6, 0)], [])
/-- X6_row -/
def zc_1277 : zcon := ([(8, 0, 0), (0, 2, 2), (0, (-2147483648), (-1)), (0, 61, 2147483647)], some (0, (-2), (-2)), [], [], [], [(6, 0)], [])
/-- X6_row -/
def zc_1278 : zcon := ([(8, 0, 0), (0, 2, 2), (0, 0, 3), (0, (-2147483648), (-1))], some (0, (-3), (-3)), [], [], [], [(6, 0)], [])
/-- X6_row -/
def zc_1279 : zcon := ([(8, 0, 0), (0, 2, 2), (0, 0, 3), (0, 0, 60)], some (0, 0, 0), [], [(36, 1002, 0, 3), (37, 1002, 0, 60)], [([], 5, 3, 0), ([], 3, 5, 0), ([], 6, 4, 0), ([], 4, 6, 0)], ([(6, 0), (36, 1002), (37, 1002)] ++ zrun 38 1120 1 60), [])
/-- X6_row -/
def zc_1280 : zcon := ([(8, 0, 0), (0, 2, 2), (0, 0, 3), (0, 61, 2147483647)], some (0, (-2), (-2)), [], [], [], [(6, 0)], [])
/-- X6_row -/
def zc_1281 : zcon := ([(8, 0, 0), (0, 2, 2), (0, 4, 2147483647), (0, (-2147483648), (-1))], some (0, (-2), (-2)), [], [], [], [(6, 0)], [])
/-- X6_row -/
def zc_1282 : zcon := ([(8, 0, 0), (0, 2, 2), (0, 4, 2147483647), (0, 0, 60)], some (0, (-2), (-2)), [], [], [], [(6, 0)], [])
/-- X6_row -/
def zc_1283 : zcon := ([(8, 0, 0), (0, 2, 2), (0, 4, 2147483647), (0, 61, 2147483647)], some (0, (-2), (-2)), [], [], [], [(6, 0)], [])
/-- X6_row -/
def zc_1284 : zcon := ([(8, 0, 0), (0, 3, 3), (0, (-2147483648), (-1)), (0, (-2147483648), (-1))], some (0, (-2), (-2)), [], [], [], [(6, 0)], [])
/-- X6_row -/
def zc_1285 : zcon := ([(8, 0, 0), (0, 3, 3), (0, (-2147483648), (-1)), (0, 0, 60)], some (0, (-2), (-2)), [], [], [], [(6, 0)], [])
/-- X6_row -/
def zc_1286 : zcon := ([(8, 0, 0), (0, 3, 3), (0, (-2147483648), (-1)), (0, 61, 2147483647)], some (0, (-2), (-2)), [], [], [], [(6, 0)], [])
/-- X6_row -/
def zc_1287 : zcon := ([(8, 0, 0), (0, 3, 3), (0, 0, 3), (0, (-2147483648), (-1))], some (0, (-3), (-3)), [], [], [], [(6, 0)], [])
/-- X6_row -/
def zc_1288 : zcon := ([(8, 0, 0), (0, 3, 3), (0, 0, 3), (0, 0, 60)], some (0, 0, 0), [], [(36, 1003, 0, 3), (37, 1003, 0, 60)], [([], 5, 3, 0), ([], 3, 5, 0), ([], 6, 4, 0), ([], 4, 6, 0)], ([(6, 0), (36, 1003), (37, 1003)] ++ zrun 38 1180 1 60), [])
/-- X6_row -/
def zc_1289 : zcon := ([(8, 0, 0), (0, 3, 3), (0, 0, 3), (0, 61, 2147483647)], some (0, (-2), (-2)), [], [], [], [(6, 0)], [])
/-- X6_row -/
def zc_1290 : zcon := ([(8, 0, 0), (0, 3, 3), (0, 4, 2147483647), (0, (-2147483648), (-1))], some (0, (-2), (-2)), [], [], [], [(6, 0)], [])
/-- X6_row -/
def zc_1291 : zcon := ([(8, 0, 0), (0, 3, 3), (0, 4, 2147483647), (0, 0, 60)], some (0, (-2), (-2)), [], [], [], [(6, 0)], [])
/-- X6_row -/
def zc_1292 : zcon := ([(8, 0, 0), (0, 3, 3), (0, 4, 2147483647), (0, 61, 2147483647)], some (0, (-2), (-2)), [], [], [], [(6, 0)], [])
/-- X6_row -/
def zc_1293 : zcon := ([(8, 0, 0), (0, 4, 2147483647), (0, (-2147483648), 2147483647), (0, (-2147483648), 2147483647)], some (0, (-2), (-2)), [], [], [], [(6, 0)], [])
def zm_1195 : zC := (cX3_isSlot, 2, zc_1195, (zfl_RX3, zwl_RX3), (zk1_RX3, zk2_RX3, []), [], [], [])
def zm_1196 : zC := (cX3_isSlot, 2, zc_1196, (zfl_RX3, zwl_RX3), (zk1_RX3, zk2_RX3, []), [], [], [])
def zm_1197 : zC := (cX3_isSlot, 2, zc_1197, (zfl_RX3, zwl_RX3), (zk1_RX3, zk2_RX3, []), [], [], [])
def zm_1198 : zC := (cX3_isSlot, 2, zc_1198, (zfl_RX3, zwl_RX3), (zk1_RX3, zk2_RX3, []), [], [], [])
def zm_1199 : zC := (cX3_isSlot, 2, zc_1199, (zfl_RX3, zwl_RX3), (zk1_RX3, zk2_RX3, []), [], [], [])
def zm_1200 : zC := (cX3_isSlot, 2, zc_1200, (zfl_RX3, zwl_RX3), (zk1_RX3, zk2_RX3, []), [], [], [])
def zm_1201 : zC := (cX3_lay, 5, zc_1201, (zfl_RX3, zwl_RX3), (zk1_RX3, zk2_RX3, []), [], [(24, ([(0, 0), (0, 0), (0, 0), (0, 3), (0, 60), (0, 60), (1, 1)], [(0, (5, 0, 0)), (1, (0, 2, 0)), (2, (0, 3, 0)), (3, (0, 4, 0)), (4, (0, 5, 0))], [], [(29, 1000, (0, 6, 0)), (30, 1000, (0, 3, 0)), (31, 1000, (0, 4, 0))], []), 60, [0, 0, 0, 0, 0, (-1)])], [])
def zm_1202 : zC := (cX3_lay, 5, zc_1202, (zfl_RX3, zwl_RX3), (zk1_RX3, zk2_RX3, []), [], [(24, ([(0, 0), (0, 0), (1, 1), (0, 3), (0, 60), (0, 60), (1, 1)], [(0, (5, 0, 0)), (1, (0, 2, 0)), (2, (0, 3, 0)), (3, (0, 4, 0)), (4, (0, 5, 0))], [], [(29, 1001, (0, 6, 0)), (30, 1001, (0, 3, 0)), (31, 1001, (0, 4, 0))], []), 60, [0, 0, 0, 0, 0, (-1)])], [])
def zm_1203 : zC := (cX3_lay, 5, zc_1203, (zfl_RX3, zwl_RX3), (zk1_RX3, zk2_RX3, []), [], [(24, ([(0, 0), (0, 0), (2, 2), (0, 3), (0, 60), (0, 60), (1, 1)], [(0, (5, 0, 0)), (1, (0, 2, 0)), (2, (0, 3, 0)), (3, (0, 4, 0)), (4, (0, 5, 0))], [], [(29, 1002, (0, 6, 0)), (30, 1002, (0, 3, 0)), (31, 1002, (0, 4, 0))], []), 60, [0, 0, 0, 0, 0, (-1)])], [])
def zm_1204 : zC := (cX3_lay, 5, zc_1204, (zfl_RX3, zwl_RX3), (zk1_RX3, zk2_RX3, []), [], [(24, ([(0, 0), (0, 0), (3, 3), (0, 3), (0, 60), (0, 60), (1, 1)], [(0, (5, 0, 0)), (1, (0, 2, 0)), (2, (0, 3, 0)), (3, (0, 4, 0)), (4, (0, 5, 0))], [], [(29, 1003, (0, 6, 0)), (30, 1003, (0, 3, 0)), (31, 1003, (0, 4, 0))], []), 60, [0, 0, 0, 0, 0, (-1)])], [])
def zm_1243 : zC := (cX6_in, 6, zc_1243, (zfl_RX6, zwl_RX6), (zk1_RX6, zk2_RX6, []), [], [], [])
def zm_1244 : zC := (cX6_in, 6, zc_1244, (zfl_RX6, zwl_RX6), (zk1_RX6, zk2_RX6, []), [], [], [])
def zm_1245 : zC := (cX6_in, 6, zc_1245, (zfl_RX6, zwl_RX6), (zk1_RX6, zk2_RX6, []), [], [], [])
def zm_1246 : zC := (cX6_in, 6, zc_1246, (zfl_RX6, zwl_RX6), (zk1_RX6, zk2_RX6, []), [], [], [])
def zm_1247 : zC := (cX6_in, 6, zc_1247, (zfl_RX6, zwl_RX6), (zk1_RX6, zk2_RX6, []), [], [], [])
def zm_1248 : zC := (cX6_in, 6, zc_1248, (zfl_RX6, zwl_RX6), (zk1_RX6, zk2_RX6, []), [], [], [])
def zm_1249 : zC := (cX6_in, 6, zc_1249, (zfl_RX6, zwl_RX6), (zk1_RX6, zk2_RX6, []), [], [], [])
def zm_1205 : zC := (cX5_row, 4, zc_1205, (zfl_RX5, zwl_RX5), (zk1_RX5, zk2_RX5, []), [(0, 321, zc_1195)], [], [])
def zm_1206 : zC := (cX5_row, 4, zc_1206, (zfl_RX5, zwl_RX5), (zk1_RX5, zk2_RX5, []), [(0, 321, zc_1196)], [], [])
def zm_1207 : zC := (cX5_row, 4, zc_1207, (zfl_RX5, zwl_RX5), (zk1_RX5, zk2_RX5, []), [(0, 321, zc_1196)], [], [])
def zm_1208 : zC := (cX5_row, 4, zc_1208, (zfl_RX5, zwl_RX5), (zk1_RX5, zk2_RX5, []), [(0, 321, zc_1196)], [], [])
def zm_1209 : zC := (cX5_row, 4, zc_1209, (zfl_RX5, zwl_RX5), (zk1_RX5, zk2_RX5, []), [(0, 321, zc_1196)], [], [])
def zm_1210 : zC := (cX5_row, 4, zc_1210, (zfl_RX5, zwl_RX5), (zk1_RX5, zk2_RX5, []), [(0, 321, zc_1196), (0, 324, zc_1201)], [], [])
def zm_1211 : zC := (cX5_row, 4, zc_1211, (zfl_RX5, zwl_RX5), (zk1_RX5, zk2_RX5, []), [(0, 321, zc_1196)], [], [])
def zm_1212 : zC := (cX5_row, 4, zc_1212, (zfl_RX5, zwl_RX5), (zk1_RX5, zk2_RX5, []), [(0, 321, zc_1196)], [], [])
def zm_1213 : zC := (cX5_row, 4, zc_1213, (zfl_RX5, zwl_RX5), (zk1_RX5, zk2_RX5, []), [(0, 321, zc_1196)], [], [])
def zm_1214 : zC := (cX5_row, 4, zc_1214, (zfl_RX5, zwl_RX5), (zk1_RX5, zk2_RX5, []), [(0, 321, zc_1196)], [], [])
def zm_1215 : zC := (cX5_row, 4, zc_1215, (zfl_RX5, zwl_RX5), (zk1_RX5, zk2_RX5, []), [(0, 321, zc_1197)], [], [])
def zm_1216 : zC := (cX5_row, 4, zc_1216, (zfl_RX5, zwl_RX5), (zk1_RX5, zk2_RX5, []), [(0, 321, zc_1197)], [], [])
def zm_1217 : zC := (cX5_row, 4, zc_1217, (zfl_RX5, zwl_RX5), (zk1_RX5, zk2_RX5, []), [(0, 321, zc_1197)], [], [])
def zm_1218 : zC := (cX5_row, 4, zc_1218, (zfl_RX5, zwl_RX5), (zk1_RX5, zk2_RX5, []), [(0, 321, zc_1197)], [], [])
def zm_1219 : zC := (cX5_row, 4, zc_1219, (zfl_RX5, zwl_RX5), (zk1_RX5, zk2_RX5, []), [(0, 321, zc_1197), (0, 324, zc_1202)], [], [])
def zm_1220 : zC := (cX5_row, 4, zc_1220, (zfl_RX5, zwl_RX5), (zk1_RX5, zk2_RX5, []), [(0, 321, zc_1197)], [], [])
def zm_1221 : zC := (cX5_row, 4, zc_1221, (zfl_RX5, zwl_RX5), (zk1_RX5, zk2_RX5, []), [(0, 321, zc_1197)], [], [])
def zm_1222 : zC := (cX5_row, 4, zc_1222, (zfl_RX5, zwl_RX5), (zk1_RX5, zk2_RX5, []), [(0, 321, zc_1197)], [], [])
def zm_1223 : zC := (cX5_row, 4, zc_1223, (zfl_RX5, zwl_RX5), (zk1_RX5, zk2_RX5, []), [(0, 321, zc_1197)], [], [])
def zm_1224 : zC := (cX5_row, 4, zc_1224, (zfl_RX5, zwl_RX5), (zk1_RX5, zk2_RX5, []), [(0, 321, zc_1198)], [], [])
def zm_1225 : zC := (cX5_row, 4, zc_1225, (zfl_RX5, zwl_RX5), (zk1_RX5, zk2_RX5, []), [(0, 321, zc_1198)], [], [])
def zm_1226 : zC := (cX5_row, 4, zc_1226, (zfl_RX5, zwl_RX5), (zk1_RX5, zk2_RX5, []), [(0, 321, zc_1198)], [], [])
def zm_1227 : zC := (cX5_row, 4, zc_1227, (zfl_RX5, zwl_RX5), (zk1_RX5, zk2_RX5, []), [(0, 321, zc_1198)], [], [])
def zm_1228 : zC := (cX5_row, 4, zc_1228, (zfl_RX5, zwl_RX5), (zk1_RX5, zk2_RX5, []), [(0, 321, zc_1198), (0, 324, zc_1203)], [], [])
def zm_1229 : zC := (cX5_row, 4, zc_1229, (zfl_RX5, zwl_RX5), (zk1_RX5, zk2_RX5, []), [(0, 321, zc_1198)], [], [])
def zm_1230 : zC := (cX5_row, 4, zc_1230, (zfl_RX5, zwl_RX5), (zk1_RX5, zk2_RX5, []), [(0, 321, zc_1198)], [], [])
def zm_1231 : zC := (cX5_row, 4, zc_1231, (zfl_RX5, zwl_RX5), (zk1_RX5, zk2_RX5, []), [(0, 321, zc_1198)], [], [])
def zm_1232 : zC := (cX5_row, 4, zc_1232, (zfl_RX5, zwl_RX5), (zk1_RX5, zk2_RX5, []), [(0, 321, zc_1198)], [], [])
def zm_1233 : zC := (cX5_row, 4, zc_1233, (zfl_RX5, zwl_RX5), (zk1_RX5, zk2_RX5, []), [(0, 321, zc_1199)], [], [])
def zm_1234 : zC := (cX5_row, 4, zc_1234, (zfl_RX5, zwl_RX5), (zk1_RX5, zk2_RX5, []), [(0, 321, zc_1199)], [], [])
def zm_1235 : zC := (cX5_row, 4, zc_1235, (zfl_RX5, zwl_RX5), (zk1_RX5, zk2_RX5, []), [(0, 321, zc_1199)], [], [])
def zm_1236 : zC := (cX5_row, 4, zc_1236, (zfl_RX5, zwl_RX5), (zk1_RX5, zk2_RX5, []), [(0, 321, zc_1199)], [], [])
def zm_1237 : zC := (cX5_row, 4, zc_1237, (zfl_RX5, zwl_RX5), (zk1_RX5, zk2_RX5, []), [(0, 321, zc_1199), (0, 324, zc_1204)], [], [])
def zm_1238 : zC := (cX5_row, 4, zc_1238, (zfl_RX5, zwl_RX5), (zk1_RX5, zk2_RX5, []), [(0, 321, zc_1199)], [], [])
def zm_1239 : zC := (cX5_row, 4, zc_1239, (zfl_RX5, zwl_RX5), (zk1_RX5, zk2_RX5, []), [(0, 321, zc_1199)], [], [])
def zm_1240 : zC := (cX5_row, 4, zc_1240, (zfl_RX5, zwl_RX5), (zk1_RX5, zk2_RX5, []), [(0, 321, zc_1199)], [], [])
def zm_1241 : zC := (cX5_row, 4, zc_1241, (zfl_RX5, zwl_RX5), (zk1_RX5, zk2_RX5, []), [(0, 321, zc_1199)], [], [])
def zm_1242 : zC := (cX5_row, 4, zc_1242, (zfl_RX5, zwl_RX5), (zk1_RX5, zk2_RX5, []), [(0, 321, zc_1200)], [], [])
def zm_1250 : zC := (cX6_isSlot, 1, zc_1250, (zfl_RX6, zwl_RX6), (zk1_RX6, zk2_RX6, []), [(1, 76, zc_1243)], [], [])
def zm_1251 : zC := (cX6_isSlot, 1, zc_1251, (zfl_RX6, zwl_RX6), (zk1_RX6, zk2_RX6, []), [(1, 76, zc_1244)], [], [])
def zm_1252 : zC := (cX6_isSlot, 1, zc_1252, (zfl_RX6, zwl_RX6), (zk1_RX6, zk2_RX6, []), [(1, 76, zc_1246)], [], [])
def zm_1253 : zC := (cX6_isSlot, 1, zc_1253, (zfl_RX6, zwl_RX6), (zk1_RX6, zk2_RX6, []), [(1, 76, zc_1247)], [], [])
def zm_1254 : zC := (cX6_isSlot, 1, zc_1254, (zfl_RX6, zwl_RX6), (zk1_RX6, zk2_RX6, []), [(1, 76, zc_1248)], [], [])
def zm_1255 : zC := (cX6_isSlot, 1, zc_1255, (zfl_RX6, zwl_RX6), (zk1_RX6, zk2_RX6, []), [(1, 76, zc_1249)], [], [])
def zm_1256 : zC := (cX6_row, 5, zc_1256, (zfl_RX6, zwl_RX6), (zk1_RX6, zk2_RX6, []), [(1, 80, zc_1250)], [], [])
def zm_1257 : zC := (cX6_row, 5, zc_1257, (zfl_RX6, zwl_RX6), (zk1_RX6, zk2_RX6, []), [(1, 76, zc_1243), (1, 80, zc_1251)], [], [])
def zm_1258 : zC := (cX6_row, 5, zc_1258, (zfl_RX6, zwl_RX6), (zk1_RX6, zk2_RX6, []), [(1, 76, zc_1243), (1, 80, zc_1251)], [], [])
def zm_1259 : zC := (cX6_row, 5, zc_1259, (zfl_RX6, zwl_RX6), (zk1_RX6, zk2_RX6, []), [(1, 76, zc_1243), (1, 80, zc_1251)], [], [])
def zm_1260 : zC := (cX6_row, 5, zc_1260, (zfl_RX6, zwl_RX6), (zk1_RX6, zk2_RX6, []), [(1, 76, zc_1245), (1, 80, zc_1251)], [], [])
def zm_1261 : zC := (cX6_row, 5, zc_1261, (zfl_RX6, zwl_RX6), (zk1_RX6, zk2_RX6, []), [(1, 76, zc_1245), (1, 80, zc_1251)], [(57, ([(0, 0), (0, 0), (0, 0), (0, 3), (0, 60), (0, 60), (0, 0)], [(0, (8, 0, 0)), (1, (0, 2, 0)), (2, (0, 3, 0)), (3, (0, 4, 0)), (4, (0, 5, 0))], [], [(6, 0, (0, 6, 0)), (36, 1000, (0, 3, 0)), (37, 1000, (0, 4, 0))], []), 60, [0, 0, 0, 0, 0, (-1)])], [])
def zm_1262 : zC := (cX6_row, 5, zc_1262, (zfl_RX6, zwl_RX6), (zk1_RX6, zk2_RX6, []), [(1, 76, zc_1245), (1, 80, zc_1251)], [], [])
def zm_1263 : zC := (cX6_row, 5, zc_1263, (zfl_RX6, zwl_RX6), (zk1_RX6, zk2_RX6, []), [(1, 76, zc_1249), (1, 80, zc_1251)], [], [])
def zm_1264 : zC := (cX6_row, 5, zc_1264, (zfl_RX6, zwl_RX6), (zk1_RX6, zk2_RX6, []), [(1, 76, zc_1249), (1, 80, zc_1251)], [], [])
def zm_1265 : zC := (cX6_row, 5, zc_1265, (zfl_RX6, zwl_RX6), (zk1_RX6, zk2_RX6, []), [(1, 76, zc_1249), (1, 80, zc_1251)], [], [])
def zm_1266 : zC := (cX6_row, 5, zc_1266, (zfl_RX6, zwl_RX6), (zk1_RX6, zk2_RX6, []), [(1, 76, zc_1243), (1, 80, zc_1252)], [], [])
def zm_1267 : zC := (cX6_row, 5, zc_1267, (zfl_RX6, zwl_RX6), (zk1_RX6, zk2_RX6, []), [(1, 76, zc_1243), (1, 80, zc_1252)], [], [])
def zm_1268 : zC := (cX6_row, 5, zc_1268, (zfl_RX6, zwl_RX6), (zk1_RX6, zk2_RX6, []), [(1, 76, zc_1243), (1, 80, zc_1252)], [], [])
def zm_1269 : zC := (cX6_row, 5, zc_1269, (zfl_RX6, zwl_RX6), (zk1_RX6, zk2_RX6, []), [(1, 76, zc_1245), (1, 80, zc_1252)], [], [])
def zm_1270 : zC := (cX6_row, 5, zc_1270, (zfl_RX6, zwl_RX6), (zk1_RX6, zk2_RX6, []), [(1, 76, zc_1245), (1, 80, zc_1252)], [(57, ([(0, 0), (0, 0), (1, 1), (0, 3), (0, 60), (0, 60), (0, 0)], [(0, (8, 0, 0)), (1, (0, 2, 0)), (2, (0, 3, 0)), (3, (0, 4, 0)), (4, (0, 5, 0))], [], [(6, 0, (0, 6, 0)), (36, 1001, (0, 3, 0)), (37, 1001, (0, 4, 0))], []), 60, [0, 0, 0, 0, 0, (-1)])], [])
def zm_1271 : zC := (cX6_row, 5, zc_1271, (zfl_RX6, zwl_RX6), (zk1_RX6, zk2_RX6, []), [(1, 76, zc_1245), (1, 80, zc_1252)], [], [])
def zm_1272 : zC := (cX6_row, 5, zc_1272, (zfl_RX6, zwl_RX6), (zk1_RX6, zk2_RX6, []), [(1, 76, zc_1249), (1, 80, zc_1252)], [], [])
def zm_1273 : zC := (cX6_row, 5, zc_1273, (zfl_RX6, zwl_RX6), (zk1_RX6, zk2_RX6, []), [(1, 76, zc_1249), (1, 80, zc_1252)], [], [])
def zm_1274 : zC := (cX6_row, 5, zc_1274, (zfl_RX6, zwl_RX6), (zk1_RX6, zk2_RX6, []), [(1, 76, zc_1249), (1, 80, zc_1252)], [], [])
def zm_1275 : zC := (cX6_row, 5, zc_1275, (zfl_RX6, zwl_RX6), (zk1_RX6, zk2_RX6, []), [(1, 76, zc_1243), (1, 80, zc_1253)], [], [])
def zm_1276 : zC := (cX6_row, 5, zc_1276, (zfl_RX6, zwl_RX6), (zk1_RX6, zk2_RX6, []), [(1, 76, zc_1243), (1, 80, zc_1253)], [], [])
def zm_1277 : zC := (cX6_row, 5, zc_1277, (zfl_RX6, zwl_RX6), (zk1_RX6, zk2_RX6, []), [(1, 76, zc_1243), (1, 80, zc_1253)], [], [])
def zm_1278 : zC := (cX6_row, 5, zc_1278, (zfl_RX6, zwl_RX6), (zk1_RX6, zk2_RX6, []), [(1, 76, zc_1245), (1, 80, zc_1253)], [], [])
def zm_1279 : zC := (cX6_row, 5, zc_1279, (zfl_RX6, zwl_RX6), (zk1_RX6, zk2_RX6, []), [(1, 76, zc_1245), (1, 80, zc_1253)], [(57, ([(0, 0), (0, 0), (2, 2), (0, 3), (0, 60), (0, 60), (0, 0)], [(0, (8, 0, 0)), (1, (0, 2, 0)), (2, (0, 3, 0)), (3, (0, 4, 0)), (4, (0, 5, 0))], [], [(6, 0, (0, 6, 0)), (36, 1002, (0, 3, 0)), (37, 1002, (0, 4, 0))], []), 60, [0, 0, 0, 0, 0, (-1)])], [])
def zm_1280 : zC := (cX6_row, 5, zc_1280, (zfl_RX6, zwl_RX6), (zk1_RX6, zk2_RX6, []), [(1, 76, zc_1245), (1, 80, zc_1253)], [], [])
def zm_1281 : zC := (cX6_row, 5, zc_1281, (zfl_RX6, zwl_RX6), (zk1_RX6, zk2_RX6, []), [(1, 76, zc_1249), (1, 80, zc_1253)], [], [])
def zm_1282 : zC := (cX6_row, 5, zc_1282, (zfl_RX6, zwl_RX6), (zk1_RX6, zk2_RX6, []), [(1, 76, zc_1249), (1, 80, zc_1253)], [], [])
def zm_1283 : zC := (cX6_row, 5, zc_1283, (zfl_RX6, zwl_RX6), (zk1_RX6, zk2_RX6, []), [(1, 76, zc_1249), (1, 80, zc_1253)], [], [])
def zm_1284 : zC := (cX6_row, 5, zc_1284, (zfl_RX6, zwl_RX6), (zk1_RX6, zk2_RX6, []), [(1, 76, zc_1243), (1, 80, zc_1254)], [], [])
def zm_1285 : zC := (cX6_row, 5, zc_1285, (zfl_RX6, zwl_RX6), (zk1_RX6, zk2_RX6, []), [(1, 76, zc_1243), (1, 80, zc_1254)], [], [])
def zm_1286 : zC := (cX6_row, 5, zc_1286, (zfl_RX6, zwl_RX6), (zk1_RX6, zk2_RX6, []), [(1, 76, zc_1243), (1, 80, zc_1254)], [], [])
def zm_1287 : zC := (cX6_row, 5, zc_1287, (zfl_RX6, zwl_RX6), (zk1_RX6, zk2_RX6, []), [(1, 76, zc_1245), (1, 80, zc_1254)], [], [])
def zm_1288 : zC := (cX6_row, 5, zc_1288, (zfl_RX6, zwl_RX6), (zk1_RX6, zk2_RX6, []), [(1, 76, zc_1245), (1, 80, zc_1254)], [(57, ([(0, 0), (0, 0), (3, 3), (0, 3), (0, 60), (0, 60), (0, 0)], [(0, (8, 0, 0)), (1, (0, 2, 0)), (2, (0, 3, 0)), (3, (0, 4, 0)), (4, (0, 5, 0))], [], [(6, 0, (0, 6, 0)), (36, 1003, (0, 3, 0)), (37, 1003, (0, 4, 0))], []), 60, [0, 0, 0, 0, 0, (-1)])], [])
def zm_1289 : zC := (cX6_row, 5, zc_1289, (zfl_RX6, zwl_RX6), (zk1_RX6, zk2_RX6, []), [(1, 76, zc_1245), (1, 80, zc_1254)], [], [])
def zm_1290 : zC := (cX6_row, 5, zc_1290, (zfl_RX6, zwl_RX6), (zk1_RX6, zk2_RX6, []), [(1, 76, zc_1249), (1, 80, zc_1254)], [], [])
def zm_1291 : zC := (cX6_row, 5, zc_1291, (zfl_RX6, zwl_RX6), (zk1_RX6, zk2_RX6, []), [(1, 76, zc_1249), (1, 80, zc_1254)], [], [])
def zm_1292 : zC := (cX6_row, 5, zc_1292, (zfl_RX6, zwl_RX6), (zk1_RX6, zk2_RX6, []), [(1, 76, zc_1249), (1, 80, zc_1254)], [], [])
def zm_1293 : zC := (cX6_row, 5, zc_1293, (zfl_RX6, zwl_RX6), (zk1_RX6, zk2_RX6, []), [(1, 80, zc_1255)], [], [])
set_option maxRecDepth 100000 in
theorem zk_1195 : zmeth zKS zuq zNS zm_1195 4000 = true := zqF (zdt_X3_isSlot) (by decide +kernel)
theorem zM_1195 {l : Launch} {D : va_G} {cI cZ cB cJ cR : ClassId} {ks ad : List Nat} {Psi : va_W → Prop} (hw : zworld ks ad zuq zNS Psi) (hm : zMan l D cI cZ cB cJ cR ks ad Psi) : zMet l D cI cZ cB cJ cR zKS ks ad Psi yX3_isSlot (.code yX3_isSlot cX3_isSlot 2 (some .boolean)) 0 zc_1195 :=
  zmet_of hw 0 (by decide) 4000 zk_1195 (by decide) (by decide) (fun X => ⟨zg_RX3 X, zp_RX3 X, zl1_RX3 X, zl2_RX3 X, nilz, nilz⟩)
set_option maxRecDepth 100000 in
theorem zk_1196 : zmeth zKS zuq zNS zm_1196 4000 = true := zqF (zdt_X3_isSlot) (by decide +kernel)
theorem zM_1196 {l : Launch} {D : va_G} {cI cZ cB cJ cR : ClassId} {ks ad : List Nat} {Psi : va_W → Prop} (hw : zworld ks ad zuq zNS Psi) (hm : zMan l D cI cZ cB cJ cR ks ad Psi) : zMet l D cI cZ cB cJ cR zKS ks ad Psi yX3_isSlot (.code yX3_isSlot cX3_isSlot 2 (some .boolean)) 0 zc_1196 :=
  zmet_of hw 0 (by decide) 4000 zk_1196 (by decide) (by decide) (fun X => ⟨zg_RX3 X, zp_RX3 X, zl1_RX3 X, zl2_RX3 X, nilz, nilz⟩)
set_option maxRecDepth 100000 in
theorem zk_1197 : zmeth zKS zuq zNS zm_1197 4000 = true := zqF (zdt_X3_isSlot) (by decide +kernel)
theorem zM_1197 {l : Launch} {D : va_G} {cI cZ cB cJ cR : ClassId} {ks ad : List Nat} {Psi : va_W → Prop} (hw : zworld ks ad zuq zNS Psi) (hm : zMan l D cI cZ cB cJ cR ks ad Psi) : zMet l D cI cZ cB cJ cR zKS ks ad Psi yX3_isSlot (.code yX3_isSlot cX3_isSlot 2 (some .boolean)) 0 zc_1197 :=
  zmet_of hw 0 (by decide) 4000 zk_1197 (by decide) (by decide) (fun X => ⟨zg_RX3 X, zp_RX3 X, zl1_RX3 X, zl2_RX3 X, nilz, nilz⟩)
set_option maxRecDepth 100000 in
theorem zk_1198 : zmeth zKS zuq zNS zm_1198 4000 = true := zqF (zdt_X3_isSlot) (by decide +kernel)
theorem zM_1198 {l : Launch} {D : va_G} {cI cZ cB cJ cR : ClassId} {ks ad : List Nat} {Psi : va_W → Prop} (hw : zworld ks ad zuq zNS Psi) (hm : zMan l D cI cZ cB cJ cR ks ad Psi) : zMet l D cI cZ cB cJ cR zKS ks ad Psi yX3_isSlot (.code yX3_isSlot cX3_isSlot 2 (some .boolean)) 0 zc_1198 :=
  zmet_of hw 0 (by decide) 4000 zk_1198 (by decide) (by decide) (fun X => ⟨zg_RX3 X, zp_RX3 X, zl1_RX3 X, zl2_RX3 X, nilz, nilz⟩)
set_option maxRecDepth 100000 in
theorem zk_1199 : zmeth zKS zuq zNS zm_1199 4000 = true := zqF (zdt_X3_isSlot) (by decide +kernel)
theorem zM_1199 {l : Launch} {D : va_G} {cI cZ cB cJ cR : ClassId} {ks ad : List Nat} {Psi : va_W → Prop} (hw : zworld ks ad zuq zNS Psi) (hm : zMan l D cI cZ cB cJ cR ks ad Psi) : zMet l D cI cZ cB cJ cR zKS ks ad Psi yX3_isSlot (.code yX3_isSlot cX3_isSlot 2 (some .boolean)) 0 zc_1199 :=
  zmet_of hw 0 (by decide) 4000 zk_1199 (by decide) (by decide) (fun X => ⟨zg_RX3 X, zp_RX3 X, zl1_RX3 X, zl2_RX3 X, nilz, nilz⟩)
set_option maxRecDepth 100000 in
theorem zk_1200 : zmeth zKS zuq zNS zm_1200 4000 = true := zqF (zdt_X3_isSlot) (by decide +kernel)
theorem zM_1200 {l : Launch} {D : va_G} {cI cZ cB cJ cR : ClassId} {ks ad : List Nat} {Psi : va_W → Prop} (hw : zworld ks ad zuq zNS Psi) (hm : zMan l D cI cZ cB cJ cR ks ad Psi) : zMet l D cI cZ cB cJ cR zKS ks ad Psi yX3_isSlot (.code yX3_isSlot cX3_isSlot 2 (some .boolean)) 0 zc_1200 :=
  zmet_of hw 0 (by decide) 4000 zk_1200 (by decide) (by decide) (fun X => ⟨zg_RX3 X, zp_RX3 X, zl1_RX3 X, zl2_RX3 X, nilz, nilz⟩)
set_option maxRecDepth 100000 in
theorem zk_1201 : zmeth zKS zuq zNS zm_1201 4000 = true := zqF (zdt0 _) (by decide +kernel)
theorem zM_1201 {l : Launch} {D : va_G} {cI cZ cB cJ cR : ClassId} {ks ad : List Nat} {Psi : va_W → Prop} (hw : zworld ks ad zuq zNS Psi) (hm : zMan l D cI cZ cB cJ cR ks ad Psi) : zMet l D cI cZ cB cJ cR zKS ks ad Psi yX3_lay (.code yX3_lay cX3_lay 5 none) 0 zc_1201 :=
  zmet_of hw 0 (by decide) 4000 zk_1201 (by decide) (by decide) (fun X => ⟨zg_RX3 X, zp_RX3 X, zl1_RX3 X, zl2_RX3 X, nilz, nilz⟩)
set_option maxRecDepth 100000 in
theorem zk_1202 : zmeth zKS zuq zNS zm_1202 4000 = true := zqF (zdt0 _) (by decide +kernel)
theorem zM_1202 {l : Launch} {D : va_G} {cI cZ cB cJ cR : ClassId} {ks ad : List Nat} {Psi : va_W → Prop} (hw : zworld ks ad zuq zNS Psi) (hm : zMan l D cI cZ cB cJ cR ks ad Psi) : zMet l D cI cZ cB cJ cR zKS ks ad Psi yX3_lay (.code yX3_lay cX3_lay 5 none) 0 zc_1202 :=
  zmet_of hw 0 (by decide) 4000 zk_1202 (by decide) (by decide) (fun X => ⟨zg_RX3 X, zp_RX3 X, zl1_RX3 X, zl2_RX3 X, nilz, nilz⟩)
set_option maxRecDepth 100000 in
theorem zk_1203 : zmeth zKS zuq zNS zm_1203 4000 = true := zqF (zdt0 _) (by decide +kernel)
theorem zM_1203 {l : Launch} {D : va_G} {cI cZ cB cJ cR : ClassId} {ks ad : List Nat} {Psi : va_W → Prop} (hw : zworld ks ad zuq zNS Psi) (hm : zMan l D cI cZ cB cJ cR ks ad Psi) : zMet l D cI cZ cB cJ cR zKS ks ad Psi yX3_lay (.code yX3_lay cX3_lay 5 none) 0 zc_1203 :=
  zmet_of hw 0 (by decide) 4000 zk_1203 (by decide) (by decide) (fun X => ⟨zg_RX3 X, zp_RX3 X, zl1_RX3 X, zl2_RX3 X, nilz, nilz⟩)
set_option maxRecDepth 100000 in
theorem zk_1204 : zmeth zKS zuq zNS zm_1204 4000 = true := zqF (zdt0 _) (by decide +kernel)
theorem zM_1204 {l : Launch} {D : va_G} {cI cZ cB cJ cR : ClassId} {ks ad : List Nat} {Psi : va_W → Prop} (hw : zworld ks ad zuq zNS Psi) (hm : zMan l D cI cZ cB cJ cR ks ad Psi) : zMet l D cI cZ cB cJ cR zKS ks ad Psi yX3_lay (.code yX3_lay cX3_lay 5 none) 0 zc_1204 :=
  zmet_of hw 0 (by decide) 4000 zk_1204 (by decide) (by decide) (fun X => ⟨zg_RX3 X, zp_RX3 X, zl1_RX3 X, zl2_RX3 X, nilz, nilz⟩)
set_option maxRecDepth 100000 in
theorem zk_1243 : zmeth zKS zuq zNS zm_1243 4000 = true := zqF (zdt_X6_in) (by decide +kernel)
theorem zM_1243 {l : Launch} {D : va_G} {cI cZ cB cJ cR : ClassId} {ks ad : List Nat} {Psi : va_W → Prop} (hw : zworld ks ad zuq zNS Psi) (hm : zMan l D cI cZ cB cJ cR ks ad Psi) : zMet l D cI cZ cB cJ cR zKS ks ad Psi yX6_in (.code yX6_in cX6_in 6 (some .boolean)) 0 zc_1243 :=
  zmet_of hw 0 (by decide) 4000 zk_1243 (by decide) (by decide) (fun X => ⟨zg_RX6 X, zp_RX6 X, zl1_RX6 X, zl2_RX6 X, nilz, nilz⟩)
set_option maxRecDepth 100000 in
theorem zk_1244 : zmeth zKS zuq zNS zm_1244 4000 = true := zqF (zdt_X6_in) (by decide +kernel)
theorem zM_1244 {l : Launch} {D : va_G} {cI cZ cB cJ cR : ClassId} {ks ad : List Nat} {Psi : va_W → Prop} (hw : zworld ks ad zuq zNS Psi) (hm : zMan l D cI cZ cB cJ cR ks ad Psi) : zMet l D cI cZ cB cJ cR zKS ks ad Psi yX6_in (.code yX6_in cX6_in 6 (some .boolean)) 0 zc_1244 :=
  zmet_of hw 0 (by decide) 4000 zk_1244 (by decide) (by decide) (fun X => ⟨zg_RX6 X, zp_RX6 X, zl1_RX6 X, zl2_RX6 X, nilz, nilz⟩)
set_option maxRecDepth 100000 in
theorem zk_1245 : zmeth zKS zuq zNS zm_1245 4000 = true := zqF (zdt_X6_in) (by decide +kernel)
theorem zM_1245 {l : Launch} {D : va_G} {cI cZ cB cJ cR : ClassId} {ks ad : List Nat} {Psi : va_W → Prop} (hw : zworld ks ad zuq zNS Psi) (hm : zMan l D cI cZ cB cJ cR ks ad Psi) : zMet l D cI cZ cB cJ cR zKS ks ad Psi yX6_in (.code yX6_in cX6_in 6 (some .boolean)) 0 zc_1245 :=
  zmet_of hw 0 (by decide) 4000 zk_1245 (by decide) (by decide) (fun X => ⟨zg_RX6 X, zp_RX6 X, zl1_RX6 X, zl2_RX6 X, nilz, nilz⟩)
set_option maxRecDepth 100000 in
theorem zk_1246 : zmeth zKS zuq zNS zm_1246 4000 = true := zqF (zdt_X6_in) (by decide +kernel)
theorem zM_1246 {l : Launch} {D : va_G} {cI cZ cB cJ cR : ClassId} {ks ad : List Nat} {Psi : va_W → Prop} (hw : zworld ks ad zuq zNS Psi) (hm : zMan l D cI cZ cB cJ cR ks ad Psi) : zMet l D cI cZ cB cJ cR zKS ks ad Psi yX6_in (.code yX6_in cX6_in 6 (some .boolean)) 0 zc_1246 :=
  zmet_of hw 0 (by decide) 4000 zk_1246 (by decide) (by decide) (fun X => ⟨zg_RX6 X, zp_RX6 X, zl1_RX6 X, zl2_RX6 X, nilz, nilz⟩)
set_option maxRecDepth 100000 in
theorem zk_1247 : zmeth zKS zuq zNS zm_1247 4000 = true := zqF (zdt_X6_in) (by decide +kernel)
theorem zM_1247 {l : Launch} {D : va_G} {cI cZ cB cJ cR : ClassId} {ks ad : List Nat} {Psi : va_W → Prop} (hw : zworld ks ad zuq zNS Psi) (hm : zMan l D cI cZ cB cJ cR ks ad Psi) : zMet l D cI cZ cB cJ cR zKS ks ad Psi yX6_in (.code yX6_in cX6_in 6 (some .boolean)) 0 zc_1247 :=
  zmet_of hw 0 (by decide) 4000 zk_1247 (by decide) (by decide) (fun X => ⟨zg_RX6 X, zp_RX6 X, zl1_RX6 X, zl2_RX6 X, nilz, nilz⟩)
set_option maxRecDepth 100000 in
theorem zk_1248 : zmeth zKS zuq zNS zm_1248 4000 = true := zqF (zdt_X6_in) (by decide +kernel)
theorem zM_1248 {l : Launch} {D : va_G} {cI cZ cB cJ cR : ClassId} {ks ad : List Nat} {Psi : va_W → Prop} (hw : zworld ks ad zuq zNS Psi) (hm : zMan l D cI cZ cB cJ cR ks ad Psi) : zMet l D cI cZ cB cJ cR zKS ks ad Psi yX6_in (.code yX6_in cX6_in 6 (some .boolean)) 0 zc_1248 :=
  zmet_of hw 0 (by decide) 4000 zk_1248 (by decide) (by decide) (fun X => ⟨zg_RX6 X, zp_RX6 X, zl1_RX6 X, zl2_RX6 X, nilz, nilz⟩)
set_option maxRecDepth 100000 in
theorem zk_1249 : zmeth zKS zuq zNS zm_1249 4000 = true := zqF (zdt_X6_in) (by decide +kernel)
theorem zM_1249 {l : Launch} {D : va_G} {cI cZ cB cJ cR : ClassId} {ks ad : List Nat} {Psi : va_W → Prop} (hw : zworld ks ad zuq zNS Psi) (hm : zMan l D cI cZ cB cJ cR ks ad Psi) : zMet l D cI cZ cB cJ cR zKS ks ad Psi yX6_in (.code yX6_in cX6_in 6 (some .boolean)) 0 zc_1249 :=
  zmet_of hw 0 (by decide) 4000 zk_1249 (by decide) (by decide) (fun X => ⟨zg_RX6 X, zp_RX6 X, zl1_RX6 X, zl2_RX6 X, nilz, nilz⟩)
set_option maxRecDepth 100000 in
theorem zk_1205 : zmeth zKS zuq zNS zm_1205 4000 = true := zqF (zdt_X5_row) (by decide +kernel)
theorem zM_1205 {l : Launch} {D : va_G} {cI cZ cB cJ cR : ClassId} {ks ad : List Nat} {Psi : va_W → Prop} (hw : zworld ks ad zuq zNS Psi) (hm : zMan l D cI cZ cB cJ cR ks ad Psi) : zMet l D cI cZ cB cJ cR zKS ks ad Psi yX5_row (.code yX5_row cX5_row 4 (some .int)) 1 zc_1205 :=
  zmet_of hw 1 (by decide) 4000 zk_1205 (by decide) (by decide) (fun X => ⟨zg_RX5 X, zp_RX5 X, zl1_RX5 X, zl2_RX5 X, nilz, (List.forall_mem_cons.mpr ⟨zq_RX5_321 X (zM_1195 hw hm) (by decide) rfl rfl, nilz⟩)⟩)
set_option maxRecDepth 100000 in
theorem zk_1206 : zmeth zKS zuq zNS zm_1206 4000 = true := zqF (zdt_X5_row) (by decide +kernel)
theorem zM_1206 {l : Launch} {D : va_G} {cI cZ cB cJ cR : ClassId} {ks ad : List Nat} {Psi : va_W → Prop} (hw : zworld ks ad zuq zNS Psi) (hm : zMan l D cI cZ cB cJ cR ks ad Psi) : zMet l D cI cZ cB cJ cR zKS ks ad Psi yX5_row (.code yX5_row cX5_row 4 (some .int)) 1 zc_1206 :=
  zmet_of hw 1 (by decide) 4000 zk_1206 (by decide) (by decide) (fun X => ⟨zg_RX5 X, zp_RX5 X, zl1_RX5 X, zl2_RX5 X, nilz, (List.forall_mem_cons.mpr ⟨zq_RX5_321 X (zM_1196 hw hm) (by decide) rfl rfl, nilz⟩)⟩)
set_option maxRecDepth 100000 in
theorem zk_1207 : zmeth zKS zuq zNS zm_1207 4000 = true := zqF (zdt_X5_row) (by decide +kernel)
theorem zM_1207 {l : Launch} {D : va_G} {cI cZ cB cJ cR : ClassId} {ks ad : List Nat} {Psi : va_W → Prop} (hw : zworld ks ad zuq zNS Psi) (hm : zMan l D cI cZ cB cJ cR ks ad Psi) : zMet l D cI cZ cB cJ cR zKS ks ad Psi yX5_row (.code yX5_row cX5_row 4 (some .int)) 1 zc_1207 :=
  zmet_of hw 1 (by decide) 4000 zk_1207 (by decide) (by decide) (fun X => ⟨zg_RX5 X, zp_RX5 X, zl1_RX5 X, zl2_RX5 X, nilz, (List.forall_mem_cons.mpr ⟨zq_RX5_321 X (zM_1196 hw hm) (by decide) rfl rfl, nilz⟩)⟩)
set_option maxRecDepth 100000 in
theorem zk_1208 : zmeth zKS zuq zNS zm_1208 4000 = true := zqF (zdt_X5_row) (by decide +kernel)
theorem zM_1208 {l : Launch} {D : va_G} {cI cZ cB cJ cR : ClassId} {ks ad : List Nat} {Psi : va_W → Prop} (hw : zworld ks ad zuq zNS Psi) (hm : zMan l D cI cZ cB cJ cR ks ad Psi) : zMet l D cI cZ cB cJ cR zKS ks ad Psi yX5_row (.code yX5_row cX5_row 4 (some .int)) 1 zc_1208 :=
  zmet_of hw 1 (by decide) 4000 zk_1208 (by decide) (by decide) (fun X => ⟨zg_RX5 X, zp_RX5 X, zl1_RX5 X, zl2_RX5 X, nilz, (List.forall_mem_cons.mpr ⟨zq_RX5_321 X (zM_1196 hw hm) (by decide) rfl rfl, nilz⟩)⟩)
set_option maxRecDepth 100000 in
theorem zk_1209 : zmeth zKS zuq zNS zm_1209 4000 = true := zqF (zdt_X5_row) (by decide +kernel)
theorem zM_1209 {l : Launch} {D : va_G} {cI cZ cB cJ cR : ClassId} {ks ad : List Nat} {Psi : va_W → Prop} (hw : zworld ks ad zuq zNS Psi) (hm : zMan l D cI cZ cB cJ cR ks ad Psi) : zMet l D cI cZ cB cJ cR zKS ks ad Psi yX5_row (.code yX5_row cX5_row 4 (some .int)) 1 zc_1209 :=
  zmet_of hw 1 (by decide) 4000 zk_1209 (by decide) (by decide) (fun X => ⟨zg_RX5 X, zp_RX5 X, zl1_RX5 X, zl2_RX5 X, nilz, (List.forall_mem_cons.mpr ⟨zq_RX5_321 X (zM_1196 hw hm) (by decide) rfl rfl, nilz⟩)⟩)
set_option maxRecDepth 100000 in
theorem zk_1210 : zmeth zKS zuq zNS zm_1210 4000 = true := zqF (zdt_X5_row) (by decide +kernel)
theorem zM_1210 {l : Launch} {D : va_G} {cI cZ cB cJ cR : ClassId} {ks ad : List Nat} {Psi : va_W → Prop} (hw : zworld ks ad zuq zNS Psi) (hm : zMan l D cI cZ cB cJ cR ks ad Psi) : zMet l D cI cZ cB cJ cR zKS ks ad Psi yX5_row (.code yX5_row cX5_row 4 (some .int)) 1 zc_1210 :=
  zmet_of hw 1 (by decide) 4000 zk_1210 (by decide) (by decide) (fun X => ⟨zg_RX5 X, zp_RX5 X, zl1_RX5 X, zl2_RX5 X, nilz, (List.forall_mem_cons.mpr ⟨zq_RX5_321 X (zM_1196 hw hm) (by decide) rfl rfl, (List.forall_mem_cons.mpr ⟨zq_RX5_324 X (zM_1201 hw hm) (by decide) rfl rfl, nilz⟩)⟩)⟩)
set_option maxRecDepth 100000 in
theorem zk_1211 : zmeth zKS zuq zNS zm_1211 4000 = true := zqF (zdt_X5_row) (by decide +kernel)
theorem zM_1211 {l : Launch} {D : va_G} {cI cZ cB cJ cR : ClassId} {ks ad : List Nat} {Psi : va_W → Prop} (hw : zworld ks ad zuq zNS Psi) (hm : zMan l D cI cZ cB cJ cR ks ad Psi) : zMet l D cI cZ cB cJ cR zKS ks ad Psi yX5_row (.code yX5_row cX5_row 4 (some .int)) 1 zc_1211 :=
  zmet_of hw 1 (by decide) 4000 zk_1211 (by decide) (by decide) (fun X => ⟨zg_RX5 X, zp_RX5 X, zl1_RX5 X, zl2_RX5 X, nilz, (List.forall_mem_cons.mpr ⟨zq_RX5_321 X (zM_1196 hw hm) (by decide) rfl rfl, nilz⟩)⟩)
set_option maxRecDepth 100000 in
theorem zk_1212 : zmeth zKS zuq zNS zm_1212 4000 = true := zqF (zdt_X5_row) (by decide +kernel)
theorem zM_1212 {l : Launch} {D : va_G} {cI cZ cB cJ cR : ClassId} {ks ad : List Nat} {Psi : va_W → Prop} (hw : zworld ks ad zuq zNS Psi) (hm : zMan l D cI cZ cB cJ cR ks ad Psi) : zMet l D cI cZ cB cJ cR zKS ks ad Psi yX5_row (.code yX5_row cX5_row 4 (some .int)) 1 zc_1212 :=
  zmet_of hw 1 (by decide) 4000 zk_1212 (by decide) (by decide) (fun X => ⟨zg_RX5 X, zp_RX5 X, zl1_RX5 X, zl2_RX5 X, nilz, (List.forall_mem_cons.mpr ⟨zq_RX5_321 X (zM_1196 hw hm) (by decide) rfl rfl, nilz⟩)⟩)
set_option maxRecDepth 100000 in
theorem zk_1213 : zmeth zKS zuq zNS zm_1213 4000 = true := zqF (zdt_X5_row) (by decide +kernel)
theorem zM_1213 {l : Launch} {D : va_G} {cI cZ cB cJ cR : ClassId} {ks ad : List Nat} {Psi : va_W → Prop} (hw : zworld ks ad zuq zNS Psi) (hm : zMan l D cI cZ cB cJ cR ks ad Psi) : zMet l D cI cZ cB cJ cR zKS ks ad Psi yX5_row (.code yX5_row cX5_row 4 (some .int)) 1 zc_1213 :=
  zmet_of hw 1 (by decide) 4000 zk_1213 (by decide) (by decide) (fun X => ⟨zg_RX5 X, zp_RX5 X, zl1_RX5 X, zl2_RX5 X, nilz, (List.forall_mem_cons.mpr ⟨zq_RX5_321 X (zM_1196 hw hm) (by decide) rfl rfl, nilz⟩)⟩)
set_option maxRecDepth 100000 in
theorem zk_1214 : zmeth zKS zuq zNS zm_1214 4000 = true := zqF (zdt_X5_row) (by decide +kernel)
theorem zM_1214 {l : Launch} {D : va_G} {cI cZ cB cJ cR : ClassId} {ks ad : List Nat} {Psi : va_W → Prop} (hw : zworld ks ad zuq zNS Psi) (hm : zMan l D cI cZ cB cJ cR ks ad Psi) : zMet l D cI cZ cB cJ cR zKS ks ad Psi yX5_row (.code yX5_row cX5_row 4 (some .int)) 1 zc_1214 :=
  zmet_of hw 1 (by decide) 4000 zk_1214 (by decide) (by decide) (fun X => ⟨zg_RX5 X, zp_RX5 X, zl1_RX5 X, zl2_RX5 X, nilz, (List.forall_mem_cons.mpr ⟨zq_RX5_321 X (zM_1196 hw hm) (by decide) rfl rfl, nilz⟩)⟩)
set_option maxRecDepth 100000 in
theorem zk_1215 : zmeth zKS zuq zNS zm_1215 4000 = true := zqF (zdt_X5_row) (by decide +kernel)
theorem zM_1215 {l : Launch} {D : va_G} {cI cZ cB cJ cR : ClassId} {ks ad : List Nat} {Psi : va_W → Prop} (hw : zworld ks ad zuq zNS Psi) (hm : zMan l D cI cZ cB cJ cR ks ad Psi) : zMet l D cI cZ cB cJ cR zKS ks ad Psi yX5_row (.code yX5_row cX5_row 4 (some .int)) 1 zc_1215 :=
  zmet_of hw 1 (by decide) 4000 zk_1215 (by decide) (by decide) (fun X => ⟨zg_RX5 X, zp_RX5 X, zl1_RX5 X, zl2_RX5 X, nilz, (List.forall_mem_cons.mpr ⟨zq_RX5_321 X (zM_1197 hw hm) (by decide) rfl rfl, nilz⟩)⟩)
set_option maxRecDepth 100000 in
theorem zk_1216 : zmeth zKS zuq zNS zm_1216 4000 = true := zqF (zdt_X5_row) (by decide +kernel)
theorem zM_1216 {l : Launch} {D : va_G} {cI cZ cB cJ cR : ClassId} {ks ad : List Nat} {Psi : va_W → Prop} (hw : zworld ks ad zuq zNS Psi) (hm : zMan l D cI cZ cB cJ cR ks ad Psi) : zMet l D cI cZ cB cJ cR zKS ks ad Psi yX5_row (.code yX5_row cX5_row 4 (some .int)) 1 zc_1216 :=
  zmet_of hw 1 (by decide) 4000 zk_1216 (by decide) (by decide) (fun X => ⟨zg_RX5 X, zp_RX5 X, zl1_RX5 X, zl2_RX5 X, nilz, (List.forall_mem_cons.mpr ⟨zq_RX5_321 X (zM_1197 hw hm) (by decide) rfl rfl, nilz⟩)⟩)
set_option maxRecDepth 100000 in
theorem zk_1217 : zmeth zKS zuq zNS zm_1217 4000 = true := zqF (zdt_X5_row) (by decide +kernel)
theorem zM_1217 {l : Launch} {D : va_G} {cI cZ cB cJ cR : ClassId} {ks ad : List Nat} {Psi : va_W → Prop} (hw : zworld ks ad zuq zNS Psi) (hm : zMan l D cI cZ cB cJ cR ks ad Psi) : zMet l D cI cZ cB cJ cR zKS ks ad Psi yX5_row (.code yX5_row cX5_row 4 (some .int)) 1 zc_1217 :=
  zmet_of hw 1 (by decide) 4000 zk_1217 (by decide) (by decide) (fun X => ⟨zg_RX5 X, zp_RX5 X, zl1_RX5 X, zl2_RX5 X, nilz, (List.forall_mem_cons.mpr ⟨zq_RX5_321 X (zM_1197 hw hm) (by decide) rfl rfl, nilz⟩)⟩)
set_option maxRecDepth 100000 in
theorem zk_1218 : zmeth zKS zuq zNS zm_1218 4000 = true := zqF (zdt_X5_row) (by decide +kernel)
theorem zM_1218 {l : Launch} {D : va_G} {cI cZ cB cJ cR : ClassId} {ks ad : List Nat} {Psi : va_W → Prop} (hw : zworld ks ad zuq zNS Psi) (hm : zMan l D cI cZ cB cJ cR ks ad Psi) : zMet l D cI cZ cB cJ cR zKS ks ad Psi yX5_row (.code yX5_row cX5_row 4 (some .int)) 1 zc_1218 :=
  zmet_of hw 1 (by decide) 4000 zk_1218 (by decide) (by decide) (fun X => ⟨zg_RX5 X, zp_RX5 X, zl1_RX5 X, zl2_RX5 X, nilz, (List.forall_mem_cons.mpr ⟨zq_RX5_321 X (zM_1197 hw hm) (by decide) rfl rfl, nilz⟩)⟩)
set_option maxRecDepth 100000 in
theorem zk_1219 : zmeth zKS zuq zNS zm_1219 4000 = true := zqF (zdt_X5_row) (by decide +kernel)
theorem zM_1219 {l : Launch} {D : va_G} {cI cZ cB cJ cR : ClassId} {ks ad : List Nat} {Psi : va_W → Prop} (hw : zworld ks ad zuq zNS Psi) (hm : zMan l D cI cZ cB cJ cR ks ad Psi) : zMet l D cI cZ cB cJ cR zKS ks ad Psi yX5_row (.code yX5_row cX5_row 4 (some .int)) 1 zc_1219 :=
  zmet_of hw 1 (by decide) 4000 zk_1219 (by decide) (by decide) (fun X => ⟨zg_RX5 X, zp_RX5 X, zl1_RX5 X, zl2_RX5 X, nilz, (List.forall_mem_cons.mpr ⟨zq_RX5_321 X (zM_1197 hw hm) (by decide) rfl rfl, (List.forall_mem_cons.mpr ⟨zq_RX5_324 X (zM_1202 hw hm) (by decide) rfl rfl, nilz⟩)⟩)⟩)
set_option maxRecDepth 100000 in
theorem zk_1220 : zmeth zKS zuq zNS zm_1220 4000 = true := zqF (zdt_X5_row) (by decide +kernel)
theorem zM_1220 {l : Launch} {D : va_G} {cI cZ cB cJ cR : ClassId} {ks ad : List Nat} {Psi : va_W → Prop} (hw : zworld ks ad zuq zNS Psi) (hm : zMan l D cI cZ cB cJ cR ks ad Psi) : zMet l D cI cZ cB cJ cR zKS ks ad Psi yX5_row (.code yX5_row cX5_row 4 (some .int)) 1 zc_1220 :=
  zmet_of hw 1 (by decide) 4000 zk_1220 (by decide) (by decide) (fun X => ⟨zg_RX5 X, zp_RX5 X, zl1_RX5 X, zl2_RX5 X, nilz, (List.forall_mem_cons.mpr ⟨zq_RX5_321 X (zM_1197 hw hm) (by decide) rfl rfl, nilz⟩)⟩)
set_option maxRecDepth 100000 in
theorem zk_1221 : zmeth zKS zuq zNS zm_1221 4000 = true := zqF (zdt_X5_row) (by decide +kernel)
theorem zM_1221 {l : Launch} {D : va_G} {cI cZ cB cJ cR : ClassId} {ks ad : List Nat} {Psi : va_W → Prop} (hw : zworld ks ad zuq zNS Psi) (hm : zMan l D cI cZ cB cJ cR ks ad Psi) : zMet l D cI cZ cB cJ cR zKS ks ad Psi yX5_row (.code yX5_row cX5_row 4 (some .int)) 1 zc_1221 :=
  zmet_of hw 1 (by decide) 4000 zk_1221 (by decide) (by decide) (fun X => ⟨zg_RX5 X, zp_RX5 X, zl1_RX5 X, zl2_RX5 X, nilz, (List.forall_mem_cons.mpr ⟨zq_RX5_321 X (zM_1197 hw hm) (by decide) rfl rfl, nilz⟩)⟩)
set_option maxRecDepth 100000 in
theorem zk_1222 : zmeth zKS zuq zNS zm_1222 4000 = true := zqF (zdt_X5_row) (by decide +kernel)
theorem zM_1222 {l : Launch} {D : va_G} {cI cZ cB cJ cR : ClassId} {ks ad : List Nat} {Psi : va_W → Prop} (hw : zworld ks ad zuq zNS Psi) (hm : zMan l D cI cZ cB cJ cR ks ad Psi) : zMet l D cI cZ cB cJ cR zKS ks ad Psi yX5_row (.code yX5_row cX5_row 4 (some .int)) 1 zc_1222 :=
  zmet_of hw 1 (by decide) 4000 zk_1222 (by decide) (by decide) (fun X => ⟨zg_RX5 X, zp_RX5 X, zl1_RX5 X, zl2_RX5 X, nilz, (List.forall_mem_cons.mpr ⟨zq_RX5_321 X (zM_1197 hw hm) (by decide) rfl rfl, nilz⟩)⟩)
set_option maxRecDepth 100000 in
theorem zk_1223 : zmeth zKS zuq zNS zm_1223 4000 = true := zqF (zdt_X5_row) (by decide +kernel)
theorem zM_1223 {l : Launch} {D : va_G} {cI cZ cB cJ cR : ClassId} {ks ad : List Nat} {Psi : va_W → Prop} (hw : zworld ks ad zuq zNS Psi) (hm : zMan l D cI cZ cB cJ cR ks ad Psi) : zMet l D cI cZ cB cJ cR zKS ks ad Psi yX5_row (.code yX5_row cX5_row 4 (some .int)) 1 zc_1223 :=
  zmet_of hw 1 (by decide) 4000 zk_1223 (by decide) (by decide) (fun X => ⟨zg_RX5 X, zp_RX5 X, zl1_RX5 X, zl2_RX5 X, nilz, (List.forall_mem_cons.mpr ⟨zq_RX5_321 X (zM_1197 hw hm) (by decide) rfl rfl, nilz⟩)⟩)
set_option maxRecDepth 100000 in
theorem zk_1224 : zmeth zKS zuq zNS zm_1224 4000 = true := zqF (zdt_X5_row) (by decide +kernel)
theorem zM_1224 {l : Launch} {D : va_G} {cI cZ cB cJ cR : ClassId} {ks ad : List Nat} {Psi : va_W → Prop} (hw : zworld ks ad zuq zNS Psi) (hm : zMan l D cI cZ cB cJ cR ks ad Psi) : zMet l D cI cZ cB cJ cR zKS ks ad Psi yX5_row (.code yX5_row cX5_row 4 (some .int)) 1 zc_1224 :=
  zmet_of hw 1 (by decide) 4000 zk_1224 (by decide) (by decide) (fun X => ⟨zg_RX5 X, zp_RX5 X, zl1_RX5 X, zl2_RX5 X, nilz, (List.forall_mem_cons.mpr ⟨zq_RX5_321 X (zM_1198 hw hm) (by decide) rfl rfl, nilz⟩)⟩)
set_option maxRecDepth 100000 in
theorem zk_1225 : zmeth zKS zuq zNS zm_1225 4000 = true := zqF (zdt_X5_row) (by decide +kernel)
theorem zM_1225 {l : Launch} {D : va_G} {cI cZ cB cJ cR : ClassId} {ks ad : List Nat} {Psi : va_W → Prop} (hw : zworld ks ad zuq zNS Psi) (hm : zMan l D cI cZ cB cJ cR ks ad Psi) : zMet l D cI cZ cB cJ cR zKS ks ad Psi yX5_row (.code yX5_row cX5_row 4 (some .int)) 1 zc_1225 :=
  zmet_of hw 1 (by decide) 4000 zk_1225 (by decide) (by decide) (fun X => ⟨zg_RX5 X, zp_RX5 X, zl1_RX5 X, zl2_RX5 X, nilz, (List.forall_mem_cons.mpr ⟨zq_RX5_321 X (zM_1198 hw hm) (by decide) rfl rfl, nilz⟩)⟩)
set_option maxRecDepth 100000 in
theorem zk_1226 : zmeth zKS zuq zNS zm_1226 4000 = true := zqF (zdt_X5_row) (by decide +kernel)
theorem zM_1226 {l : Launch} {D : va_G} {cI cZ cB cJ cR : ClassId} {ks ad : List Nat} {Psi : va_W → Prop} (hw : zworld ks ad zuq zNS Psi) (hm : zMan l D cI cZ cB cJ cR ks ad Psi) : zMet l D cI cZ cB cJ cR zKS ks ad Psi yX5_row (.code yX5_row cX5_row 4 (some .int)) 1 zc_1226 :=
  zmet_of hw 1 (by decide) 4000 zk_1226 (by decide) (by decide) (fun X => ⟨zg_RX5 X, zp_RX5 X, zl1_RX5 X, zl2_RX5 X, nilz, (List.forall_mem_cons.mpr ⟨zq_RX5_321 X (zM_1198 hw hm) (by decide) rfl rfl, nilz⟩)⟩)
set_option maxRecDepth 100000 in
theorem zk_1227 : zmeth zKS zuq zNS zm_1227 4000 = true := zqF (zdt_X5_row) (by decide +kernel)
theorem zM_1227 {l : Launch} {D : va_G} {cI cZ cB cJ cR : ClassId} {ks ad : List Nat} {Psi : va_W → Prop} (hw : zworld ks ad zuq zNS Psi) (hm : zMan l D cI cZ cB cJ cR ks ad Psi) : zMet l D cI cZ cB cJ cR zKS ks ad Psi yX5_row (.code yX5_row cX5_row 4 (some .int)) 1 zc_1227 :=
  zmet_of hw 1 (by decide) 4000 zk_1227 (by decide) (by decide) (fun X => ⟨zg_RX5 X, zp_RX5 X, zl1_RX5 X, zl2_RX5 X, nilz, (List.forall_mem_cons.mpr ⟨zq_RX5_321 X (zM_1198 hw hm) (by decide) rfl rfl, nilz⟩)⟩)
set_option maxRecDepth 100000 in
theorem zk_1228 : zmeth zKS zuq zNS zm_1228 4000 = true := zqF (zdt_X5_row) (by decide +kernel)
theorem zM_1228 {l : Launch} {D : va_G} {cI cZ cB cJ cR : ClassId} {ks ad : List Nat} {Psi : va_W → Prop} (hw : zworld ks ad zuq zNS Psi) (hm : zMan l D cI cZ cB cJ cR ks ad Psi) : zMet l D cI cZ cB cJ cR zKS ks ad Psi yX5_row (.code yX5_row cX5_row 4 (some .int)) 1 zc_1228 :=
  zmet_of hw 1 (by decide) 4000 zk_1228 (by decide) (by decide) (fun X => ⟨zg_RX5 X, zp_RX5 X, zl1_RX5 X, zl2_RX5 X, nilz, (List.forall_mem_cons.mpr ⟨zq_RX5_321 X (zM_1198 hw hm) (by decide) rfl rfl, (List.forall_mem_cons.mpr ⟨zq_RX5_324 X (zM_1203 hw hm) (by decide) rfl rfl, nilz⟩)⟩)⟩)
set_option maxRecDepth 100000 in
theorem zk_1229 : zmeth zKS zuq zNS zm_1229 4000 = true := zqF (zdt_X5_row) (by decide +kernel)
theorem zM_1229 {l : Launch} {D : va_G} {cI cZ cB cJ cR : ClassId} {ks ad : List Nat} {Psi : va_W → Prop} (hw : zworld ks ad zuq zNS Psi) (hm : zMan l D cI cZ cB cJ cR ks ad Psi) : zMet l D cI cZ cB cJ cR zKS ks ad Psi yX5_row (.code yX5_row cX5_row 4 (some .int)) 1 zc_1229 :=
  zmet_of hw 1 (by decide) 4000 zk_1229 (by decide) (by decide) (fun X => ⟨zg_RX5 X, zp_RX5 X, zl1_RX5 X, zl2_RX5 X, nilz, (List.forall_mem_cons.mpr ⟨zq_RX5_321 X (zM_1198 hw hm) (by decide) rfl rfl, nilz⟩)⟩)
set_option maxRecDepth 100000 in
theorem zk_1230 : zmeth zKS zuq zNS zm_1230 4000 = true := zqF (zdt_X5_row) (by decide +kernel)
theorem zM_1230 {l : Launch} {D : va_G} {cI cZ cB cJ cR : ClassId} {ks ad : List Nat} {Psi : va_W → Prop} (hw : zworld ks ad zuq zNS Psi) (hm : zMan l D cI cZ cB cJ cR ks ad Psi) : zMet l D cI cZ cB cJ cR zKS ks ad Psi yX5_row (.code yX5_row cX5_row 4 (some .int)) 1 zc_1230 :=
  zmet_of hw 1 (by decide) 4000 zk_1230 (by decide) (by decide) (fun X => ⟨zg_RX5 X, zp_RX5 X, zl1_RX5 X, zl2_RX5 X, nilz, (List.forall_mem_cons.mpr ⟨zq_RX5_321 X (zM_1198 hw hm) (by decide) rfl rfl, nilz⟩)⟩)
set_option maxRecDepth 100000 in
theorem zk_1231 : zmeth zKS zuq zNS zm_1231 4000 = true := zqF (zdt_X5_row) (by decide +kernel)
theorem zM_1231 {l : Launch} {D : va_G} {cI cZ cB cJ cR : ClassId} {ks ad : List Nat} {Psi : va_W → Prop} (hw : zworld ks ad zuq zNS Psi) (hm : zMan l D cI cZ cB cJ cR ks ad Psi) : zMet l D cI cZ cB cJ cR zKS ks ad Psi yX5_row (.code yX5_row cX5_row 4 (some .int)) 1 zc_1231 :=
  zmet_of hw 1 (by decide) 4000 zk_1231 (by decide) (by decide) (fun X => ⟨zg_RX5 X, zp_RX5 X, zl1_RX5 X, zl2_RX5 X, nilz, (List.forall_mem_cons.mpr ⟨zq_RX5_321 X (zM_1198 hw hm) (by decide) rfl rfl, nilz⟩)⟩)
set_option maxRecDepth 100000 in
theorem zk_1232 : zmeth zKS zuq zNS zm_1232 4000 = true := zqF (zdt_X5_row) (by decide +kernel)
theorem zM_1232 {l : Launch} {D : va_G} {cI cZ cB cJ cR : ClassId} {ks ad : List Nat} {Psi : va_W → Prop} (hw : zworld ks ad zuq zNS Psi) (hm : zMan l D cI cZ cB cJ cR ks ad Psi) : zMet l D cI cZ cB cJ cR zKS ks ad Psi yX5_row (.code yX5_row cX5_row 4 (some .int)) 1 zc_1232 :=
  zmet_of hw 1 (by decide) 4000 zk_1232 (by decide) (by decide) (fun X => ⟨zg_RX5 X, zp_RX5 X, zl1_RX5 X, zl2_RX5 X, nilz, (List.forall_mem_cons.mpr ⟨zq_RX5_321 X (zM_1198 hw hm) (by decide) rfl rfl, nilz⟩)⟩)
set_option maxRecDepth 100000 in
theorem zk_1233 : zmeth zKS zuq zNS zm_1233 4000 = true := zqF (zdt_X5_row) (by decide +kernel)
theorem zM_1233 {l : Launch} {D : va_G} {cI cZ cB cJ cR : ClassId} {ks ad : List Nat} {Psi : va_W → Prop} (hw : zworld ks ad zuq zNS Psi) (hm : zMan l D cI cZ cB cJ cR ks ad Psi) : zMet l D cI cZ cB cJ cR zKS ks ad Psi yX5_row (.code yX5_row cX5_row 4 (some .int)) 1 zc_1233 :=
  zmet_of hw 1 (by decide) 4000 zk_1233 (by decide) (by decide) (fun X => ⟨zg_RX5 X, zp_RX5 X, zl1_RX5 X, zl2_RX5 X, nilz, (List.forall_mem_cons.mpr ⟨zq_RX5_321 X (zM_1199 hw hm) (by decide) rfl rfl, nilz⟩)⟩)
set_option maxRecDepth 100000 in
theorem zk_1234 : zmeth zKS zuq zNS zm_1234 4000 = true := zqF (zdt_X5_row) (by decide +kernel)
theorem zM_1234 {l : Launch} {D : va_G} {cI cZ cB cJ cR : ClassId} {ks ad : List Nat} {Psi : va_W → Prop} (hw : zworld ks ad zuq zNS Psi) (hm : zMan l D cI cZ cB cJ cR ks ad Psi) : zMet l D cI cZ cB cJ cR zKS ks ad Psi yX5_row (.code yX5_row cX5_row 4 (some .int)) 1 zc_1234 :=
  zmet_of hw 1 (by decide) 4000 zk_1234 (by decide) (by decide) (fun X => ⟨zg_RX5 X, zp_RX5 X, zl1_RX5 X, zl2_RX5 X, nilz, (List.forall_mem_cons.mpr ⟨zq_RX5_321 X (zM_1199 hw hm) (by decide) rfl rfl, nilz⟩)⟩)
set_option maxRecDepth 100000 in
theorem zk_1235 : zmeth zKS zuq zNS zm_1235 4000 = true := zqF (zdt_X5_row) (by decide +kernel)
theorem zM_1235 {l : Launch} {D : va_G} {cI cZ cB cJ cR : ClassId} {ks ad : List Nat} {Psi : va_W → Prop} (hw : zworld ks ad zuq zNS Psi) (hm : zMan l D cI cZ cB cJ cR ks ad Psi) : zMet l D cI cZ cB cJ cR zKS ks ad Psi yX5_row (.code yX5_row cX5_row 4 (some .int)) 1 zc_1235 :=
  zmet_of hw 1 (by decide) 4000 zk_1235 (by decide) (by decide) (fun X => ⟨zg_RX5 X, zp_RX5 X, zl1_RX5 X, zl2_RX5 X, nilz, (List.forall_mem_cons.mpr ⟨zq_RX5_321 X (zM_1199 hw hm) (by decide) rfl rfl, nilz⟩)⟩)
set_option maxRecDepth 100000 in
theorem zk_1236 : zmeth zKS zuq zNS zm_1236 4000 = true := zqF (zdt_X5_row) (by decide +kernel)
theorem zM_1236 {l : Launch} {D : va_G} {cI cZ cB cJ cR : ClassId} {ks ad : List Nat} {Psi : va_W → Prop} (hw : zworld ks ad zuq zNS Psi) (hm : zMan l D cI cZ cB cJ cR ks ad Psi) : zMet l D cI cZ cB cJ cR zKS ks ad Psi yX5_row (.code yX5_row cX5_row 4 (some .int)) 1 zc_1236 :=
  zmet_of hw 1 (by decide) 4000 zk_1236 (by decide) (by decide) (fun X => ⟨zg_RX5 X, zp_RX5 X, zl1_RX5 X, zl2_RX5 X, nilz, (List.forall_mem_cons.mpr ⟨zq_RX5_321 X (zM_1199 hw hm) (by decide) rfl rfl, nilz⟩)⟩)
set_option maxRecDepth 100000 in
theorem zk_1237 : zmeth zKS zuq zNS zm_1237 4000 = true := zqF (zdt_X5_row) (by decide +kernel)
theorem zM_1237 {l : Launch} {D : va_G} {cI cZ cB cJ cR : ClassId} {ks ad : List Nat} {Psi : va_W → Prop} (hw : zworld ks ad zuq zNS Psi) (hm : zMan l D cI cZ cB cJ cR ks ad Psi) : zMet l D cI cZ cB cJ cR zKS ks ad Psi yX5_row (.code yX5_row cX5_row 4 (some .int)) 1 zc_1237 :=
  zmet_of hw 1 (by decide) 4000 zk_1237 (by decide) (by decide) (fun X => ⟨zg_RX5 X, zp_RX5 X, zl1_RX5 X, zl2_RX5 X, nilz, (List.forall_mem_cons.mpr ⟨zq_RX5_321 X (zM_1199 hw hm) (by decide) rfl rfl, (List.forall_mem_cons.mpr ⟨zq_RX5_324 X (zM_1204 hw hm) (by decide) rfl rfl, nilz⟩)⟩)⟩)
set_option maxRecDepth 100000 in
theorem zk_1238 : zmeth zKS zuq zNS zm_1238 4000 = true := zqF (zdt_X5_row) (by decide +kernel)
theorem zM_1238 {l : Launch} {D : va_G} {cI cZ cB cJ cR : ClassId} {ks ad : List Nat} {Psi : va_W → Prop} (hw : zworld ks ad zuq zNS Psi) (hm : zMan l D cI cZ cB cJ cR ks ad Psi) : zMet l D cI cZ cB cJ cR zKS ks ad Psi yX5_row (.code yX5_row cX5_row 4 (some .int)) 1 zc_1238 :=
  zmet_of hw 1 (by decide) 4000 zk_1238 (by decide) (by decide) (fun X => ⟨zg_RX5 X, zp_RX5 X, zl1_RX5 X, zl2_RX5 X, nilz, (List.forall_mem_cons.mpr ⟨zq_RX5_321 X (zM_1199 hw hm) (by decide) rfl rfl, nilz⟩)⟩)
set_option maxRecDepth 100000 in
theorem zk_1239 : zmeth zKS zuq zNS zm_1239 4000 = true := zqF (zdt_X5_row) (by decide +kernel)
theorem zM_1239 {l : Launch} {D : va_G} {cI cZ cB cJ cR : ClassId} {ks ad : List Nat} {Psi : va_W → Prop} (hw : zworld ks ad zuq zNS Psi) (hm : zMan l D cI cZ cB cJ cR ks ad Psi) : zMet l D cI cZ cB cJ cR zKS ks ad Psi yX5_row (.code yX5_row cX5_row 4 (some .int)) 1 zc_1239 :=
  zmet_of hw 1 (by decide) 4000 zk_1239 (by decide) (by decide) (fun X => ⟨zg_RX5 X, zp_RX5 X, zl1_RX5 X, zl2_RX5 X, nilz, (List.forall_mem_cons.mpr ⟨zq_RX5_321 X (zM_1199 hw hm) (by decide) rfl rfl, nilz⟩)⟩)
set_option maxRecDepth 100000 in
theorem zk_1240 : zmeth zKS zuq zNS zm_1240 4000 = true := zqF (zdt_X5_row) (by decide +kernel)
theorem zM_1240 {l : Launch} {D : va_G} {cI cZ cB cJ cR : ClassId} {ks ad : List Nat} {Psi : va_W → Prop} (hw : zworld ks ad zuq zNS Psi) (hm : zMan l D cI cZ cB cJ cR ks ad Psi) : zMet l D cI cZ cB cJ cR zKS ks ad Psi yX5_row (.code yX5_row cX5_row 4 (some .int)) 1 zc_1240 :=
  zmet_of hw 1 (by decide) 4000 zk_1240 (by decide) (by decide) (fun X => ⟨zg_RX5 X, zp_RX5 X, zl1_RX5 X, zl2_RX5 X, nilz, (List.forall_mem_cons.mpr ⟨zq_RX5_321 X (zM_1199 hw hm) (by decide) rfl rfl, nilz⟩)⟩)
set_option maxRecDepth 100000 in
theorem zk_1241 : zmeth zKS zuq zNS zm_1241 4000 = true := zqF (zdt_X5_row) (by decide +kernel)
theorem zM_1241 {l : Launch} {D : va_G} {cI cZ cB cJ cR : ClassId} {ks ad : List Nat} {Psi : va_W → Prop} (hw : zworld ks ad zuq zNS Psi) (hm : zMan l D cI cZ cB cJ cR ks ad Psi) : zMet l D cI cZ cB cJ cR zKS ks ad Psi yX5_row (.code yX5_row cX5_row 4 (some .int)) 1 zc_1241 :=
  zmet_of hw 1 (by decide) 4000 zk_1241 (by decide) (by decide) (fun X => ⟨zg_RX5 X, zp_RX5 X, zl1_RX5 X, zl2_RX5 X, nilz, (List.forall_mem_cons.mpr ⟨zq_RX5_321 X (zM_1199 hw hm) (by decide) rfl rfl, nilz⟩)⟩)
set_option maxRecDepth 100000 in
theorem zk_1242 : zmeth zKS zuq zNS zm_1242 4000 = true := zqF (zdt_X5_row) (by decide +kernel)
theorem zM_1242 {l : Launch} {D : va_G} {cI cZ cB cJ cR : ClassId} {ks ad : List Nat} {Psi : va_W → Prop} (hw : zworld ks ad zuq zNS Psi) (hm : zMan l D cI cZ cB cJ cR ks ad Psi) : zMet l D cI cZ cB cJ cR zKS ks ad Psi yX5_row (.code yX5_row cX5_row 4 (some .int)) 1 zc_1242 :=
  zmet_of hw 1 (by decide) 4000 zk_1242 (by decide) (by decide) (fun X => ⟨zg_RX5 X, zp_RX5 X, zl1_RX5 X, zl2_RX5 X, nilz, (List.forall_mem_cons.mpr ⟨zq_RX5_321 X (zM_1200 hw hm) (by decide) rfl rfl, nilz⟩)⟩)
set_option maxRecDepth 100000 in
theorem zk_1250 : zmeth zKS zuq zNS zm_1250 4000 = true := zqF (zdt_X6_isSlot) (by decide +kernel)
theorem zM_1250 {l : Launch} {D : va_G} {cI cZ cB cJ cR : ClassId} {ks ad : List Nat} {Psi : va_W → Prop} (hw : zworld ks ad zuq zNS Psi) (hm : zMan l D cI cZ cB cJ cR ks ad Psi) : zMet l D cI cZ cB cJ cR zKS ks ad Psi yX6_isSlot (.code yX6_isSlot cX6_isSlot 1 (some .boolean)) 1 zc_1250 :=
  zmet_of hw 1 (by decide) 4000 zk_1250 (by decide) (by decide) (fun X => ⟨zg_RX6 X, zp_RX6 X, zl1_RX6 X, zl2_RX6 X, nilz, (List.forall_mem_cons.mpr ⟨zq_RX6_76 X (zM_1243 hw hm) (by decide) rfl, nilz⟩)⟩)
set_option maxRecDepth 100000 in
theorem zk_1251 : zmeth zKS zuq zNS zm_1251 4000 = true := zqF (zdt_X6_isSlot) (by decide +kernel)
theorem zM_1251 {l : Launch} {D : va_G} {cI cZ cB cJ cR : ClassId} {ks ad : List Nat} {Psi : va_W → Prop} (hw : zworld ks ad zuq zNS Psi) (hm : zMan l D cI cZ cB cJ cR ks ad Psi) : zMet l D cI cZ cB cJ cR zKS ks ad Psi yX6_isSlot (.code yX6_isSlot cX6_isSlot 1 (some .boolean)) 1 zc_1251 :=
  zmet_of hw 1 (by decide) 4000 zk_1251 (by decide) (by decide) (fun X => ⟨zg_RX6 X, zp_RX6 X, zl1_RX6 X, zl2_RX6 X, nilz, (List.forall_mem_cons.mpr ⟨zq_RX6_76 X (zM_1244 hw hm) (by decide) rfl, nilz⟩)⟩)
set_option maxRecDepth 100000 in
theorem zk_1252 : zmeth zKS zuq zNS zm_1252 4000 = true := zqF (zdt_X6_isSlot) (by decide +kernel)
theorem zM_1252 {l : Launch} {D : va_G} {cI cZ cB cJ cR : ClassId} {ks ad : List Nat} {Psi : va_W → Prop} (hw : zworld ks ad zuq zNS Psi) (hm : zMan l D cI cZ cB cJ cR ks ad Psi) : zMet l D cI cZ cB cJ cR zKS ks ad Psi yX6_isSlot (.code yX6_isSlot cX6_isSlot 1 (some .boolean)) 1 zc_1252 :=
  zmet_of hw 1 (by decide) 4000 zk_1252 (by decide) (by decide) (fun X => ⟨zg_RX6 X, zp_RX6 X, zl1_RX6 X, zl2_RX6 X, nilz, (List.forall_mem_cons.mpr ⟨zq_RX6_76 X (zM_1246 hw hm) (by decide) rfl, nilz⟩)⟩)
set_option maxRecDepth 100000 in
theorem zk_1253 : zmeth zKS zuq zNS zm_1253 4000 = true := zqF (zdt_X6_isSlot) (by decide +kernel)
theorem zM_1253 {l : Launch} {D : va_G} {cI cZ cB cJ cR : ClassId} {ks ad : List Nat} {Psi : va_W → Prop} (hw : zworld ks ad zuq zNS Psi) (hm : zMan l D cI cZ cB cJ cR ks ad Psi) : zMet l D cI cZ cB cJ cR zKS ks ad Psi yX6_isSlot (.code yX6_isSlot cX6_isSlot 1 (some .boolean)) 1 zc_1253 :=
  zmet_of hw 1 (by decide) 4000 zk_1253 (by decide) (by decide) (fun X => ⟨zg_RX6 X, zp_RX6 X, zl1_RX6 X, zl2_RX6 X, nilz, (List.forall_mem_cons.mpr ⟨zq_RX6_76 X (zM_1247 hw hm) (by decide) rfl, nilz⟩)⟩)
set_option maxRecDepth 100000 in
theorem zk_1254 : zmeth zKS zuq zNS zm_1254 4000 = true := zqF (zdt_X6_isSlot) (by decide +kernel)
theorem zM_1254 {l : Launch} {D : va_G} {cI cZ cB cJ cR : ClassId} {ks ad : List Nat} {Psi : va_W → Prop} (hw : zworld ks ad zuq zNS Psi) (hm : zMan l D cI cZ cB cJ cR ks ad Psi) : zMet l D cI cZ cB cJ cR zKS ks ad Psi yX6_isSlot (.code yX6_isSlot cX6_isSlot 1 (some .boolean)) 1 zc_1254 :=
  zmet_of hw 1 (by decide) 4000 zk_1254 (by decide) (by decide) (fun X => ⟨zg_RX6 X, zp_RX6 X, zl1_RX6 X, zl2_RX6 X, nilz, (List.forall_mem_cons.mpr ⟨zq_RX6_76 X (zM_1248 hw hm) (by decide) rfl, nilz⟩)⟩)
set_option maxRecDepth 100000 in
theorem zk_1255 : zmeth zKS zuq zNS zm_1255 4000 = true := zqF (zdt_X6_isSlot) (by decide +kernel)
theorem zM_1255 {l : Launch} {D : va_G} {cI cZ cB cJ cR : ClassId} {ks ad : List Nat} {Psi : va_W → Prop} (hw : zworld ks ad zuq zNS Psi) (hm : zMan l D cI cZ cB cJ cR ks ad Psi) : zMet l D cI cZ cB cJ cR zKS ks ad Psi yX6_isSlot (.code yX6_isSlot cX6_isSlot 1 (some .boolean)) 1 zc_1255 :=
  zmet_of hw 1 (by decide) 4000 zk_1255 (by decide) (by decide) (fun X => ⟨zg_RX6 X, zp_RX6 X, zl1_RX6 X, zl2_RX6 X, nilz, (List.forall_mem_cons.mpr ⟨zq_RX6_76 X (zM_1249 hw hm) (by decide) rfl, nilz⟩)⟩)
set_option maxRecDepth 100000 in
theorem zk_1256 : zmeth zKS zuq zNS zm_1256 4000 = true := zqF (zdt_X6_row) (by decide +kernel)
theorem zM_1256 {l : Launch} {D : va_G} {cI cZ cB cJ cR : ClassId} {ks ad : List Nat} {Psi : va_W → Prop} (hw : zworld ks ad zuq zNS Psi) (hm : zMan l D cI cZ cB cJ cR ks ad Psi) : zMet l D cI cZ cB cJ cR zKS ks ad Psi yX6_row (.code yX6_row cX6_row 5 (some .int)) 2 zc_1256 :=
  zmet_of hw 2 (by decide) 4000 zk_1256 (by decide) (by decide) (fun X => ⟨zg_RX6 X, zp_RX6 X, zl1_RX6 X, zl2_RX6 X, nilz, (List.forall_mem_cons.mpr ⟨zq_RX6_80 X (zM_1250 hw hm) (by decide) rfl, nilz⟩)⟩)
set_option maxRecDepth 100000 in
theorem zk_1257 : zmeth zKS zuq zNS zm_1257 4000 = true := zqF (zdt_X6_row) (by decide +kernel)
theorem zM_1257 {l : Launch} {D : va_G} {cI cZ cB cJ cR : ClassId} {ks ad : List Nat} {Psi : va_W → Prop} (hw : zworld ks ad zuq zNS Psi) (hm : zMan l D cI cZ cB cJ cR ks ad Psi) : zMet l D cI cZ cB cJ cR zKS ks ad Psi yX6_row (.code yX6_row cX6_row 5 (some .int)) 2 zc_1257 :=
  zmet_of hw 2 (by decide) 4000 zk_1257 (by decide) (by decide) (fun X => ⟨zg_RX6 X, zp_RX6 X, zl1_RX6 X, zl2_RX6 X, nilz, (List.forall_mem_cons.mpr ⟨zq_RX6_76 X (zM_1243 hw hm) (by decide) rfl, (List.forall_mem_cons.mpr ⟨zq_RX6_80 X (zM_1251 hw hm) (by decide) rfl, nilz⟩)⟩)⟩)
set_option maxRecDepth 100000 in
theorem zk_1258 : zmeth zKS zuq zNS zm_1258 4000 = true := zqF (zdt_X6_row) (by decide +kernel)
theorem zM_1258 {l : Launch} {D : va_G} {cI cZ cB cJ cR : ClassId} {ks ad : List Nat} {Psi : va_W → Prop} (hw : zworld ks ad zuq zNS Psi) (hm : zMan l D cI cZ cB cJ cR ks ad Psi) : zMet l D cI cZ cB cJ cR zKS ks ad Psi yX6_row (.code yX6_row cX6_row 5 (some .int)) 2 zc_1258 :=
  zmet_of hw 2 (by decide) 4000 zk_1258 (by decide) (by decide) (fun X => ⟨zg_RX6 X, zp_RX6 X, zl1_RX6 X, zl2_RX6 X, nilz, (List.forall_mem_cons.mpr ⟨zq_RX6_76 X (zM_1243 hw hm) (by decide) rfl, (List.forall_mem_cons.mpr ⟨zq_RX6_80 X (zM_1251 hw hm) (by decide) rfl, nilz⟩)⟩)⟩)
set_option maxRecDepth 100000 in
theorem zk_1259 : zmeth zKS zuq zNS zm_1259 4000 = true := zqF (zdt_X6_row) (by decide +kernel)
theorem zM_1259 {l : Launch} {D : va_G} {cI cZ cB cJ cR : ClassId} {ks ad : List Nat} {Psi : va_W → Prop} (hw : zworld ks ad zuq zNS Psi) (hm : zMan l D cI cZ cB cJ cR ks ad Psi) : zMet l D cI cZ cB cJ cR zKS ks ad Psi yX6_row (.code yX6_row cX6_row 5 (some .int)) 2 zc_1259 :=
  zmet_of hw 2 (by decide) 4000 zk_1259 (by decide) (by decide) (fun X => ⟨zg_RX6 X, zp_RX6 X, zl1_RX6 X, zl2_RX6 X, nilz, (List.forall_mem_cons.mpr ⟨zq_RX6_76 X (zM_1243 hw hm) (by decide) rfl, (List.forall_mem_cons.mpr ⟨zq_RX6_80 X (zM_1251 hw hm) (by decide) rfl, nilz⟩)⟩)⟩)
set_option maxRecDepth 100000 in
theorem zk_1260 : zmeth zKS zuq zNS zm_1260 4000 = true := zqF (zdt_X6_row) (by decide +kernel)
theorem zM_1260 {l : Launch} {D : va_G} {cI cZ cB cJ cR : ClassId} {ks ad : List Nat} {Psi : va_W → Prop} (hw : zworld ks ad zuq zNS Psi) (hm : zMan l D cI cZ cB cJ cR ks ad Psi) : zMet l D cI cZ cB cJ cR zKS ks ad Psi yX6_row (.code yX6_row cX6_row 5 (some .int)) 2 zc_1260 :=
  zmet_of hw 2 (by decide) 4000 zk_1260 (by decide) (by decide) (fun X => ⟨zg_RX6 X, zp_RX6 X, zl1_RX6 X, zl2_RX6 X, nilz, (List.forall_mem_cons.mpr ⟨zq_RX6_76 X (zM_1245 hw hm) (by decide) rfl, (List.forall_mem_cons.mpr ⟨zq_RX6_80 X (zM_1251 hw hm) (by decide) rfl, nilz⟩)⟩)⟩)
set_option maxRecDepth 100000 in
theorem zk_1261 : zmeth zKS zuq zNS zm_1261 4000 = true := zqF (zdt_X6_row) (by decide +kernel)
theorem zM_1261 {l : Launch} {D : va_G} {cI cZ cB cJ cR : ClassId} {ks ad : List Nat} {Psi : va_W → Prop} (hw : zworld ks ad zuq zNS Psi) (hm : zMan l D cI cZ cB cJ cR ks ad Psi) : zMet l D cI cZ cB cJ cR zKS ks ad Psi yX6_row (.code yX6_row cX6_row 5 (some .int)) 2 zc_1261 :=
  zmet_of hw 2 (by decide) 4000 zk_1261 (by decide) (by decide) (fun X => ⟨zg_RX6 X, zp_RX6 X, zl1_RX6 X, zl2_RX6 X, nilz, (List.forall_mem_cons.mpr ⟨zq_RX6_76 X (zM_1245 hw hm) (by decide) rfl, (List.forall_mem_cons.mpr ⟨zq_RX6_80 X (zM_1251 hw hm) (by decide) rfl, nilz⟩)⟩)⟩)
set_option maxRecDepth 100000 in
theorem zk_1262 : zmeth zKS zuq zNS zm_1262 4000 = true := zqF (zdt_X6_row) (by decide +kernel)
theorem zM_1262 {l : Launch} {D : va_G} {cI cZ cB cJ cR : ClassId} {ks ad : List Nat} {Psi : va_W → Prop} (hw : zworld ks ad zuq zNS Psi) (hm : zMan l D cI cZ cB cJ cR ks ad Psi) : zMet l D cI cZ cB cJ cR zKS ks ad Psi yX6_row (.code yX6_row cX6_row 5 (some .int)) 2 zc_1262 :=
  zmet_of hw 2 (by decide) 4000 zk_1262 (by decide) (by decide) (fun X => ⟨zg_RX6 X, zp_RX6 X, zl1_RX6 X, zl2_RX6 X, nilz, (List.forall_mem_cons.mpr ⟨zq_RX6_76 X (zM_1245 hw hm) (by decide) rfl, (List.forall_mem_cons.mpr ⟨zq_RX6_80 X (zM_1251 hw hm) (by decide) rfl, nilz⟩)⟩)⟩)
set_option maxRecDepth 100000 in
theorem zk_1263 : zmeth zKS zuq zNS zm_1263 4000 = true := zqF (zdt_X6_row) (by decide +kernel)
theorem zM_1263 {l : Launch} {D : va_G} {cI cZ cB cJ cR : ClassId} {ks ad : List Nat} {Psi : va_W → Prop} (hw : zworld ks ad zuq zNS Psi) (hm : zMan l D cI cZ cB cJ cR ks ad Psi) : zMet l D cI cZ cB cJ cR zKS ks ad Psi yX6_row (.code yX6_row cX6_row 5 (some .int)) 2 zc_1263 :=
  zmet_of hw 2 (by decide) 4000 zk_1263 (by decide) (by decide) (fun X => ⟨zg_RX6 X, zp_RX6 X, zl1_RX6 X, zl2_RX6 X, nilz, (List.forall_mem_cons.mpr ⟨zq_RX6_76 X (zM_1249 hw hm) (by decide) rfl, (List.forall_mem_cons.mpr ⟨zq_RX6_80 X (zM_1251 hw hm) (by decide) rfl, nilz⟩)⟩)⟩)
set_option maxRecDepth 100000 in
theorem zk_1264 : zmeth zKS zuq zNS zm_1264 4000 = true := zqF (zdt_X6_row) (by decide +kernel)
theorem zM_1264 {l : Launch} {D : va_G} {cI cZ cB cJ cR : ClassId} {ks ad : List Nat} {Psi : va_W → Prop} (hw : zworld ks ad zuq zNS Psi) (hm : zMan l D cI cZ cB cJ cR ks ad Psi) : zMet l D cI cZ cB cJ cR zKS ks ad Psi yX6_row (.code yX6_row cX6_row 5 (some .int)) 2 zc_1264 :=
  zmet_of hw 2 (by decide) 4000 zk_1264 (by decide) (by decide) (fun X => ⟨zg_RX6 X, zp_RX6 X, zl1_RX6 X, zl2_RX6 X, nilz, (List.forall_mem_cons.mpr ⟨zq_RX6_76 X (zM_1249 hw hm) (by decide) rfl, (List.forall_mem_cons.mpr ⟨zq_RX6_80 X (zM_1251 hw hm) (by decide) rfl, nilz⟩)⟩)⟩)
set_option maxRecDepth 100000 in
theorem zk_1265 : zmeth zKS zuq zNS zm_1265 4000 = true := zqF (zdt_X6_row) (by decide +kernel)
theorem zM_1265 {l : Launch} {D : va_G} {cI cZ cB cJ cR : ClassId} {ks ad : List Nat} {Psi : va_W → Prop} (hw : zworld ks ad zuq zNS Psi) (hm : zMan l D cI cZ cB cJ cR ks ad Psi) : zMet l D cI cZ cB cJ cR zKS ks ad Psi yX6_row (.code yX6_row cX6_row 5 (some .int)) 2 zc_1265 :=
  zmet_of hw 2 (by decide) 4000 zk_1265 (by decide) (by decide) (fun X => ⟨zg_RX6 X, zp_RX6 X, zl1_RX6 X, zl2_RX6 X, nilz, (List.forall_mem_cons.mpr ⟨zq_RX6_76 X (zM_1249 hw hm) (by decide) rfl, (List.forall_mem_cons.mpr ⟨zq_RX6_80 X (zM_1251 hw hm) (by decide) rfl, nilz⟩)⟩)⟩)
set_option maxRecDepth 100000 in
theorem zk_1266 : zmeth zKS zuq zNS zm_1266 4000 = true := zqF (zdt_X6_row) (by decide +kernel)
theorem zM_1266 {l : Launch} {D : va_G} {cI cZ cB cJ cR : ClassId} {ks ad : List Nat} {Psi : va_W → Prop} (hw : zworld ks ad zuq zNS Psi) (hm : zMan l D cI cZ cB cJ cR ks ad Psi) : zMet l D cI cZ cB cJ cR zKS ks ad Psi yX6_row (.code yX6_row cX6_row 5 (some .int)) 2 zc_1266 :=
  zmet_of hw 2 (by decide) 4000 zk_1266 (by decide) (by decide) (fun X => ⟨zg_RX6 X, zp_RX6 X, zl1_RX6 X, zl2_RX6 X, nilz, (List.forall_mem_cons.mpr ⟨zq_RX6_76 X (zM_1243 hw hm) (by decide) rfl, (List.forall_mem_cons.mpr ⟨zq_RX6_80 X (zM_1252 hw hm) (by decide) rfl, nilz⟩)⟩)⟩)
set_option maxRecDepth 100000 in
theorem zk_1267 : zmeth zKS zuq zNS zm_1267 4000 = true := zqF (zdt_X6_row) (by decide +kernel)
theorem zM_1267 {l : Launch} {D : va_G} {cI cZ cB cJ cR : ClassId} {ks ad : List Nat} {Psi : va_W → Prop} (hw : zworld ks ad zuq zNS Psi) (hm : zMan l D cI cZ cB cJ cR ks ad Psi) : zMet l D cI cZ cB cJ cR zKS ks ad Psi yX6_row (.code yX6_row cX6_row 5 (some .int)) 2 zc_1267 :=
  zmet_of hw 2 (by decide) 4000 zk_1267 (by decide) (by decide) (fun X => ⟨zg_RX6 X, zp_RX6 X, zl1_RX6 X, zl2_RX6 X, nilz, (List.forall_mem_cons.mpr ⟨zq_RX6_76 X (zM_1243 hw hm) (by decide) rfl, (List.forall_mem_cons.mpr ⟨zq_RX6_80 X (zM_1252 hw hm) (by decide) rfl, nilz⟩)⟩)⟩)
set_option maxRecDepth 100000 in
theorem zk_1268 : zmeth zKS zuq zNS zm_1268 4000 = true := zqF (zdt_X6_row) (by decide +kernel)
theorem zM_1268 {l : Launch} {D : va_G} {cI cZ cB cJ cR : ClassId} {ks ad : List Nat} {Psi : va_W → Prop} (hw : zworld ks ad zuq zNS Psi) (hm : zMan l D cI cZ cB cJ cR ks ad Psi) : zMet l D cI cZ cB cJ cR zKS ks ad Psi yX6_row (.code yX6_row cX6_row 5 (some .int)) 2 zc_1268 :=
  zmet_of hw 2 (by decide) 4000 zk_1268 (by decide) (by decide) (fun X => ⟨zg_RX6 X, zp_RX6 X, zl1_RX6 X, zl2_RX6 X, nilz, (List.forall_mem_cons.mpr ⟨zq_RX6_76 X (zM_1243 hw hm) (by decide) rfl, (List.forall_mem_cons.mpr ⟨zq_RX6_80 X (zM_1252 hw hm) (by decide) rfl, nilz⟩)⟩)⟩)
set_option maxRecDepth 100000 in
theorem zk_1269 : zmeth zKS zuq zNS zm_1269 4000 = true := zqF (zdt_X6_row) (by decide +kernel)
theorem zM_1269 {l : Launch} {D : va_G} {cI cZ cB cJ cR : ClassId} {ks ad : List Nat} {Psi : va_W → Prop} (hw : zworld ks ad zuq zNS Psi) (hm : zMan l D cI cZ cB cJ cR ks ad Psi) : zMet l D cI cZ cB cJ cR zKS ks ad Psi yX6_row (.code yX6_row cX6_row 5 (some .int)) 2 zc_1269 :=
  zmet_of hw 2 (by decide) 4000 zk_1269 (by decide) (by decide) (fun X => ⟨zg_RX6 X, zp_RX6 X, zl1_RX6 X, zl2_RX6 X, nilz, (List.forall_mem_cons.mpr ⟨zq_RX6_76 X (zM_1245 hw hm) (by decide) rfl, (List.forall_mem_cons.mpr ⟨zq_RX6_80 X (zM_1252 hw hm) (by decide) rfl, nilz⟩)⟩)⟩)
set_option maxRecDepth 100000 in
theorem zk_1270 : zmeth zKS zuq zNS zm_1270 4000 = true := zqF (zdt_X6_row) (by decide +kernel)
theorem zM_1270 {l : Launch} {D : va_G} {cI cZ cB cJ cR : ClassId} {ks ad : List Nat} {Psi : va_W → Prop} (hw : zworld ks ad zuq zNS Psi) (hm : zMan l D cI cZ cB cJ cR ks ad Psi) : zMet l D cI cZ cB cJ cR zKS ks ad Psi yX6_row (.code yX6_row cX6_row 5 (some .int)) 2 zc_1270 :=
  zmet_of hw 2 (by decide) 4000 zk_1270 (by decide) (by decide) (fun X => ⟨zg_RX6 X, zp_RX6 X, zl1_RX6 X, zl2_RX6 X, nilz, (List.forall_mem_cons.mpr ⟨zq_RX6_76 X (zM_1245 hw hm) (by decide) rfl, (List.forall_mem_cons.mpr ⟨zq_RX6_80 X (zM_1252 hw hm) (by decide) rfl, nilz⟩)⟩)⟩)
set_option maxRecDepth 100000 in
theorem zk_1271 : zmeth zKS zuq zNS zm_1271 4000 = true := zqF (zdt_X6_row) (by decide +kernel)
theorem zM_1271 {l : Launch} {D : va_G} {cI cZ cB cJ cR : ClassId} {ks ad : List Nat} {Psi : va_W → Prop} (hw : zworld ks ad zuq zNS Psi) (hm : zMan l D cI cZ cB cJ cR ks ad Psi) : zMet l D cI cZ cB cJ cR zKS ks ad Psi yX6_row (.code yX6_row cX6_row 5 (some .int)) 2 zc_1271 :=
  zmet_of hw 2 (by decide) 4000 zk_1271 (by decide) (by decide) (fun X => ⟨zg_RX6 X, zp_RX6 X, zl1_RX6 X, zl2_RX6 X, nilz, (List.forall_mem_cons.mpr ⟨zq_RX6_76 X (zM_1245 hw hm) (by decide) rfl, (List.forall_mem_cons.mpr ⟨zq_RX6_80 X (zM_1252 hw hm) (by decide) rfl, nilz⟩)⟩)⟩)
set_option maxRecDepth 100000 in
theorem zk_1272 : zmeth zKS zuq zNS zm_1272 4000 = true := zqF (zdt_X6_row) (by decide +kernel)
theorem zM_1272 {l : Launch} {D : va_G} {cI cZ cB cJ cR : ClassId} {ks ad : List Nat} {Psi : va_W → Prop} (hw : zworld ks ad zuq zNS Psi) (hm : zMan l D cI cZ cB cJ cR ks ad Psi) : zMet l D cI cZ cB cJ cR zKS ks ad Psi yX6_row (.code yX6_row cX6_row 5 (some .int)) 2 zc_1272 :=
  zmet_of hw 2 (by decide) 4000 zk_1272 (by decide) (by decide) (fun X => ⟨zg_RX6 X, zp_RX6 X, zl1_RX6 X, zl2_RX6 X, nilz, (List.forall_mem_cons.mpr ⟨zq_RX6_76 X (zM_1249 hw hm) (by decide) rfl, (List.forall_mem_cons.mpr ⟨zq_RX6_80 X (zM_1252 hw hm) (by decide) rfl, nilz⟩)⟩)⟩)
set_option maxRecDepth 100000 in
theorem zk_1273 : zmeth zKS zuq zNS zm_1273 4000 = true := zqF (zdt_X6_row) (by decide +kernel)
theorem zM_1273 {l : Launch} {D : va_G} {cI cZ cB cJ cR : ClassId} {ks ad : List Nat} {Psi : va_W → Prop} (hw : zworld ks ad zuq zNS Psi) (hm : zMan l D cI cZ cB cJ cR ks ad Psi) : zMet l D cI cZ cB cJ cR zKS ks ad Psi yX6_row (.code yX6_row cX6_row 5 (some .int)) 2 zc_1273 :=
  zmet_of hw 2 (by decide) 4000 zk_1273 (by decide) (by decide) (fun X => ⟨zg_RX6 X, zp_RX6 X, zl1_RX6 X, zl2_RX6 X, nilz, (List.forall_mem_cons.mpr ⟨zq_RX6_76 X (zM_1249 hw hm) (by decide) rfl, (List.forall_mem_cons.mpr ⟨zq_RX6_80 X (zM_1252 hw hm) (by decide) rfl, nilz⟩)⟩)⟩)
set_option maxRecDepth 100000 in
theorem zk_1274 : zmeth zKS zuq zNS zm_1274 4000 = true := zqF (zdt_X6_row) (by decide +kernel)
theorem zM_1274 {l : Launch} {D : va_G} {cI cZ cB cJ cR : ClassId} {ks ad : List Nat} {Psi : va_W → Prop} (hw : zworld ks ad zuq zNS Psi) (hm : zMan l D cI cZ cB cJ cR ks ad Psi) : zMet l D cI cZ cB cJ cR zKS ks ad Psi yX6_row (.code yX6_row cX6_row 5 (some .int)) 2 zc_1274 :=
  zmet_of hw 2 (by decide) 4000 zk_1274 (by decide) (by decide) (fun X => ⟨zg_RX6 X, zp_RX6 X, zl1_RX6 X, zl2_RX6 X, nilz, (List.forall_mem_cons.mpr ⟨zq_RX6_76 X (zM_1249 hw hm) (by decide) rfl, (List.forall_mem_cons.mpr ⟨zq_RX6_80 X (zM_1252 hw hm) (by decide) rfl, nilz⟩)⟩)⟩)
set_option maxRecDepth 100000 in
theorem zk_1275 : zmeth zKS zuq zNS zm_1275 4000 = true := zqF (zdt_X6_row) (by decide +kernel)
theorem zM_1275 {l : Launch} {D : va_G} {cI cZ cB cJ cR : ClassId} {ks ad : List Nat} {Psi : va_W → Prop} (hw : zworld ks ad zuq zNS Psi) (hm : zMan l D cI cZ cB cJ cR ks ad Psi) : zMet l D cI cZ cB cJ cR zKS ks ad Psi yX6_row (.code yX6_row cX6_row 5 (some .int)) 2 zc_1275 :=
  zmet_of hw 2 (by decide) 4000 zk_1275 (by decide) (by decide) (fun X => ⟨zg_RX6 X, zp_RX6 X, zl1_RX6 X, zl2_RX6 X, nilz, (List.forall_mem_cons.mpr ⟨zq_RX6_76 X (zM_1243 hw hm) (by decide) rfl, (List.forall_mem_cons.mpr ⟨zq_RX6_80 X (zM_1253 hw hm) (by decide) rfl, nilz⟩)⟩)⟩)
set_option maxRecDepth 100000 in
theorem zk_1276 : zmeth zKS zuq zNS zm_1276 4000 = true := zqF (zdt_X6_row) (by decide +kernel)
theorem zM_1276 {l : Launch} {D : va_G} {cI cZ cB cJ cR : ClassId} {ks ad : List Nat} {Psi : va_W → Prop} (hw : zworld ks ad zuq zNS Psi) (hm : zMan l D cI cZ cB cJ cR ks ad Psi) : zMet l D cI cZ cB cJ cR zKS ks ad Psi yX6_row (.code yX6_row cX6_row 5 (some .int)) 2 zc_1276 :=
  zmet_of hw 2 (by decide) 4000 zk_1276 (by decide) (by decide) (fun X => ⟨zg_RX6 X, zp_RX6 X, zl1_RX6 X, zl2_RX6 X, nilz, (List.forall_mem_cons.mpr ⟨zq_RX6_76 X (zM_1243 hw hm) (by decide) rfl, (List.forall_mem_cons.mpr ⟨zq_RX6_80 X (zM_1253 hw hm) (by decide) rfl, nilz⟩)⟩)⟩)
set_option maxRecDepth 100000 in
theorem zk_1277 : zmeth zKS zuq zNS zm_1277 4000 = true := zqF (zdt_X6_row) (by decide +kernel)
theorem zM_1277 {l : Launch} {D : va_G} {cI cZ cB cJ cR : ClassId} {ks ad : List Nat} {Psi : va_W → Prop} (hw : zworld ks ad zuq zNS Psi) (hm : zMan l D cI cZ cB cJ cR ks ad Psi) : zMet l D cI cZ cB cJ cR zKS ks ad Psi yX6_row (.code yX6_row cX6_row 5 (some .int)) 2 zc_1277 :=
  zmet_of hw 2 (by decide) 4000 zk_1277 (by decide) (by decide) (fun X => ⟨zg_RX6 X, zp_RX6 X, zl1_RX6 X, zl2_RX6 X, nilz, (List.forall_mem_cons.mpr ⟨zq_RX6_76 X (zM_1243 hw hm) (by decide) rfl, (List.forall_mem_cons.mpr ⟨zq_RX6_80 X (zM_1253 hw hm) (by decide) rfl, nilz⟩)⟩)⟩)
set_option maxRecDepth 100000 in
theorem zk_1278 : zmeth zKS zuq zNS zm_1278 4000 = true := zqF (zdt_X6_row) (by decide +kernel)
theorem zM_1278 {l : Launch} {D : va_G} {cI cZ cB cJ cR : ClassId} {ks ad : List Nat} {Psi : va_W → Prop} (hw : zworld ks ad zuq zNS Psi) (hm : zMan l D cI cZ cB cJ cR ks ad Psi) : zMet l D cI cZ cB cJ cR zKS ks ad Psi yX6_row (.code yX6_row cX6_row 5 (some .int)) 2 zc_1278 :=
  zmet_of hw 2 (by decide) 4000 zk_1278 (by decide) (by decide) (fun X => ⟨zg_RX6 X, zp_RX6 X, zl1_RX6 X, zl2_RX6 X, nilz, (List.forall_mem_cons.mpr ⟨zq_RX6_76 X (zM_1245 hw hm) (by decide) rfl, (List.forall_mem_cons.mpr ⟨zq_RX6_80 X (zM_1253 hw hm) (by decide) rfl, nilz⟩)⟩)⟩)
set_option maxRecDepth 100000 in
theorem zk_1279 : zmeth zKS zuq zNS zm_1279 4000 = true := zqF (zdt_X6_row) (by decide +kernel)
theorem zM_1279 {l : Launch} {D : va_G} {cI cZ cB cJ cR : ClassId} {ks ad : List Nat} {Psi : va_W → Prop} (hw : zworld ks ad zuq zNS Psi) (hm : zMan l D cI cZ cB cJ cR ks ad Psi) : zMet l D cI cZ cB cJ cR zKS ks ad Psi yX6_row (.code yX6_row cX6_row 5 (some .int)) 2 zc_1279 :=
  zmet_of hw 2 (by decide) 4000 zk_1279 (by decide) (by decide) (fun X => ⟨zg_RX6 X, zp_RX6 X, zl1_RX6 X, zl2_RX6 X, nilz, (List.forall_mem_cons.mpr ⟨zq_RX6_76 X (zM_1245 hw hm) (by decide) rfl, (List.forall_mem_cons.mpr ⟨zq_RX6_80 X (zM_1253 hw hm) (by decide) rfl, nilz⟩)⟩)⟩)
set_option maxRecDepth 100000 in
theorem zk_1280 : zmeth zKS zuq zNS zm_1280 4000 = true := zqF (zdt_X6_row) (by decide +kernel)
theorem zM_1280 {l : Launch} {D : va_G} {cI cZ cB cJ cR : ClassId} {ks ad : List Nat} {Psi : va_W → Prop} (hw : zworld ks ad zuq zNS Psi) (hm : zMan l D cI cZ cB cJ cR ks ad Psi) : zMet l D cI cZ cB cJ cR zKS ks ad Psi yX6_row (.code yX6_row cX6_row 5 (some .int)) 2 zc_1280 :=
  zmet_of hw 2 (by decide) 4000 zk_1280 (by decide) (by decide) (fun X => ⟨zg_RX6 X, zp_RX6 X, zl1_RX6 X, zl2_RX6 X, nilz, (List.forall_mem_cons.mpr ⟨zq_RX6_76 X (zM_1245 hw hm) (by decide) rfl, (List.forall_mem_cons.mpr ⟨zq_RX6_80 X (zM_1253 hw hm) (by decide) rfl, nilz⟩)⟩)⟩)
set_option maxRecDepth 100000 in
theorem zk_1281 : zmeth zKS zuq zNS zm_1281 4000 = true := zqF (zdt_X6_row) (by decide +kernel)
theorem zM_1281 {l : Launch} {D : va_G} {cI cZ cB cJ cR : ClassId} {ks ad : List Nat} {Psi : va_W → Prop} (hw : zworld ks ad zuq zNS Psi) (hm : zMan l D cI cZ cB cJ cR ks ad Psi) : zMet l D cI cZ cB cJ cR zKS ks ad Psi yX6_row (.code yX6_row cX6_row 5 (some .int)) 2 zc_1281 :=
  zmet_of hw 2 (by decide) 4000 zk_1281 (by decide) (by decide) (fun X => ⟨zg_RX6 X, zp_RX6 X, zl1_RX6 X, zl2_RX6 X, nilz, (List.forall_mem_cons.mpr ⟨zq_RX6_76 X (zM_1249 hw hm) (by decide) rfl, (List.forall_mem_cons.mpr ⟨zq_RX6_80 X (zM_1253 hw hm) (by decide) rfl, nilz⟩)⟩)⟩)
set_option maxRecDepth 100000 in
theorem zk_1282 : zmeth zKS zuq zNS zm_1282 4000 = true := zqF (zdt_X6_row) (by decide +kernel)
theorem zM_1282 {l : Launch} {D : va_G} {cI cZ cB cJ cR : ClassId} {ks ad : List Nat} {Psi : va_W → Prop} (hw : zworld ks ad zuq zNS Psi) (hm : zMan l D cI cZ cB cJ cR ks ad Psi) : zMet l D cI cZ cB cJ cR zKS ks ad Psi yX6_row (.code yX6_row cX6_row 5 (some .int)) 2 zc_1282 :=
  zmet_of hw 2 (by decide) 4000 zk_1282 (by decide) (by decide) (fun X => ⟨zg_RX6 X, zp_RX6 X, zl1_RX6 X, zl2_RX6 X, nilz, (List.forall_mem_cons.mpr ⟨zq_RX6_76 X (zM_1249 hw hm) (by decide) rfl, (List.forall_mem_cons.mpr ⟨zq_RX6_80 X (zM_1253 hw hm) (by decide) rfl, nilz⟩)⟩)⟩)
set_option maxRecDepth 100000 in
theorem zk_1283 : zmeth zKS zuq zNS zm_1283 4000 = true := zqF (zdt_X6_row) (by decide +kernel)
theorem zM_1283 {l : Launch} {D : va_G} {cI cZ cB cJ cR : ClassId} {ks ad : List Nat} {Psi : va_W → Prop} (hw : zworld ks ad zuq zNS Psi) (hm : zMan l D cI cZ cB cJ cR ks ad Psi) : zMet l D cI cZ cB cJ cR zKS ks ad Psi yX6_row (.code yX6_row cX6_row 5 (some .int)) 2 zc_1283 :=
  zmet_of hw 2 (by decide) 4000 zk_1283 (by decide) (by decide) (fun X => ⟨zg_RX6 X, zp_RX6 X, zl1_RX6 X, zl2_RX6 X, nilz, (List.forall_mem_cons.mpr ⟨zq_RX6_76 X (zM_1249 hw hm) (by decide) rfl, (List.forall_mem_cons.mpr ⟨zq_RX6_80 X (zM_1253 hw hm) (by decide) rfl, nilz⟩)⟩)⟩)
set_option maxRecDepth 100000 in
theorem zk_1284 : zmeth zKS zuq zNS zm_1284 4000 = true := zqF (zdt_X6_row) (by decide +kernel)
theorem zM_1284 {l : Launch} {D : va_G} {cI cZ cB cJ cR : ClassId} {ks ad : List Nat} {Psi : va_W → Prop} (hw : zworld ks ad zuq zNS Psi) (hm : zMan l D cI cZ cB cJ cR ks ad Psi) : zMet l D cI cZ cB cJ cR zKS ks ad Psi yX6_row (.code yX6_row cX6_row 5 (some .int)) 2 zc_1284 :=
  zmet_of hw 2 (by decide) 4000 zk_1284 (by decide) (by decide) (fun X => ⟨zg_RX6 X, zp_RX6 X, zl1_RX6 X, zl2_RX6 X, nilz, (List.forall_mem_cons.mpr ⟨zq_RX6_76 X (zM_1243 hw hm) (by decide) rfl, (List.forall_mem_cons.mpr ⟨zq_RX6_80 X (zM_1254 hw hm) (by decide) rfl, nilz⟩)⟩)⟩)
set_option maxRecDepth 100000 in
theorem zk_1285 : zmeth zKS zuq zNS zm_1285 4000 = true := zqF (zdt_X6_row) (by decide +kernel)
theorem zM_1285 {l : Launch} {D : va_G} {cI cZ cB cJ cR : ClassId} {ks ad : List Nat} {Psi : va_W → Prop} (hw : zworld ks ad zuq zNS Psi) (hm : zMan l D cI cZ cB cJ cR ks ad Psi) : zMet l D cI cZ cB cJ cR zKS ks ad Psi yX6_row (.code yX6_row cX6_row 5 (some .int)) 2 zc_1285 :=
  zmet_of hw 2 (by decide) 4000 zk_1285 (by decide) (by decide) (fun X => ⟨zg_RX6 X, zp_RX6 X, zl1_RX6 X, zl2_RX6 X, nilz, (List.forall_mem_cons.mpr ⟨zq_RX6_76 X (zM_1243 hw hm) (by decide) rfl, (List.forall_mem_cons.mpr ⟨zq_RX6_80 X (zM_1254 hw hm) (by decide) rfl, nilz⟩)⟩)⟩)
set_option maxRecDepth 100000 in
theorem zk_1286 : zmeth zKS zuq zNS zm_1286 4000 = true := zqF (zdt_X6_row) (by decide +kernel)
theorem zM_1286 {l : Launch} {D : va_G} {cI cZ cB cJ cR : ClassId} {ks ad : List Nat} {Psi : va_W → Prop} (hw : zworld ks ad zuq zNS Psi) (hm : zMan l D cI cZ cB cJ cR ks ad Psi) : zMet l D cI cZ cB cJ cR zKS ks ad Psi yX6_row (.code yX6_row cX6_row 5 (some .int)) 2 zc_1286 :=
  zmet_of hw 2 (by decide) 4000 zk_1286 (by decide) (by decide) (fun X => ⟨zg_RX6 X, zp_RX6 X, zl1_RX6 X, zl2_RX6 X, nilz, (List.forall_mem_cons.mpr ⟨zq_RX6_76 X (zM_1243 hw hm) (by decide) rfl, (List.forall_mem_cons.mpr ⟨zq_RX6_80 X (zM_1254 hw hm) (by decide) rfl, nilz⟩)⟩)⟩)
set_option maxRecDepth 100000 in
theorem zk_1287 : zmeth zKS zuq zNS zm_1287 4000 = true := zqF (zdt_X6_row) (by decide +kernel)
theorem zM_1287 {l : Launch} {D : va_G} {cI cZ cB cJ cR : ClassId} {ks ad : List Nat} {Psi : va_W → Prop} (hw : zworld ks ad zuq zNS Psi) (hm : zMan l D cI cZ cB cJ cR ks ad Psi) : zMet l D cI cZ cB cJ cR zKS ks ad Psi yX6_row (.code yX6_row cX6_row 5 (some .int)) 2 zc_1287 :=
  zmet_of hw 2 (by decide) 4000 zk_1287 (by decide) (by decide) (fun X => ⟨zg_RX6 X, zp_RX6 X, zl1_RX6 X, zl2_RX6 X, nilz, (List.forall_mem_cons.mpr ⟨zq_RX6_76 X (zM_1245 hw hm) (by decide) rfl, (List.forall_mem_cons.mpr ⟨zq_RX6_80 X (zM_1254 hw hm) (by decide) rfl, nilz⟩)⟩)⟩)
set_option maxRecDepth 100000 in
theorem zk_1288 : zmeth zKS zuq zNS zm_1288 4000 = true := zqF (zdt_X6_row) (by decide +kernel)
theorem zM_1288 {l : Launch} {D : va_G} {cI cZ cB cJ cR : ClassId} {ks ad : List Nat} {Psi : va_W → Prop} (hw : zworld ks ad zuq zNS Psi) (hm : zMan l D cI cZ cB cJ cR ks ad Psi) : zMet l D cI cZ cB cJ cR zKS ks ad Psi yX6_row (.code yX6_row cX6_row 5 (some .int)) 2 zc_1288 :=
  zmet_of hw 2 (by decide) 4000 zk_1288 (by decide) (by decide) (fun X => ⟨zg_RX6 X, zp_RX6 X, zl1_RX6 X, zl2_RX6 X, nilz, (List.forall_mem_cons.mpr ⟨zq_RX6_76 X (zM_1245 hw hm) (by decide) rfl, (List.forall_mem_cons.mpr ⟨zq_RX6_80 X (zM_1254 hw hm) (by decide) rfl, nilz⟩)⟩)⟩)
set_option maxRecDepth 100000 in
theorem zk_1289 : zmeth zKS zuq zNS zm_1289 4000 = true := zqF (zdt_X6_row) (by decide +kernel)
theorem zM_1289 {l : Launch} {D : va_G} {cI cZ cB cJ cR : ClassId} {ks ad : List Nat} {Psi : va_W → Prop} (hw : zworld ks ad zuq zNS Psi) (hm : zMan l D cI cZ cB cJ cR ks ad Psi) : zMet l D cI cZ cB cJ cR zKS ks ad Psi yX6_row (.code yX6_row cX6_row 5 (some .int)) 2 zc_1289 :=
  zmet_of hw 2 (by decide) 4000 zk_1289 (by decide) (by decide) (fun X => ⟨zg_RX6 X, zp_RX6 X, zl1_RX6 X, zl2_RX6 X, nilz, (List.forall_mem_cons.mpr ⟨zq_RX6_76 X (zM_1245 hw hm) (by decide) rfl, (List.forall_mem_cons.mpr ⟨zq_RX6_80 X (zM_1254 hw hm) (by decide) rfl, nilz⟩)⟩)⟩)
set_option maxRecDepth 100000 in
theorem zk_1290 : zmeth zKS zuq zNS zm_1290 4000 = true := zqF (zdt_X6_row) (by decide +kernel)
theorem zM_1290 {l : Launch} {D : va_G} {cI cZ cB cJ cR : ClassId} {ks ad : List Nat} {Psi : va_W → Prop} (hw : zworld ks ad zuq zNS Psi) (hm : zMan l D cI cZ cB cJ cR ks ad Psi) : zMet l D cI cZ cB cJ cR zKS ks ad Psi yX6_row (.code yX6_row cX6_row 5 (some .int)) 2 zc_1290 :=
  zmet_of hw 2 (by decide) 4000 zk_1290 (by decide) (by decide) (fun X => ⟨zg_RX6 X, zp_RX6 X, zl1_RX6 X, zl2_RX6 X, nilz, (List.forall_mem_cons.mpr ⟨zq_RX6_76 X (zM_1249 hw hm) (by decide) rfl, (List.forall_mem_cons.mpr ⟨zq_RX6_80 X (zM_1254 hw hm) (by decide) rfl, nilz⟩)⟩)⟩)
set_option maxRecDepth 100000 in
theorem zk_1291 : zmeth zKS zuq zNS zm_1291 4000 = true := zqF (zdt_X6_row) (by decide +kernel)
theorem zM_1291 {l : Launch} {D : va_G} {cI cZ cB cJ cR : ClassId} {ks ad : List Nat} {Psi : va_W → Prop} (hw : zworld ks ad zuq zNS Psi) (hm : zMan l D cI cZ cB cJ cR ks ad Psi) : zMet l D cI cZ cB cJ cR zKS ks ad Psi yX6_row (.code yX6_row cX6_row 5 (some .int)) 2 zc_1291 :=
  zmet_of hw 2 (by decide) 4000 zk_1291 (by decide) (by decide) (fun X => ⟨zg_RX6 X, zp_RX6 X, zl1_RX6 X, zl2_RX6 X, nilz, (List.forall_mem_cons.mpr ⟨zq_RX6_76 X (zM_1249 hw hm) (by decide) rfl, (List.forall_mem_cons.mpr ⟨zq_RX6_80 X (zM_1254 hw hm) (by decide) rfl, nilz⟩)⟩)⟩)
set_option maxRecDepth 100000 in
theorem zk_1292 : zmeth zKS zuq zNS zm_1292 4000 = true := zqF (zdt_X6_row) (by decide +kernel)
theorem zM_1292 {l : Launch} {D : va_G} {cI cZ cB cJ cR : ClassId} {ks ad : List Nat} {Psi : va_W → Prop} (hw : zworld ks ad zuq zNS Psi) (hm : zMan l D cI cZ cB cJ cR ks ad Psi) : zMet l D cI cZ cB cJ cR zKS ks ad Psi yX6_row (.code yX6_row cX6_row 5 (some .int)) 2 zc_1292 :=
  zmet_of hw 2 (by decide) 4000 zk_1292 (by decide) (by decide) (fun X => ⟨zg_RX6 X, zp_RX6 X, zl1_RX6 X, zl2_RX6 X, nilz, (List.forall_mem_cons.mpr ⟨zq_RX6_76 X (zM_1249 hw hm) (by decide) rfl, (List.forall_mem_cons.mpr ⟨zq_RX6_80 X (zM_1254 hw hm) (by decide) rfl, nilz⟩)⟩)⟩)
set_option maxRecDepth 100000 in
theorem zk_1293 : zmeth zKS zuq zNS zm_1293 4000 = true := zqF (zdt_X6_row) (by decide +kernel)
theorem zM_1293 {l : Launch} {D : va_G} {cI cZ cB cJ cR : ClassId} {ks ad : List Nat} {Psi : va_W → Prop} (hw : zworld ks ad zuq zNS Psi) (hm : zMan l D cI cZ cB cJ cR ks ad Psi) : zMet l D cI cZ cB cJ cR zKS ks ad Psi yX6_row (.code yX6_row cX6_row 5 (some .int)) 2 zc_1293 :=
  zmet_of hw 2 (by decide) 4000 zk_1293 (by decide) (by decide) (fun X => ⟨zg_RX6 X, zp_RX6 X, zl1_RX6 X, zl2_RX6 X, nilz, (List.forall_mem_cons.mpr ⟨zq_RX6_80 X (zM_1255 hw hm) (by decide) rfl, nilz⟩)⟩)
