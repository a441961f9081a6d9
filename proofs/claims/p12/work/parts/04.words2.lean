theorem q1259 : Cond.methodLink RX12 90 yX12_letters ∈ lw_good := mg (List.mem_append_right _ (tp_6 (List.mem_of_getElem? (i := 59) rfl))) rfl
theorem q1260 : Cond.static yX12_letters ∈ lw_good := mg (List.mem_append_right _ (tp_6 (List.mem_of_getElem? (i := 60) rfl))) rfl
theorem q1261 : Cond.code yX12_letters cX12_letters 7 (some .long) ∈ lw_good := mg (List.mem_append_right _ (tp_6 (List.mem_of_getElem? (i := 61) rfl))) rfl
theorem q1262 : Cond.methodLink RX12 106 yX12_appends ∈ lw_good := mg (List.mem_append_right _ (tp_6 (List.mem_of_getElem? (i := 62) rfl))) rfl
theorem q1263 : Cond.static yX12_appends ∈ lw_good := mg (List.mem_append_right _ (tp_6 (List.mem_of_getElem? (i := 63) rfl))) rfl
theorem q1264 : Cond.code yX12_appends cX12_appends 3 (some .long) ∈ lw_good := mg (List.mem_append_right _ (tp_6 (List.mem_of_getElem? (i := 64) rfl))) rfl
theorem q1265 : Cond.constantLong RX12 104 (27) ∈ lw_good := mg (List.mem_append_right _ (tp_6 (List.mem_of_getElem? (i := 65) rfl))) rfl
theorem q1266 : Cond.fieldLink RX12 13 "SpinStripModel" "tape" "[B" ∈ lw_good := mg (List.mem_append_right _ (tp_6 (List.mem_of_getElem? (i := 66) rfl))) rfl
theorem q1267 : Cond.fieldLink RX12 94 "SpinStripModel" "taped" "I" ∈ lw_good := mg (List.mem_append_right _ (tp_6 (List.mem_of_getElem? (i := 67) rfl))) rfl
theorem q1268 : Cond.fieldLink RX12 17 "SpinStripModel" "text" "[B" ∈ lw_good := mg (List.mem_append_right _ (tp_6 (List.mem_of_getElem? (i := 68) rfl))) rfl
theorem q1269 : Cond.fieldLink RX12 101 "SpinStripModel" "size" "I" ∈ lw_good := mg (List.mem_append_right _ (tp_6 (List.mem_of_getElem? (i := 69) rfl))) rfl
theorem q1270 : Cond.fieldLink RX12 20 "SpinStripModel" "tKind" "[I" ∈ lw_good := mg (List.mem_append_right _ (tp_6 (List.mem_of_getElem? (i := 70) rfl))) rfl
theorem q1271 : Cond.fieldLink RX12 24 "SpinStripModel" "tPlace" "[I" ∈ lw_good := mg (List.mem_append_right _ (tp_6 (List.mem_of_getElem? (i := 71) rfl))) rfl
theorem q1272 : Cond.fieldLink RX12 27 "SpinStripModel" "tValue" "[I" ∈ lw_good := mg (List.mem_append_right _ (tp_6 (List.mem_of_getElem? (i := 72) rfl))) rfl
theorem q1273 : Cond.fieldLink RX12 30 "SpinStripModel" "tName" "[J" ∈ lw_good := mg (List.mem_append_right _ (tp_6 (List.mem_of_getElem? (i := 73) rfl))) rfl
theorem q1274 : Cond.fieldLink RX12 34 "SpinStripModel" "keys" "[J" ∈ lw_good := mg (List.mem_append_right _ (tp_6 (List.mem_of_getElem? (i := 74) rfl))) rfl
theorem q1275 : Cond.fieldLink RX12 110 "SpinStripModel" "tokens" "I" ∈ lw_good := mg (List.mem_append_right _ (tp_6 (List.mem_of_getElem? (i := 75) rfl))) rfl
theorem q1276 : Cond.fieldLink RX12 135 "SpinStripModel" "t" "I" ∈ lw_good := mg (List.mem_append_right _ (tp_6 (List.mem_of_getElem? (i := 76) rfl))) rfl
theorem q1277 : Cond.fieldLink RX12 132 "SpinStripModel" "fault" "I" ∈ lw_good := mg (List.mem_append_right _ (tp_6 (List.mem_of_getElem? (i := 77) rfl))) rfl
theorem q1278 : Cond.fieldLink RX12 138 "SpinStripModel" "faultPlace" "I" ∈ lw_good := mg (List.mem_append_right _ (tp_6 (List.mem_of_getElem? (i := 78) rfl))) rfl
theorem q1279 : Cond.fieldLink RX12 141 "SpinStripModel" "worst" "I" ∈ lw_good := mg (List.mem_append_right _ (tp_6 (List.mem_of_getElem? (i := 79) rfl))) rfl
theorem q1280 : Cond.fieldLink RX12 144 "SpinStripModel" "worstPlace" "I" ∈ lw_good := mg (List.mem_append_right _ (tp_6 (List.mem_of_getElem? (i := 80) rfl))) rfl
theorem q1281 : Cond.fieldLink RX12 37 "SpinStripModel" "place" "I" ∈ lw_good := mg (List.mem_append_right _ (tp_6 (List.mem_of_getElem? (i := 81) rfl))) rfl
theorem q1282 : Cond.fieldLink RX12 171 "SpinStripModel" "wide" "I" ∈ lw_good := mg (List.mem_append_right _ (tp_6 (List.mem_of_getElem? (i := 82) rfl))) rfl
theorem q1283 : Cond.fieldLink RX12 177 "SpinStripModel" "far" "I" ∈ lw_good := mg (List.mem_append_right _ (tp_6 (List.mem_of_getElem? (i := 83) rfl))) rfl
theorem q1284 : Cond.fieldLink RX12 184 "SpinStripModel" "ringAcross" "Z" ∈ lw_good := mg (List.mem_append_right _ (tp_6 (List.mem_of_getElem? (i := 84) rfl))) rfl
theorem q1285 : Cond.fieldLink RX12 190 "SpinStripModel" "ringAlong" "Z" ∈ lw_good := mg (List.mem_append_right _ (tp_6 (List.mem_of_getElem? (i := 85) rfl))) rfl
theorem q1286 : Cond.fieldLink RX12 40 "SpinStripModel" "now" "[I" ∈ lw_good := mg (List.mem_append_right _ (tp_6 (List.mem_of_getElem? (i := 86) rfl))) rfl
theorem q1287 : Cond.fieldLink RX12 168 "SpinStripModel" "newWide" "I" ∈ lw_good := mg (List.mem_append_right _ (tp_6 (List.mem_of_getElem? (i := 87) rfl))) rfl
theorem q1288 : Cond.fieldLink RX12 174 "SpinStripModel" "newFar" "I" ∈ lw_good := mg (List.mem_append_right _ (tp_6 (List.mem_of_getElem? (i := 88) rfl))) rfl
theorem q1289 : Cond.fieldLink RX12 180 "SpinStripModel" "newRingAcross" "Z" ∈ lw_good := mg (List.mem_append_right _ (tp_6 (List.mem_of_getElem? (i := 89) rfl))) rfl
theorem q1290 : Cond.fieldLink RX12 187 "SpinStripModel" "newRingAlong" "Z" ∈ lw_good := mg (List.mem_append_right _ (tp_6 (List.mem_of_getElem? (i := 90) rfl))) rfl
theorem q1291 : Cond.fieldLink RX12 43 "SpinStripModel" "fresh" "[I" ∈ lw_good := mg (List.mem_append_right _ (tp_6 (List.mem_of_getElem? (i := 91) rfl))) rfl
theorem q1292 : Cond.fieldLink RX12 46 "SpinStripModel" "earlier" "[I" ∈ lw_good := mg (List.mem_append_right _ (tp_6 (List.mem_of_getElem? (i := 92) rfl))) rfl
theorem q1293 : Cond.fieldLink RX12 230 "SpinStripModel" "earliest" "I" ∈ lw_good := mg (List.mem_append_right _ (tp_6 (List.mem_of_getElem? (i := 93) rfl))) rfl
theorem q1294 : Cond.fieldLink RX12 197 "SpinStripModel" "undos" "I" ∈ lw_good := mg (List.mem_append_right _ (tp_6 (List.mem_of_getElem? (i := 94) rfl))) rfl
theorem q1295 : Cond.fieldLink RX12 49 "SpinStripModel" "held" "[I" ∈ lw_good := mg (List.mem_append_right _ (tp_6 (List.mem_of_getElem? (i := 95) rfl))) rfl
theorem q1296 : Cond.fieldLink RX12 52 "SpinStripModel" "isHeld" "[Z" ∈ lw_good := mg (List.mem_append_right _ (tp_6 (List.mem_of_getElem? (i := 96) rfl))) rfl
theorem q1297 : Cond.fieldLink RX12 200 "SpinStripModel" "isKnown" "Z" ∈ lw_good := mg (List.mem_append_right _ (tp_6 (List.mem_of_getElem? (i := 97) rfl))) rfl
theorem q1298 : Cond.fieldLink RX12 57 "SpinStripModel" "energyOf" "[I" ∈ lw_good := mg (List.mem_append_right _ (tp_6 (List.mem_of_getElem? (i := 98) rfl))) rfl
theorem q1299 : Cond.fieldLink RX12 60 "SpinStripModel" "levelMany" "[I" ∈ lw_good := mg (List.mem_append_right _ (tp_6 (List.mem_of_getElem? (i := 99) rfl))) rfl
theorem q1300 : Cond.fieldLink RX12 285 "SpinStripModel" "levels" "I" ∈ lw_good := mg (List.mem_append_right _ (tp_6 (List.mem_of_getElem? (i := 100) rfl))) rfl
theorem q1301 : Cond.fieldLink RX12 63 "SpinStripModel" "levelAt" "[I" ∈ lw_good := mg (List.mem_append_right _ (tp_6 (List.mem_of_getElem? (i := 101) rfl))) rfl
theorem q1302 : Cond.fieldLink RX12 66 "SpinStripModel" "other" "[I" ∈ lw_good := mg (List.mem_append_right _ (tp_6 (List.mem_of_getElem? (i := 102) rfl))) rfl
theorem q1303 : Cond.fieldLink RX12 69 "SpinStripModel" "otherMany" "[I" ∈ lw_good := mg (List.mem_append_right _ (tp_6 (List.mem_of_getElem? (i := 103) rfl))) rfl
theorem q1304 : Cond.fieldLink RX12 72 "SpinStripModel" "both" "[J" ∈ lw_good := mg (List.mem_append_right _ (tp_6 (List.mem_of_getElem? (i := 104) rfl))) rfl
theorem q1305 : Cond.fieldLink RX12 75 "SpinStripModel" "hillOf" "[I" ∈ lw_good := mg (List.mem_append_right _ (tp_6 (List.mem_of_getElem? (i := 105) rfl))) rfl
theorem q1306 : Cond.fieldLink RX12 78 "SpinStripModel" "isWet" "[Z" ∈ lw_good := mg (List.mem_append_right _ (tp_6 (List.mem_of_getElem? (i := 106) rfl))) rfl
theorem q1307 : Cond.fieldLink RX12 81 "SpinStripModel" "waiting" "[I" ∈ lw_good := mg (List.mem_append_right _ (tp_6 (List.mem_of_getElem? (i := 107) rfl))) rfl
theorem q1308 : Cond.fieldLink RX12 84 "SpinStripModel" "downOf" "[J" ∈ lw_good := mg (List.mem_append_right _ (tp_6 (List.mem_of_getElem? (i := 108) rfl))) rfl
theorem q1309 : Cond.fieldLink RX12 87 "SpinStripModel" "grounds" "[I" ∈ lw_good := mg (List.mem_append_right _ (tp_6 (List.mem_of_getElem? (i := 109) rfl))) rfl
theorem q1310 : Cond.lays RX12 "SpinStripModel" "thrown" "I" ∈ lw_good := mg (List.mem_append_right _ (tp_6 (List.mem_of_getElem? (i := 110) rfl))) rfl
theorem q1312 : Cond.laysFinal RX12 "SpinStripModel" "tape" "[B" ∈ lw_good := mg (List.mem_append_right _ (tp_6 (List.mem_of_getElem? (i := 112) rfl))) rfl
theorem q1314 : Cond.lays RX12 "SpinStripModel" "taped" "I" ∈ lw_good := mg (List.mem_append_right _ (tp_6 (List.mem_of_getElem? (i := 114) rfl))) rfl
theorem q1316 : Cond.laysFinal RX12 "SpinStripModel" "text" "[B" ∈ lw_good := mg (List.mem_append_right _ (tp_6 (List.mem_of_getElem? (i := 116) rfl))) rfl
theorem q1318 : Cond.lays RX12 "SpinStripModel" "size" "I" ∈ lw_good := mg (List.mem_append_right _ (tp_6 (List.mem_of_getElem? (i := 118) rfl))) rfl
theorem q1320 : Cond.laysFinal RX12 "SpinStripModel" "tKind" "[I" ∈ lw_good := mg (List.mem_append_right _ (tp_6 (List.mem_of_getElem? (i := 120) rfl))) rfl
theorem q1322 : Cond.laysFinal RX12 "SpinStripModel" "tPlace" "[I" ∈ lw_good := mg (List.mem_append_right _ (tp_6 (List.mem_of_getElem? (i := 122) rfl))) rfl
theorem q1324 : Cond.laysFinal RX12 "SpinStripModel" "tValue" "[I" ∈ lw_good := mg (List.mem_append_right _ (tp_6 (List.mem_of_getElem? (i := 124) rfl))) rfl
theorem q1326 : Cond.laysFinal RX12 "SpinStripModel" "tName" "[J" ∈ lw_good := mg (List.mem_append_right _ (tp_6 (List.mem_of_getElem? (i := 126) rfl))) rfl
theorem q1328 : Cond.laysFinal RX12 "SpinStripModel" "keys" "[J" ∈ lw_good := mg (List.mem_append_right _ (tp_6 (List.mem_of_getElem? (i := 128) rfl))) rfl
theorem q1330 : Cond.lays RX12 "SpinStripModel" "tokens" "I" ∈ lw_good := mg (List.mem_append_right _ (tp_6 (List.mem_of_getElem? (i := 130) rfl))) rfl
theorem q1332 : Cond.lays RX12 "SpinStripModel" "t" "I" ∈ lw_good := mg (List.mem_append_right _ (tp_6 (List.mem_of_getElem? (i := 132) rfl))) rfl
theorem q1334 : Cond.lays RX12 "SpinStripModel" "fault" "I" ∈ lw_good := mg (List.mem_append_right _ (tp_6 (List.mem_of_getElem? (i := 134) rfl))) rfl
theorem q1336 : Cond.lays RX12 "SpinStripModel" "faultPlace" "I" ∈ lw_good := mg (List.mem_append_right _ (tp_6 (List.mem_of_getElem? (i := 136) rfl))) rfl
theorem q1338 : Cond.lays RX12 "SpinStripModel" "worst" "I" ∈ lw_good := mg (List.mem_append_right _ (tp_6 (List.mem_of_getElem? (i := 138) rfl))) rfl
theorem q1340 : Cond.lays RX12 "SpinStripModel" "worstPlace" "I" ∈ lw_good := mg (List.mem_append_right _ (tp_6 (List.mem_of_getElem? (i := 140) rfl))) rfl
theorem q1342 : Cond.lays RX12 "SpinStripModel" "place" "I" ∈ lw_good := mg (List.mem_append_right _ (tp_6 (List.mem_of_getElem? (i := 142) rfl))) rfl
theorem q1344 : Cond.lays RX12 "SpinStripModel" "wide" "I" ∈ lw_good := mg (List.mem_append_right _ (tp_6 (List.mem_of_getElem? (i := 144) rfl))) rfl
theorem q1346 : Cond.lays RX12 "SpinStripModel" "far" "I" ∈ lw_good := mg (List.mem_append_right _ (tp_6 (List.mem_of_getElem? (i := 146) rfl))) rfl
theorem q1348 : Cond.lays RX12 "SpinStripModel" "ringAcross" "Z" ∈ lw_good := mg (List.mem_append_right _ (tp_6 (List.mem_of_getElem? (i := 148) rfl))) rfl
theorem q1350 : Cond.lays RX12 "SpinStripModel" "ringAlong" "Z" ∈ lw_good := mg (List.mem_append_right _ (tp_6 (List.mem_of_getElem? (i := 150) rfl))) rfl
theorem q1352 : Cond.laysFinal RX12 "SpinStripModel" "now" "[I" ∈ lw_good := mg (List.mem_append_right _ (tp_6 (List.mem_of_getElem? (i := 152) rfl))) rfl
theorem q1354 : Cond.lays RX12 "SpinStripModel" "newWide" "I" ∈ lw_good := mg (List.mem_append_right _ (tp_6 (List.mem_of_getElem? (i := 154) rfl))) rfl
theorem q1356 : Cond.lays RX12 "SpinStripModel" "newFar" "I" ∈ lw_good := mg (List.mem_append_right _ (tp_6 (List.mem_of_getElem? (i := 156) rfl))) rfl
theorem q1358 : Cond.lays RX12 "SpinStripModel" "newRingAcross" "Z" ∈ lw_good := mg (List.mem_append_right _ (tp_6 (List.mem_of_getElem? (i := 158) rfl))) rfl
theorem q1360 : Cond.lays RX12 "SpinStripModel" "newRingAlong" "Z" ∈ lw_good := mg (List.mem_append_right _ (tp_6 (List.mem_of_getElem? (i := 160) rfl))) rfl
theorem q1362 : Cond.laysFinal RX12 "SpinStripModel" "fresh" "[I" ∈ lw_good := mg (List.mem_append_right _ (tp_6 (List.mem_of_getElem? (i := 162) rfl))) rfl
theorem q1364 : Cond.laysFinal RX12 "SpinStripModel" "earlier" "[I" ∈ lw_good := mg (List.mem_append_right _ (tp_6 (List.mem_of_getElem? (i := 164) rfl))) rfl
theorem q1366 : Cond.lays RX12 "SpinStripModel" "earliest" "I" ∈ lw_good := mg (List.mem_append_right _ (tp_6 (List.mem_of_getElem? (i := 166) rfl))) rfl
theorem q1368 : Cond.lays RX12 "SpinStripModel" "undos" "I" ∈ lw_good := mg (List.mem_append_right _ (tp_6 (List.mem_of_getElem? (i := 168) rfl))) rfl
theorem q1370 : Cond.laysFinal RX12 "SpinStripModel" "held" "[I" ∈ lw_good := mg (List.mem_append_right _ (tp_6 (List.mem_of_getElem? (i := 170) rfl))) rfl
theorem q1372 : Cond.laysFinal RX12 "SpinStripModel" "isHeld" "[Z" ∈ lw_good := mg (List.mem_append_right _ (tp_6 (List.mem_of_getElem? (i := 172) rfl))) rfl
theorem q1374 : Cond.lays RX12 "SpinStripModel" "isKnown" "Z" ∈ lw_good := mg (List.mem_append_right _ (tp_6 (List.mem_of_getElem? (i := 174) rfl))) rfl
theorem q1376 : Cond.laysFinal RX12 "SpinStripModel" "energyOf" "[I" ∈ lw_good := mg (List.mem_append_right _ (tp_6 (List.mem_of_getElem? (i := 176) rfl))) rfl
theorem q1378 : Cond.laysFinal RX12 "SpinStripModel" "levelMany" "[I" ∈ lw_good := mg (List.mem_append_right _ (tp_6 (List.mem_of_getElem? (i := 178) rfl))) rfl
theorem q1380 : Cond.lays RX12 "SpinStripModel" "levels" "I" ∈ lw_good := mg (List.mem_append_right _ (tp_6 (List.mem_of_getElem? (i := 180) rfl))) rfl
theorem q1382 : Cond.laysFinal RX12 "SpinStripModel" "levelAt" "[I" ∈ lw_good := mg (List.mem_append_right _ (tp_6 (List.mem_of_getElem? (i := 182) rfl))) rfl
theorem q1384 : Cond.laysFinal RX12 "SpinStripModel" "other" "[I" ∈ lw_good := mg (List.mem_append_right _ (tp_6 (List.mem_of_getElem? (i := 184) rfl))) rfl
theorem q1386 : Cond.laysFinal RX12 "SpinStripModel" "otherMany" "[I" ∈ lw_good := mg (List.mem_append_right _ (tp_6 (List.mem_of_getElem? (i := 186) rfl))) rfl
theorem q1388 : Cond.laysFinal RX12 "SpinStripModel" "both" "[J" ∈ lw_good := mg (List.mem_append_right _ (tp_6 (List.mem_of_getElem? (i := 188) rfl))) rfl
theorem q1390 : Cond.laysFinal RX12 "SpinStripModel" "hillOf" "[I" ∈ lw_good := mg (List.mem_append_right _ (tp_6 (List.mem_of_getElem? (i := 190) rfl))) rfl
theorem q1392 : Cond.laysFinal RX12 "SpinStripModel" "isWet" "[Z" ∈ lw_good := mg (List.mem_append_right _ (tp_6 (List.mem_of_getElem? (i := 192) rfl))) rfl
theorem q1394 : Cond.laysFinal RX12 "SpinStripModel" "waiting" "[I" ∈ lw_good := mg (List.mem_append_right _ (tp_6 (List.mem_of_getElem? (i := 194) rfl))) rfl
theorem q1396 : Cond.laysFinal RX12 "SpinStripModel" "downOf" "[J" ∈ lw_good := mg (List.mem_append_right _ (tp_6 (List.mem_of_getElem? (i := 196) rfl))) rfl
theorem q1398 : Cond.laysFinal RX12 "SpinStripModel" "grounds" "[I" ∈ lw_good := mg (List.mem_append_right _ (tp_6 (List.mem_of_getElem? (i := 198) rfl))) rfl
theorem q1401 : Cond.arrayClass .boolean ∈ lw_good := mg (List.mem_append_right _ (tp_6 (List.mem_of_getElem? (i := 201) rfl))) rfl
theorem q1402 : Cond.methodLink RL 17 yX12_feed ∈ lw_good := mg (List.mem_append_right _ (tp_6 (List.mem_of_getElem? (i := 202) rfl))) rfl
theorem q1403 : Cond.instanceMethod yX12_feed ∈ lw_good := mg (List.mem_append_right _ (tp_6 (List.mem_of_getElem? (i := 203) rfl))) rfl
theorem q1404 : Cond.selects RX12 yX12_feed yX12_feed ∈ lw_good := mg (List.mem_append_right _ (tp_6 (List.mem_of_getElem? (i := 204) rfl))) rfl
theorem q1405 : Cond.code yX12_feed cX12_feed 6 (some .int) ∈ lw_good := mg (List.mem_append_right _ (tp_6 (List.mem_of_getElem? (i := 205) rfl))) rfl
theorem q1406 : Cond.methodLink RX12 97 yX12_lays ∈ lw_good := mg (List.mem_append_right _ (tp_6 (List.mem_of_getElem? (i := 206) rfl))) rfl
theorem q1408 : Cond.instanceMethod yX12_lays ∈ lw_good := mg (List.mem_append_right _ (tp_6 (List.mem_of_getElem? (i := 208) rfl))) rfl
theorem q1409 : Cond.code yX12_lays cX12_lays 3 none ∈ lw_good := mg (List.mem_append_right _ (tp_6 (List.mem_of_getElem? (i := 209) rfl))) rfl
theorem q1410 : Cond.methodLink RL 22 yX12_back ∈ lw_good := mg (List.mem_append_right _ (tp_6 (List.mem_of_getElem? (i := 210) rfl))) rfl
theorem q1411 : Cond.instanceMethod yX12_back ∈ lw_good := mg (List.mem_append_right _ (tp_6 (List.mem_of_getElem? (i := 211) rfl))) rfl
theorem q1412 : Cond.selects RX12 yX12_back yX12_back ∈ lw_good := mg (List.mem_append_right _ (tp_6 (List.mem_of_getElem? (i := 212) rfl))) rfl
theorem q1413 : Cond.code yX12_back cX12_back 2 (some .int) ∈ lw_good := mg (List.mem_append_right _ (tp_6 (List.mem_of_getElem? (i := 213) rfl))) rfl
theorem q1414 : Cond.methodLink RL 27 yX12_read ∈ lw_good := mg (List.mem_append_right _ (tp_6 (List.mem_of_getElem? (i := 214) rfl))) rfl
theorem q1415 : Cond.instanceMethod yX12_read ∈ lw_good := mg (List.mem_append_right _ (tp_6 (List.mem_of_getElem? (i := 215) rfl))) rfl
theorem q1416 : Cond.selects RX12 yX12_read yX12_read ∈ lw_good := mg (List.mem_append_right _ (tp_6 (List.mem_of_getElem? (i := 216) rfl))) rfl
theorem q1417 : Cond.code yX12_read cX12_read 2 (some .int) ∈ lw_good := mg (List.mem_append_right _ (tp_6 (List.mem_of_getElem? (i := 217) rfl))) rfl
theorem q1418 : Cond.methodLink RX12 156 yX12_cutsText ∈ lw_good := mg (List.mem_append_right _ (tp_6 (List.mem_of_getElem? (i := 218) rfl))) rfl
theorem q1420 : Cond.instanceMethod yX12_cutsText ∈ lw_good := mg (List.mem_append_right _ (tp_6 (List.mem_of_getElem? (i := 220) rfl))) rfl
theorem q1421 : Cond.code yX12_cutsText cX12_cutsText 8 none ∈ lw_good := mg (List.mem_append_right _ (tp_6 (List.mem_of_getElem? (i := 221) rfl))) rfl
theorem q1422 : Cond.methodLink RX12 113 yX12_byteAt ∈ lw_good := mg (List.mem_append_right _ (tp_6 (List.mem_of_getElem? (i := 222) rfl))) rfl
theorem q1424 : Cond.instanceMethod yX12_byteAt ∈ lw_good := mg (List.mem_append_right _ (tp_6 (List.mem_of_getElem? (i := 224) rfl))) rfl
theorem q1425 : Cond.code yX12_byteAt cX12_byteAt 2 (some .int) ∈ lw_good := mg (List.mem_append_right _ (tp_6 (List.mem_of_getElem? (i := 225) rfl))) rfl
theorem q1426 : Cond.methodLink RX12 117 yX12_token ∈ lw_good := mg (List.mem_append_right _ (tp_6 (List.mem_of_getElem? (i := 226) rfl))) rfl
theorem q1428 : Cond.instanceMethod yX12_token ∈ lw_good := mg (List.mem_append_right _ (tp_6 (List.mem_of_getElem? (i := 228) rfl))) rfl
theorem q1429 : Cond.code yX12_token cX12_token 6 none ∈ lw_good := mg (List.mem_append_right _ (tp_6 (List.mem_of_getElem? (i := 229) rfl))) rfl
theorem q1430 : Cond.methodLink RX12 121 yX12_isLetter ∈ lw_good := mg (List.mem_append_right _ (tp_6 (List.mem_of_getElem? (i := 230) rfl))) rfl
theorem q1431 : Cond.static yX12_isLetter ∈ lw_good := mg (List.mem_append_right _ (tp_6 (List.mem_of_getElem? (i := 231) rfl))) rfl
theorem q1432 : Cond.code yX12_isLetter cX12_isLetter 1 (some .boolean) ∈ lw_good := mg (List.mem_append_right _ (tp_6 (List.mem_of_getElem? (i := 232) rfl))) rfl
theorem q1433 : Cond.methodLink RX12 125 yX12_isDigit ∈ lw_good := mg (List.mem_append_right _ (tp_6 (List.mem_of_getElem? (i := 233) rfl))) rfl
theorem q1434 : Cond.static yX12_isDigit ∈ lw_good := mg (List.mem_append_right _ (tp_6 (List.mem_of_getElem? (i := 234) rfl))) rfl
theorem q1435 : Cond.code yX12_isDigit cX12_isDigit 1 (some .boolean) ∈ lw_good := mg (List.mem_append_right _ (tp_6 (List.mem_of_getElem? (i := 235) rfl))) rfl
theorem q1436 : Cond.methodLink RX12 128 yX12_sign ∈ lw_good := mg (List.mem_append_right _ (tp_6 (List.mem_of_getElem? (i := 236) rfl))) rfl
theorem q1438 : Cond.instanceMethod yX12_sign ∈ lw_good := mg (List.mem_append_right _ (tp_6 (List.mem_of_getElem? (i := 238) rfl))) rfl
theorem q1439 : Cond.code yX12_sign cX12_sign 3 (some .int) ∈ lw_good := mg (List.mem_append_right _ (tp_6 (List.mem_of_getElem? (i := 239) rfl))) rfl
theorem q1440 : Cond.methodLink RX12 159 yX12_must ∈ lw_good := mg (List.mem_append_right _ (tp_7 (List.mem_of_getElem? (i := 0) rfl))) rfl
theorem q1442 : Cond.instanceMethod yX12_must ∈ lw_good := mg (List.mem_append_right _ (tp_7 (List.mem_of_getElem? (i := 2) rfl))) rfl
theorem q1443 : Cond.code yX12_must cX12_must 2 none ∈ lw_good := mg (List.mem_append_right _ (tp_7 (List.mem_of_getElem? (i := 3) rfl))) rfl
theorem q1444 : Cond.methodLink RX12 150 yX12_is ∈ lw_good := mg (List.mem_append_right _ (tp_7 (List.mem_of_getElem? (i := 4) rfl))) rfl
theorem q1446 : Cond.instanceMethod yX12_is ∈ lw_good := mg (List.mem_append_right _ (tp_7 (List.mem_of_getElem? (i := 6) rfl))) rfl
theorem q1447 : Cond.code yX12_is cX12_is 2 (some .boolean) ∈ lw_good := mg (List.mem_append_right _ (tp_7 (List.mem_of_getElem? (i := 7) rfl))) rfl
theorem q1448 : Cond.methodLink RX12 153 yX12_passes ∈ lw_good := mg (List.mem_append_right _ (tp_7 (List.mem_of_getElem? (i := 8) rfl))) rfl
theorem q1450 : Cond.instanceMethod yX12_passes ∈ lw_good := mg (List.mem_append_right _ (tp_7 (List.mem_of_getElem? (i := 10) rfl))) rfl
theorem q1451 : Cond.code yX12_passes cX12_passes 1 none ∈ lw_good := mg (List.mem_append_right _ (tp_7 (List.mem_of_getElem? (i := 11) rfl))) rfl
theorem q1452 : Cond.methodLink RX12 147 yX12_fail ∈ lw_good := mg (List.mem_append_right _ (tp_7 (List.mem_of_getElem? (i := 12) rfl))) rfl
theorem q1454 : Cond.instanceMethod yX12_fail ∈ lw_good := mg (List.mem_append_right _ (tp_7 (List.mem_of_getElem? (i := 14) rfl))) rfl
theorem q1455 : Cond.code yX12_fail cX12_fail 2 none ∈ lw_good := mg (List.mem_append_right _ (tp_7 (List.mem_of_getElem? (i := 15) rfl))) rfl
theorem q1456 : Cond.methodLink RX12 162 yX12_line ∈ lw_good := mg (List.mem_append_right _ (tp_7 (List.mem_of_getElem? (i := 16) rfl))) rfl
theorem q1458 : Cond.instanceMethod yX12_line ∈ lw_good := mg (List.mem_append_right _ (tp_7 (List.mem_of_getElem? (i := 18) rfl))) rfl
theorem q1459 : Cond.code yX12_line cX12_line 2 none ∈ lw_good := mg (List.mem_append_right _ (tp_7 (List.mem_of_getElem? (i := 19) rfl))) rfl
theorem q1460 : Cond.methodLink RX12 203 yX12_mustJ ∈ lw_good := mg (List.mem_append_right _ (tp_7 (List.mem_of_getElem? (i := 20) rfl))) rfl
theorem q1462 : Cond.instanceMethod yX12_mustJ ∈ lw_good := mg (List.mem_append_right _ (tp_7 (List.mem_of_getElem? (i := 22) rfl))) rfl
theorem q1463 : Cond.code yX12_mustJ cX12_mustJ 1 none ∈ lw_good := mg (List.mem_append_right _ (tp_7 (List.mem_of_getElem? (i := 23) rfl))) rfl
theorem q1464 : Cond.methodLink RX12 206 yX12_mustWay ∈ lw_good := mg (List.mem_append_right _ (tp_7 (List.mem_of_getElem? (i := 24) rfl))) rfl
theorem q1466 : Cond.instanceMethod yX12_mustWay ∈ lw_good := mg (List.mem_append_right _ (tp_7 (List.mem_of_getElem? (i := 26) rfl))) rfl
theorem q1467 : Cond.code yX12_mustWay cX12_mustWay 1 none ∈ lw_good := mg (List.mem_append_right _ (tp_7 (List.mem_of_getElem? (i := 27) rfl))) rfl
theorem q1468 : Cond.methodLink RX12 165 yX12_means ∈ lw_good := mg (List.mem_append_right _ (tp_7 (List.mem_of_getElem? (i := 28) rfl))) rfl
theorem q1470 : Cond.instanceMethod yX12_means ∈ lw_good := mg (List.mem_append_right _ (tp_7 (List.mem_of_getElem? (i := 30) rfl))) rfl
theorem q1471 : Cond.code yX12_means cX12_means 2 none ∈ lw_good := mg (List.mem_append_right _ (tp_7 (List.mem_of_getElem? (i := 31) rfl))) rfl
theorem q1472 : Cond.methodLink RX12 213 yX12_in ∈ lw_good := mg (List.mem_append_right _ (tp_7 (List.mem_of_getElem? (i := 32) rfl))) rfl
theorem q1473 : Cond.static yX12_in ∈ lw_good := mg (List.mem_append_right _ (tp_7 (List.mem_of_getElem? (i := 33) rfl))) rfl
theorem q1474 : Cond.code yX12_in cX12_in 3 (some .boolean) ∈ lw_good := mg (List.mem_append_right _ (tp_7 (List.mem_of_getElem? (i := 34) rfl))) rfl
theorem q1475 : Cond.methodLink RX12 209 yX12_wrong ∈ lw_good := mg (List.mem_append_right _ (tp_7 (List.mem_of_getElem? (i := 35) rfl))) rfl
theorem q1477 : Cond.instanceMethod yX12_wrong ∈ lw_good := mg (List.mem_append_right _ (tp_7 (List.mem_of_getElem? (i := 37) rfl))) rfl
theorem q1478 : Cond.code yX12_wrong cX12_wrong 4 none ∈ lw_good := mg (List.mem_append_right _ (tp_7 (List.mem_of_getElem? (i := 38) rfl))) rfl
theorem q1479 : Cond.methodLink RX12 217 yX12_meansAll ∈ lw_good := mg (List.mem_append_right _ (tp_7 (List.mem_of_getElem? (i := 39) rfl))) rfl
theorem q1481 : Cond.instanceMethod yX12_meansAll ∈ lw_good := mg (List.mem_append_right _ (tp_7 (List.mem_of_getElem? (i := 41) rfl))) rfl
theorem q1482 : Cond.code yX12_meansAll cX12_meansAll 5 none ∈ lw_good := mg (List.mem_append_right _ (tp_7 (List.mem_of_getElem? (i := 42) rfl))) rfl
theorem q1483 : Cond.methodLink RX12 223 yX12_jAt ∈ lw_good := mg (List.mem_append_right _ (tp_7 (List.mem_of_getElem? (i := 43) rfl))) rfl
theorem q1485 : Cond.instanceMethod yX12_jAt ∈ lw_good := mg (List.mem_append_right _ (tp_7 (List.mem_of_getElem? (i := 45) rfl))) rfl
theorem q1486 : Cond.code yX12_jAt cX12_jAt 3 (some .int) ∈ lw_good := mg (List.mem_append_right _ (tp_7 (List.mem_of_getElem? (i := 46) rfl))) rfl
theorem q1487 : Cond.methodLink RX12 220 yX12_meansOne ∈ lw_good := mg (List.mem_append_right _ (tp_7 (List.mem_of_getElem? (i := 47) rfl))) rfl
theorem q1489 : Cond.instanceMethod yX12_meansOne ∈ lw_good := mg (List.mem_append_right _ (tp_7 (List.mem_of_getElem? (i := 49) rfl))) rfl
theorem q1490 : Cond.code yX12_meansOne cX12_meansOne 7 none ∈ lw_good := mg (List.mem_append_right _ (tp_7 (List.mem_of_getElem? (i := 50) rfl))) rfl
theorem q1491 : Cond.methodLink RX12 226 yX12_leads ∈ lw_good := mg (List.mem_append_right _ (tp_7 (List.mem_of_getElem? (i := 51) rfl))) rfl
theorem q1492 : Cond.static yX12_leads ∈ lw_good := mg (List.mem_append_right _ (tp_7 (List.mem_of_getElem? (i := 52) rfl))) rfl
theorem q1493 : Cond.code yX12_leads cX12_leads 7 (some .int) ∈ lw_good := mg (List.mem_append_right _ (tp_7 (List.mem_of_getElem? (i := 53) rfl))) rfl
theorem q1494 : Cond.methodLink RX12 193 yX12_sites ∈ lw_good := mg (List.mem_append_right _ (tp_7 (List.mem_of_getElem? (i := 54) rfl))) rfl
theorem q1496 : Cond.instanceMethod yX12_sites ∈ lw_good := mg (List.mem_append_right _ (tp_7 (List.mem_of_getElem? (i := 56) rfl))) rfl
theorem q1497 : Cond.code yX12_sites cX12_sites 1 (some .int) ∈ lw_good := mg (List.mem_append_right _ (tp_7 (List.mem_of_getElem? (i := 57) rfl))) rfl
theorem q1498 : Cond.methodLink RL 31 yX12_place ∈ lw_good := mg (List.mem_append_right _ (tp_7 (List.mem_of_getElem? (i := 58) rfl))) rfl
theorem q1499 : Cond.instanceMethod yX12_place ∈ lw_good := mg (List.mem_append_right _ (tp_7 (List.mem_of_getElem? (i := 59) rfl))) rfl
theorem q1500 : Cond.selects RX12 yX12_place yX12_place ∈ lw_good := mg (List.mem_append_right _ (tp_7 (List.mem_of_getElem? (i := 60) rfl))) rfl
theorem q1501 : Cond.code yX12_place cX12_place 1 (some .int) ∈ lw_good := mg (List.mem_append_right _ (tp_7 (List.mem_of_getElem? (i := 61) rfl))) rfl
theorem q1502 : Cond.methodLink RL 36 yX12_tie ∈ lw_good := mg (List.mem_append_right _ (tp_7 (List.mem_of_getElem? (i := 62) rfl))) rfl
theorem q1503 : Cond.instanceMethod yX12_tie ∈ lw_good := mg (List.mem_append_right _ (tp_7 (List.mem_of_getElem? (i := 63) rfl))) rfl
theorem q1504 : Cond.selects RX12 yX12_tie yX12_tie ∈ lw_good := mg (List.mem_append_right _ (tp_7 (List.mem_of_getElem? (i := 64) rfl))) rfl
theorem q1505 : Cond.code yX12_tie cX12_tie 4 (some .boolean) ∈ lw_good := mg (List.mem_append_right _ (tp_7 (List.mem_of_getElem? (i := 65) rfl))) rfl
theorem q1506 : Cond.methodLink RX12 233 yX12_isSite ∈ lw_good := mg (List.mem_append_right _ (tp_7 (List.mem_of_getElem? (i := 66) rfl))) rfl
theorem q1508 : Cond.instanceMethod yX12_isSite ∈ lw_good := mg (List.mem_append_right _ (tp_7 (List.mem_of_getElem? (i := 68) rfl))) rfl
theorem q1509 : Cond.code yX12_isSite cX12_isSite 2 (some .boolean) ∈ lw_good := mg (List.mem_append_right _ (tp_7 (List.mem_of_getElem? (i := 69) rfl))) rfl
theorem q1510 : Cond.methodLink RX12 236 yX12_tieTo ∈ lw_good := mg (List.mem_append_right _ (tp_7 (List.mem_of_getElem? (i := 70) rfl))) rfl
theorem q1512 : Cond.instanceMethod yX12_tieTo ∈ lw_good := mg (List.mem_append_right _ (tp_7 (List.mem_of_getElem? (i := 72) rfl))) rfl
theorem q1513 : Cond.code yX12_tieTo cX12_tieTo 3 (some .int) ∈ lw_good := mg (List.mem_append_right _ (tp_7 (List.mem_of_getElem? (i := 73) rfl))) rfl
theorem q1514 : Cond.methodLink RX12 240 yX12_jOf ∈ lw_good := mg (List.mem_append_right _ (tp_7 (List.mem_of_getElem? (i := 74) rfl))) rfl
theorem q1515 : Cond.static yX12_jOf ∈ lw_good := mg (List.mem_append_right _ (tp_7 (List.mem_of_getElem? (i := 75) rfl))) rfl
theorem q1516 : Cond.code yX12_jOf cX12_jOf 3 (some .int) ∈ lw_good := mg (List.mem_append_right _ (tp_7 (List.mem_of_getElem? (i := 76) rfl))) rfl
theorem q1517 : Cond.methodLink RX12 244 yX12_marks ∈ lw_good := mg (List.mem_append_right _ (tp_7 (List.mem_of_getElem? (i := 77) rfl))) rfl
theorem q1519 : Cond.instanceMethod yX12_marks ∈ lw_good := mg (List.mem_append_right _ (tp_7 (List.mem_of_getElem? (i := 79) rfl))) rfl
theorem q1520 : Cond.code yX12_marks cX12_marks 3 none ∈ lw_good := mg (List.mem_append_right _ (tp_7 (List.mem_of_getElem? (i := 80) rfl))) rfl
theorem q1521 : Cond.methodLink RL 41 yX12_pull ∈ lw_good := mg (List.mem_append_right _ (tp_7 (List.mem_of_getElem? (i := 81) rfl))) rfl
theorem q1522 : Cond.instanceMethod yX12_pull ∈ lw_good := mg (List.mem_append_right _ (tp_7 (List.mem_of_getElem? (i := 82) rfl))) rfl
theorem q1523 : Cond.selects RX12 yX12_pull yX12_pull ∈ lw_good := mg (List.mem_append_right _ (tp_7 (List.mem_of_getElem? (i := 83) rfl))) rfl
theorem q1524 : Cond.code yX12_pull cX12_pull 3 (some .boolean) ∈ lw_good := mg (List.mem_append_right _ (tp_7 (List.mem_of_getElem? (i := 84) rfl))) rfl
theorem q1525 : Cond.methodLink RL 45 yX12_pin ∈ lw_good := mg (List.mem_append_right _ (tp_7 (List.mem_of_getElem? (i := 85) rfl))) rfl
theorem q1526 : Cond.instanceMethod yX12_pin ∈ lw_good := mg (List.mem_append_right _ (tp_7 (List.mem_of_getElem? (i := 86) rfl))) rfl
theorem q1527 : Cond.selects RX12 yX12_pin yX12_pin ∈ lw_good := mg (List.mem_append_right _ (tp_7 (List.mem_of_getElem? (i := 87) rfl))) rfl
theorem q1528 : Cond.code yX12_pin cX12_pin 3 (some .boolean) ∈ lw_good := mg (List.mem_append_right _ (tp_7 (List.mem_of_getElem? (i := 88) rfl))) rfl
theorem q1529 : Cond.methodLink RL 50 yX12_glass ∈ lw_good := mg (List.mem_append_right _ (tp_7 (List.mem_of_getElem? (i := 89) rfl))) rfl
theorem q1530 : Cond.instanceMethod yX12_glass ∈ lw_good := mg (List.mem_append_right _ (tp_7 (List.mem_of_getElem? (i := 90) rfl))) rfl
theorem q1531 : Cond.selects RX12 yX12_glass yX12_glass ∈ lw_good := mg (List.mem_append_right _ (tp_7 (List.mem_of_getElem? (i := 91) rfl))) rfl
theorem q1532 : Cond.code yX12_glass cX12_glass 7 (some .boolean) ∈ lw_good := mg (List.mem_append_right _ (tp_7 (List.mem_of_getElem? (i := 92) rfl))) rfl
theorem q1533 : Cond.methodLink RX12 253 yX12_nextOf ∈ lw_good := mg (List.mem_append_right _ (tp_7 (List.mem_of_getElem? (i := 93) rfl))) rfl
theorem q1534 : Cond.static yX12_nextOf ∈ lw_good := mg (List.mem_append_right _ (tp_7 (List.mem_of_getElem? (i := 94) rfl))) rfl
theorem q1535 : Cond.code yX12_nextOf cX12_nextOf 2 (some .long) ∈ lw_good := mg (List.mem_append_right _ (tp_7 (List.mem_of_getElem? (i := 95) rfl))) rfl
theorem q1536 : Cond.constantLong RX12 247 (1103515245) ∈ lw_good := mg (List.mem_append_right _ (tp_7 (List.mem_of_getElem? (i := 96) rfl))) rfl
theorem q1537 : Cond.constantLong RX12 249 (12345) ∈ lw_good := mg (List.mem_append_right _ (tp_7 (List.mem_of_getElem? (i := 97) rfl))) rfl
theorem q1538 : Cond.constantLong RX12 251 (2147483648) ∈ lw_good := mg (List.mem_append_right _ (tp_7 (List.mem_of_getElem? (i := 98) rfl))) rfl
theorem q1539 : Cond.constantLong RX12 257 (65536) ∈ lw_good := mg (List.mem_append_right _ (tp_7 (List.mem_of_getElem? (i := 99) rfl))) rfl
theorem q1540 : Cond.constantLong RX12 259 (2) ∈ lw_good := mg (List.mem_append_right _ (tp_7 (List.mem_of_getElem? (i := 100) rfl))) rfl
theorem q1541 : Cond.methodLink RL 54 yX12_turn ∈ lw_good := mg (List.mem_append_right _ (tp_7 (List.mem_of_getElem? (i := 101) rfl))) rfl
theorem q1542 : Cond.instanceMethod yX12_turn ∈ lw_good := mg (List.mem_append_right _ (tp_7 (List.mem_of_getElem? (i := 102) rfl))) rfl
theorem q1543 : Cond.selects RX12 yX12_turn yX12_turn ∈ lw_good := mg (List.mem_append_right _ (tp_7 (List.mem_of_getElem? (i := 103) rfl))) rfl
theorem q1544 : Cond.code yX12_turn cX12_turn 2 (some .boolean) ∈ lw_good := mg (List.mem_append_right _ (tp_7 (List.mem_of_getElem? (i := 104) rfl))) rfl
theorem q1545 : Cond.methodLink RL 58 yX12_fall ∈ lw_good := mg (List.mem_append_right _ (tp_7 (List.mem_of_getElem? (i := 105) rfl))) rfl
theorem q1546 : Cond.instanceMethod yX12_fall ∈ lw_good := mg (List.mem_append_right _ (tp_7 (List.mem_of_getElem? (i := 106) rfl))) rfl
theorem q1547 : Cond.selects RX12 yX12_fall yX12_fall ∈ lw_good := mg (List.mem_append_right _ (tp_7 (List.mem_of_getElem? (i := 107) rfl))) rfl
theorem q1548 : Cond.code yX12_fall cX12_fall 2 (some .int) ∈ lw_good := mg (List.mem_append_right _ (tp_7 (List.mem_of_getElem? (i := 108) rfl))) rfl
theorem q1549 : Cond.methodLink RX12 261 yX12_knows ∈ lw_good := mg (List.mem_append_right _ (tp_7 (List.mem_of_getElem? (i := 109) rfl))) rfl
theorem q1551 : Cond.instanceMethod yX12_knows ∈ lw_good := mg (List.mem_append_right _ (tp_7 (List.mem_of_getElem? (i := 111) rfl))) rfl
theorem q1552 : Cond.code yX12_knows cX12_knows 2 none ∈ lw_good := mg (List.mem_append_right _ (tp_7 (List.mem_of_getElem? (i := 112) rfl))) rfl
theorem q1553 : Cond.methodLink RX12 270 yX12_states ∈ lw_good := mg (List.mem_append_right _ (tp_7 (List.mem_of_getElem? (i := 113) rfl))) rfl
theorem q1555 : Cond.instanceMethod yX12_states ∈ lw_good := mg (List.mem_append_right _ (tp_7 (List.mem_of_getElem? (i := 115) rfl))) rfl
theorem q1556 : Cond.code yX12_states cX12_states 1 (some .int) ∈ lw_good := mg (List.mem_append_right _ (tp_7 (List.mem_of_getElem? (i := 116) rfl))) rfl
theorem q1557 : Cond.methodLink RX12 281 yX12_isLawful ∈ lw_good := mg (List.mem_append_right _ (tp_7 (List.mem_of_getElem? (i := 117) rfl))) rfl
theorem q1559 : Cond.instanceMethod yX12_isLawful ∈ lw_good := mg (List.mem_append_right _ (tp_7 (List.mem_of_getElem? (i := 119) rfl))) rfl
theorem q1560 : Cond.code yX12_isLawful cX12_isLawful 2 (some .boolean) ∈ lw_good := mg (List.mem_append_right _ (tp_7 (List.mem_of_getElem? (i := 120) rfl))) rfl
theorem q1561 : Cond.methodLink RX12 273 yX12_isLawfulBy ∈ lw_good := mg (List.mem_append_right _ (tp_7 (List.mem_of_getElem? (i := 121) rfl))) rfl
theorem q1562 : Cond.static yX12_isLawfulBy ∈ lw_good := mg (List.mem_append_right _ (tp_7 (List.mem_of_getElem? (i := 122) rfl))) rfl
theorem q1563 : Cond.code yX12_isLawfulBy cX12_isLawfulBy 4 (some .boolean) ∈ lw_good := mg (List.mem_append_right _ (tp_7 (List.mem_of_getElem? (i := 123) rfl))) rfl
theorem q1564 : Cond.methodLink RX12 277 yX12_energy ∈ lw_good := mg (List.mem_append_right _ (tp_7 (List.mem_of_getElem? (i := 124) rfl))) rfl
theorem q1566 : Cond.instanceMethod yX12_energy ∈ lw_good := mg (List.mem_append_right _ (tp_7 (List.mem_of_getElem? (i := 126) rfl))) rfl
theorem q1567 : Cond.code yX12_energy cX12_energy 8 (some .int) ∈ lw_good := mg (List.mem_append_right _ (tp_7 (List.mem_of_getElem? (i := 127) rfl))) rfl
theorem q1568 : Cond.constant RX12 284 (100000) ∈ lw_good := mg (List.mem_append_right _ (tp_7 (List.mem_of_getElem? (i := 128) rfl))) rfl
theorem q1569 : Cond.methodLink RX12 264 yX12_fallTurns ∈ lw_good := mg (List.mem_append_right _ (tp_7 (List.mem_of_getElem? (i := 129) rfl))) rfl
theorem q1571 : Cond.instanceMethod yX12_fallTurns ∈ lw_good := mg (List.mem_append_right _ (tp_7 (List.mem_of_getElem? (i := 131) rfl))) rfl
theorem q1572 : Cond.code yX12_fallTurns cX12_fallTurns 5 (some .int) ∈ lw_good := mg (List.mem_append_right _ (tp_7 (List.mem_of_getElem? (i := 132) rfl))) rfl
theorem q1573 : Cond.methodLink RX12 321 yX12_steepest ∈ lw_good := mg (List.mem_append_right _ (tp_7 (List.mem_of_getElem? (i := 133) rfl))) rfl
theorem q1575 : Cond.instanceMethod yX12_steepest ∈ lw_good := mg (List.mem_append_right _ (tp_7 (List.mem_of_getElem? (i := 135) rfl))) rfl
theorem q1576 : Cond.code yX12_steepest cX12_steepest 6 (some .int) ∈ lw_good := mg (List.mem_append_right _ (tp_7 (List.mem_of_getElem? (i := 136) rfl))) rfl
theorem q1577 : Cond.methodLink RX12 267 yX12_fallEnd ∈ lw_good := mg (List.mem_append_right _ (tp_7 (List.mem_of_getElem? (i := 137) rfl))) rfl
theorem q1579 : Cond.instanceMethod yX12_fallEnd ∈ lw_good := mg (List.mem_append_right _ (tp_7 (List.mem_of_getElem? (i := 139) rfl))) rfl
theorem q1580 : Cond.code yX12_fallEnd cX12_fallEnd 4 (some .int) ∈ lw_good := mg (List.mem_append_right _ (tp_7 (List.mem_of_getElem? (i := 140) rfl))) rfl
theorem q1581 : Cond.methodLink RL 63 yX12_undo ∈ lw_good := mg (List.mem_append_right _ (tp_7 (List.mem_of_getElem? (i := 141) rfl))) rfl
theorem q1582 : Cond.instanceMethod yX12_undo ∈ lw_good := mg (List.mem_append_right _ (tp_7 (List.mem_of_getElem? (i := 142) rfl))) rfl
theorem q1583 : Cond.selects RX12 yX12_undo yX12_undo ∈ lw_good := mg (List.mem_append_right _ (tp_7 (List.mem_of_getElem? (i := 143) rfl))) rfl
theorem q1584 : Cond.code yX12_undo cX12_undo 3 (some .boolean) ∈ lw_good := mg (List.mem_append_right _ (tp_7 (List.mem_of_getElem? (i := 144) rfl))) rfl
theorem q1585 : Cond.methodLink RL 165 yX12_hold ∈ lw_good := mg (List.mem_append_right _ (tp_7 (List.mem_of_getElem? (i := 145) rfl))) rfl
theorem q1586 : Cond.instanceMethod yX12_hold ∈ lw_good := mg (List.mem_append_right _ (tp_7 (List.mem_of_getElem? (i := 146) rfl))) rfl
theorem q1587 : Cond.selects RX12 yX12_hold yX12_hold ∈ lw_good := mg (List.mem_append_right _ (tp_7 (List.mem_of_getElem? (i := 147) rfl))) rfl
theorem q1588 : Cond.code yX12_hold cX12_hold 3 (some .boolean) ∈ lw_good := mg (List.mem_append_right _ (tp_7 (List.mem_of_getElem? (i := 148) rfl))) rfl
theorem q1589 : Cond.methodLink RL 169 yX12_restore ∈ lw_good := mg (List.mem_append_right _ (tp_7 (List.mem_of_getElem? (i := 149) rfl))) rfl
theorem q1590 : Cond.instanceMethod yX12_restore ∈ lw_good := mg (List.mem_append_right _ (tp_7 (List.mem_of_getElem? (i := 150) rfl))) rfl
theorem q1591 : Cond.selects RX12 yX12_restore yX12_restore ∈ lw_good := mg (List.mem_append_right _ (tp_7 (List.mem_of_getElem? (i := 151) rfl))) rfl
theorem q1592 : Cond.code yX12_restore cX12_restore 3 (some .boolean) ∈ lw_good := mg (List.mem_append_right _ (tp_7 (List.mem_of_getElem? (i := 152) rfl))) rfl
theorem q1593 : Cond.methodLink RL 68 yX12_site ∈ lw_good := mg (List.mem_append_right _ (tp_7 (List.mem_of_getElem? (i := 153) rfl))) rfl
theorem q1594 : Cond.instanceMethod yX12_site ∈ lw_good := mg (List.mem_append_right _ (tp_7 (List.mem_of_getElem? (i := 154) rfl))) rfl
theorem q1595 : Cond.selects RX12 yX12_site yX12_site ∈ lw_good := mg (List.mem_append_right _ (tp_7 (List.mem_of_getElem? (i := 155) rfl))) rfl
theorem q1596 : Cond.code yX12_site cX12_site 3 (some .int) ∈ lw_good := mg (List.mem_append_right _ (tp_7 (List.mem_of_getElem? (i := 156) rfl))) rfl
theorem q1597 : Cond.constant RX12 288 (-100000) ∈ lw_good := mg (List.mem_append_right _ (tp_7 (List.mem_of_getElem? (i := 157) rfl))) rfl
theorem q1598 : Cond.methodLink RX12 289 yX12_costOf ∈ lw_good := mg (List.mem_append_right _ (tp_7 (List.mem_of_getElem? (i := 158) rfl))) rfl
theorem q1600 : Cond.instanceMethod yX12_costOf ∈ lw_good := mg (List.mem_append_right _ (tp_7 (List.mem_of_getElem? (i := 160) rfl))) rfl
theorem q1601 : Cond.code yX12_costOf cX12_costOf 3 (some .int) ∈ lw_good := mg (List.mem_append_right _ (tp_7 (List.mem_of_getElem? (i := 161) rfl))) rfl
theorem q1602 : Cond.methodLink RL 72 yX12_level ∈ lw_good := mg (List.mem_append_right _ (tp_7 (List.mem_of_getElem? (i := 162) rfl))) rfl
theorem q1603 : Cond.instanceMethod yX12_level ∈ lw_good := mg (List.mem_append_right _ (tp_7 (List.mem_of_getElem? (i := 163) rfl))) rfl
theorem q1604 : Cond.selects RX12 yX12_level yX12_level ∈ lw_good := mg (List.mem_append_right _ (tp_7 (List.mem_of_getElem? (i := 164) rfl))) rfl
theorem q1605 : Cond.code yX12_level cX12_level 3 (some .int) ∈ lw_good := mg (List.mem_append_right _ (tp_7 (List.mem_of_getElem? (i := 165) rfl))) rfl
theorem q1606 : Cond.methodLink RX12 295 yX12_leastOf ∈ lw_good := mg (List.mem_append_right _ (tp_7 (List.mem_of_getElem? (i := 166) rfl))) rfl
theorem q1608 : Cond.instanceMethod yX12_leastOf ∈ lw_good := mg (List.mem_append_right _ (tp_7 (List.mem_of_getElem? (i := 168) rfl))) rfl
theorem q1609 : Cond.code yX12_leastOf cX12_leastOf 3 (some .int) ∈ lw_good := mg (List.mem_append_right _ (tp_7 (List.mem_of_getElem? (i := 169) rfl))) rfl
theorem q1610 : Cond.methodLink RX12 298 yX12_upsOf ∈ lw_good := mg (List.mem_append_right _ (tp_7 (List.mem_of_getElem? (i := 170) rfl))) rfl
theorem q1612 : Cond.instanceMethod yX12_upsOf ∈ lw_good := mg (List.mem_append_right _ (tp_7 (List.mem_of_getElem? (i := 172) rfl))) rfl
theorem q1613 : Cond.code yX12_upsOf cX12_upsOf 5 (some .int) ∈ lw_good := mg (List.mem_append_right _ (tp_7 (List.mem_of_getElem? (i := 173) rfl))) rfl
theorem q1614 : Cond.methodLink RX12 292 yX12_bitsOf ∈ lw_good := mg (List.mem_append_right _ (tp_7 (List.mem_of_getElem? (i := 174) rfl))) rfl
theorem q1615 : Cond.static yX12_bitsOf ∈ lw_good := mg (List.mem_append_right _ (tp_7 (List.mem_of_getElem? (i := 175) rfl))) rfl
theorem q1616 : Cond.code yX12_bitsOf cX12_bitsOf 3 (some .int) ∈ lw_good := mg (List.mem_append_right _ (tp_7 (List.mem_of_getElem? (i := 176) rfl))) rfl
theorem q1617 : Cond.methodLink RL 76 yX12_both ∈ lw_good := mg (List.mem_append_right _ (tp_7 (List.mem_of_getElem? (i := 177) rfl))) rfl
theorem q1618 : Cond.instanceMethod yX12_both ∈ lw_good := mg (List.mem_append_right _ (tp_7 (List.mem_of_getElem? (i := 178) rfl))) rfl
theorem q1619 : Cond.selects RX12 yX12_both yX12_both ∈ lw_good := mg (List.mem_append_right _ (tp_7 (List.mem_of_getElem? (i := 179) rfl))) rfl
theorem q1620 : Cond.code yX12_both cX12_both 5 (some .int) ∈ lw_good := mg (List.mem_append_right _ (tp_7 (List.mem_of_getElem? (i := 180) rfl))) rfl
theorem q1621 : Cond.methodLink RL 80 yX12_broken ∈ lw_good := mg (List.mem_append_right _ (tp_7 (List.mem_of_getElem? (i := 181) rfl))) rfl
theorem q1622 : Cond.instanceMethod yX12_broken ∈ lw_good := mg (List.mem_append_right _ (tp_7 (List.mem_of_getElem? (i := 182) rfl))) rfl
theorem q1623 : Cond.selects RX12 yX12_broken yX12_broken ∈ lw_good := mg (List.mem_append_right _ (tp_7 (List.mem_of_getElem? (i := 183) rfl))) rfl
theorem q1624 : Cond.code yX12_broken cX12_broken 4 (some .int) ∈ lw_good := mg (List.mem_append_right _ (tp_7 (List.mem_of_getElem? (i := 184) rfl))) rfl
theorem q1625 : Cond.methodLink RX12 305 yX12_brokenOf ∈ lw_good := mg (List.mem_append_right _ (tp_7 (List.mem_of_getElem? (i := 185) rfl))) rfl
theorem q1627 : Cond.instanceMethod yX12_brokenOf ∈ lw_good := mg (List.mem_append_right _ (tp_7 (List.mem_of_getElem? (i := 187) rfl))) rfl
theorem q1628 : Cond.code yX12_brokenOf cX12_brokenOf 8 (some .int) ∈ lw_good := mg (List.mem_append_right _ (tp_7 (List.mem_of_getElem? (i := 188) rfl))) rfl
theorem q1629 : Cond.methodLink RX12 301 yX12_has ∈ lw_good := mg (List.mem_append_right _ (tp_7 (List.mem_of_getElem? (i := 189) rfl))) rfl
theorem q1630 : Cond.static yX12_has ∈ lw_good := mg (List.mem_append_right _ (tp_7 (List.mem_of_getElem? (i := 190) rfl))) rfl
theorem q1631 : Cond.code yX12_has cX12_has 2 (some .boolean) ∈ lw_good := mg (List.mem_append_right _ (tp_7 (List.mem_of_getElem? (i := 191) rfl))) rfl
theorem q1632 : Cond.methodLink RL 84 yX12_ground ∈ lw_good := mg (List.mem_append_right _ (tp_7 (List.mem_of_getElem? (i := 192) rfl))) rfl
theorem q1633 : Cond.instanceMethod yX12_ground ∈ lw_good := mg (List.mem_append_right _ (tp_7 (List.mem_of_getElem? (i := 193) rfl))) rfl
theorem q1634 : Cond.selects RX12 yX12_ground yX12_ground ∈ lw_good := mg (List.mem_append_right _ (tp_7 (List.mem_of_getElem? (i := 194) rfl))) rfl
theorem q1635 : Cond.code yX12_ground cX12_ground 2 (some .int) ∈ lw_good := mg (List.mem_append_right _ (tp_7 (List.mem_of_getElem? (i := 195) rfl))) rfl
theorem q1636 : Cond.methodLink RL 89 yX12_pair ∈ lw_good := mg (List.mem_append_right _ (tp_7 (List.mem_of_getElem? (i := 196) rfl))) rfl
theorem q1637 : Cond.instanceMethod yX12_pair ∈ lw_good := mg (List.mem_append_right _ (tp_7 (List.mem_of_getElem? (i := 197) rfl))) rfl
theorem q1638 : Cond.selects RX12 yX12_pair yX12_pair ∈ lw_good := mg (List.mem_append_right _ (tp_7 (List.mem_of_getElem? (i := 198) rfl))) rfl
theorem q1639 : Cond.code yX12_pair cX12_pair 7 (some .int) ∈ lw_good := mg (List.mem_append_right _ (tp_7 (List.mem_of_getElem? (i := 199) rfl))) rfl
theorem q1640 : Cond.methodLink RX12 308 yX12_part ∈ lw_good := mg (List.mem_append_right _ (tp_7 (List.mem_of_getElem? (i := 200) rfl))) rfl
theorem q1641 : Cond.static yX12_part ∈ lw_good := mg (List.mem_append_right _ (tp_7 (List.mem_of_getElem? (i := 201) rfl))) rfl
theorem q1642 : Cond.code yX12_part cX12_part 6 (some .int) ∈ lw_good := mg (List.mem_append_right _ (tp_7 (List.mem_of_getElem? (i := 202) rfl))) rfl
theorem q1643 : Cond.methodLink RL 93 yX12_mean ∈ lw_good := mg (List.mem_append_right _ (tp_7 (List.mem_of_getElem? (i := 203) rfl))) rfl
theorem q1644 : Cond.instanceMethod yX12_mean ∈ lw_good := mg (List.mem_append_right _ (tp_7 (List.mem_of_getElem? (i := 204) rfl))) rfl
theorem q1645 : Cond.selects RX12 yX12_mean yX12_mean ∈ lw_good := mg (List.mem_append_right _ (tp_7 (List.mem_of_getElem? (i := 205) rfl))) rfl
theorem q1646 : Cond.code yX12_mean cX12_mean 5 (some .int) ∈ lw_good := mg (List.mem_append_right _ (tp_7 (List.mem_of_getElem? (i := 206) rfl))) rfl
theorem q1647 : Cond.methodLink RL 97 yX12_value ∈ lw_good := mg (List.mem_append_right _ (tp_7 (List.mem_of_getElem? (i := 207) rfl))) rfl
theorem q1648 : Cond.instanceMethod yX12_value ∈ lw_good := mg (List.mem_append_right _ (tp_7 (List.mem_of_getElem? (i := 208) rfl))) rfl
theorem q1649 : Cond.selects RX12 yX12_value yX12_value ∈ lw_good := mg (List.mem_append_right _ (tp_7 (List.mem_of_getElem? (i := 209) rfl))) rfl
theorem q1650 : Cond.code yX12_value cX12_value 8 (some .int) ∈ lw_good := mg (List.mem_append_right _ (tp_7 (List.mem_of_getElem? (i := 210) rfl))) rfl
theorem q1651 : Cond.constant RX12 312 (1000002) ∈ lw_good := mg (List.mem_append_right _ (tp_7 (List.mem_of_getElem? (i := 211) rfl))) rfl
theorem q1652 : Cond.constantLong RX12 313 (1000003) ∈ lw_good := mg (List.mem_append_right _ (tp_7 (List.mem_of_getElem? (i := 212) rfl))) rfl
theorem q1653 : Cond.methodLink RL 102 yX12_joined ∈ lw_good := mg (List.mem_append_right _ (tp_7 (List.mem_of_getElem? (i := 213) rfl))) rfl
theorem q1654 : Cond.instanceMethod yX12_joined ∈ lw_good := mg (List.mem_append_right _ (tp_7 (List.mem_of_getElem? (i := 214) rfl))) rfl
theorem q1655 : Cond.selects RX12 yX12_joined yX12_joined ∈ lw_good := mg (List.mem_append_right _ (tp_7 (List.mem_of_getElem? (i := 215) rfl))) rfl
theorem q1656 : Cond.code yX12_joined cX12_joined 6 (some .long) ∈ lw_good := mg (List.mem_append_right _ (tp_7 (List.mem_of_getElem? (i := 216) rfl))) rfl
theorem q1657 : Cond.constantLong RX12 315 (-100000) ∈ lw_good := mg (List.mem_append_right _ (tp_7 (List.mem_of_getElem? (i := 217) rfl))) rfl
theorem q1658 : Cond.methodLink RX12 317 yX12_laysMany ∈ lw_good := mg (List.mem_append_right _ (tp_7 (List.mem_of_getElem? (i := 218) rfl))) rfl
theorem q1660 : Cond.instanceMethod yX12_laysMany ∈ lw_good := mg (List.mem_append_right _ (tp_7 (List.mem_of_getElem? (i := 220) rfl))) rfl
theorem q1661 : Cond.code yX12_laysMany cX12_laysMany 4 none ∈ lw_good := mg (List.mem_append_right _ (tp_7 (List.mem_of_getElem? (i := 221) rfl))) rfl
theorem q1662 : Cond.methodLink RL 106 yX12_state ∈ lw_good := mg (List.mem_append_right _ (tp_7 (List.mem_of_getElem? (i := 222) rfl))) rfl
theorem q1663 : Cond.instanceMethod yX12_state ∈ lw_good := mg (List.mem_append_right _ (tp_7 (List.mem_of_getElem? (i := 223) rfl))) rfl
theorem q1664 : Cond.selects RX12 yX12_state yX12_state ∈ lw_good := mg (List.mem_append_right _ (tp_7 (List.mem_of_getElem? (i := 224) rfl))) rfl
theorem q1665 : Cond.code yX12_state cX12_state 3 (some .int) ∈ lw_good := mg (List.mem_append_right _ (tp_7 (List.mem_of_getElem? (i := 225) rfl))) rfl
theorem q1666 : Cond.methodLink RX12 324 yX12_levelOf ∈ lw_good := mg (List.mem_append_right _ (tp_7 (List.mem_of_getElem? (i := 226) rfl))) rfl
theorem q1668 : Cond.instanceMethod yX12_levelOf ∈ lw_good := mg (List.mem_append_right _ (tp_7 (List.mem_of_getElem? (i := 228) rfl))) rfl
theorem q1669 : Cond.code yX12_levelOf cX12_levelOf 3 (some .int) ∈ lw_good := mg (List.mem_append_right _ (tp_7 (List.mem_of_getElem? (i := 229) rfl))) rfl
theorem q1670 : Cond.methodLink RL 111 yX12_stuck ∈ lw_good := mg (List.mem_append_right _ (tp_7 (List.mem_of_getElem? (i := 230) rfl))) rfl
theorem q1671 : Cond.instanceMethod yX12_stuck ∈ lw_good := mg (List.mem_append_right _ (tp_7 (List.mem_of_getElem? (i := 231) rfl))) rfl
theorem q1672 : Cond.selects RX12 yX12_stuck yX12_stuck ∈ lw_good := mg (List.mem_append_right _ (tp_7 (List.mem_of_getElem? (i := 232) rfl))) rfl
theorem q1673 : Cond.code yX12_stuck cX12_stuck 4 (some .int) ∈ lw_good := mg (List.mem_append_right _ (tp_7 (List.mem_of_getElem? (i := 233) rfl))) rfl
theorem q1674 : Cond.methodLink RL 128 yX12_basin ∈ lw_good := mg (List.mem_append_right _ (tp_7 (List.mem_of_getElem? (i := 234) rfl))) rfl
theorem q1675 : Cond.instanceMethod yX12_basin ∈ lw_good := mg (List.mem_append_right _ (tp_7 (List.mem_of_getElem? (i := 235) rfl))) rfl
theorem q1676 : Cond.selects RX12 yX12_basin yX12_basin ∈ lw_good := mg (List.mem_append_right _ (tp_7 (List.mem_of_getElem? (i := 236) rfl))) rfl
theorem q1677 : Cond.code yX12_basin cX12_basin 4 (some .int) ∈ lw_good := mg (List.mem_append_right _ (tp_7 (List.mem_of_getElem? (i := 237) rfl))) rfl
theorem q1678 : Cond.methodLink RL 136 yX12_hill ∈ lw_good := mg (List.mem_append_right _ (tp_7 (List.mem_of_getElem? (i := 238) rfl))) rfl
theorem q1679 : Cond.instanceMethod yX12_hill ∈ lw_good := mg (List.mem_append_right _ (tp_7 (List.mem_of_getElem? (i := 239) rfl))) rfl
theorem q1680 : Cond.selects RX12 yX12_hill yX12_hill ∈ lw_good := mg (List.mem_append_right _ (tp_8 (List.mem_of_getElem? (i := 0) rfl))) rfl
theorem q1681 : Cond.code yX12_hill cX12_hill 3 (some .int) ∈ lw_good := mg (List.mem_append_right _ (tp_8 (List.mem_of_getElem? (i := 1) rfl))) rfl
theorem q1682 : Cond.methodLink RX12 327 yX12_laysHills ∈ lw_good := mg (List.mem_append_right _ (tp_8 (List.mem_of_getElem? (i := 2) rfl))) rfl
theorem q1684 : Cond.instanceMethod yX12_laysHills ∈ lw_good := mg (List.mem_append_right _ (tp_8 (List.mem_of_getElem? (i := 4) rfl))) rfl
theorem q1685 : Cond.code yX12_laysHills cX12_laysHills 5 none ∈ lw_good := mg (List.mem_append_right _ (tp_8 (List.mem_of_getElem? (i := 5) rfl))) rfl
theorem q1686 : Cond.methodLink RL 140 yX12_pass ∈ lw_good := mg (List.mem_append_right _ (tp_8 (List.mem_of_getElem? (i := 6) rfl))) rfl
theorem q1687 : Cond.instanceMethod yX12_pass ∈ lw_good := mg (List.mem_append_right _ (tp_8 (List.mem_of_getElem? (i := 7) rfl))) rfl
theorem q1688 : Cond.selects RX12 yX12_pass yX12_pass ∈ lw_good := mg (List.mem_append_right _ (tp_8 (List.mem_of_getElem? (i := 8) rfl))) rfl
theorem q1689 : Cond.code yX12_pass cX12_pass 4 (some .int) ∈ lw_good := mg (List.mem_append_right _ (tp_8 (List.mem_of_getElem? (i := 9) rfl))) rfl
theorem q1690 : Cond.methodLink RL 144 yX12_lakes ∈ lw_good := mg (List.mem_append_right _ (tp_8 (List.mem_of_getElem? (i := 10) rfl))) rfl
theorem q1691 : Cond.instanceMethod yX12_lakes ∈ lw_good := mg (List.mem_append_right _ (tp_8 (List.mem_of_getElem? (i := 11) rfl))) rfl
theorem q1692 : Cond.selects RX12 yX12_lakes yX12_lakes ∈ lw_good := mg (List.mem_append_right _ (tp_8 (List.mem_of_getElem? (i := 12) rfl))) rfl
theorem q1693 : Cond.code yX12_lakes cX12_lakes 8 (some .int) ∈ lw_good := mg (List.mem_append_right _ (tp_8 (List.mem_of_getElem? (i := 13) rfl))) rfl
theorem q1694 : Cond.methodLink RL 149 yX12_down ∈ lw_good := mg (List.mem_append_right _ (tp_8 (List.mem_of_getElem? (i := 14) rfl))) rfl
theorem q1695 : Cond.instanceMethod yX12_down ∈ lw_good := mg (List.mem_append_right _ (tp_8 (List.mem_of_getElem? (i := 15) rfl))) rfl
theorem q1696 : Cond.selects RX12 yX12_down yX12_down ∈ lw_good := mg (List.mem_append_right _ (tp_8 (List.mem_of_getElem? (i := 16) rfl))) rfl
theorem q1697 : Cond.code yX12_down cX12_down 5 (some .long) ∈ lw_good := mg (List.mem_append_right _ (tp_8 (List.mem_of_getElem? (i := 17) rfl))) rfl
theorem q1698 : Cond.methodLink RL 153 yX12_nearest ∈ lw_good := mg (List.mem_append_right _ (tp_8 (List.mem_of_getElem? (i := 18) rfl))) rfl
theorem q1699 : Cond.instanceMethod yX12_nearest ∈ lw_good := mg (List.mem_append_right _ (tp_8 (List.mem_of_getElem? (i := 19) rfl))) rfl
theorem q1700 : Cond.selects RX12 yX12_nearest yX12_nearest ∈ lw_good := mg (List.mem_append_right _ (tp_8 (List.mem_of_getElem? (i := 20) rfl))) rfl
theorem q1701 : Cond.code yX12_nearest cX12_nearest 5 (some .int) ∈ lw_good := mg (List.mem_append_right _ (tp_8 (List.mem_of_getElem? (i := 21) rfl))) rfl
theorem q1702 : Cond.methodLink RL 132 yX12_stiff ∈ lw_good := mg (List.mem_append_right _ (tp_8 (List.mem_of_getElem? (i := 22) rfl))) rfl
theorem q1703 : Cond.instanceMethod yX12_stiff ∈ lw_good := mg (List.mem_append_right _ (tp_8 (List.mem_of_getElem? (i := 23) rfl))) rfl
theorem q1704 : Cond.selects RX12 yX12_stiff yX12_stiff ∈ lw_good := mg (List.mem_append_right _ (tp_8 (List.mem_of_getElem? (i := 24) rfl))) rfl
theorem q1705 : Cond.code yX12_stiff cX12_stiff 6 (some .int) ∈ lw_good := mg (List.mem_append_right _ (tp_8 (List.mem_of_getElem? (i := 25) rfl))) rfl
theorem q1706 : Cond.methodLink RL 124 yX12_overlap ∈ lw_good := mg (List.mem_append_right _ (tp_8 (List.mem_of_getElem? (i := 26) rfl))) rfl
theorem q1707 : Cond.instanceMethod yX12_overlap ∈ lw_good := mg (List.mem_append_right _ (tp_8 (List.mem_of_getElem? (i := 27) rfl))) rfl
theorem q1708 : Cond.selects RX12 yX12_overlap yX12_overlap ∈ lw_good := mg (List.mem_append_right _ (tp_8 (List.mem_of_getElem? (i := 28) rfl))) rfl
theorem q1709 : Cond.code yX12_overlap cX12_overlap 6 (some .int) ∈ lw_good := mg (List.mem_append_right _ (tp_8 (List.mem_of_getElem? (i := 29) rfl))) rfl
theorem q1710 : Cond.methodLink RL 116 yX12_rows ∈ lw_good := mg (List.mem_append_right _ (tp_8 (List.mem_of_getElem? (i := 30) rfl))) rfl
theorem q1711 : Cond.instanceMethod yX12_rows ∈ lw_good := mg (List.mem_append_right _ (tp_8 (List.mem_of_getElem? (i := 31) rfl))) rfl
theorem q1712 : Cond.selects RX12 yX12_rows yX12_rows ∈ lw_good := mg (List.mem_append_right _ (tp_8 (List.mem_of_getElem? (i := 32) rfl))) rfl
theorem q1713 : Cond.code yX12_rows cX12_rows 8 (some .int) ∈ lw_good := mg (List.mem_append_right _ (tp_8 (List.mem_of_getElem? (i := 33) rfl))) rfl
theorem q1714 : Cond.methodLink RL 120 yX12_square ∈ lw_good := mg (List.mem_append_right _ (tp_8 (List.mem_of_getElem? (i := 34) rfl))) rfl
theorem q1715 : Cond.instanceMethod yX12_square ∈ lw_good := mg (List.mem_append_right _ (tp_8 (List.mem_of_getElem? (i := 35) rfl))) rfl
theorem q1716 : Cond.selects RX12 yX12_square yX12_square ∈ lw_good := mg (List.mem_append_right _ (tp_8 (List.mem_of_getElem? (i := 36) rfl))) rfl
theorem q1717 : Cond.code yX12_square cX12_square 2 (some .int) ∈ lw_good := mg (List.mem_append_right _ (tp_8 (List.mem_of_getElem? (i := 37) rfl))) rfl
theorem q1718 : Cond.methodLink RX12 330 yX12_oddOf ∈ lw_good := mg (List.mem_append_right _ (tp_8 (List.mem_of_getElem? (i := 38) rfl))) rfl
theorem q1720 : Cond.instanceMethod yX12_oddOf ∈ lw_good := mg (List.mem_append_right _ (tp_8 (List.mem_of_getElem? (i := 40) rfl))) rfl
theorem q1721 : Cond.code yX12_oddOf cX12_oddOf 5 (some .int) ∈ lw_good := mg (List.mem_append_right _ (tp_8 (List.mem_of_getElem? (i := 41) rfl))) rfl
theorem q1722 : Cond.methodLink RL 157 yX12_cluster ∈ lw_good := mg (List.mem_append_right _ (tp_8 (List.mem_of_getElem? (i := 42) rfl))) rfl
theorem q1723 : Cond.instanceMethod yX12_cluster ∈ lw_good := mg (List.mem_append_right _ (tp_8 (List.mem_of_getElem? (i := 43) rfl))) rfl
theorem q1724 : Cond.selects RX12 yX12_cluster yX12_cluster ∈ lw_good := mg (List.mem_append_right _ (tp_8 (List.mem_of_getElem? (i := 44) rfl))) rfl
theorem q1725 : Cond.code yX12_cluster cX12_cluster 2 (some .int) ∈ lw_good := mg (List.mem_append_right _ (tp_8 (List.mem_of_getElem? (i := 45) rfl))) rfl
theorem q1726 : Cond.methodLink RX12 333 yX12_clusterOf ∈ lw_good := mg (List.mem_append_right _ (tp_8 (List.mem_of_getElem? (i := 46) rfl))) rfl
theorem q1728 : Cond.instanceMethod yX12_clusterOf ∈ lw_good := mg (List.mem_append_right _ (tp_8 (List.mem_of_getElem? (i := 48) rfl))) rfl
theorem q1729 : Cond.code yX12_clusterOf cX12_clusterOf 7 (some .int) ∈ lw_good := mg (List.mem_append_right _ (tp_8 (List.mem_of_getElem? (i := 49) rfl))) rfl
theorem q1730 : Cond.methodLink RL 161 yX12_wander ∈ lw_good := mg (List.mem_append_right _ (tp_8 (List.mem_of_getElem? (i := 50) rfl))) rfl
theorem q1731 : Cond.instanceMethod yX12_wander ∈ lw_good := mg (List.mem_append_right _ (tp_8 (List.mem_of_getElem? (i := 51) rfl))) rfl
theorem q1732 : Cond.selects RX12 yX12_wander yX12_wander ∈ lw_good := mg (List.mem_append_right _ (tp_8 (List.mem_of_getElem? (i := 52) rfl))) rfl
theorem q1733 : Cond.code yX12_wander cX12_wander 12 (some .int) ∈ lw_good := mg (List.mem_append_right _ (tp_8 (List.mem_of_getElem? (i := 53) rfl))) rfl
theorem q1734 : Cond.constantLong RX12 336 (100) ∈ lw_good := mg (List.mem_append_right _ (tp_8 (List.mem_of_getElem? (i := 54) rfl))) rfl
theorem q1735 : Cond.methodLink RL 173 yX12_count ∈ lw_good := mg (List.mem_append_right _ (tp_8 (List.mem_of_getElem? (i := 55) rfl))) rfl
theorem q1736 : Cond.instanceMethod yX12_count ∈ lw_good := mg (List.mem_append_right _ (tp_8 (List.mem_of_getElem? (i := 56) rfl))) rfl
theorem q1737 : Cond.selects RX12 yX12_count yX12_count ∈ lw_good := mg (List.mem_append_right _ (tp_8 (List.mem_of_getElem? (i := 57) rfl))) rfl
theorem q1738 : Cond.code yX12_count cX12_count 2 (some .int) ∈ lw_good := mg (List.mem_append_right _ (tp_8 (List.mem_of_getElem? (i := 58) rfl))) rfl
theorem q1739 : Cond.methodLink RX12 338 yX12_lawfulMany ∈ lw_good := mg (List.mem_append_right _ (tp_8 (List.mem_of_getElem? (i := 59) rfl))) rfl
theorem q1741 : Cond.instanceMethod yX12_lawfulMany ∈ lw_good := mg (List.mem_append_right _ (tp_8 (List.mem_of_getElem? (i := 61) rfl))) rfl
theorem q1742 : Cond.code yX12_lawfulMany cX12_lawfulMany 3 (some .int) ∈ lw_good := mg (List.mem_append_right _ (tp_8 (List.mem_of_getElem? (i := 62) rfl))) rfl
theorem q1743 : Cond.methodLink RX12 341 yX12_pinned ∈ lw_good := mg (List.mem_append_right _ (tp_8 (List.mem_of_getElem? (i := 63) rfl))) rfl
theorem q1745 : Cond.instanceMethod yX12_pinned ∈ lw_good := mg (List.mem_append_right _ (tp_8 (List.mem_of_getElem? (i := 65) rfl))) rfl
theorem q1746 : Cond.code yX12_pinned cX12_pinned 3 (some .int) ∈ lw_good := mg (List.mem_append_right _ (tp_8 (List.mem_of_getElem? (i := 66) rfl))) rfl
theorem q1747 : Cond.methodLink RX12 344 yX12_ties ∈ lw_good := mg (List.mem_append_right _ (tp_8 (List.mem_of_getElem? (i := 67) rfl))) rfl
theorem q1749 : Cond.instanceMethod yX12_ties ∈ lw_good := mg (List.mem_append_right _ (tp_8 (List.mem_of_getElem? (i := 69) rfl))) rfl
theorem q1750 : Cond.code yX12_ties cX12_ties 3 (some .int) ∈ lw_good := mg (List.mem_append_right _ (tp_8 (List.mem_of_getElem? (i := 70) rfl))) rfl
theorem q1751 : Cond.methodLink RX12 347 yX12_clusters ∈ lw_good := mg (List.mem_append_right _ (tp_8 (List.mem_of_getElem? (i := 71) rfl))) rfl
theorem q1753 : Cond.instanceMethod yX12_clusters ∈ lw_good := mg (List.mem_append_right _ (tp_8 (List.mem_of_getElem? (i := 73) rfl))) rfl
theorem q1754 : Cond.code yX12_clusters cX12_clusters 3 (some .int) ∈ lw_good := mg (List.mem_append_right _ (tp_8 (List.mem_of_getElem? (i := 74) rfl))) rfl
theorem q1755 : Cond.methodLink RX12 350 yX12_greatest ∈ lw_good := mg (List.mem_append_right _ (tp_8 (List.mem_of_getElem? (i := 75) rfl))) rfl
theorem q1757 : Cond.instanceMethod yX12_greatest ∈ lw_good := mg (List.mem_append_right _ (tp_8 (List.mem_of_getElem? (i := 77) rfl))) rfl
theorem q1758 : Cond.code yX12_greatest cX12_greatest 3 (some .int) ∈ lw_good := mg (List.mem_append_right _ (tp_8 (List.mem_of_getElem? (i := 78) rfl))) rfl
theorem q1759 : Cond.methodLink RX12 353 yX12_fewestBroken ∈ lw_good := mg (List.mem_append_right _ (tp_8 (List.mem_of_getElem? (i := 79) rfl))) rfl
theorem q1761 : Cond.instanceMethod yX12_fewestBroken ∈ lw_good := mg (List.mem_append_right _ (tp_8 (List.mem_of_getElem? (i := 81) rfl))) rfl
theorem q1762 : Cond.code yX12_fewestBroken cX12_fewestBroken 4 (some .int) ∈ lw_good := mg (List.mem_append_right _ (tp_8 (List.mem_of_getElem? (i := 82) rfl))) rfl
theorem q1763 : Cond.methodLink RX12 356 yX12_odds ∈ lw_good := mg (List.mem_append_right _ (tp_8 (List.mem_of_getElem? (i := 83) rfl))) rfl
theorem q1765 : Cond.instanceMethod yX12_odds ∈ lw_good := mg (List.mem_append_right _ (tp_8 (List.mem_of_getElem? (i := 85) rfl))) rfl
theorem q1766 : Cond.code yX12_odds cX12_odds 3 (some .int) ∈ lw_good := mg (List.mem_append_right _ (tp_8 (List.mem_of_getElem? (i := 86) rfl))) rfl
theorem q1767 : Cond.fieldLink RJ0 9 "java/lang/String" "value" "[B" ∈ lw_good := mg (List.mem_append_right _ (tp_8 (List.mem_of_getElem? (i := 87) rfl))) rfl
theorem q1768 : Cond.fieldLink RJ0 15 "java/lang/String" "coder" "B" ∈ lw_good := mg (List.mem_append_right _ (tp_8 (List.mem_of_getElem? (i := 88) rfl))) rfl
theorem qp0 : Cond.selects RX8 yX8_addWord yX8_addWord ∈ lw_good := mg (List.mem_append_left _ (List.mem_of_getElem? (i := 0) (by decide +kernel))) (by decide +kernel)
theorem qp1 : Cond.selects RX1 yX1_build yX1_build ∈ lw_good := mg (List.mem_append_left _ (List.mem_of_getElem? (i := 1) (by decide +kernel))) (by decide +kernel)
theorem qp2 : Cond.selects RX1 yX1_begin yX1_begin ∈ lw_good := mg (List.mem_append_left _ (List.mem_of_getElem? (i := 2) (by decide +kernel))) (by decide +kernel)
theorem qp3 : Cond.selects RX6 yX6_clear yX6_clear ∈ lw_good := mg (List.mem_append_left _ (List.mem_of_getElem? (i := 3) (by decide +kernel))) (by decide +kernel)
theorem qp4 : Cond.selects RX8 yX8_cut yX8_cut ∈ lw_good := mg (List.mem_append_left _ (List.mem_of_getElem? (i := 4) (by decide +kernel))) (by decide +kernel)
theorem qp5 : Cond.selects RX8 yX8_findToken yX8_findToken ∈ lw_good := mg (List.mem_append_left _ (List.mem_of_getElem? (i := 5) (by decide +kernel))) (by decide +kernel)
theorem qp6 : Cond.selects RX8 yX8_byteAt yX8_byteAt ∈ lw_good := mg (List.mem_append_left _ (List.mem_of_getElem? (i := 6) (by decide +kernel))) (by decide +kernel)
theorem qp7 : Cond.selects RX8 yX8_skipLetters yX8_skipLetters ∈ lw_good := mg (List.mem_append_left _ (List.mem_of_getElem? (i := 7) (by decide +kernel))) (by decide +kernel)
theorem qp8 : Cond.selects RX8 yX8_wordKind yX8_wordKind ∈ lw_good := mg (List.mem_append_left _ (List.mem_of_getElem? (i := 8) (by decide +kernel))) (by decide +kernel)
theorem qp9 : Cond.selects RX8 yX8_spells yX8_spells ∈ lw_good := mg (List.mem_append_left _ (List.mem_of_getElem? (i := 9) (by decide +kernel))) (by decide +kernel)
theorem qp10 : Cond.selects RX8 yX8_findInt yX8_findInt ∈ lw_good := mg (List.mem_append_left _ (List.mem_of_getElem? (i := 10) (by decide +kernel))) (by decide +kernel)
theorem qp11 : Cond.selects RX8 yX8_keepToken yX8_keepToken ∈ lw_good := mg (List.mem_append_left _ (List.mem_of_getElem? (i := 11) (by decide +kernel))) (by decide +kernel)
theorem qp12 : Cond.selects RX1 yX1_blame yX1_blame ∈ lw_good := mg (List.mem_append_left _ (List.mem_of_getElem? (i := 12) (by decide +kernel))) (by decide +kernel)
theorem qp13 : Cond.selects RX1 yX1_takeSize yX1_takeSize ∈ lw_good := mg (List.mem_append_left _ (List.mem_of_getElem? (i := 13) (by decide +kernel))) (by decide +kernel)
theorem qp14 : Cond.selects RX1 yX1_takeKind yX1_takeKind ∈ lw_good := mg (List.mem_append_left _ (List.mem_of_getElem? (i := 14) (by decide +kernel))) (by decide +kernel)
theorem qp15 : Cond.selects RX8 yX8_kindAt yX8_kindAt ∈ lw_good := mg (List.mem_append_left _ (List.mem_of_getElem? (i := 15) (by decide +kernel))) (by decide +kernel)
theorem qp16 : Cond.selects RX1 yX1_takeInt yX1_takeInt ∈ lw_good := mg (List.mem_append_left _ (List.mem_of_getElem? (i := 16) (by decide +kernel))) (by decide +kernel)
theorem qp17 : Cond.selects RX8 yX8_numberAt yX8_numberAt ∈ lw_good := mg (List.mem_append_left _ (List.mem_of_getElem? (i := 17) (by decide +kernel))) (by decide +kernel)
theorem qp18 : Cond.selects RX8 yX8_placeAt yX8_placeAt ∈ lw_good := mg (List.mem_append_left _ (List.mem_of_getElem? (i := 18) (by decide +kernel))) (by decide +kernel)
theorem qp19 : Cond.selects RX1 yX1_seeRings yX1_seeRings ∈ lw_good := mg (List.mem_append_left _ (List.mem_of_getElem? (i := 19) (by decide +kernel))) (by decide +kernel)
theorem qp20 : Cond.selects RX1 yX1_takeTell yX1_takeTell ∈ lw_good := mg (List.mem_append_left _ (List.mem_of_getElem? (i := 20) (by decide +kernel))) (by decide +kernel)
theorem qp21 : Cond.selects RX1 yX1_takeJ yX1_takeJ ∈ lw_good := mg (List.mem_append_left _ (List.mem_of_getElem? (i := 21) (by decide +kernel))) (by decide +kernel)
theorem qp22 : Cond.selects RX1 yX1_takeTie yX1_takeTie ∈ lw_good := mg (List.mem_append_left _ (List.mem_of_getElem? (i := 22) (by decide +kernel))) (by decide +kernel)
theorem qp23 : Cond.selects RX1 yX1_takeSite yX1_takeSite ∈ lw_good := mg (List.mem_append_left _ (List.mem_of_getElem? (i := 23) (by decide +kernel))) (by decide +kernel)
theorem qp24 : Cond.selects RX6 yX6_setBond yX6_setBond ∈ lw_good := mg (List.mem_append_left _ (List.mem_of_getElem? (i := 24) (by decide +kernel))) (by decide +kernel)
theorem qp25 : Cond.selects RX1 yX1_takePull yX1_takePull ∈ lw_good := mg (List.mem_append_left _ (List.mem_of_getElem? (i := 25) (by decide +kernel))) (by decide +kernel)
theorem qp26 : Cond.selects RX6 yX6_setField yX6_setField ∈ lw_good := mg (List.mem_append_left _ (List.mem_of_getElem? (i := 26) (by decide +kernel))) (by decide +kernel)
theorem qp27 : Cond.selects RX1 yX1_takePin yX1_takePin ∈ lw_good := mg (List.mem_append_left _ (List.mem_of_getElem? (i := 27) (by decide +kernel))) (by decide +kernel)
theorem qp28 : Cond.selects RX6 yX6_setPin yX6_setPin ∈ lw_good := mg (List.mem_append_left _ (List.mem_of_getElem? (i := 28) (by decide +kernel))) (by decide +kernel)
theorem qp29 : Cond.selects RX1 yX1_giveUntold yX1_giveUntold ∈ lw_good := mg (List.mem_append_left _ (List.mem_of_getElem? (i := 29) (by decide +kernel))) (by decide +kernel)
theorem qp30 : Cond.selects RX11 yX11_beginAnew yX11_beginAnew ∈ lw_good := mg (List.mem_append_left _ (List.mem_of_getElem? (i := 30) (by decide +kernel))) (by decide +kernel)
theorem qp31 : Cond.selects RX3 yX3_lay yX3_lay ∈ lw_good := mg (List.mem_append_left _ (List.mem_of_getElem? (i := 31) (by decide +kernel))) (by decide +kernel)
theorem qp32 : Cond.selects RX3 yX3_addMate yX3_addMate ∈ lw_good := mg (List.mem_append_left _ (List.mem_of_getElem? (i := 32) (by decide +kernel))) (by decide +kernel)
theorem qp33 : Cond.selects RX6 yX6_copyFrom yX6_copyFrom ∈ lw_good := mg (List.mem_append_left _ (List.mem_of_getElem? (i := 33) (by decide +kernel))) (by decide +kernel)
theorem qp34 : Cond.selects RX5 yX5_forget yX5_forget ∈ lw_good := mg (List.mem_append_left _ (List.mem_of_getElem? (i := 34) (by decide +kernel))) (by decide +kernel)
theorem qp35 : Cond.selects RX11 yX11_stampTies yX11_stampTies ∈ lw_good := mg (List.mem_append_left _ (List.mem_of_getElem? (i := 35) (by decide +kernel))) (by decide +kernel)
theorem qp36 : Cond.selects RX3 yX3_tiePlace yX3_tiePlace ∈ lw_good := mg (List.mem_append_left _ (List.mem_of_getElem? (i := 36) (by decide +kernel))) (by decide +kernel)
theorem qp37 : Cond.selects RX3 yX3_hasSite yX3_hasSite ∈ lw_good := mg (List.mem_append_left _ (List.mem_of_getElem? (i := 37) (by decide +kernel))) (by decide +kernel)
theorem qp38 : Cond.selects RX3 yX3_endAt yX3_endAt ∈ lw_good := mg (List.mem_append_left _ (List.mem_of_getElem? (i := 38) (by decide +kernel))) (by decide +kernel)
theorem qp39 : Cond.selects RX6 yX6_bondAt yX6_bondAt ∈ lw_good := mg (List.mem_append_left _ (List.mem_of_getElem? (i := 39) (by decide +kernel))) (by decide +kernel)
theorem qp40 : Cond.selects RX5 yX5_keep yX5_keep ∈ lw_good := mg (List.mem_append_left _ (List.mem_of_getElem? (i := 40) (by decide +kernel))) (by decide +kernel)
theorem qp41 : Cond.selects RX6 yX6_fieldAt yX6_fieldAt ∈ lw_good := mg (List.mem_append_left _ (List.mem_of_getElem? (i := 41) (by decide +kernel))) (by decide +kernel)
theorem qp42 : Cond.selects RX6 yX6_pinAt yX6_pinAt ∈ lw_good := mg (List.mem_append_left _ (List.mem_of_getElem? (i := 42) (by decide +kernel))) (by decide +kernel)
theorem qp43 : Cond.selects RX6 yX6_isPinned yX6_isPinned ∈ lw_good := mg (List.mem_append_left _ (List.mem_of_getElem? (i := 43) (by decide +kernel))) (by decide +kernel)
theorem qp44 : Cond.selects RX11 yX11_stampPins yX11_stampPins ∈ lw_good := mg (List.mem_append_left _ (List.mem_of_getElem? (i := 44) (by decide +kernel))) (by decide +kernel)
theorem qp45 : Cond.selects RX10 yX10_fallFrom yX10_fallFrom ∈ lw_good := mg (List.mem_append_left _ (List.mem_of_getElem? (i := 45) (by decide +kernel))) (by decide +kernel)
theorem qp46 : Cond.selects RX3 yX3_steepest yX3_steepest ∈ lw_good := mg (List.mem_append_left _ (List.mem_of_getElem? (i := 46) (by decide +kernel))) (by decide +kernel)
theorem qp47 : Cond.selects RX3 yX3_costOfTurn yX3_costOfTurn ∈ lw_good := mg (List.mem_append_left _ (List.mem_of_getElem? (i := 47) (by decide +kernel))) (by decide +kernel)
theorem qp48 : Cond.selects RX5 yX5_giveBack yX5_giveBack ∈ lw_good := mg (List.mem_append_left _ (List.mem_of_getElem? (i := 48) (by decide +kernel))) (by decide +kernel)
theorem qp49 : Cond.selects RX3 yX3_rowOf yX3_rowOf ∈ lw_good := mg (List.mem_append_left _ (List.mem_of_getElem? (i := 49) (by decide +kernel))) (by decide +kernel)
theorem qp50 : Cond.selects RX3 yX3_columnOf yX3_columnOf ∈ lw_good := mg (List.mem_append_left _ (List.mem_of_getElem? (i := 50) (by decide +kernel))) (by decide +kernel)
theorem qp51 : Cond.selects RX11 yX11_bondOrNoTie yX11_bondOrNoTie ∈ lw_good := mg (List.mem_append_left _ (List.mem_of_getElem? (i := 51) (by decide +kernel))) (by decide +kernel)
theorem qp52 : Cond.selects RX3 yX3_squareOf yX3_squareOf ∈ lw_good := mg (List.mem_append_left _ (List.mem_of_getElem? (i := 52) (by decide +kernel))) (by decide +kernel)
theorem qp53 : Cond.selects RX3 yX3_clusterOf yX3_clusterOf ∈ lw_good := mg (List.mem_append_left _ (List.mem_of_getElem? (i := 53) (by decide +kernel))) (by decide +kernel)
theorem qp54 : Cond.selects RX3 yX3_grownCluster yX3_grownCluster ∈ lw_good := mg (List.mem_append_left _ (List.mem_of_getElem? (i := 54) (by decide +kernel))) (by decide +kernel)
theorem qp55 : Cond.selects RX3 yX3_isAlike yX3_isAlike ∈ lw_good := mg (List.mem_append_left _ (List.mem_of_getElem? (i := 55) (by decide +kernel))) (by decide +kernel)
theorem qp56 : Cond.selects RX11 yX11_levelsNow yX11_levelsNow ∈ lw_good := mg (List.mem_append_left _ (List.mem_of_getElem? (i := 56) (by decide +kernel))) (by decide +kernel)
theorem qp57 : Cond.selects RX11 yX11_energiesNow yX11_energiesNow ∈ lw_good := mg (List.mem_append_left _ (List.mem_of_getElem? (i := 57) (by decide +kernel))) (by decide +kernel)
theorem qp58 : Cond.selects RX2 yX2_fill yX2_fill ∈ lw_good := mg (List.mem_append_left _ (List.mem_of_getElem? (i := 58) (by decide +kernel))) (by decide +kernel)
theorem qp59 : Cond.selects RX2 yX2_seeLowerMates yX2_seeLowerMates ∈ lw_good := mg (List.mem_append_left _ (List.mem_of_getElem? (i := 59) (by decide +kernel))) (by decide +kernel)
theorem qp60 : Cond.selects RX2 yX2_addSite yX2_addSite ∈ lw_good := mg (List.mem_append_left _ (List.mem_of_getElem? (i := 60) (by decide +kernel))) (by decide +kernel)
theorem qp61 : Cond.selects RX2 yX2_pulledByMates yX2_pulledByMates ∈ lw_good := mg (List.mem_append_left _ (List.mem_of_getElem? (i := 61) (by decide +kernel))) (by decide +kernel)
theorem qp62 : Cond.selects RX3 yX3_states yX3_states ∈ lw_good := mg (List.mem_append_left _ (List.mem_of_getElem? (i := 62) (by decide +kernel))) (by decide +kernel)
theorem qp63 : Cond.selects RX4 yX4_gather yX4_gather ∈ lw_good := mg (List.mem_append_left _ (List.mem_of_getElem? (i := 63) (by decide +kernel))) (by decide +kernel)
theorem qp64 : Cond.selects RX2 yX2_of yX2_of ∈ lw_good := mg (List.mem_append_left _ (List.mem_of_getElem? (i := 64) (by decide +kernel))) (by decide +kernel)
theorem qp65 : Cond.selects RX6 yX6_allows yX6_allows ∈ lw_good := mg (List.mem_append_left _ (List.mem_of_getElem? (i := 65) (by decide +kernel))) (by decide +kernel)
theorem qp66 : Cond.selects RX4 yX4_listLevels yX4_listLevels ∈ lw_good := mg (List.mem_append_left _ (List.mem_of_getElem? (i := 66) (by decide +kernel))) (by decide +kernel)
theorem qp67 : Cond.selects RX4 yX4_hasLevel yX4_hasLevel ∈ lw_good := mg (List.mem_append_left _ (List.mem_of_getElem? (i := 67) (by decide +kernel))) (by decide +kernel)
theorem qp68 : Cond.selects RX4 yX4_energyOf yX4_energyOf ∈ lw_good := mg (List.mem_append_left _ (List.mem_of_getElem? (i := 68) (by decide +kernel))) (by decide +kernel)
theorem qp69 : Cond.selects RX4 yX4_waysOf yX4_waysOf ∈ lw_good := mg (List.mem_append_left _ (List.mem_of_getElem? (i := 69) (by decide +kernel))) (by decide +kernel)
theorem qp70 : Cond.selects RX4 yX4_leastOf yX4_leastOf ∈ lw_good := mg (List.mem_append_left _ (List.mem_of_getElem? (i := 70) (by decide +kernel))) (by decide +kernel)
theorem qp71 : Cond.selects RX4 yX4_fewestUps yX4_fewestUps ∈ lw_good := mg (List.mem_append_left _ (List.mem_of_getElem? (i := 71) (by decide +kernel))) (by decide +kernel)
theorem qp72 : Cond.selects RX4 yX4_waysWithUps yX4_waysWithUps ∈ lw_good := mg (List.mem_append_left _ (List.mem_of_getElem? (i := 72) (by decide +kernel))) (by decide +kernel)
theorem qp73 : Cond.selects RX4 yX4_mostUps yX4_mostUps ∈ lw_good := mg (List.mem_append_left _ (List.mem_of_getElem? (i := 73) (by decide +kernel))) (by decide +kernel)
theorem qp74 : Cond.selects RX11 yX11_breaksNow yX11_breaksNow ∈ lw_good := mg (List.mem_append_left _ (List.mem_of_getElem? (i := 74) (by decide +kernel))) (by decide +kernel)
theorem qp75 : Cond.selects RX0 yX0_gather yX0_gather ∈ lw_good := mg (List.mem_append_left _ (List.mem_of_getElem? (i := 75) (by decide +kernel))) (by decide +kernel)
theorem qp76 : Cond.selects RX0 yX0_waysOf yX0_waysOf ∈ lw_good := mg (List.mem_append_left _ (List.mem_of_getElem? (i := 76) (by decide +kernel))) (by decide +kernel)
theorem qp77 : Cond.selects RX11 yX11_countAlike yX11_countAlike ∈ lw_good := mg (List.mem_append_left _ (List.mem_of_getElem? (i := 77) (by decide +kernel))) (by decide +kernel)
theorem qp78 : Cond.selects RX4 yX4_upsAdded yX4_upsAdded ∈ lw_good := mg (List.mem_append_left _ (List.mem_of_getElem? (i := 78) (by decide +kernel))) (by decide +kernel)
theorem qp79 : Cond.selects RX11 yX11_slotAt yX11_slotAt ∈ lw_good := mg (List.mem_append_left _ (List.mem_of_getElem? (i := 79) (by decide +kernel))) (by decide +kernel)
