theorem dL_law_1228 : decode cL_law 1228 = .ok (.aload_n 1, 1) := by decide +kernel
theorem dL_law_1229 : decode cL_law 1229 = .ok (.aload_n 0, 1) := by decide +kernel
theorem dL_law_1230 : decode cL_law 1230 = .ok (.iload_n 3, 1) := by decide +kernel
theorem dL_law_1231 : decode cL_law 1231 = .ok (.iconst 1, 1) := by decide +kernel
theorem dL_law_1232 : decode cL_law 1232 = .ok (.iadd, 1) := by decide +kernel
theorem dL_law_1233 : decode cL_law 1233 = .ok (.iaload, 1) := by decide +kernel
theorem dL_law_1234 : decode cL_law 1234 = .ok (.aload_n 0, 1) := by decide +kernel
theorem dL_law_1235 : decode cL_law 1235 = .ok (.iload_n 3, 1) := by decide +kernel
theorem dL_law_1236 : decode cL_law 1236 = .ok (.iconst 2, 1) := by decide +kernel
theorem dL_law_1237 : decode cL_law 1237 = .ok (.iadd, 1) := by decide +kernel
theorem dL_law_1238 : decode cL_law 1238 = .ok (.iaload, 1) := by decide +kernel
theorem dL_law_1239 : decode cL_law 1239 = .ok (.aload_n 0, 1) := by decide +kernel
theorem dL_law_1240 : decode cL_law 1240 = .ok (.iload_n 3, 1) := by decide +kernel
theorem dL_law_1241 : decode cL_law 1241 = .ok (.iconst 3, 1) := by decide +kernel
theorem dL_law_1242 : decode cL_law 1242 = .ok (.iadd, 1) := by decide +kernel
theorem dL_law_1243 : decode cL_law 1243 = .ok (.iaload, 1) := by decide +kernel
theorem dL_law_1244 : decode cL_law 1244 = .ok (.invokevirtual 140, 3) := by decide +kernel
theorem dL_law_1247 : decode cL_law 1247 = .ok (.pop2, 1) := by decide +kernel
theorem dL_law_1248 : decode cL_law 1248 = .ok (.aload_n 2, 1) := by decide +kernel
theorem dL_law_1249 : decode cL_law 1249 = .ok (.aload_n 0, 1) := by decide +kernel
theorem dL_law_1250 : decode cL_law 1250 = .ok (.iload_n 3, 1) := by decide +kernel
theorem dL_law_1251 : decode cL_law 1251 = .ok (.iconst 1, 1) := by decide +kernel
theorem dL_law_1252 : decode cL_law 1252 = .ok (.iadd, 1) := by decide +kernel
theorem dL_law_1253 : decode cL_law 1253 = .ok (.iaload, 1) := by decide +kernel
theorem dL_law_1254 : decode cL_law 1254 = .ok (.aload_n 0, 1) := by decide +kernel
theorem dL_law_1255 : decode cL_law 1255 = .ok (.iload_n 3, 1) := by decide +kernel
theorem dL_law_1256 : decode cL_law 1256 = .ok (.iconst 2, 1) := by decide +kernel
theorem dL_law_1257 : decode cL_law 1257 = .ok (.iadd, 1) := by decide +kernel
theorem dL_law_1258 : decode cL_law 1258 = .ok (.iaload, 1) := by decide +kernel
theorem dL_law_1259 : decode cL_law 1259 = .ok (.aload_n 0, 1) := by decide +kernel
theorem dL_law_1260 : decode cL_law 1260 = .ok (.iload_n 3, 1) := by decide +kernel
theorem dL_law_1261 : decode cL_law 1261 = .ok (.iconst 3, 1) := by decide +kernel
theorem dL_law_1262 : decode cL_law 1262 = .ok (.iadd, 1) := by decide +kernel
theorem dL_law_1263 : decode cL_law 1263 = .ok (.iaload, 1) := by decide +kernel
theorem dL_law_1264 : decode cL_law 1264 = .ok (.invokevirtual 143, 3) := by decide +kernel
theorem dL_law_1267 : decode cL_law 1267 = .ok (.pop2, 1) := by decide +kernel
theorem dL_law_1268 : decode cL_law 1268 = .ok (.goto 141, 3) := by decide +kernel
theorem dL_law_1271 : decode cL_law 1271 = .ok (.aload_n 1, 1) := by decide +kernel
theorem dL_law_1272 : decode cL_law 1272 = .ok (.invokevirtual 144, 3) := by decide +kernel
theorem dL_law_1275 : decode cL_law 1275 = .ok (.pop, 1) := by decide +kernel
theorem dL_law_1276 : decode cL_law 1276 = .ok (.aload_n 2, 1) := by decide +kernel
theorem dL_law_1277 : decode cL_law 1277 = .ok (.invokevirtual 147, 3) := by decide +kernel
theorem dL_law_1280 : decode cL_law 1280 = .ok (.pop, 1) := by decide +kernel
theorem dL_law_1281 : decode cL_law 1281 = .ok (.goto 128, 3) := by decide +kernel
theorem dL_law_1284 : decode cL_law 1284 = .ok (.aload_n 1, 1) := by decide +kernel
theorem dL_law_1285 : decode cL_law 1285 = .ok (.aload_n 0, 1) := by decide +kernel
theorem dL_law_1286 : decode cL_law 1286 = .ok (.iload_n 3, 1) := by decide +kernel
theorem dL_law_1287 : decode cL_law 1287 = .ok (.iconst 1, 1) := by decide +kernel
theorem dL_law_1288 : decode cL_law 1288 = .ok (.iadd, 1) := by decide +kernel
theorem dL_law_1289 : decode cL_law 1289 = .ok (.iaload, 1) := by decide +kernel
theorem dL_law_1290 : decode cL_law 1290 = .ok (.aload_n 0, 1) := by decide +kernel
theorem dL_law_1291 : decode cL_law 1291 = .ok (.iload_n 3, 1) := by decide +kernel
theorem dL_law_1292 : decode cL_law 1292 = .ok (.iconst 2, 1) := by decide +kernel
theorem dL_law_1293 : decode cL_law 1293 = .ok (.iadd, 1) := by decide +kernel
theorem dL_law_1294 : decode cL_law 1294 = .ok (.iaload, 1) := by decide +kernel
theorem dL_law_1295 : decode cL_law 1295 = .ok (.invokevirtual 148, 3) := by decide +kernel
theorem dL_law_1298 : decode cL_law 1298 = .ok (.pop, 1) := by decide +kernel
theorem dL_law_1299 : decode cL_law 1299 = .ok (.aload_n 2, 1) := by decide +kernel
theorem dL_law_1300 : decode cL_law 1300 = .ok (.aload_n 0, 1) := by decide +kernel
theorem dL_law_1301 : decode cL_law 1301 = .ok (.iload_n 3, 1) := by decide +kernel
theorem dL_law_1302 : decode cL_law 1302 = .ok (.iconst 1, 1) := by decide +kernel
theorem dL_law_1303 : decode cL_law 1303 = .ok (.iadd, 1) := by decide +kernel
theorem dL_law_1304 : decode cL_law 1304 = .ok (.iaload, 1) := by decide +kernel
theorem dL_law_1305 : decode cL_law 1305 = .ok (.aload_n 0, 1) := by decide +kernel
theorem dL_law_1306 : decode cL_law 1306 = .ok (.iload_n 3, 1) := by decide +kernel
theorem dL_law_1307 : decode cL_law 1307 = .ok (.iconst 2, 1) := by decide +kernel
theorem dL_law_1308 : decode cL_law 1308 = .ok (.iadd, 1) := by decide +kernel
theorem dL_law_1309 : decode cL_law 1309 = .ok (.iaload, 1) := by decide +kernel
theorem dL_law_1310 : decode cL_law 1310 = .ok (.invokevirtual 151, 3) := by decide +kernel
theorem dL_law_1313 : decode cL_law 1313 = .ok (.pop, 1) := by decide +kernel
theorem dL_law_1314 : decode cL_law 1314 = .ok (.goto 95, 3) := by decide +kernel
theorem dL_law_1317 : decode cL_law 1317 = .ok (.aload_n 1, 1) := by decide +kernel
theorem dL_law_1318 : decode cL_law 1318 = .ok (.aload_n 0, 1) := by decide +kernel
theorem dL_law_1319 : decode cL_law 1319 = .ok (.iload_n 3, 1) := by decide +kernel
theorem dL_law_1320 : decode cL_law 1320 = .ok (.iconst 1, 1) := by decide +kernel
theorem dL_law_1321 : decode cL_law 1321 = .ok (.iadd, 1) := by decide +kernel
theorem dL_law_1322 : decode cL_law 1322 = .ok (.iaload, 1) := by decide +kernel
theorem dL_law_1323 : decode cL_law 1323 = .ok (.aload_n 0, 1) := by decide +kernel
theorem dL_law_1324 : decode cL_law 1324 = .ok (.iload_n 3, 1) := by decide +kernel
theorem dL_law_1325 : decode cL_law 1325 = .ok (.iconst 2, 1) := by decide +kernel
theorem dL_law_1326 : decode cL_law 1326 = .ok (.iadd, 1) := by decide +kernel
theorem dL_law_1327 : decode cL_law 1327 = .ok (.iaload, 1) := by decide +kernel
theorem dL_law_1328 : decode cL_law 1328 = .ok (.aload_n 0, 1) := by decide +kernel
theorem dL_law_1329 : decode cL_law 1329 = .ok (.iload_n 3, 1) := by decide +kernel
theorem dL_law_1330 : decode cL_law 1330 = .ok (.iconst 3, 1) := by decide +kernel
theorem dL_law_1331 : decode cL_law 1331 = .ok (.iadd, 1) := by decide +kernel
theorem dL_law_1332 : decode cL_law 1332 = .ok (.iaload, 1) := by decide +kernel
theorem dL_law_1333 : decode cL_law 1333 = .ok (.invokevirtual 152, 3) := by decide +kernel
theorem dL_law_1336 : decode cL_law 1336 = .ok (.pop2, 1) := by decide +kernel
theorem dL_law_1337 : decode cL_law 1337 = .ok (.aload_n 2, 1) := by decide +kernel
theorem dL_law_1338 : decode cL_law 1338 = .ok (.aload_n 0, 1) := by decide +kernel
theorem dL_law_1339 : decode cL_law 1339 = .ok (.iload_n 3, 1) := by decide +kernel
theorem dL_law_1340 : decode cL_law 1340 = .ok (.iconst 1, 1) := by decide +kernel
theorem dL_law_1341 : decode cL_law 1341 = .ok (.iadd, 1) := by decide +kernel
theorem dL_law_1342 : decode cL_law 1342 = .ok (.iaload, 1) := by decide +kernel
theorem dL_law_1343 : decode cL_law 1343 = .ok (.aload_n 0, 1) := by decide +kernel
theorem dL_law_1344 : decode cL_law 1344 = .ok (.iload_n 3, 1) := by decide +kernel
theorem dL_law_1345 : decode cL_law 1345 = .ok (.iconst 2, 1) := by decide +kernel
theorem dL_law_1346 : decode cL_law 1346 = .ok (.iadd, 1) := by decide +kernel
theorem dL_law_1347 : decode cL_law 1347 = .ok (.iaload, 1) := by decide +kernel
theorem dL_law_1348 : decode cL_law 1348 = .ok (.aload_n 0, 1) := by decide +kernel
theorem dL_law_1349 : decode cL_law 1349 = .ok (.iload_n 3, 1) := by decide +kernel
theorem dL_law_1350 : decode cL_law 1350 = .ok (.iconst 3, 1) := by decide +kernel
theorem dL_law_1351 : decode cL_law 1351 = .ok (.iadd, 1) := by decide +kernel
theorem dL_law_1352 : decode cL_law 1352 = .ok (.iaload, 1) := by decide +kernel
theorem dL_law_1353 : decode cL_law 1353 = .ok (.invokevirtual 155, 3) := by decide +kernel
theorem dL_law_1356 : decode cL_law 1356 = .ok (.pop2, 1) := by decide +kernel
theorem dL_law_1357 : decode cL_law 1357 = .ok (.goto 52, 3) := by decide +kernel
theorem dL_law_1360 : decode cL_law 1360 = .ok (.aload_n 1, 1) := by decide +kernel
theorem dL_law_1361 : decode cL_law 1361 = .ok (.invokevirtual 156, 3) := by decide +kernel
theorem dL_law_1364 : decode cL_law 1364 = .ok (.pop, 1) := by decide +kernel
theorem dL_law_1365 : decode cL_law 1365 = .ok (.aload_n 2, 1) := by decide +kernel
theorem dL_law_1366 : decode cL_law 1366 = .ok (.invokevirtual 159, 3) := by decide +kernel
theorem dL_law_1369 : decode cL_law 1369 = .ok (.pop, 1) := by decide +kernel
theorem dL_law_1370 : decode cL_law 1370 = .ok (.goto 39, 3) := by decide +kernel
theorem dL_law_1373 : decode cL_law 1373 = .ok (.aload_n 1, 1) := by decide +kernel
theorem dL_law_1374 : decode cL_law 1374 = .ok (.invokevirtual 160, 3) := by decide +kernel
theorem dL_law_1377 : decode cL_law 1377 = .ok (.pop, 1) := by decide +kernel
theorem dL_law_1378 : decode cL_law 1378 = .ok (.aload_n 2, 1) := by decide +kernel
theorem dL_law_1379 : decode cL_law 1379 = .ok (.invokevirtual 163, 3) := by decide +kernel
theorem dL_law_1382 : decode cL_law 1382 = .ok (.pop, 1) := by decide +kernel
theorem dL_law_1383 : decode cL_law 1383 = .ok (.goto 26, 3) := by decide +kernel
theorem dL_law_1386 : decode cL_law 1386 = .ok (.aload_n 1, 1) := by decide +kernel
theorem dL_law_1387 : decode cL_law 1387 = .ok (.aload_n 0, 1) := by decide +kernel
theorem dL_law_1388 : decode cL_law 1388 = .ok (.iload_n 3, 1) := by decide +kernel
theorem dL_law_1389 : decode cL_law 1389 = .ok (.iconst 1, 1) := by decide +kernel
theorem dL_law_1390 : decode cL_law 1390 = .ok (.iadd, 1) := by decide +kernel
theorem dL_law_1391 : decode cL_law 1391 = .ok (.iaload, 1) := by decide +kernel
theorem dL_law_1392 : decode cL_law 1392 = .ok (.invokevirtual 164, 3) := by decide +kernel
theorem dL_law_1395 : decode cL_law 1395 = .ok (.pop, 1) := by decide +kernel
theorem dL_law_1396 : decode cL_law 1396 = .ok (.aload_n 2, 1) := by decide +kernel
theorem dL_law_1397 : decode cL_law 1397 = .ok (.aload_n 0, 1) := by decide +kernel
theorem dL_law_1398 : decode cL_law 1398 = .ok (.iload_n 3, 1) := by decide +kernel
theorem dL_law_1399 : decode cL_law 1399 = .ok (.iconst 1, 1) := by decide +kernel
theorem dL_law_1400 : decode cL_law 1400 = .ok (.iadd, 1) := by decide +kernel
theorem dL_law_1401 : decode cL_law 1401 = .ok (.iaload, 1) := by decide +kernel
theorem dL_law_1402 : decode cL_law 1402 = .ok (.invokevirtual 167, 3) := by decide +kernel
theorem dL_law_1405 : decode cL_law 1405 = .ok (.pop, 1) := by decide +kernel
theorem dL_law_1406 : decode cL_law 1406 = .ok (.goto 3, 3) := by decide +kernel
set_option maxRecDepth 20000 in
theorem gu_L_X9_swapped : GoodIn wsL_law (wsV RL 140 RX9 yX9_swapped uX9_swapped) := goodIn_r _ [980, 981, 982, 2, 983, 608, 609, 2, 527, 168, 169, 24, 528, 623, 624, 625, 36, 20, 344, 345, 346, 34, 37, 22, 922, 28, 437, 438, 439, 43, 631, 632, 633, 42, 610, 170, 626, 23, 627, 628, 629, 630, 98, 347, 87, 356, 357, 80, 88, 359, 79, 89, 90, 91, 92, 93, 86, 348, 349, 350, 19, 358, 81, 351, 250, 251, 252, 67, 352, 353, 354, 253, 355, 66, 440, 441, 442, 443, 27, 445, 446, 447, 449, 450, 451, 444, 76, 448, 77, 452, 454, 455, 456, 453, 458, 459, 460, 489, 490, 491, 457, 461, 471, 223, 479, 480, 481, 483, 484, 485, 466, 467, 464, 468, 472, 473, 469, 475, 476, 477, 462, 463, 465, 470, 224, 482, 71, 68, 486, 487, 488, 474, 478, 492, 493, 494, 495, 496, 634, 637, 99, 636, 274, 635, 275, 1064, 1065, 1066, 1067, 1068, 1069, 1070, 1071, 1072, 1073, 1074, 1075, 1076, 1077, 1078, 1079, 1080, 1081, 1138, 1139, 1140, 1141, 1130, 1131, 1132, 1133, 1134, 1135, 1136, 1137, 1122, 1123, 1124, 1125, 1126, 1127, 1128, 1129] rfl (by decide +kernel)
set_option maxRecDepth 20000 in
theorem gu_L_X10_swapped : GoodIn wsL_law (wsV RL 143 RX10 yX10_swapped uX10_swapped) := goodIn_r _ [984, 985, 986, 5, 987, 575, 182, 183, 5, 501, 642, 643, 644, 371, 785, 786, 787, 385, 386, 387, 789, 790, 791, 502, 503, 504, 646, 647, 648, 158, 546, 545, 184, 645, 370, 145, 788, 143, 142, 388, 377, 378, 379, 392, 393, 394, 156, 389, 390, 391, 380, 381, 382, 383, 140, 384, 365, 137, 138, 395, 792, 505, 141, 506, 507, 508, 509, 510, 511, 512, 139, 513, 514, 519, 520, 521, 320, 515, 516, 517, 522, 518, 649, 146, 1082, 1083, 1084, 1085, 1086, 1087, 1088, 1089, 1090, 1091, 1092, 1093, 1094, 1095, 1096, 1097, 1098, 1099, 1100, 1101, 1102, 1103, 1104, 1105, 1106, 1107, 1108, 1109, 1110, 1111, 1112, 1113, 1114, 1115, 1116, 1117] rfl (by decide +kernel)
set_option maxHeartbeats 4000000 in
set_option maxRecDepth 100000 in
theorem lc_28 {p : Program} {l : Launch} {e : Env} {s : State} {m : MethodId} {below : List Frame} {meth : Method} {c : Code} {cells slots : Nat} {Q : State → Prop} {b h0 L : Nat} {xs : Nat → Int32} {yi : Int32} {D : va_G} {cI cL cC : ClassId} {tx tm : Nat → Nat} {H : Heap} {locs : List Loc} {ls : Array Slot} {gC : Int32} {gE : Int32} {G : Nat} {gW : Nat → Int32} {gA : Nat → Int32} {gT : Nat → Int32} {gI : Int32} {gS : Int32} {gM : Int32} {K : Nat → Int32} {F : Nat → Int32} {S : Nat → Int32} {N : Nat → Int32} {gH : Int} {gJ : Int} {ge : Int32} {gk : Int32} {gf : Int32} {gs : Int32} {gg : Int32} {gr : Int32} {RN : Nat → Int32} (hx : p.tables.exec = Jvm.exec) (hb : c.code = cL_law) (hml : c.maxLocals = 4) (hown : s.vm.findClass RL = some m.cls) (hts : ∀ w ∈ wsL_law, w.before #[Value.ref b] s = true) (hE : EV D cI cL cC s) (hbl : b < h0) (hG : tG D (gF cI cL cC gC gE G gW gA) tx H) (hM : tG D (mF cI cL cC gC gE gW gA gT gI gS gM K F S N gH gJ ge gk gf gs gg gr RN) tm H) (kt : tx h0 = 1) (kt2 : tm (h0 + 92) = 40) (hx0 : ∀ q : Nat, q < h0 → tx q = 0) (hm00 : ∀ q : Nat, q < h0 → tm q = 0) (dj : ∀ q : Nat, tm q ≠ 0 → tx q = 0) (dj2 : ∀ q : Nat, tx q ≠ 0 → tm q = 0) (uq_gC : ∀ b c : Nat, tx b = 2 → tx c = 2 → b = c) (uq_gE : ∀ b c : Nat, tx b = 6 → tx c = 6 → b = c) (uq_gW : ∀ b c : Nat, tx b = 29 → tx c = 29 → b = c) (uq_gA : ∀ b c : Nat, tx b = 31 → tx c = 31 → b = c) (uqm : ∀ b c : Nat, tm b = tm c → tm b ≠ 0 → b = c) (hC0 : 0 ≤ gC.toInt) (hC4 : gC.toInt ≤ 400) (hI0 : 0 ≤ gI.toInt) (hI4 : gI.toInt ≤ 40) (hH0 : 0 ≤ gH) (hH9 : gH ≤ 96) (hm0 : 0 ≤ gM.toInt) (hm3 : gM.toInt ≤ 3) (hO0 : okM K F S N 0 gI.toInt) (hW : swM gS K F S N gI.toInt) (hGb : (G : Int) ≤ 3072 * yi.toInt) (hy0 : 0 ≤ yi.toInt) (hy8 : yi.toInt + 8 ≤ (L : Int)) (hL : L ≤ 4096) (hS : cF h0 s.heap H locs) (hX : va_X b L xs s H) (hl : lv_has ls 4 [(3, .int yi), (2, .ref (h0 + 92)), (1, .ref h0), (0, .ref b)]) (hcl : cells ≤ 600000) (hsl : slots ≤ 7302250) (kx : ∀ (H1 : Heap) (locs1 : List Loc) (gC' : Int32) (gE' : Int32) (G' : Nat) (gW' : Nat → Int32) (gA' : Nat → Int32) (gT' : Nat → Int32) (gI' : Int32) (gS' : Int32) (gM' : Int32) (K' : Nat → Int32) (F' : Nat → Int32) (S' : Nat → Int32) (N' : Nat → Int32) (gH' : Int) (gJ' : Int) (ge' : Int32) (gk' : Int32) (gf' : Int32) (gs' : Int32) (gg' : Int32) (gr' : Int32) (RN' : Nat → Int32), tG D (gF cI cL cC gC' gE' G' gW' gA') tx H1 → tG D (mF cI cL cC gC' gE' gW' gA' gT' gI' gS' gM' K' F' S' N' gH' gJ' ge' gk' gf' gs' gg' gr' RN') tm H1 → 0 ≤ gC'.toInt → gC'.toInt ≤ 400 → 0 ≤ gI'.toInt → gI'.toInt ≤ 40 → 0 ≤ gH' → gH' ≤ 96 → 0 ≤ gM'.toInt → gM'.toInt ≤ 3 → okM K' F' S' N' 0 gI'.toInt → swM gS' K' F' S' N' gI'.toInt → (G' : Int) ≤ 3072 * yi.toInt + 24576 → cF h0 s.heap H1 locs1 → va_X b L xs s H1 → W p l e room_1 s m #[Value.ref b] below meth c H1 locs1 cells slots Q (F0 m 1409 ls [])) : W p l e room_1 s m #[Value.ref b] below meth c H locs cells slots Q (F0 m 1228 ls []) := by
  refine lv_aload_n hx hb dL_law_1228 rfl (lv_at hl 2 rfl) ?_
  refine lv_aload_n hx hb dL_law_1229 rfl (lv_at hl 3 rfl) ?_
  refine lv_iload_n hx hb dL_law_1230 rfl (lv_at hl 0 rfl) ?_
  refine lv_iconst (v := 1) hx hb dL_law_1231 (by decide) ?_
  refine lv_iadd hx hb dL_law_1232 ?_
  refine lv_topi (fun x_1 e_2 => ?_)
  have i_x_1 : x_1.toInt = yi.toInt + 1 := by rw [e_2]; exact (q_add (by rw [show (1 : Int32).toInt = 1 by decide]; omega) (by rw [show (1 : Int32).toInt = 1 by decide]; omega)).trans (by rw [show (1 : Int32).toInt = 1 by decide])
  refine ty_sld hx hb hX (i := x_1) (q_in (by omega) (by omega)) dL_law_1233 ?_
  refine lv_seti (y := xs (yi.toInt + 1).toNat) (congrArg (fun q : Int => xs q.toNat) (show x_1.toInt = yi.toInt + 1 by omega)) ?_
  refine lv_aload_n hx hb dL_law_1234 rfl (lv_at hl 3 rfl) ?_
  refine lv_pc (pc2 := 1235) rfl ?_
  refine lv_iload_n hx hb dL_law_1235 rfl (lv_at hl 0 rfl) ?_
  refine lv_iconst (v := 2) hx hb dL_law_1236 (by decide) ?_
  refine lv_iadd hx hb dL_law_1237 ?_
  refine lv_topi (fun x_3 e_4 => ?_)
  have i_x_3 : x_3.toInt = yi.toInt + 2 := by rw [e_4]; exact (q_add (by rw [show (2 : Int32).toInt = 2 by decide]; omega) (by rw [show (2 : Int32).toInt = 2 by decide]; omega)).trans (by rw [show (2 : Int32).toInt = 2 by decide])
  refine ty_sld hx hb hX (i := x_3) (q_in (by omega) (by omega)) dL_law_1238 ?_
  refine lv_seti (y := xs (yi.toInt + 2).toNat) (congrArg (fun q : Int => xs q.toNat) (show x_3.toInt = yi.toInt + 2 by omega)) ?_
  refine lv_aload_n hx hb dL_law_1239 rfl (lv_at hl 3 rfl) ?_
  refine lv_iload_n hx hb dL_law_1240 rfl (lv_at hl 0 rfl) ?_
  refine lv_iconst (v := 3) hx hb dL_law_1241 (by decide) ?_
  refine lv_iadd hx hb dL_law_1242 ?_
  refine lv_topi (fun x_5 e_6 => ?_)
  have i_x_5 : x_5.toInt = yi.toInt + 3 := by rw [e_6]; exact (q_add (by rw [show (3 : Int32).toInt = 3 by decide]; omega) (by rw [show (3 : Int32).toInt = 3 by decide]; omega)).trans (by rw [show (3 : Int32).toInt = 3 by decide])
  refine lv_pc (pc2 := 1243) rfl ?_
  refine ty_sld hx hb hX (i := x_5) (q_in (by omega) (by omega)) dL_law_1243 ?_
  refine lv_seti (y := xs (yi.toInt + 3).toNat) (congrArg (fun q : Int => xs q.toNat) (show x_5.toInt = yi.toInt + 3 by omega)) ?_
  obtain ⟨_, at_7⟩ := rcv1 hG kt
  refine lw_calll (W.runV (As := [.int (xs (yi.toInt + 1).toNat), .int (xs (yi.toInt + 2).toNat), .int (xs (yi.toInt + 3).toNat)]) (rest := []) ⟨hx, hb, hml, hown, hts⟩ (s_X9_swapped l D tx cI cL cC gC gE G gW gA h0 (xs (yi.toInt + 1).toNat) (xs (yi.toInt + 2).toNat) (xs (yi.toInt + 3).toNat) (by omega) kt) (cwV 3 hts gu_L_X9_swapped rfl rfl rfl (by decide +kernel) ⟨Nat.le_of_ble_eq_true rfl, Nat.le_of_ble_eq_true rfl⟩) (tP_V hG hE at_7 rfl) rfl rfl hl.1 rfl (lv_room (Nat.le_of_ble_eq_true rfl)) dL_law_1244 ⟨hcl, hsl⟩) hS rfl hx0 (fun r_8 H locs hp_9 hG hS o_10 => ?_)
  replace hX := hX.kept (o_10 b (by rw [hx0 b hbl]; rfl))
  replace hM := tG.keptW hM o_10 (fun q h => by rw [dj q h]; rfl)
  refine lv_pop2_2 hx hb dL_law_1247 rfl ?_
  refine lv_aload_n hx hb dL_law_1248 rfl (lv_at hl 1 rfl) ?_
  refine lv_aload_n hx hb dL_law_1249 rfl (lv_at hl 3 rfl) ?_
  refine lv_iload_n hx hb dL_law_1250 rfl (lv_at hl 0 rfl) ?_
  refine lv_iconst (v := 1) hx hb dL_law_1251 (by decide) ?_
  refine lv_iadd hx hb dL_law_1252 ?_
  refine lv_topi (fun x_11 e_12 => ?_)
  have i_x_11 : x_11.toInt = yi.toInt + 1 := by rw [e_12]; exact (q_add (by rw [show (1 : Int32).toInt = 1 by decide]; omega) (by rw [show (1 : Int32).toInt = 1 by decide]; omega)).trans (by rw [show (1 : Int32).toInt = 1 by decide])
  refine lv_pc (pc2 := 1253) rfl ?_
  refine ty_sld hx hb hX (i := x_11) (q_in (by omega) (by omega)) dL_law_1253 ?_
  refine lv_seti (y := xs (yi.toInt + 1).toNat) (congrArg (fun q : Int => xs q.toNat) (show x_11.toInt = yi.toInt + 1 by omega)) ?_
  refine lv_aload_n hx hb dL_law_1254 rfl (lv_at hl 3 rfl) ?_
  refine lv_iload_n hx hb dL_law_1255 rfl (lv_at hl 0 rfl) ?_
  refine lv_iconst (v := 2) hx hb dL_law_1256 (by decide) ?_
  refine lv_iadd hx hb dL_law_1257 ?_
  refine lv_topi (fun x_13 e_14 => ?_)
  have i_x_13 : x_13.toInt = yi.toInt + 2 := by rw [e_14]; exact (q_add (by rw [show (2 : Int32).toInt = 2 by decide]; omega) (by rw [show (2 : Int32).toInt = 2 by decide]; omega)).trans (by rw [show (2 : Int32).toInt = 2 by decide])
  refine ty_sld hx hb hX (i := x_13) (q_in (by omega) (by omega)) dL_law_1258 ?_
  refine lv_seti (y := xs (yi.toInt + 2).toNat) (congrArg (fun q : Int => xs q.toNat) (show x_13.toInt = yi.toInt + 2 by omega)) ?_
  refine lv_aload_n hx hb dL_law_1259 rfl (lv_at hl 3 rfl) ?_
  refine lv_iload_n hx hb dL_law_1260 rfl (lv_at hl 0 rfl) ?_
  refine lv_pc (pc2 := 1261) rfl ?_
  refine lv_iconst (v := 3) hx hb dL_law_1261 (by decide) ?_
  refine lv_iadd hx hb dL_law_1262 ?_
  refine lv_topi (fun x_15 e_16 => ?_)
  have i_x_15 : x_15.toInt = yi.toInt + 3 := by rw [e_16]; exact (q_add (by rw [show (3 : Int32).toInt = 3 by decide]; omega) (by rw [show (3 : Int32).toInt = 3 by decide]; omega)).trans (by rw [show (3 : Int32).toInt = 3 by decide])
  refine ty_sld hx hb hX (i := x_15) (q_in (by omega) (by omega)) dL_law_1263 ?_
  refine lv_seti (y := xs (yi.toInt + 3).toNat) (congrArg (fun q : Int => xs q.toNat) (show x_15.toInt = yi.toInt + 3 by omega)) ?_
  obtain ⟨_, at_17⟩ := rcv40 hM kt2
  refine lx_calll (W.runV (As := [.int (xs (yi.toInt + 1).toNat), .int (xs (yi.toInt + 2).toNat), .int (xs (yi.toInt + 3).toNat)]) (rest := []) ⟨hx, hb, hml, hown, hts⟩ (m_X10_swapped l D tm cI cL cC gC gE gW gA gT gI gS gM K F S N gH gJ ge gk gf gs gg gr RN (h0 + 92) (xs (yi.toInt + 1).toNat) (xs (yi.toInt + 2).toNat) (xs (yi.toInt + 3).toNat) uqm hC0 hC4 hI0 hI4 hH0 hH9 hm0 hm3 hO0 hW kt2) (cwV 3 hts gu_L_X10_swapped rfl rfl rfl (by decide +kernel) ⟨Nat.le_of_ble_eq_true rfl, Nat.le_of_ble_eq_true rfl⟩) (tP_V hM hE at_17 rfl) rfl rfl hl.1 rfl (lv_room (Nat.le_of_ble_eq_true rfl)) dL_law_1264 ⟨hcl, hsl⟩) hS rfl hm00 (fun r_18 zz_23 H locs hp_19 hM hS o_20 => ?_)
  obtain ⟨gH_21, gJ_22⟩ := zz_23
  replace hX := hX.kept (o_20 b (by rw [hm00 b hbl]; rfl))
  replace hG := tG.keptW hG o_20 (fun q h => by rw [dj2 q h]; rfl)
  replace hM : tG D (mF cI cL cC gC gE gW gA gT gI gS gM K F S N gH_21 gJ_22 ge gk gf gs gg gr RN) tm H := hM
  have hp_19 : 0 ≤ gH_21 ∧ gH_21 ≤ 96 := hp_19
  obtain ⟨p_24, p_25⟩ := hp_19
  refine lv_pop2_2 hx hb dL_law_1267 rfl ?_
  refine lv_goto (tgt := 1409) hx hb dL_law_1268 (by decide) ?_
  exact kx H locs _ _ _ _ _ _ _ _ _ _ _ _ _ _ _ _ _ _ _ _ _ _ hG hM hC0 hC4 hI0 hI4 p_24 p_25 hm0 hm3 hO0 hW (by omega) hS hX

set_option maxRecDepth 20000 in
theorem gu_L_X9_laySwap : GoodIn wsL_law (wsV RL 144 RX9 yX9_laySwap uX9_laySwap) := goodIn_r _ [988, 989, 990, 2, 991, 24, 21, 22, 719, 720, 721, 19, 340, 341, 342, 2, 722, 66, 723, 724, 725, 726, 67, 68, 69, 70, 71, 343, 20, 23, 39, 35, 344, 345, 346, 34, 31, 360, 349, 350, 347, 87, 356, 357, 80, 88, 359, 79, 89, 90, 91, 92, 93, 86, 348, 358, 81, 351, 250, 251, 252, 352, 353, 354, 253, 355, 1064, 1065, 1066, 1067, 1068, 1069, 1070, 1071, 1072, 1073, 1074, 1075, 1076, 1077, 1078, 1079, 1080, 1081, 1122, 1123, 1124, 1125, 1126, 1127, 1130, 1131, 1132, 1133, 1134, 1135, 1136, 1137] rfl (by decide +kernel)
set_option maxRecDepth 20000 in
theorem gu_L_X10_laySwap : GoodIn wsL_law (wsV RL 147 RX10 yX10_laySwap uX10_laySwap) := goodIn_r _ [992, 993, 994, 5, 995, 370, 371, 366, 367, 368, 5, 369, 373, 374, 375, 372, 385, 386, 387, 156, 377, 378, 379, 376, 140, 137, 138, 139, 388, 142, 392, 393, 394, 389, 390, 182, 183, 391, 380, 381, 382, 383, 384, 365, 395, 184, 1082, 1083, 1084, 1085, 1086, 1087, 1088, 1089, 1090, 1091, 1092, 1093, 1094, 1095, 1096, 1097, 1098, 1099, 1100, 1101, 1102, 1103, 1104, 1105, 1106, 1107, 1108, 1109, 1110, 1111, 1112, 1113, 1114, 1115, 1116, 1117] rfl (by decide +kernel)
set_option maxHeartbeats 4000000 in
set_option maxRecDepth 100000 in
theorem lc_29 {p : Program} {l : Launch} {e : Env} {s : State} {m : MethodId} {below : List Frame} {meth : Method} {c : Code} {cells slots : Nat} {Q : State → Prop} {b h0 L : Nat} {xs : Nat → Int32} {yi : Int32} {D : va_G} {cI cL cC : ClassId} {tx tm : Nat → Nat} {H : Heap} {locs : List Loc} {ls : Array Slot} {gC : Int32} {gE : Int32} {G : Nat} {gW : Nat → Int32} {gA : Nat → Int32} {gT : Nat → Int32} {gI : Int32} {gS : Int32} {gM : Int32} {K : Nat → Int32} {F : Nat → Int32} {S : Nat → Int32} {N : Nat → Int32} {gH : Int} {gJ : Int} {ge : Int32} {gk : Int32} {gf : Int32} {gs : Int32} {gg : Int32} {gr : Int32} {RN : Nat → Int32} (hx : p.tables.exec = Jvm.exec) (hb : c.code = cL_law) (hml : c.maxLocals = 4) (hown : s.vm.findClass RL = some m.cls) (hts : ∀ w ∈ wsL_law, w.before #[Value.ref b] s = true) (hE : EV D cI cL cC s) (hbl : b < h0) (hG : tG D (gF cI cL cC gC gE G gW gA) tx H) (hM : tG D (mF cI cL cC gC gE gW gA gT gI gS gM K F S N gH gJ ge gk gf gs gg gr RN) tm H) (kt : tx h0 = 1) (kt2 : tm (h0 + 92) = 40) (hx0 : ∀ q : Nat, q < h0 → tx q = 0) (hm00 : ∀ q : Nat, q < h0 → tm q = 0) (dj : ∀ q : Nat, tm q ≠ 0 → tx q = 0) (dj2 : ∀ q : Nat, tx q ≠ 0 → tm q = 0) (uq_gC : ∀ b c : Nat, tx b = 2 → tx c = 2 → b = c) (uq_gE : ∀ b c : Nat, tx b = 6 → tx c = 6 → b = c) (uq_gW : ∀ b c : Nat, tx b = 29 → tx c = 29 → b = c) (uq_gA : ∀ b c : Nat, tx b = 31 → tx c = 31 → b = c) (uqm : ∀ b c : Nat, tm b = tm c → tm b ≠ 0 → b = c) (hC0 : 0 ≤ gC.toInt) (hC4 : gC.toInt ≤ 400) (hI0 : 0 ≤ gI.toInt) (hI4 : gI.toInt ≤ 40) (hH0 : 0 ≤ gH) (hH9 : gH ≤ 96) (hm0 : 0 ≤ gM.toInt) (hm3 : gM.toInt ≤ 3) (hO0 : okM K F S N 0 gI.toInt) (hW : swM gS K F S N gI.toInt) (hGb : (G : Int) ≤ 3072 * yi.toInt) (hy0 : 0 ≤ yi.toInt) (hy8 : yi.toInt + 8 ≤ (L : Int)) (hL : L ≤ 4096) (hS : cF h0 s.heap H locs) (hX : va_X b L xs s H) (hl : lv_has ls 4 [(3, .int yi), (2, .ref (h0 + 92)), (1, .ref h0), (0, .ref b)]) (hcl : cells ≤ 600000) (hsl : slots ≤ 7302250) (kx : ∀ (H1 : Heap) (locs1 : List Loc) (gC' : Int32) (gE' : Int32) (G' : Nat) (gW' : Nat → Int32) (gA' : Nat → Int32) (gT' : Nat → Int32) (gI' : Int32) (gS' : Int32) (gM' : Int32) (K' : Nat → Int32) (F' : Nat → Int32) (S' : Nat → Int32) (N' : Nat → Int32) (gH' : Int) (gJ' : Int) (ge' : Int32) (gk' : Int32) (gf' : Int32) (gs' : Int32) (gg' : Int32) (gr' : Int32) (RN' : Nat → Int32), tG D (gF cI cL cC gC' gE' G' gW' gA') tx H1 → tG D (mF cI cL cC gC' gE' gW' gA' gT' gI' gS' gM' K' F' S' N' gH' gJ' ge' gk' gf' gs' gg' gr' RN') tm H1 → 0 ≤ gC'.toInt → gC'.toInt ≤ 400 → 0 ≤ gI'.toInt → gI'.toInt ≤ 40 → 0 ≤ gH' → gH' ≤ 96 → 0 ≤ gM'.toInt → gM'.toInt ≤ 3 → okM K' F' S' N' 0 gI'.toInt → swM gS' K' F' S' N' gI'.toInt → (G' : Int) ≤ 3072 * yi.toInt + 24576 → cF h0 s.heap H1 locs1 → va_X b L xs s H1 → W p l e room_1 s m #[Value.ref b] below meth c H1 locs1 cells slots Q (F0 m 1409 ls [])) : W p l e room_1 s m #[Value.ref b] below meth c H locs cells slots Q (F0 m 1271 ls []) := by
  refine lv_aload_n hx hb dL_law_1271 rfl (lv_at hl 2 rfl) ?_
  obtain ⟨_, at_1⟩ := rcv1 hG kt
  refine lw_calli (W.runV (As := []) (rest := []) ⟨hx, hb, hml, hown, hts⟩ (s_X9_laySwap l D tx cI cL cC gC gE G gW gA h0  kt) (cwV 0 hts gu_L_X9_laySwap rfl rfl rfl (by decide +kernel) ⟨Nat.le_of_ble_eq_true rfl, Nat.le_of_ble_eq_true rfl⟩) (tP_V hG hE at_1 rfl) rfl rfl hl.1 rfl (lv_room (Nat.le_of_ble_eq_true rfl)) dL_law_1272 ⟨hcl, hsl⟩) hS rfl hx0 (fun r_2 H locs hp_3 hG hS o_4 => ?_)
  replace hX := hX.kept (o_4 b (by rw [hx0 b hbl]; rfl))
  replace hM := tG.keptW hM o_4 (fun q h => by rw [dj q h]; rfl)
  refine lv_pop hx hb dL_law_1275 rfl ?_
  refine lv_aload_n hx hb dL_law_1276 rfl (lv_at hl 1 rfl) ?_
  obtain ⟨_, at_5⟩ := rcv40 hM kt2
  refine lx_calli (W.runV (As := []) (rest := []) ⟨hx, hb, hml, hown, hts⟩ (m_X10_laySwap l D tm cI cL cC gC gE gW gA gT gI gS gM K F S N gH gJ ge gk gf gs gg gr RN (h0 + 92)  uqm hC0 hC4 hI0 hI4 hH0 hH9 hm0 hm3 hO0 hW kt2) (cwV 0 hts gu_L_X10_laySwap rfl rfl rfl (by decide +kernel) ⟨Nat.le_of_ble_eq_true rfl, Nat.le_of_ble_eq_true rfl⟩) (tP_V hM hE at_5 rfl) rfl rfl hl.1 rfl (lv_room (Nat.le_of_ble_eq_true rfl)) dL_law_1277 ⟨hcl, hsl⟩) hS rfl hm00 (fun r_6 zz_16 H locs hp_7 hM hS o_8 => ?_)
  obtain ⟨K_9, F_10, S_11, N_12, gS_13, gM_14, gH_15⟩ := zz_16
  replace hX := hX.kept (o_8 b (by rw [hm00 b hbl]; rfl))
  replace hG := tG.keptW hG o_8 (fun q h => by rw [dj2 q h]; rfl)
  replace hM : tG D (mF cI cL cC gC gE gW gA gT gI gS_13 gM_14 K_9 F_10 S_11 N_12 gH_15 gJ ge gk gf gs gg gr RN) tm H := hM
  have hp_7 : 0 ≤ gH_15 ∧ gH_15 ≤ 96 ∧ 0 ≤ gM_14.toInt ∧ gM_14.toInt ≤ 3 ∧ okM K_9 F_10 S_11 N_12 0 gI.toInt ∧ swM gS_13 K_9 F_10 S_11 N_12 gI.toInt := hp_7
  obtain ⟨p_17, p_18, p_19, p_20, p_21, p_22⟩ := hp_7
  refine lv_pop hx hb dL_law_1280 rfl ?_
  refine lv_goto (tgt := 1409) hx hb dL_law_1281 (by decide) ?_
  exact kx H locs _ _ _ _ _ _ _ _ _ _ _ _ _ _ _ _ _ _ _ _ _ _ hG hM hC0 hC4 hI0 hI4 p_17 p_18 p_19 p_20 p_21 p_22 (by omega) hS hX

set_option maxRecDepth 20000 in
theorem gu_L_X9_startB : GoodIn wsL_law (wsV RL 148 RX9 yX9_startB uX9_startB) := goodIn_r _ [996, 997, 998, 2, 999, 530, 223, 2, 680, 168, 169, 531, 532, 533, 31, 224, 170, 534, 23, 20, 535, 251, 252, 19, 253, 67, 1064, 1065, 1066, 1067, 1068, 1069, 1070, 1071, 1072, 1073, 1074, 1075, 1076, 1077, 1078, 1079, 1080, 1081, 1122, 1123, 1124, 1125, 1126, 1127] rfl (by decide +kernel)
set_option maxRecDepth 20000 in
theorem gu_L_X10_startB : GoodIn wsL_law (wsV RL 151 RX10 yX10_startB uX10_startB) := goodIn_r _ [1000, 1001, 1002, 5, 1003, 544, 182, 183, 5, 316, 370, 392, 393, 394, 156, 184, 395, 381, 382, 383, 384, 365, 137, 138, 1082, 1083, 1084, 1085, 1086, 1087, 1088, 1089, 1090, 1091, 1092, 1093, 1094, 1095, 1096, 1097, 1098, 1099, 1100, 1101, 1102, 1103, 1104, 1105, 1106, 1107, 1108, 1109, 1110, 1111, 1112, 1113, 1114, 1115, 1116, 1117] rfl (by decide +kernel)
set_option maxHeartbeats 4000000 in
set_option maxRecDepth 100000 in
theorem lc_30 {p : Program} {l : Launch} {e : Env} {s : State} {m : MethodId} {below : List Frame} {meth : Method} {c : Code} {cells slots : Nat} {Q : State → Prop} {b h0 L : Nat} {xs : Nat → Int32} {yi : Int32} {D : va_G} {cI cL cC : ClassId} {tx tm : Nat → Nat} {H : Heap} {locs : List Loc} {ls : Array Slot} {gC : Int32} {gE : Int32} {G : Nat} {gW : Nat → Int32} {gA : Nat → Int32} {gT : Nat → Int32} {gI : Int32} {gS : Int32} {gM : Int32} {K : Nat → Int32} {F : Nat → Int32} {S : Nat → Int32} {N : Nat → Int32} {gH : Int} {gJ : Int} {ge : Int32} {gk : Int32} {gf : Int32} {gs : Int32} {gg : Int32} {gr : Int32} {RN : Nat → Int32} (hx : p.tables.exec = Jvm.exec) (hb : c.code = cL_law) (hml : c.maxLocals = 4) (hown : s.vm.findClass RL = some m.cls) (hts : ∀ w ∈ wsL_law, w.before #[Value.ref b] s = true) (hE : EV D cI cL cC s) (hbl : b < h0) (hG : tG D (gF cI cL cC gC gE G gW gA) tx H) (hM : tG D (mF cI cL cC gC gE gW gA gT gI gS gM K F S N gH gJ ge gk gf gs gg gr RN) tm H) (kt : tx h0 = 1) (kt2 : tm (h0 + 92) = 40) (hx0 : ∀ q : Nat, q < h0 → tx q = 0) (hm00 : ∀ q : Nat, q < h0 → tm q = 0) (dj : ∀ q : Nat, tm q ≠ 0 → tx q = 0) (dj2 : ∀ q : Nat, tx q ≠ 0 → tm q = 0) (uq_gC : ∀ b c : Nat, tx b = 2 → tx c = 2 → b = c) (uq_gE : ∀ b c : Nat, tx b = 6 → tx c = 6 → b = c) (uq_gW : ∀ b c : Nat, tx b = 29 → tx c = 29 → b = c) (uq_gA : ∀ b c : Nat, tx b = 31 → tx c = 31 → b = c) (uqm : ∀ b c : Nat, tm b = tm c → tm b ≠ 0 → b = c) (hC0 : 0 ≤ gC.toInt) (hC4 : gC.toInt ≤ 400) (hI0 : 0 ≤ gI.toInt) (hI4 : gI.toInt ≤ 40) (hH0 : 0 ≤ gH) (hH9 : gH ≤ 96) (hm0 : 0 ≤ gM.toInt) (hm3 : gM.toInt ≤ 3) (hO0 : okM K F S N 0 gI.toInt) (hW : swM gS K F S N gI.toInt) (hGb : (G : Int) ≤ 3072 * yi.toInt) (hy0 : 0 ≤ yi.toInt) (hy8 : yi.toInt + 8 ≤ (L : Int)) (hL : L ≤ 4096) (hS : cF h0 s.heap H locs) (hX : va_X b L xs s H) (hl : lv_has ls 4 [(3, .int yi), (2, .ref (h0 + 92)), (1, .ref h0), (0, .ref b)]) (hcl : cells ≤ 600000) (hsl : slots ≤ 7302250) (kx : ∀ (H1 : Heap) (locs1 : List Loc) (gC' : Int32) (gE' : Int32) (G' : Nat) (gW' : Nat → Int32) (gA' : Nat → Int32) (gT' : Nat → Int32) (gI' : Int32) (gS' : Int32) (gM' : Int32) (K' : Nat → Int32) (F' : Nat → Int32) (S' : Nat → Int32) (N' : Nat → Int32) (gH' : Int) (gJ' : Int) (ge' : Int32) (gk' : Int32) (gf' : Int32) (gs' : Int32) (gg' : Int32) (gr' : Int32) (RN' : Nat → Int32), tG D (gF cI cL cC gC' gE' G' gW' gA') tx H1 → tG D (mF cI cL cC gC' gE' gW' gA' gT' gI' gS' gM' K' F' S' N' gH' gJ' ge' gk' gf' gs' gg' gr' RN') tm H1 → 0 ≤ gC'.toInt → gC'.toInt ≤ 400 → 0 ≤ gI'.toInt → gI'.toInt ≤ 40 → 0 ≤ gH' → gH' ≤ 96 → 0 ≤ gM'.toInt → gM'.toInt ≤ 3 → okM K' F' S' N' 0 gI'.toInt → swM gS' K' F' S' N' gI'.toInt → (G' : Int) ≤ 3072 * yi.toInt + 24576 → cF h0 s.heap H1 locs1 → va_X b L xs s H1 → W p l e room_1 s m #[Value.ref b] below meth c H1 locs1 cells slots Q (F0 m 1409 ls [])) : W p l e room_1 s m #[Value.ref b] below meth c H locs cells slots Q (F0 m 1284 ls []) := by
  refine lv_aload_n hx hb dL_law_1284 rfl (lv_at hl 2 rfl) ?_
  refine lv_aload_n hx hb dL_law_1285 rfl (lv_at hl 3 rfl) ?_
  refine lv_iload_n hx hb dL_law_1286 rfl (lv_at hl 0 rfl) ?_
  refine lv_iconst (v := 1) hx hb dL_law_1287 (by decide) ?_
  refine lv_iadd hx hb dL_law_1288 ?_
  refine lv_topi (fun x_1 e_2 => ?_)
  have i_x_1 : x_1.toInt = yi.toInt + 1 := by rw [e_2]; exact (q_add (by rw [show (1 : Int32).toInt = 1 by decide]; omega) (by rw [show (1 : Int32).toInt = 1 by decide]; omega)).trans (by rw [show (1 : Int32).toInt = 1 by decide])
  refine ty_sld hx hb hX (i := x_1) (q_in (by omega) (by omega)) dL_law_1289 ?_
  refine lv_seti (y := xs (yi.toInt + 1).toNat) (congrArg (fun q : Int => xs q.toNat) (show x_1.toInt = yi.toInt + 1 by omega)) ?_
  refine lv_aload_n hx hb dL_law_1290 rfl (lv_at hl 3 rfl) ?_
  refine lv_pc (pc2 := 1291) rfl ?_
  refine lv_iload_n hx hb dL_law_1291 rfl (lv_at hl 0 rfl) ?_
  refine lv_iconst (v := 2) hx hb dL_law_1292 (by decide) ?_
  refine lv_iadd hx hb dL_law_1293 ?_
  refine lv_topi (fun x_3 e_4 => ?_)
  have i_x_3 : x_3.toInt = yi.toInt + 2 := by rw [e_4]; exact (q_add (by rw [show (2 : Int32).toInt = 2 by decide]; omega) (by rw [show (2 : Int32).toInt = 2 by decide]; omega)).trans (by rw [show (2 : Int32).toInt = 2 by decide])
  refine ty_sld hx hb hX (i := x_3) (q_in (by omega) (by omega)) dL_law_1294 ?_
  refine lv_seti (y := xs (yi.toInt + 2).toNat) (congrArg (fun q : Int => xs q.toNat) (show x_3.toInt = yi.toInt + 2 by omega)) ?_
  obtain ⟨_, at_5⟩ := rcv1 hG kt
  refine lw_calli (W.runV (As := [.int (xs (yi.toInt + 1).toNat), .int (xs (yi.toInt + 2).toNat)]) (rest := []) ⟨hx, hb, hml, hown, hts⟩ (s_X9_startB l D tx cI cL cC gC gE G gW gA h0 (xs (yi.toInt + 1).toNat) (xs (yi.toInt + 2).toNat) kt) (cwV 2 hts gu_L_X9_startB rfl rfl rfl (by decide +kernel) ⟨Nat.le_of_ble_eq_true rfl, Nat.le_of_ble_eq_true rfl⟩) (tP_V hG hE at_5 rfl) rfl rfl hl.1 rfl (lv_room (Nat.le_of_ble_eq_true rfl)) dL_law_1295 ⟨hcl, hsl⟩) hS rfl hx0 (fun r_6 H locs hp_7 hG hS o_8 => ?_)
  replace hX := hX.kept (o_8 b (by rw [hx0 b hbl]; rfl))
  replace hM := tG.keptW hM o_8 (fun q h => by rw [dj q h]; rfl)
  refine lv_pop hx hb dL_law_1298 rfl ?_
  refine lv_aload_n hx hb dL_law_1299 rfl (lv_at hl 1 rfl) ?_
  refine lv_aload_n hx hb dL_law_1300 rfl (lv_at hl 3 rfl) ?_
  refine lv_pc (pc2 := 1301) rfl ?_
  refine lv_iload_n hx hb dL_law_1301 rfl (lv_at hl 0 rfl) ?_
  refine lv_iconst (v := 1) hx hb dL_law_1302 (by decide) ?_
  refine lv_iadd hx hb dL_law_1303 ?_
  refine lv_topi (fun x_9 e_10 => ?_)
  have i_x_9 : x_9.toInt = yi.toInt + 1 := by rw [e_10]; exact (q_add (by rw [show (1 : Int32).toInt = 1 by decide]; omega) (by rw [show (1 : Int32).toInt = 1 by decide]; omega)).trans (by rw [show (1 : Int32).toInt = 1 by decide])
  refine ty_sld hx hb hX (i := x_9) (q_in (by omega) (by omega)) dL_law_1304 ?_
  refine lv_seti (y := xs (yi.toInt + 1).toNat) (congrArg (fun q : Int => xs q.toNat) (show x_9.toInt = yi.toInt + 1 by omega)) ?_
  refine lv_aload_n hx hb dL_law_1305 rfl (lv_at hl 3 rfl) ?_
  refine lv_iload_n hx hb dL_law_1306 rfl (lv_at hl 0 rfl) ?_
  refine lv_iconst (v := 2) hx hb dL_law_1307 (by decide) ?_
  refine lv_iadd hx hb dL_law_1308 ?_
  refine lv_topi (fun x_11 e_12 => ?_)
  have i_x_11 : x_11.toInt = yi.toInt + 2 := by rw [e_12]; exact (q_add (by rw [show (2 : Int32).toInt = 2 by decide]; omega) (by rw [show (2 : Int32).toInt = 2 by decide]; omega)).trans (by rw [show (2 : Int32).toInt = 2 by decide])
  refine lv_pc (pc2 := 1309) rfl ?_
  refine ty_sld hx hb hX (i := x_11) (q_in (by omega) (by omega)) dL_law_1309 ?_
  refine lv_seti (y := xs (yi.toInt + 2).toNat) (congrArg (fun q : Int => xs q.toNat) (show x_11.toInt = yi.toInt + 2 by omega)) ?_
  obtain ⟨_, at_13⟩ := rcv40 hM kt2
  refine lw_calli (W.runV (As := [.int (xs (yi.toInt + 1).toNat), .int (xs (yi.toInt + 2).toNat)]) (rest := []) ⟨hx, hb, hml, hown, hts⟩ (m_X10_startB l D tm cI cL cC gC gE gW gA gT gI gS gM K F S N gH gJ ge gk gf gs gg gr RN (h0 + 92) (xs (yi.toInt + 1).toNat) (xs (yi.toInt + 2).toNat) uqm hC0 hC4 hI0 hI4 hH0 hH9 hm0 hm3 hO0 hW kt2) (cwV 2 hts gu_L_X10_startB rfl rfl rfl (by decide +kernel) ⟨Nat.le_of_ble_eq_true rfl, Nat.le_of_ble_eq_true rfl⟩) (tP_V hM hE at_13 rfl) rfl rfl hl.1 rfl (lv_room (Nat.le_of_ble_eq_true rfl)) dL_law_1310 ⟨hcl, hsl⟩) hS rfl hm00 (fun r_14 H locs hp_15 hM hS o_16 => ?_)
  replace hX := hX.kept (o_16 b (by rw [hm00 b hbl]; rfl))
  replace hG := tG.keptW hG o_16 (fun q h => by rw [dj2 q h]; rfl)
  refine lv_pop hx hb dL_law_1313 rfl ?_
  refine lv_goto (tgt := 1409) hx hb dL_law_1314 (by decide) ?_
  exact kx H locs _ _ _ _ _ _ _ _ _ _ _ _ _ _ _ _ _ _ _ _ _ _ hG hM hC0 hC4 hI0 hI4 hH0 hH9 hm0 hm3 hO0 hW (by omega) hS hX

set_option maxRecDepth 20000 in
theorem gu_L_X9_blame : GoodIn wsL_law (wsV RL 152 RX9 yX9_blame uX9_blame) := goodIn_r _ [1004, 1005, 1006, 2, 1007, 608, 609, 2, 1008, 168, 169, 623, 624, 625, 1010, 1011, 1012, 1009, 610, 170, 626, 23, 43, 627, 628, 629, 42, 630, 98, 1013, 20, 28, 36, 344, 345, 346, 34, 631, 632, 633, 437, 438, 439, 31, 1014, 1015, 1016, 29, 24, 22, 347, 87, 356, 357, 80, 88, 359, 79, 89, 90, 91, 92, 93, 86, 348, 349, 350, 19, 358, 81, 351, 250, 251, 252, 67, 352, 353, 354, 253, 355, 66, 634, 637, 99, 223, 636, 274, 635, 224, 275, 440, 441, 442, 443, 27, 445, 446, 447, 449, 450, 451, 444, 76, 448, 77, 452, 454, 455, 456, 453, 458, 459, 460, 489, 490, 491, 457, 461, 471, 479, 480, 481, 483, 484, 485, 466, 467, 464, 468, 472, 473, 469, 475, 476, 477, 462, 463, 465, 470, 482, 71, 68, 486, 487, 488, 474, 478, 492, 493, 494, 495, 496, 1017, 1064, 1065, 1066, 1067, 1068, 1069, 1070, 1071, 1072, 1073, 1074, 1075, 1076, 1077, 1078, 1079, 1080, 1081, 1138, 1139, 1140, 1141, 1130, 1131, 1132, 1133, 1134, 1135, 1136, 1137, 1122, 1123, 1124, 1125, 1126, 1127, 1128, 1129] rfl (by decide +kernel)
set_option maxRecDepth 20000 in
theorem gu_L_X10_blame : GoodIn wsL_law (wsV RL 155 RX10 yX10_blame uX10_blame) := goodIn_r _ [1018, 1019, 1020, 5, 1021, 575, 182, 183, 5, 421, 642, 643, 644, 1024, 1025, 1026, 371, 1023, 1022, 184, 645, 370, 145, 1027, 785, 786, 787, 385, 386, 387, 646, 647, 648, 789, 790, 791, 502, 503, 504, 788, 143, 142, 388, 377, 378, 379, 392, 393, 394, 156, 389, 390, 391, 380, 381, 382, 383, 140, 384, 365, 137, 138, 395, 649, 146, 792, 505, 141, 506, 507, 508, 509, 510, 511, 512, 139, 513, 514, 519, 520, 521, 320, 515, 516, 517, 522, 518, 1082, 1083, 1084, 1085, 1086, 1087, 1088, 1089, 1090, 1091, 1092, 1093, 1094, 1095, 1096, 1097, 1098, 1099, 1100, 1101, 1102, 1103, 1104, 1105, 1106, 1107, 1108, 1109, 1110, 1111, 1112, 1113, 1114, 1115, 1116, 1117] rfl (by decide +kernel)
set_option maxHeartbeats 4000000 in
set_option maxRecDepth 100000 in
theorem lc_31 {p : Program} {l : Launch} {e : Env} {s : State} {m : MethodId} {below : List Frame} {meth : Method} {c : Code} {cells slots : Nat} {Q : State → Prop} {b h0 L : Nat} {xs : Nat → Int32} {yi : Int32} {D : va_G} {cI cL cC : ClassId} {tx tm : Nat → Nat} {H : Heap} {locs : List Loc} {ls : Array Slot} {gC : Int32} {gE : Int32} {G : Nat} {gW : Nat → Int32} {gA : Nat → Int32} {gT : Nat → Int32} {gI : Int32} {gS : Int32} {gM : Int32} {K : Nat → Int32} {F : Nat → Int32} {S : Nat → Int32} {N : Nat → Int32} {gH : Int} {gJ : Int} {ge : Int32} {gk : Int32} {gf : Int32} {gs : Int32} {gg : Int32} {gr : Int32} {RN : Nat → Int32} (hx : p.tables.exec = Jvm.exec) (hb : c.code = cL_law) (hml : c.maxLocals = 4) (hown : s.vm.findClass RL = some m.cls) (hts : ∀ w ∈ wsL_law, w.before #[Value.ref b] s = true) (hE : EV D cI cL cC s) (hbl : b < h0) (hG : tG D (gF cI cL cC gC gE G gW gA) tx H) (hM : tG D (mF cI cL cC gC gE gW gA gT gI gS gM K F S N gH gJ ge gk gf gs gg gr RN) tm H) (kt : tx h0 = 1) (kt2 : tm (h0 + 92) = 40) (hx0 : ∀ q : Nat, q < h0 → tx q = 0) (hm00 : ∀ q : Nat, q < h0 → tm q = 0) (dj : ∀ q : Nat, tm q ≠ 0 → tx q = 0) (dj2 : ∀ q : Nat, tx q ≠ 0 → tm q = 0) (uq_gC : ∀ b c : Nat, tx b = 2 → tx c = 2 → b = c) (uq_gE : ∀ b c : Nat, tx b = 6 → tx c = 6 → b = c) (uq_gW : ∀ b c : Nat, tx b = 29 → tx c = 29 → b = c) (uq_gA : ∀ b c : Nat, tx b = 31 → tx c = 31 → b = c) (uqm : ∀ b c : Nat, tm b = tm c → tm b ≠ 0 → b = c) (hC0 : 0 ≤ gC.toInt) (hC4 : gC.toInt ≤ 400) (hI0 : 0 ≤ gI.toInt) (hI4 : gI.toInt ≤ 40) (hH0 : 0 ≤ gH) (hH9 : gH ≤ 96) (hm0 : 0 ≤ gM.toInt) (hm3 : gM.toInt ≤ 3) (hO0 : okM K F S N 0 gI.toInt) (hW : swM gS K F S N gI.toInt) (hGb : (G : Int) ≤ 3072 * yi.toInt) (hy0 : 0 ≤ yi.toInt) (hy8 : yi.toInt + 8 ≤ (L : Int)) (hL : L ≤ 4096) (hS : cF h0 s.heap H locs) (hX : va_X b L xs s H) (hl : lv_has ls 4 [(3, .int yi), (2, .ref (h0 + 92)), (1, .ref h0), (0, .ref b)]) (hcl : cells ≤ 600000) (hsl : slots ≤ 7302250) (kx : ∀ (H1 : Heap) (locs1 : List Loc) (gC' : Int32) (gE' : Int32) (G' : Nat) (gW' : Nat → Int32) (gA' : Nat → Int32) (gT' : Nat → Int32) (gI' : Int32) (gS' : Int32) (gM' : Int32) (K' : Nat → Int32) (F' : Nat → Int32) (S' : Nat → Int32) (N' : Nat → Int32) (gH' : Int) (gJ' : Int) (ge' : Int32) (gk' : Int32) (gf' : Int32) (gs' : Int32) (gg' : Int32) (gr' : Int32) (RN' : Nat → Int32), tG D (gF cI cL cC gC' gE' G' gW' gA') tx H1 → tG D (mF cI cL cC gC' gE' gW' gA' gT' gI' gS' gM' K' F' S' N' gH' gJ' ge' gk' gf' gs' gg' gr' RN') tm H1 → 0 ≤ gC'.toInt → gC'.toInt ≤ 400 → 0 ≤ gI'.toInt → gI'.toInt ≤ 40 → 0 ≤ gH' → gH' ≤ 96 → 0 ≤ gM'.toInt → gM'.toInt ≤ 3 → okM K' F' S' N' 0 gI'.toInt → swM gS' K' F' S' N' gI'.toInt → (G' : Int) ≤ 3072 * yi.toInt + 24576 → cF h0 s.heap H1 locs1 → va_X b L xs s H1 → W p l e room_1 s m #[Value.ref b] below meth c H1 locs1 cells slots Q (F0 m 1409 ls [])) : W p l e room_1 s m #[Value.ref b] below meth c H locs cells slots Q (F0 m 1317 ls []) := by
  refine lv_aload_n hx hb dL_law_1317 rfl (lv_at hl 2 rfl) ?_
  refine lv_aload_n hx hb dL_law_1318 rfl (lv_at hl 3 rfl) ?_
  refine lv_iload_n hx hb dL_law_1319 rfl (lv_at hl 0 rfl) ?_
  refine lv_iconst (v := 1) hx hb dL_law_1320 (by decide) ?_
  refine lv_iadd hx hb dL_law_1321 ?_
  refine lv_topi (fun x_1 e_2 => ?_)
  have i_x_1 : x_1.toInt = yi.toInt + 1 := by rw [e_2]; exact (q_add (by rw [show (1 : Int32).toInt = 1 by decide]; omega) (by rw [show (1 : Int32).toInt = 1 by decide]; omega)).trans (by rw [show (1 : Int32).toInt = 1 by decide])
  refine ty_sld hx hb hX (i := x_1) (q_in (by omega) (by omega)) dL_law_1322 ?_
  refine lv_seti (y := xs (yi.toInt + 1).toNat) (congrArg (fun q : Int => xs q.toNat) (show x_1.toInt = yi.toInt + 1 by omega)) ?_
  refine lv_aload_n hx hb dL_law_1323 rfl (lv_at hl 3 rfl) ?_
  refine lv_pc (pc2 := 1324) rfl ?_
  refine lv_iload_n hx hb dL_law_1324 rfl (lv_at hl 0 rfl) ?_
  refine lv_iconst (v := 2) hx hb dL_law_1325 (by decide) ?_
  refine lv_iadd hx hb dL_law_1326 ?_
  refine lv_topi (fun x_3 e_4 => ?_)
  have i_x_3 : x_3.toInt = yi.toInt + 2 := by rw [e_4]; exact (q_add (by rw [show (2 : Int32).toInt = 2 by decide]; omega) (by rw [show (2 : Int32).toInt = 2 by decide]; omega)).trans (by rw [show (2 : Int32).toInt = 2 by decide])
  refine ty_sld hx hb hX (i := x_3) (q_in (by omega) (by omega)) dL_law_1327 ?_
  refine lv_seti (y := xs (yi.toInt + 2).toNat) (congrArg (fun q : Int => xs q.toNat) (show x_3.toInt = yi.toInt + 2 by omega)) ?_
  refine lv_aload_n hx hb dL_law_1328 rfl (lv_at hl 3 rfl) ?_
  refine lv_iload_n hx hb dL_law_1329 rfl (lv_at hl 0 rfl) ?_
  refine lv_iconst (v := 3) hx hb dL_law_1330 (by decide) ?_
  refine lv_iadd hx hb dL_law_1331 ?_
  refine lv_topi (fun x_5 e_6 => ?_)
  have i_x_5 : x_5.toInt = yi.toInt + 3 := by rw [e_6]; exact (q_add (by rw [show (3 : Int32).toInt = 3 by decide]; omega) (by rw [show (3 : Int32).toInt = 3 by decide]; omega)).trans (by rw [show (3 : Int32).toInt = 3 by decide])
  refine lv_pc (pc2 := 1332) rfl ?_
  refine ty_sld hx hb hX (i := x_5) (q_in (by omega) (by omega)) dL_law_1332 ?_
  refine lv_seti (y := xs (yi.toInt + 3).toNat) (congrArg (fun q : Int => xs q.toNat) (show x_5.toInt = yi.toInt + 3 by omega)) ?_
  obtain ⟨_, at_7⟩ := rcv1 hG kt
  refine lw_calll (W.runV (As := [.int (xs (yi.toInt + 1).toNat), .int (xs (yi.toInt + 2).toNat), .int (xs (yi.toInt + 3).toNat)]) (rest := []) ⟨hx, hb, hml, hown, hts⟩ (s_X9_blame l D tx cI cL cC gC gE G gW gA h0 (xs (yi.toInt + 1).toNat) (xs (yi.toInt + 2).toNat) (xs (yi.toInt + 3).toNat) (by omega) kt) (cwV 3 hts gu_L_X9_blame rfl rfl rfl (by decide +kernel) ⟨Nat.le_of_ble_eq_true rfl, Nat.le_of_ble_eq_true rfl⟩) (tP_V hG hE at_7 rfl) rfl rfl hl.1 rfl (lv_room (Nat.le_of_ble_eq_true rfl)) dL_law_1333 ⟨hcl, hsl⟩) hS rfl hx0 (fun r_8 H locs hp_9 hG hS o_10 => ?_)
  replace hX := hX.kept (o_10 b (by rw [hx0 b hbl]; rfl))
  replace hM := tG.keptW hM o_10 (fun q h => by rw [dj q h]; rfl)
  refine lv_pop2_2 hx hb dL_law_1336 rfl ?_
  refine lv_aload_n hx hb dL_law_1337 rfl (lv_at hl 1 rfl) ?_
  refine lv_aload_n hx hb dL_law_1338 rfl (lv_at hl 3 rfl) ?_
  refine lv_iload_n hx hb dL_law_1339 rfl (lv_at hl 0 rfl) ?_
  refine lv_iconst (v := 1) hx hb dL_law_1340 (by decide) ?_
  refine lv_iadd hx hb dL_law_1341 ?_
  refine lv_topi (fun x_11 e_12 => ?_)
  have i_x_11 : x_11.toInt = yi.toInt + 1 := by rw [e_12]; exact (q_add (by rw [show (1 : Int32).toInt = 1 by decide]; omega) (by rw [show (1 : Int32).toInt = 1 by decide]; omega)).trans (by rw [show (1 : Int32).toInt = 1 by decide])
  refine lv_pc (pc2 := 1342) rfl ?_
  refine ty_sld hx hb hX (i := x_11) (q_in (by omega) (by omega)) dL_law_1342 ?_
  refine lv_seti (y := xs (yi.toInt + 1).toNat) (congrArg (fun q : Int => xs q.toNat) (show x_11.toInt = yi.toInt + 1 by omega)) ?_
  refine lv_aload_n hx hb dL_law_1343 rfl (lv_at hl 3 rfl) ?_
  refine lv_iload_n hx hb dL_law_1344 rfl (lv_at hl 0 rfl) ?_
  refine lv_iconst (v := 2) hx hb dL_law_1345 (by decide) ?_
  refine lv_iadd hx hb dL_law_1346 ?_
  refine lv_topi (fun x_13 e_14 => ?_)
  have i_x_13 : x_13.toInt = yi.toInt + 2 := by rw [e_14]; exact (q_add (by rw [show (2 : Int32).toInt = 2 by decide]; omega) (by rw [show (2 : Int32).toInt = 2 by decide]; omega)).trans (by rw [show (2 : Int32).toInt = 2 by decide])
  refine ty_sld hx hb hX (i := x_13) (q_in (by omega) (by omega)) dL_law_1347 ?_
  refine lv_seti (y := xs (yi.toInt + 2).toNat) (congrArg (fun q : Int => xs q.toNat) (show x_13.toInt = yi.toInt + 2 by omega)) ?_
  refine lv_aload_n hx hb dL_law_1348 rfl (lv_at hl 3 rfl) ?_
  refine lv_iload_n hx hb dL_law_1349 rfl (lv_at hl 0 rfl) ?_
  refine lv_pc (pc2 := 1350) rfl ?_
  refine lv_iconst (v := 3) hx hb dL_law_1350 (by decide) ?_
  refine lv_iadd hx hb dL_law_1351 ?_
  refine lv_topi (fun x_15 e_16 => ?_)
  have i_x_15 : x_15.toInt = yi.toInt + 3 := by rw [e_16]; exact (q_add (by rw [show (3 : Int32).toInt = 3 by decide]; omega) (by rw [show (3 : Int32).toInt = 3 by decide]; omega)).trans (by rw [show (3 : Int32).toInt = 3 by decide])
  refine ty_sld hx hb hX (i := x_15) (q_in (by omega) (by omega)) dL_law_1352 ?_
  refine lv_seti (y := xs (yi.toInt + 3).toNat) (congrArg (fun q : Int => xs q.toNat) (show x_15.toInt = yi.toInt + 3 by omega)) ?_
  obtain ⟨_, at_17⟩ := rcv40 hM kt2
  refine lx_calll (W.runV (As := [.int (xs (yi.toInt + 1).toNat), .int (xs (yi.toInt + 2).toNat), .int (xs (yi.toInt + 3).toNat)]) (rest := []) ⟨hx, hb, hml, hown, hts⟩ (m_X10_blame l D tm cI cL cC gC gE gW gA gT gI gS gM K F S N gH gJ ge gk gf gs gg gr RN (h0 + 92) (xs (yi.toInt + 1).toNat) (xs (yi.toInt + 2).toNat) (xs (yi.toInt + 3).toNat) uqm hC0 hC4 hI0 hI4 hH0 hH9 hm0 hm3 hO0 hW kt2) (cwV 3 hts gu_L_X10_blame rfl rfl rfl (by decide +kernel) ⟨Nat.le_of_ble_eq_true rfl, Nat.le_of_ble_eq_true rfl⟩) (tP_V hM hE at_17 rfl) rfl rfl hl.1 rfl (lv_room (Nat.le_of_ble_eq_true rfl)) dL_law_1353 ⟨hcl, hsl⟩) hS rfl hm00 (fun r_18 zz_23 H locs hp_19 hM hS o_20 => ?_)
  obtain ⟨gH_21, gJ_22⟩ := zz_23
  replace hX := hX.kept (o_20 b (by rw [hm00 b hbl]; rfl))
  replace hG := tG.keptW hG o_20 (fun q h => by rw [dj2 q h]; rfl)
  replace hM : tG D (mF cI cL cC gC gE gW gA gT gI gS gM K F S N gH_21 gJ_22 ge gk gf gs gg gr RN) tm H := hM
  have hp_19 : 0 ≤ gH_21 ∧ gH_21 ≤ 96 := hp_19
  obtain ⟨p_24, p_25⟩ := hp_19
  refine lv_pop2_2 hx hb dL_law_1356 rfl ?_
  refine lv_goto (tgt := 1409) hx hb dL_law_1357 (by decide) ?_
  exact kx H locs _ _ _ _ _ _ _ _ _ _ _ _ _ _ _ _ _ _ _ _ _ _ hG hM hC0 hC4 hI0 hI4 p_24 p_25 hm0 hm3 hO0 hW (by omega) hS hX

set_option maxRecDepth 20000 in
theorem gu_L_X9_keep : GoodIn wsL_law (wsV RL 156 RX9 yX9_keep uX9_keep) := goodIn_r _ [1028, 1029, 1030, 2, 1031, 23, 39, 38, 35, 861, 862, 863, 34, 864, 86, 865, 724, 725, 726, 87, 88, 89, 90, 91, 92, 93, 1064, 1065, 1066, 1067, 1068, 1069, 1070, 1071, 1072, 1073, 1074, 1075, 1076, 1077, 1078, 1079, 1080, 1081, 1130, 1131, 1132, 1133, 1134, 1135, 1136, 1137] rfl (by decide +kernel)
set_option maxRecDepth 20000 in
theorem gu_L_X10_keep : GoodIn wsL_law (wsV RL 159 RX10 yX10_keep uX10_keep) := goodIn_r _ [1032, 1033, 1034, 5, 1035, 370, 372, 144, 142, 1082, 1083, 1084, 1085, 1086, 1087, 1088, 1089, 1090, 1091, 1092, 1093, 1094, 1095, 1096, 1097, 1098, 1099, 1100, 1101, 1102, 1103, 1104, 1105, 1106, 1107, 1108, 1109, 1110, 1111, 1112, 1113, 1114, 1115, 1116, 1117] rfl (by decide +kernel)
set_option maxHeartbeats 4000000 in
set_option maxRecDepth 100000 in
theorem lc_32 {p : Program} {l : Launch} {e : Env} {s : State} {m : MethodId} {below : List Frame} {meth : Method} {c : Code} {cells slots : Nat} {Q : State → Prop} {b h0 L : Nat} {xs : Nat → Int32} {yi : Int32} {D : va_G} {cI cL cC : ClassId} {tx tm : Nat → Nat} {H : Heap} {locs : List Loc} {ls : Array Slot} {gC : Int32} {gE : Int32} {G : Nat} {gW : Nat → Int32} {gA : Nat → Int32} {gT : Nat → Int32} {gI : Int32} {gS : Int32} {gM : Int32} {K : Nat → Int32} {F : Nat → Int32} {S : Nat → Int32} {N : Nat → Int32} {gH : Int} {gJ : Int} {ge : Int32} {gk : Int32} {gf : Int32} {gs : Int32} {gg : Int32} {gr : Int32} {RN : Nat → Int32} (hx : p.tables.exec = Jvm.exec) (hb : c.code = cL_law) (hml : c.maxLocals = 4) (hown : s.vm.findClass RL = some m.cls) (hts : ∀ w ∈ wsL_law, w.before #[Value.ref b] s = true) (hE : EV D cI cL cC s) (hbl : b < h0) (hG : tG D (gF cI cL cC gC gE G gW gA) tx H) (hM : tG D (mF cI cL cC gC gE gW gA gT gI gS gM K F S N gH gJ ge gk gf gs gg gr RN) tm H) (kt : tx h0 = 1) (kt2 : tm (h0 + 92) = 40) (hx0 : ∀ q : Nat, q < h0 → tx q = 0) (hm00 : ∀ q : Nat, q < h0 → tm q = 0) (dj : ∀ q : Nat, tm q ≠ 0 → tx q = 0) (dj2 : ∀ q : Nat, tx q ≠ 0 → tm q = 0) (uq_gC : ∀ b c : Nat, tx b = 2 → tx c = 2 → b = c) (uq_gE : ∀ b c : Nat, tx b = 6 → tx c = 6 → b = c) (uq_gW : ∀ b c : Nat, tx b = 29 → tx c = 29 → b = c) (uq_gA : ∀ b c : Nat, tx b = 31 → tx c = 31 → b = c) (uqm : ∀ b c : Nat, tm b = tm c → tm b ≠ 0 → b = c) (hC0 : 0 ≤ gC.toInt) (hC4 : gC.toInt ≤ 400) (hI0 : 0 ≤ gI.toInt) (hI4 : gI.toInt ≤ 40) (hH0 : 0 ≤ gH) (hH9 : gH ≤ 96) (hm0 : 0 ≤ gM.toInt) (hm3 : gM.toInt ≤ 3) (hO0 : okM K F S N 0 gI.toInt) (hW : swM gS K F S N gI.toInt) (hGb : (G : Int) ≤ 3072 * yi.toInt) (hy0 : 0 ≤ yi.toInt) (hy8 : yi.toInt + 8 ≤ (L : Int)) (hL : L ≤ 4096) (hS : cF h0 s.heap H locs) (hX : va_X b L xs s H) (hl : lv_has ls 4 [(3, .int yi), (2, .ref (h0 + 92)), (1, .ref h0), (0, .ref b)]) (hcl : cells ≤ 600000) (hsl : slots ≤ 7302250) (kx : ∀ (H1 : Heap) (locs1 : List Loc) (gC' : Int32) (gE' : Int32) (G' : Nat) (gW' : Nat → Int32) (gA' : Nat → Int32) (gT' : Nat → Int32) (gI' : Int32) (gS' : Int32) (gM' : Int32) (K' : Nat → Int32) (F' : Nat → Int32) (S' : Nat → Int32) (N' : Nat → Int32) (gH' : Int) (gJ' : Int) (ge' : Int32) (gk' : Int32) (gf' : Int32) (gs' : Int32) (gg' : Int32) (gr' : Int32) (RN' : Nat → Int32), tG D (gF cI cL cC gC' gE' G' gW' gA') tx H1 → tG D (mF cI cL cC gC' gE' gW' gA' gT' gI' gS' gM' K' F' S' N' gH' gJ' ge' gk' gf' gs' gg' gr' RN') tm H1 → 0 ≤ gC'.toInt → gC'.toInt ≤ 400 → 0 ≤ gI'.toInt → gI'.toInt ≤ 40 → 0 ≤ gH' → gH' ≤ 96 → 0 ≤ gM'.toInt → gM'.toInt ≤ 3 → okM K' F' S' N' 0 gI'.toInt → swM gS' K' F' S' N' gI'.toInt → (G' : Int) ≤ 3072 * yi.toInt + 24576 → cF h0 s.heap H1 locs1 → va_X b L xs s H1 → W p l e room_1 s m #[Value.ref b] below meth c H1 locs1 cells slots Q (F0 m 1409 ls [])) : W p l e room_1 s m #[Value.ref b] below meth c H locs cells slots Q (F0 m 1360 ls []) := by
  refine lv_aload_n hx hb dL_law_1360 rfl (lv_at hl 2 rfl) ?_
  obtain ⟨_, at_1⟩ := rcv1 hG kt
  refine lw_calli (W.runV (As := []) (rest := []) ⟨hx, hb, hml, hown, hts⟩ (s_X9_keep l D tx cI cL cC gC gE G gW gA h0  kt) (cwV 0 hts gu_L_X9_keep rfl rfl rfl (by decide +kernel) ⟨Nat.le_of_ble_eq_true rfl, Nat.le_of_ble_eq_true rfl⟩) (tP_V hG hE at_1 rfl) rfl rfl hl.1 rfl (lv_room (Nat.le_of_ble_eq_true rfl)) dL_law_1361 ⟨hcl, hsl⟩) hS rfl hx0 (fun r_2 H locs hp_3 hG hS o_4 => ?_)
  replace hX := hX.kept (o_4 b (by rw [hx0 b hbl]; rfl))
  replace hM := tG.keptW hM o_4 (fun q h => by rw [dj q h]; rfl)
  refine lv_pop hx hb dL_law_1364 rfl ?_
  refine lv_aload_n hx hb dL_law_1365 rfl (lv_at hl 1 rfl) ?_
  obtain ⟨_, at_5⟩ := rcv40 hM kt2
  refine lx_calli (W.runV (As := []) (rest := []) ⟨hx, hb, hml, hown, hts⟩ (m_X10_keep l D tm cI cL cC gC gE gW gA gT gI gS gM K F S N gH gJ ge gk gf gs gg gr RN (h0 + 92)  uqm hC0 hC4 hI0 hI4 hH0 hH9 hm0 hm3 hO0 hW kt2) (cwV 0 hts gu_L_X10_keep rfl rfl rfl (by decide +kernel) ⟨Nat.le_of_ble_eq_true rfl, Nat.le_of_ble_eq_true rfl⟩) (tP_V hM hE at_5 rfl) rfl rfl hl.1 rfl (lv_room (Nat.le_of_ble_eq_true rfl)) dL_law_1366 ⟨hcl, hsl⟩) hS rfl hm00 (fun r_6 gM_9 H locs hp_7 hM hS o_8 => ?_)
  replace hX := hX.kept (o_8 b (by rw [hm00 b hbl]; rfl))
  replace hG := tG.keptW hG o_8 (fun q h => by rw [dj2 q h]; rfl)
  replace hM : tG D (mF cI cL cC gC gE gW gA gT gI gS gM_9 K F S N gH gJ ge gk gf gs gg gr RN) tm H := hM
  have hp_7 : 0 ≤ gM_9.toInt ∧ gM_9.toInt ≤ 3 := hp_7
  obtain ⟨p_11, p_12⟩ := hp_7
  refine lv_pop hx hb dL_law_1369 rfl ?_
  refine lv_goto (tgt := 1409) hx hb dL_law_1370 (by decide) ?_
  exact kx H locs _ _ _ _ _ _ _ _ _ _ _ _ _ _ _ _ _ _ _ _ _ _ hG hM hC0 hC4 hI0 hI4 hH0 hH9 p_11 p_12 hO0 hW (by omega) hS hX

set_option maxRecDepth 20000 in
theorem gu_L_X9_back : GoodIn wsL_law (wsV RL 160 RX9 yX9_back uX9_back) := goodIn_r _ [1036, 1037, 1038, 2, 1039, 39, 168, 169, 2, 35, 38, 861, 862, 863, 34, 170, 864, 86, 865, 724, 725, 726, 87, 88, 89, 90, 91, 92, 93, 1064, 1065, 1066, 1067, 1068, 1069, 1070, 1071, 1072, 1073, 1074, 1075, 1076, 1077, 1078, 1079, 1080, 1081, 1130, 1131, 1132, 1133, 1134, 1135, 1136, 1137] rfl (by decide +kernel)
set_option maxRecDepth 20000 in
theorem gu_L_X10_back : GoodIn wsL_law (wsV RL 163 RX10 yX10_back uX10_back) := goodIn_r _ [1040, 1041, 1042, 5, 1043, 372, 142, 144, 1082, 1083, 1084, 1085, 1086, 1087, 1088, 1089, 1090, 1091, 1092, 1093, 1094, 1095, 1096, 1097, 1098, 1099, 1100, 1101, 1102, 1103, 1104, 1105, 1106, 1107, 1108, 1109, 1110, 1111, 1112, 1113, 1114, 1115, 1116, 1117] rfl (by decide +kernel)
set_option maxHeartbeats 4000000 in
set_option maxRecDepth 100000 in
theorem lc_33 {p : Program} {l : Launch} {e : Env} {s : State} {m : MethodId} {below : List Frame} {meth : Method} {c : Code} {cells slots : Nat} {Q : State → Prop} {b h0 L : Nat} {xs : Nat → Int32} {yi : Int32} {D : va_G} {cI cL cC : ClassId} {tx tm : Nat → Nat} {H : Heap} {locs : List Loc} {ls : Array Slot} {gC : Int32} {gE : Int32} {G : Nat} {gW : Nat → Int32} {gA : Nat → Int32} {gT : Nat → Int32} {gI : Int32} {gS : Int32} {gM : Int32} {K : Nat → Int32} {F : Nat → Int32} {S : Nat → Int32} {N : Nat → Int32} {gH : Int} {gJ : Int} {ge : Int32} {gk : Int32} {gf : Int32} {gs : Int32} {gg : Int32} {gr : Int32} {RN : Nat → Int32} (hx : p.tables.exec = Jvm.exec) (hb : c.code = cL_law) (hml : c.maxLocals = 4) (hown : s.vm.findClass RL = some m.cls) (hts : ∀ w ∈ wsL_law, w.before #[Value.ref b] s = true) (hE : EV D cI cL cC s) (hbl : b < h0) (hG : tG D (gF cI cL cC gC gE G gW gA) tx H) (hM : tG D (mF cI cL cC gC gE gW gA gT gI gS gM K F S N gH gJ ge gk gf gs gg gr RN) tm H) (kt : tx h0 = 1) (kt2 : tm (h0 + 92) = 40) (hx0 : ∀ q : Nat, q < h0 → tx q = 0) (hm00 : ∀ q : Nat, q < h0 → tm q = 0) (dj : ∀ q : Nat, tm q ≠ 0 → tx q = 0) (dj2 : ∀ q : Nat, tx q ≠ 0 → tm q = 0) (uq_gC : ∀ b c : Nat, tx b = 2 → tx c = 2 → b = c) (uq_gE : ∀ b c : Nat, tx b = 6 → tx c = 6 → b = c) (uq_gW : ∀ b c : Nat, tx b = 29 → tx c = 29 → b = c) (uq_gA : ∀ b c : Nat, tx b = 31 → tx c = 31 → b = c) (uqm : ∀ b c : Nat, tm b = tm c → tm b ≠ 0 → b = c) (hC0 : 0 ≤ gC.toInt) (hC4 : gC.toInt ≤ 400) (hI0 : 0 ≤ gI.toInt) (hI4 : gI.toInt ≤ 40) (hH0 : 0 ≤ gH) (hH9 : gH ≤ 96) (hm0 : 0 ≤ gM.toInt) (hm3 : gM.toInt ≤ 3) (hO0 : okM K F S N 0 gI.toInt) (hW : swM gS K F S N gI.toInt) (hGb : (G : Int) ≤ 3072 * yi.toInt) (hy0 : 0 ≤ yi.toInt) (hy8 : yi.toInt + 8 ≤ (L : Int)) (hL : L ≤ 4096) (hS : cF h0 s.heap H locs) (hX : va_X b L xs s H) (hl : lv_has ls 4 [(3, .int yi), (2, .ref (h0 + 92)), (1, .ref h0), (0, .ref b)]) (hcl : cells ≤ 600000) (hsl : slots ≤ 7302250) (kx : ∀ (H1 : Heap) (locs1 : List Loc) (gC' : Int32) (gE' : Int32) (G' : Nat) (gW' : Nat → Int32) (gA' : Nat → Int32) (gT' : Nat → Int32) (gI' : Int32) (gS' : Int32) (gM' : Int32) (K' : Nat → Int32) (F' : Nat → Int32) (S' : Nat → Int32) (N' : Nat → Int32) (gH' : Int) (gJ' : Int) (ge' : Int32) (gk' : Int32) (gf' : Int32) (gs' : Int32) (gg' : Int32) (gr' : Int32) (RN' : Nat → Int32), tG D (gF cI cL cC gC' gE' G' gW' gA') tx H1 → tG D (mF cI cL cC gC' gE' gW' gA' gT' gI' gS' gM' K' F' S' N' gH' gJ' ge' gk' gf' gs' gg' gr' RN') tm H1 → 0 ≤ gC'.toInt → gC'.toInt ≤ 400 → 0 ≤ gI'.toInt → gI'.toInt ≤ 40 → 0 ≤ gH' → gH' ≤ 96 → 0 ≤ gM'.toInt → gM'.toInt ≤ 3 → okM K' F' S' N' 0 gI'.toInt → swM gS' K' F' S' N' gI'.toInt → (G' : Int) ≤ 3072 * yi.toInt + 24576 → cF h0 s.heap H1 locs1 → va_X b L xs s H1 → W p l e room_1 s m #[Value.ref b] below meth c H1 locs1 cells slots Q (F0 m 1409 ls [])) : W p l e room_1 s m #[Value.ref b] below meth c H locs cells slots Q (F0 m 1373 ls []) := by
  refine lv_aload_n hx hb dL_law_1373 rfl (lv_at hl 2 rfl) ?_
  obtain ⟨_, at_1⟩ := rcv1 hG kt
  refine lw_calli (W.runV (As := []) (rest := []) ⟨hx, hb, hml, hown, hts⟩ (s_X9_back l D tx cI cL cC gC gE G gW gA h0  kt) (cwV 0 hts gu_L_X9_back rfl rfl rfl (by decide +kernel) ⟨Nat.le_of_ble_eq_true rfl, Nat.le_of_ble_eq_true rfl⟩) (tP_V hG hE at_1 rfl) rfl rfl hl.1 rfl (lv_room (Nat.le_of_ble_eq_true rfl)) dL_law_1374 ⟨hcl, hsl⟩) hS rfl hx0 (fun r_2 H locs hp_3 hG hS o_4 => ?_)
  replace hX := hX.kept (o_4 b (by rw [hx0 b hbl]; rfl))
  replace hM := tG.keptW hM o_4 (fun q h => by rw [dj q h]; rfl)
  refine lv_pop hx hb dL_law_1377 rfl ?_
  refine lv_aload_n hx hb dL_law_1378 rfl (lv_at hl 1 rfl) ?_
  obtain ⟨_, at_5⟩ := rcv40 hM kt2
  refine lx_calli (W.runV (As := []) (rest := []) ⟨hx, hb, hml, hown, hts⟩ (m_X10_back l D tm cI cL cC gC gE gW gA gT gI gS gM K F S N gH gJ ge gk gf gs gg gr RN (h0 + 92)  uqm hC0 hC4 hI0 hI4 hH0 hH9 hm0 hm3 hO0 hW kt2) (cwV 0 hts gu_L_X10_back rfl rfl rfl (by decide +kernel) ⟨Nat.le_of_ble_eq_true rfl, Nat.le_of_ble_eq_true rfl⟩) (tP_V hM hE at_5 rfl) rfl rfl hl.1 rfl (lv_room (Nat.le_of_ble_eq_true rfl)) dL_law_1379 ⟨hcl, hsl⟩) hS rfl hm00 (fun r_6 zz_11 H locs hp_7 hM hS o_8 => ?_)
  obtain ⟨gM_9, gH_10⟩ := zz_11
  replace hX := hX.kept (o_8 b (by rw [hm00 b hbl]; rfl))
  replace hG := tG.keptW hG o_8 (fun q h => by rw [dj2 q h]; rfl)
  replace hM : tG D (mF cI cL cC gC gE gW gA gT gI gS gM_9 K F S N gH_10 gJ ge gk gf gs gg gr RN) tm H := hM
  have hp_7 : 0 ≤ gH_10 ∧ gH_10 ≤ 96 ∧ 0 ≤ gM_9.toInt ∧ gM_9.toInt ≤ 3 := hp_7
  obtain ⟨p_12, p_13, p_14, p_15⟩ := hp_7
  refine lv_pop hx hb dL_law_1382 rfl ?_
  refine lv_goto (tgt := 1409) hx hb dL_law_1383 (by decide) ?_
  exact kx H locs _ _ _ _ _ _ _ _ _ _ _ _ _ _ _ _ _ _ _ _ _ _ hG hM hC0 hC4 hI0 hI4 p_12 p_13 p_14 p_15 hO0 hW (by omega) hS hX

set_option maxRecDepth 20000 in
theorem gu_L_X9_count : GoodIn wsL_law (wsV RL 164 RX9 yX9_count uX9_count) := goodIn_r _ [1044, 1045, 1046, 2, 1047, 16, 167, 23, 20, 330, 329, 570, 35, 428, 47, 1048, 1049, 1050, 46, 43, 1052, 1053, 1054, 42, 1056, 1057, 1058, 39, 1051, 711, 712, 713, 714, 110, 1055, 637, 628, 629, 630, 98, 1059, 100, 1064, 1065, 1066, 1067, 1068, 1069, 1070, 1071, 1072, 1073, 1074, 1075, 1076, 1077, 1078, 1079, 1080, 1081, 1118, 1119, 1120, 1121, 1122, 1123, 1124, 1125, 1126, 1127, 1130, 1131, 1132, 1133, 1134, 1135, 1136, 1137, 1142, 1143, 1144, 1145, 1146, 1138, 1139, 1140, 1141] rfl (by decide +kernel)
set_option maxRecDepth 20000 in
theorem gu_L_X10_count : GoodIn wsL_law (wsV RL 167 RX10 yX10_count uX10_count) := goodIn_r _ [1060, 1061, 1062, 5, 1063, 180, 370, 365, 576, 577, 578, 5, 142, 152, 372, 145, 147, 579, 137, 1082, 1083, 1084, 1085, 1086, 1087, 1088, 1089, 1090, 1091, 1092, 1093, 1094, 1095, 1096, 1097, 1098, 1099, 1100, 1101, 1102, 1103, 1104, 1105, 1106, 1107, 1108, 1109, 1110, 1111, 1112, 1113, 1114, 1115, 1116, 1117] rfl (by decide +kernel)
set_option maxHeartbeats 4000000 in
set_option maxRecDepth 100000 in
theorem lc_34 {p : Program} {l : Launch} {e : Env} {s : State} {m : MethodId} {below : List Frame} {meth : Method} {c : Code} {cells slots : Nat} {Q : State → Prop} {b h0 L : Nat} {xs : Nat → Int32} {yi : Int32} {D : va_G} {cI cL cC : ClassId} {tx tm : Nat → Nat} {H : Heap} {locs : List Loc} {ls : Array Slot} {gC : Int32} {gE : Int32} {G : Nat} {gW : Nat → Int32} {gA : Nat → Int32} {gT : Nat → Int32} {gI : Int32} {gS : Int32} {gM : Int32} {K : Nat → Int32} {F : Nat → Int32} {S : Nat → Int32} {N : Nat → Int32} {gH : Int} {gJ : Int} {ge : Int32} {gk : Int32} {gf : Int32} {gs : Int32} {gg : Int32} {gr : Int32} {RN : Nat → Int32} (hx : p.tables.exec = Jvm.exec) (hb : c.code = cL_law) (hml : c.maxLocals = 4) (hown : s.vm.findClass RL = some m.cls) (hts : ∀ w ∈ wsL_law, w.before #[Value.ref b] s = true) (hE : EV D cI cL cC s) (hbl : b < h0) (hG : tG D (gF cI cL cC gC gE G gW gA) tx H) (hM : tG D (mF cI cL cC gC gE gW gA gT gI gS gM K F S N gH gJ ge gk gf gs gg gr RN) tm H) (kt : tx h0 = 1) (kt2 : tm (h0 + 92) = 40) (hx0 : ∀ q : Nat, q < h0 → tx q = 0) (hm00 : ∀ q : Nat, q < h0 → tm q = 0) (dj : ∀ q : Nat, tm q ≠ 0 → tx q = 0) (dj2 : ∀ q : Nat, tx q ≠ 0 → tm q = 0) (uq_gC : ∀ b c : Nat, tx b = 2 → tx c = 2 → b = c) (uq_gE : ∀ b c : Nat, tx b = 6 → tx c = 6 → b = c) (uq_gW : ∀ b c : Nat, tx b = 29 → tx c = 29 → b = c) (uq_gA : ∀ b c : Nat, tx b = 31 → tx c = 31 → b = c) (uqm : ∀ b c : Nat, tm b = tm c → tm b ≠ 0 → b = c) (hC0 : 0 ≤ gC.toInt) (hC4 : gC.toInt ≤ 400) (hI0 : 0 ≤ gI.toInt) (hI4 : gI.toInt ≤ 40) (hH0 : 0 ≤ gH) (hH9 : gH ≤ 96) (hm0 : 0 ≤ gM.toInt) (hm3 : gM.toInt ≤ 3) (hO0 : okM K F S N 0 gI.toInt) (hW : swM gS K F S N gI.toInt) (hGb : (G : Int) ≤ 3072 * yi.toInt) (hy0 : 0 ≤ yi.toInt) (hy8 : yi.toInt + 8 ≤ (L : Int)) (hL : L ≤ 4096) (hS : cF h0 s.heap H locs) (hX : va_X b L xs s H) (hl : lv_has ls 4 [(3, .int yi), (2, .ref (h0 + 92)), (1, .ref h0), (0, .ref b)]) (hcl : cells ≤ 600000) (hsl : slots ≤ 7302250) (kx : ∀ (H1 : Heap) (locs1 : List Loc) (gC' : Int32) (gE' : Int32) (G' : Nat) (gW' : Nat → Int32) (gA' : Nat → Int32) (gT' : Nat → Int32) (gI' : Int32) (gS' : Int32) (gM' : Int32) (K' : Nat → Int32) (F' : Nat → Int32) (S' : Nat → Int32) (N' : Nat → Int32) (gH' : Int) (gJ' : Int) (ge' : Int32) (gk' : Int32) (gf' : Int32) (gs' : Int32) (gg' : Int32) (gr' : Int32) (RN' : Nat → Int32), tG D (gF cI cL cC gC' gE' G' gW' gA') tx H1 → tG D (mF cI cL cC gC' gE' gW' gA' gT' gI' gS' gM' K' F' S' N' gH' gJ' ge' gk' gf' gs' gg' gr' RN') tm H1 → 0 ≤ gC'.toInt → gC'.toInt ≤ 400 → 0 ≤ gI'.toInt → gI'.toInt ≤ 40 → 0 ≤ gH' → gH' ≤ 96 → 0 ≤ gM'.toInt → gM'.toInt ≤ 3 → okM K' F' S' N' 0 gI'.toInt → swM gS' K' F' S' N' gI'.toInt → (G' : Int) ≤ 3072 * yi.toInt + 24576 → cF h0 s.heap H1 locs1 → va_X b L xs s H1 → W p l e room_1 s m #[Value.ref b] below meth c H1 locs1 cells slots Q (F0 m 1409 ls [])) : W p l e room_1 s m #[Value.ref b] below meth c H locs cells slots Q (F0 m 1386 ls []) := by
  refine lv_aload_n hx hb dL_law_1386 rfl (lv_at hl 2 rfl) ?_
  refine lv_aload_n hx hb dL_law_1387 rfl (lv_at hl 3 rfl) ?_
  refine lv_iload_n hx hb dL_law_1388 rfl (lv_at hl 0 rfl) ?_
  refine lv_iconst (v := 1) hx hb dL_law_1389 (by decide) ?_
  refine lv_iadd hx hb dL_law_1390 ?_
  refine lv_topi (fun x_1 e_2 => ?_)
  have i_x_1 : x_1.toInt = yi.toInt + 1 := by rw [e_2]; exact (q_add (by rw [show (1 : Int32).toInt = 1 by decide]; omega) (by rw [show (1 : Int32).toInt = 1 by decide]; omega)).trans (by rw [show (1 : Int32).toInt = 1 by decide])
  refine ty_sld hx hb hX (i := x_1) (q_in (by omega) (by omega)) dL_law_1391 ?_
  refine lv_seti (y := xs (yi.toInt + 1).toNat) (congrArg (fun q : Int => xs q.toNat) (show x_1.toInt = yi.toInt + 1 by omega)) ?_
  obtain ⟨_, at_3⟩ := rcv1 hG kt
  refine lw_calli (W.runV (As := [.int (xs (yi.toInt + 1).toNat)]) (rest := []) ⟨hx, hb, hml, hown, hts⟩ (s_X9_count l D tx cI cL cC gC gE G gW gA h0 (xs (yi.toInt + 1).toNat) kt) (cwV 1 hts gu_L_X9_count rfl rfl rfl (by decide +kernel) ⟨Nat.le_of_ble_eq_true rfl, Nat.le_of_ble_eq_true rfl⟩) (tP_V hG hE at_3 rfl) rfl rfl hl.1 rfl (lv_room (Nat.le_of_ble_eq_true rfl)) dL_law_1392 ⟨hcl, hsl⟩) hS rfl hx0 (fun r_4 H locs hp_5 hG hS o_6 => ?_)
  replace hX := hX.kept (o_6 b (by rw [hx0 b hbl]; rfl))
  replace hM := tG.keptW hM o_6 (fun q h => by rw [dj q h]; rfl)
  refine lv_pc (pc2 := 1395) rfl ?_
  refine lv_pop hx hb dL_law_1395 rfl ?_
  refine lv_aload_n hx hb dL_law_1396 rfl (lv_at hl 1 rfl) ?_
  refine lv_aload_n hx hb dL_law_1397 rfl (lv_at hl 3 rfl) ?_
  refine lv_iload_n hx hb dL_law_1398 rfl (lv_at hl 0 rfl) ?_
  refine lv_iconst (v := 1) hx hb dL_law_1399 (by decide) ?_
  refine lv_iadd hx hb dL_law_1400 ?_
  refine lv_topi (fun x_7 e_8 => ?_)
  have i_x_7 : x_7.toInt = yi.toInt + 1 := by rw [e_8]; exact (q_add (by rw [show (1 : Int32).toInt = 1 by decide]; omega) (by rw [show (1 : Int32).toInt = 1 by decide]; omega)).trans (by rw [show (1 : Int32).toInt = 1 by decide])
  refine ty_sld hx hb hX (i := x_7) (q_in (by omega) (by omega)) dL_law_1401 ?_
  refine lv_seti (y := xs (yi.toInt + 1).toNat) (congrArg (fun q : Int => xs q.toNat) (show x_7.toInt = yi.toInt + 1 by omega)) ?_
  obtain ⟨_, at_9⟩ := rcv40 hM kt2
  refine lw_calli (W.runV (As := [.int (xs (yi.toInt + 1).toNat)]) (rest := []) ⟨hx, hb, hml, hown, hts⟩ (m_X10_count l D tm cI cL cC gC gE gW gA gT gI gS gM K F S N gH gJ ge gk gf gs gg gr RN (h0 + 92) (xs (yi.toInt + 1).toNat) uqm hC0 hC4 hI0 hI4 hH0 hH9 hm0 hm3 hO0 hW kt2) (cwV 1 hts gu_L_X10_count rfl rfl rfl (by decide +kernel) ⟨Nat.le_of_ble_eq_true rfl, Nat.le_of_ble_eq_true rfl⟩) (tP_V hM hE at_9 rfl) rfl rfl hl.1 rfl (lv_room (Nat.le_of_ble_eq_true rfl)) dL_law_1402 ⟨hcl, hsl⟩) hS rfl hm00 (fun r_10 H locs hp_11 hM hS o_12 => ?_)
  replace hX := hX.kept (o_12 b (by rw [hm00 b hbl]; rfl))
  replace hG := tG.keptW hG o_12 (fun q h => by rw [dj2 q h]; rfl)
  refine lv_pc (pc2 := 1405) rfl ?_
  refine lv_pop hx hb dL_law_1405 rfl ?_
  refine lv_goto (tgt := 1409) hx hb dL_law_1406 (by decide) ?_
  exact kx H locs _ _ _ _ _ _ _ _ _ _ _ _ _ _ _ _ _ _ _ _ _ _ hG hM hC0 hC4 hI0 hI4 hH0 hH9 hm0 hm3 hO0 hW (by omega) hS hX
