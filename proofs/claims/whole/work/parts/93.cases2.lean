/-! the law, case by case -/

theorem lc_26 {X : lX} (F : LF X) {i : Nat} {μ ν : j_M} (hi : i + 6 ≤ lL X) (hM : MI ν) (hR : Rel μ ν) (kk : ∀ μ2 ν2 : j_M, MI ν2 → Rel μ2 ν2 → LV X 1712 i [] μ2 ν2) : LV X 1167 i [] μ ν := by
  refine lr_x F dL_law_1167 ?_
  refine lr_ld (j := 1) F hi (by decide) dL_law_1168 dL_law_1169 dL_law_1170 dL_law_1171 dL_law_1172 ?_
  refine lr_callxI (As := [.int (lxs X (i + 1))]) (rest := []) F mX9_likely mlL_128 im_X9_likely se_X9_likely dL_law_1173 rfl (c_X9_likely _ μ ν hM hR) rfl (by decide) rfl (Nat.le_of_ble_eq_true rfl) (fun r1 μ2 h1 => ?_)
  refine lr_m F dL_law_1176 ?_
  refine lr_ld (j := 1) F hi (by decide) dL_law_1177 dL_law_1178 dL_law_1179 dL_law_1180 dL_law_1181 ?_
  refine lr_callmI (As := [.int (lxs X (i + 1))]) (rest := [.int r1]) F mX10_likely mlL_131 im_X10_likely se_X10_likely dL_law_1182 rfl (c_X10_likely _ ν hM) rfl (by decide) rfl (Nat.le_of_ble_eq_true rfl) (fun r2 ν2 h2 => ?_)
  refine lr_eq (tgt := 1712) F dL_law_1185 (by decide) (h1.1.trans h2.1.symm) ?_
  exact kk _ _ (MI.F (MI_s_likely _ hM) h2.2) (Rel.F (MI_s_likely _ hM) h1.2 h2.2)

theorem lc_27 {X : lX} (F : LF X) {i : Nat} {μ ν : j_M} (hi : i + 6 ≤ lL X) (hM : MI ν) (hR : Rel μ ν) (kk : ∀ μ2 ν2 : j_M, MI ν2 → Rel μ2 ν2 → LV X 1712 i [] μ2 ν2) : LV X 1190 i [] μ ν := by
  refine lr_x F dL_law_1190 ?_
  refine lr_ld (j := 1) F hi (by decide) dL_law_1191 dL_law_1192 dL_law_1193 dL_law_1194 dL_law_1195 ?_
  refine lr_callxI (As := [.int (lxs X (i + 1))]) (rest := []) F mX9_gladOdds mlL_132 im_X9_gladOdds se_X9_gladOdds dL_law_1196 rfl (c_X9_gladOdds _ μ ν hM hR) rfl (by decide) rfl (Nat.le_of_ble_eq_true rfl) (fun r1 μ2 h1 => ?_)
  refine lr_m F dL_law_1199 ?_
  refine lr_ld (j := 1) F hi (by decide) dL_law_1200 dL_law_1201 dL_law_1202 dL_law_1203 dL_law_1204 ?_
  refine lr_callmI (As := [.int (lxs X (i + 1))]) (rest := [.int r1]) F mX10_gladOdds mlL_135 im_X10_gladOdds se_X10_gladOdds dL_law_1205 rfl (c_X10_gladOdds _ ν hM) rfl (by decide) rfl (Nat.le_of_ble_eq_true rfl) (fun r2 ν2 h2 => ?_)
  refine lr_eq (tgt := 1712) F dL_law_1208 (by decide) (h1.1.trans h2.1.symm) ?_
  exact kk _ _ (MI.F (MI_s_gladOdds _ hM) h2.2) (Rel.F (MI_s_gladOdds _ hM) h1.2 h2.2)

theorem lc_28 {X : lX} (F : LF X) {i : Nat} {μ ν : j_M} (hi : i + 6 ≤ lL X) (hM : MI ν) (hR : Rel μ ν) (kk : ∀ μ2 ν2 : j_M, MI ν2 → Rel μ2 ν2 → LV X 1712 i [] μ2 ν2) : LV X 1213 i [] μ ν := by
  refine lr_x F dL_law_1213 ?_
  refine lr_callxI (As := []) (rest := []) F mX9_meanLeft mlL_136 im_X9_meanLeft se_X9_meanLeft dL_law_1214 rfl (c_X9_meanLeft  μ ν hM hR) rfl (by decide) rfl (Nat.le_of_ble_eq_true rfl) (fun r1 μ2 h1 => ?_)
  refine lr_m F dL_law_1217 ?_
  refine lr_callmI (As := []) (rest := [.int r1]) F mX10_meanLeft mlL_139 im_X10_meanLeft se_X10_meanLeft dL_law_1218 rfl (c_X10_meanLeft  ν hM) rfl (by decide) rfl (Nat.le_of_ble_eq_true rfl) (fun r2 ν2 h2 => ?_)
  refine lr_eq (tgt := 1712) F dL_law_1221 (by decide) (h1.1.trans h2.1.symm) ?_
  exact kk _ _ (MI.F (MI_s_meanLeft  hM) h2.2) (Rel.F (MI_s_meanLeft  hM) h1.2 h2.2)

theorem lc_29 {X : lX} (F : LF X) {i : Nat} {μ ν : j_M} (hi : i + 6 ≤ lL X) (hM : MI ν) (hR : Rel μ ν) (kk : ∀ μ2 ν2 : j_M, MI ν2 → Rel μ2 ν2 → LV X 1712 i [] μ2 ν2) : LV X 1226 i [] μ ν := by
  refine lr_x F dL_law_1226 ?_
  refine lr_ld (j := 1) F hi (by decide) dL_law_1227 dL_law_1228 dL_law_1229 dL_law_1230 dL_law_1231 ?_
  refine lr_ld (j := 2) F hi (by decide) dL_law_1232 dL_law_1233 dL_law_1234 dL_law_1235 dL_law_1236 ?_
  refine lr_callxI (As := [.int (lxs X (i + 1)), .int (lxs X (i + 2))]) (rest := []) F mX9_sorts mlL_140 im_X9_sorts se_X9_sorts dL_law_1237 rfl (c_X9_sorts _ _ μ ν hM hR) rfl (by decide) rfl (Nat.le_of_ble_eq_true rfl) (fun r1 μ2 h1 => ?_)
  refine lr_m F dL_law_1240 ?_
  refine lr_ld (j := 1) F hi (by decide) dL_law_1241 dL_law_1242 dL_law_1243 dL_law_1244 dL_law_1245 ?_
  refine lr_ld (j := 2) F hi (by decide) dL_law_1246 dL_law_1247 dL_law_1248 dL_law_1249 dL_law_1250 ?_
  refine lr_callmI (As := [.int (lxs X (i + 1)), .int (lxs X (i + 2))]) (rest := [.int r1]) F mX10_sorts mlL_143 im_X10_sorts se_X10_sorts dL_law_1251 rfl (c_X10_sorts _ _ ν hM) rfl (by decide) rfl (Nat.le_of_ble_eq_true rfl) (fun r2 ν2 h2 => ?_)
  refine lr_eq (tgt := 1712) F dL_law_1254 (by decide) (h1.1.trans h2.1.symm) ?_
  exact kk _ _ (MI.F (MI_s_sorts _ _ hM) h2.2) (Rel.F (MI_s_sorts _ _ hM) h1.2 h2.2)

theorem lc_30 {X : lX} (F : LF X) {i : Nat} {μ ν : j_M} (hi : i + 6 ≤ lL X) (hM : MI ν) (hR : Rel μ ν) (kk : ∀ μ2 ν2 : j_M, MI ν2 → Rel μ2 ν2 → LV X 1712 i [] μ2 ν2) : LV X 1259 i [] μ ν := by
  refine lr_x F dL_law_1259 ?_
  refine lr_ld (j := 1) F hi (by decide) dL_law_1260 dL_law_1261 dL_law_1262 dL_law_1263 dL_law_1264 ?_
  refine lr_callxI (As := [.int (lxs X (i + 1))]) (rest := []) F mX9_rare mlL_144 im_X9_rare se_X9_rare dL_law_1265 rfl (c_X9_rare _ μ ν hM hR) rfl (by decide) rfl (Nat.le_of_ble_eq_true rfl) (fun r1 μ2 h1 => ?_)
  refine lr_m F dL_law_1268 ?_
  refine lr_ld (j := 1) F hi (by decide) dL_law_1269 dL_law_1270 dL_law_1271 dL_law_1272 dL_law_1273 ?_
  refine lr_callmI (As := [.int (lxs X (i + 1))]) (rest := [.int r1]) F mX10_rare mlL_147 im_X10_rare se_X10_rare dL_law_1274 rfl (c_X10_rare _ ν hM) rfl (by decide) rfl (Nat.le_of_ble_eq_true rfl) (fun r2 ν2 h2 => ?_)
  refine lr_eq (tgt := 1712) F dL_law_1277 (by decide) (h1.1.trans h2.1.symm) ?_
  exact kk _ _ (MI.F (MI_s_rare _ hM) h2.2) (Rel.F (MI_s_rare _ hM) h1.2 h2.2)

theorem lc_31 {X : lX} (F : LF X) {i : Nat} {μ ν : j_M} (hi : i + 6 ≤ lL X) (hM : MI ν) (hR : Rel μ ν) (kk : ∀ μ2 ν2 : j_M, MI ν2 → Rel μ2 ν2 → LV X 1712 i [] μ2 ν2) : LV X 1282 i [] μ ν := by
  refine lr_x F dL_law_1282 ?_
  refine lr_ld (j := 1) F hi (by decide) dL_law_1283 dL_law_1284 dL_law_1285 dL_law_1286 dL_law_1287 ?_
  refine lr_callxI (As := [.int (lxs X (i + 1))]) (rest := []) F mX9_first mlL_148 im_X9_first se_X9_first dL_law_1288 rfl (c_X9_first _ μ ν hM hR) rfl (by decide) rfl (Nat.le_of_ble_eq_true rfl) (fun r1 μ2 h1 => ?_)
  refine lr_m F dL_law_1291 ?_
  refine lr_ld (j := 1) F hi (by decide) dL_law_1292 dL_law_1293 dL_law_1294 dL_law_1295 dL_law_1296 ?_
  refine lr_callmI (As := [.int (lxs X (i + 1))]) (rest := [.int r1]) F mX10_first mlL_151 im_X10_first se_X10_first dL_law_1297 rfl (c_X10_first _ ν hM) rfl (by decide) rfl (Nat.le_of_ble_eq_true rfl) (fun r2 ν2 h2 => ?_)
  refine lr_eq (tgt := 1712) F dL_law_1300 (by decide) (h1.1.trans h2.1.symm) ?_
  exact kk _ _ (MI.F (MI_s_first _ hM) h2.2) (Rel.F (MI_s_first _ hM) h1.2 h2.2)

theorem lc_32 {X : lX} (F : LF X) {i : Nat} {μ ν : j_M} (hi : i + 6 ≤ lL X) (hM : MI ν) (hR : Rel μ ν) (kk : ∀ μ2 ν2 : j_M, MI ν2 → Rel μ2 ν2 → LV X 1712 i [] μ2 ν2) : LV X 1305 i [] μ ν := by
  refine lr_x F dL_law_1305 ?_
  refine lr_callxI (As := []) (rest := []) F mX9_places mlL_152 im_X9_places se_X9_places dL_law_1306 rfl (c_X9_places  μ ν hM hR) rfl (by decide) rfl (Nat.le_of_ble_eq_true rfl) (fun r1 μ2 h1 => ?_)
  refine lr_m F dL_law_1309 ?_
  refine lr_callmI (As := []) (rest := [.int r1]) F mX10_places mlL_155 im_X10_places se_X10_places dL_law_1310 rfl (c_X10_places  ν hM) rfl (by decide) rfl (Nat.le_of_ble_eq_true rfl) (fun r2 ν2 h2 => ?_)
  refine lr_eq (tgt := 1712) F dL_law_1313 (by decide) (h1.1.trans h2.1.symm) ?_
  exact kk _ _ (MI.F (MI_s_places  hM) h2.2) (Rel.F (MI_s_places  hM) h1.2 h2.2)

theorem lc_33 {X : lX} (F : LF X) {i : Nat} {μ ν : j_M} (hi : i + 6 ≤ lL X) (hM : MI ν) (hR : Rel μ ν) (kk : ∀ μ2 ν2 : j_M, MI ν2 → Rel μ2 ν2 → LV X 1712 i [] μ2 ν2) : LV X 1318 i [] μ ν := by
  refine lr_x F dL_law_1318 ?_
  refine lr_ld (j := 1) F hi (by decide) dL_law_1319 dL_law_1320 dL_law_1321 dL_law_1322 dL_law_1323 ?_
  refine lr_callxI (As := [.int (lxs X (i + 1))]) (rest := []) F mX9_gladOnes mlL_156 im_X9_gladOnes se_X9_gladOnes dL_law_1324 rfl (c_X9_gladOnes _ μ ν hM hR) rfl (by decide) rfl (Nat.le_of_ble_eq_true rfl) (fun r1 μ2 h1 => ?_)
  refine lr_m F dL_law_1327 ?_
  refine lr_ld (j := 1) F hi (by decide) dL_law_1328 dL_law_1329 dL_law_1330 dL_law_1331 dL_law_1332 ?_
  refine lr_callmI (As := [.int (lxs X (i + 1))]) (rest := [.int r1]) F mX10_gladOnes mlL_159 im_X10_gladOnes se_X10_gladOnes dL_law_1333 rfl (c_X10_gladOnes _ ν hM) rfl (by decide) rfl (Nat.le_of_ble_eq_true rfl) (fun r2 ν2 h2 => ?_)
  refine lr_eq (tgt := 1712) F dL_law_1336 (by decide) (h1.1.trans h2.1.symm) ?_
  exact kk _ _ (MI.F (MI_s_gladOnes _ hM) h2.2) (Rel.F (MI_s_gladOnes _ hM) h1.2 h2.2)

theorem lc_34 {X : lX} (F : LF X) {i : Nat} {μ ν : j_M} (hi : i + 6 ≤ lL X) (hM : MI ν) (hR : Rel μ ν) (kk : ∀ μ2 ν2 : j_M, MI ν2 → Rel μ2 ν2 → LV X 1712 i [] μ2 ν2) : LV X 1341 i [] μ ν := by
  refine lr_x F dL_law_1341 ?_
  refine lr_ld (j := 1) F hi (by decide) dL_law_1342 dL_law_1343 dL_law_1344 dL_law_1345 dL_law_1346 ?_
  refine lr_callxI (As := [.int (lxs X (i + 1))]) (rest := []) F mX9_empty mlL_160 im_X9_empty se_X9_empty dL_law_1347 rfl (c_X9_empty _ μ ν hM hR) rfl (by decide) rfl (Nat.le_of_ble_eq_true rfl) (fun r1 μ2 h1 => ?_)
  refine lr_m F dL_law_1350 ?_
  refine lr_ld (j := 1) F hi (by decide) dL_law_1351 dL_law_1352 dL_law_1353 dL_law_1354 dL_law_1355 ?_
  refine lr_callmI (As := [.int (lxs X (i + 1))]) (rest := [.int r1]) F mX10_empty mlL_163 im_X10_empty se_X10_empty dL_law_1356 rfl (c_X10_empty _ ν hM) rfl (by decide) rfl (Nat.le_of_ble_eq_true rfl) (fun r2 ν2 h2 => ?_)
  refine lr_eq (tgt := 1712) F dL_law_1359 (by decide) (h1.1.trans h2.1.symm) ?_
  exact kk _ _ (MI.F (MI_s_empty _ hM) h2.2) (Rel.F (MI_s_empty _ hM) h1.2 h2.2)

theorem lc_35 {X : lX} (F : LF X) {i : Nat} {μ ν : j_M} (hi : i + 6 ≤ lL X) (hM : MI ν) (hR : Rel μ ν) (kk : ∀ μ2 ν2 : j_M, MI ν2 → Rel μ2 ν2 → LV X 1712 i [] μ2 ν2) : LV X 1364 i [] μ ν := by
  refine lr_x F dL_law_1364 ?_
  refine lr_ld (j := 1) F hi (by decide) dL_law_1365 dL_law_1366 dL_law_1367 dL_law_1368 dL_law_1369 ?_
  refine lr_callxI (As := [.int (lxs X (i + 1))]) (rest := []) F mX9_without mlL_164 im_X9_without se_X9_without dL_law_1370 rfl (c_X9_without _ μ ν hM hR) rfl (by decide) rfl (Nat.le_of_ble_eq_true rfl) (fun r1 μ2 h1 => ?_)
  refine lr_m F dL_law_1373 ?_
  refine lr_ld (j := 1) F hi (by decide) dL_law_1374 dL_law_1375 dL_law_1376 dL_law_1377 dL_law_1378 ?_
  refine lr_callmI (As := [.int (lxs X (i + 1))]) (rest := [.int r1]) F mX10_without mlL_167 im_X10_without se_X10_without dL_law_1379 rfl (c_X10_without _ ν hM) rfl (by decide) rfl (Nat.le_of_ble_eq_true rfl) (fun r2 ν2 h2 => ?_)
  refine lr_eq (tgt := 1712) F dL_law_1382 (by decide) (h1.1.trans h2.1.symm) ?_
  exact kk _ _ (MI.F (MI_s_without _ hM) h2.2) (Rel.F (MI_s_without _ hM) h1.2 h2.2)

theorem lc_36 {X : lX} (F : LF X) {i : Nat} {μ ν : j_M} (hi : i + 6 ≤ lL X) (hM : MI ν) (hR : Rel μ ν) (kk : ∀ μ2 ν2 : j_M, MI ν2 → Rel μ2 ν2 → LV X 1712 i [] μ2 ν2) : LV X 1387 i [] μ ν := by
  refine lr_x F dL_law_1387 ?_
  refine lr_ld (j := 1) F hi (by decide) dL_law_1388 dL_law_1389 dL_law_1390 dL_law_1391 dL_law_1392 ?_
  refine lr_ld (j := 2) F hi (by decide) dL_law_1393 dL_law_1394 dL_law_1395 dL_law_1396 dL_law_1397 ?_
  refine lr_callxI (As := [.int (lxs X (i + 1)), .int (lxs X (i + 2))]) (rest := []) F mX9_exchanged mlL_168 im_X9_exchanged se_X9_exchanged dL_law_1398 rfl (c_X9_exchanged _ _ μ ν hM hR) rfl (by decide) rfl (Nat.le_of_ble_eq_true rfl) (fun r1 μ2 h1 => ?_)
  refine lr_m F dL_law_1401 ?_
  refine lr_ld (j := 1) F hi (by decide) dL_law_1402 dL_law_1403 dL_law_1404 dL_law_1405 dL_law_1406 ?_
  refine lr_ld (j := 2) F hi (by decide) dL_law_1407 dL_law_1408 dL_law_1409 dL_law_1410 dL_law_1411 ?_
  refine lr_callmI (As := [.int (lxs X (i + 1)), .int (lxs X (i + 2))]) (rest := [.int r1]) F mX10_exchanged mlL_171 im_X10_exchanged se_X10_exchanged dL_law_1412 rfl (c_X10_exchanged _ _ ν hM) rfl (by decide) rfl (Nat.le_of_ble_eq_true rfl) (fun r2 ν2 h2 => ?_)
  refine lr_eq (tgt := 1712) F dL_law_1415 (by decide) (h1.1.trans h2.1.symm) ?_
  exact kk _ _ (MI.F (MI_s_exchanged _ _ hM) h2.2) (Rel.F (MI_s_exchanged _ _ hM) h1.2 h2.2)

theorem lc_37 {X : lX} (F : LF X) {i : Nat} {μ ν : j_M} (hi : i + 6 ≤ lL X) (hM : MI ν) (hR : Rel μ ν) (kk : ∀ μ2 ν2 : j_M, MI ν2 → Rel μ2 ν2 → LV X 1712 i [] μ2 ν2) : LV X 1420 i [] μ ν := by
  refine lr_x F dL_law_1420 ?_
  refine lr_callxI (As := []) (rest := []) F mX9_bestPair mlL_172 im_X9_bestPair se_X9_bestPair dL_law_1421 rfl (c_X9_bestPair  μ ν hM hR) rfl (by decide) rfl (Nat.le_of_ble_eq_true rfl) (fun r1 μ2 h1 => ?_)
  refine lr_m F dL_law_1424 ?_
  refine lr_callmI (As := []) (rest := [.int r1]) F mX10_bestPair mlL_175 im_X10_bestPair se_X10_bestPair dL_law_1425 rfl (c_X10_bestPair  ν hM) rfl (by decide) rfl (Nat.le_of_ble_eq_true rfl) (fun r2 ν2 h2 => ?_)
  refine lr_eq (tgt := 1712) F dL_law_1428 (by decide) (h1.1.trans h2.1.symm) ?_
  exact kk _ _ (MI.F (MI_s_bestPair  hM) h2.2) (Rel.F (MI_s_bestPair  hM) h1.2 h2.2)

theorem lc_38 {X : lX} (F : LF X) {i : Nat} {μ ν : j_M} (hi : i + 6 ≤ lL X) (hM : MI ν) (hR : Rel μ ν) (kk : ∀ μ2 ν2 : j_M, MI ν2 → Rel μ2 ν2 → LV X 1712 i [] μ2 ν2) : LV X 1433 i [] μ ν := by
  refine lr_x F dL_law_1433 ?_
  refine lr_ld (j := 1) F hi (by decide) dL_law_1434 dL_law_1435 dL_law_1436 dL_law_1437 dL_law_1438 ?_
  refine lr_callxI (As := [.int (lxs X (i + 1))]) (rest := []) F mX9_oldest mlL_176 im_X9_oldest se_X9_oldest dL_law_1439 rfl (c_X9_oldest _ μ ν hM hR) rfl (by decide) rfl (Nat.le_of_ble_eq_true rfl) (fun r1 μ2 h1 => ?_)
  refine lr_m F dL_law_1442 ?_
  refine lr_ld (j := 1) F hi (by decide) dL_law_1443 dL_law_1444 dL_law_1445 dL_law_1446 dL_law_1447 ?_
  refine lr_callmI (As := [.int (lxs X (i + 1))]) (rest := [.int r1]) F mX10_oldest mlL_179 im_X10_oldest se_X10_oldest dL_law_1448 rfl (c_X10_oldest _ ν hM) rfl (by decide) rfl (Nat.le_of_ble_eq_true rfl) (fun r2 ν2 h2 => ?_)
  refine lr_eq (tgt := 1712) F dL_law_1451 (by decide) (h1.1.trans h2.1.symm) ?_
  exact kk _ _ (MI.F (MI_s_oldest _ hM) h2.2) (Rel.F (MI_s_oldest _ hM) h1.2 h2.2)

theorem lc_39 {X : lX} (F : LF X) {i : Nat} {μ ν : j_M} (hi : i + 6 ≤ lL X) (hM : MI ν) (hR : Rel μ ν) (kk : ∀ μ2 ν2 : j_M, MI ν2 → Rel μ2 ν2 → LV X 1712 i [] μ2 ν2) : LV X 1456 i [] μ ν := by
  refine lr_x F dL_law_1456 ?_
  refine lr_ld (j := 1) F hi (by decide) dL_law_1457 dL_law_1458 dL_law_1459 dL_law_1460 dL_law_1461 ?_
  refine lr_ld (j := 2) F hi (by decide) dL_law_1462 dL_law_1463 dL_law_1464 dL_law_1465 dL_law_1466 ?_
  refine lr_callxI (As := [.int (lxs X (i + 1)), .int (lxs X (i + 2))]) (rest := []) F mX9_twice mlL_180 im_X9_twice se_X9_twice dL_law_1467 rfl (c_X9_twice _ _ μ ν hM hR) rfl (by decide) rfl (Nat.le_of_ble_eq_true rfl) (fun r1 μ2 h1 => ?_)
  refine lr_m F dL_law_1470 ?_
  refine lr_ld (j := 1) F hi (by decide) dL_law_1471 dL_law_1472 dL_law_1473 dL_law_1474 dL_law_1475 ?_
  refine lr_ld (j := 2) F hi (by decide) dL_law_1476 dL_law_1477 dL_law_1478 dL_law_1479 dL_law_1480 ?_
  refine lr_callmI (As := [.int (lxs X (i + 1)), .int (lxs X (i + 2))]) (rest := [.int r1]) F mX10_twice mlL_183 im_X10_twice se_X10_twice dL_law_1481 rfl (c_X10_twice _ _ ν hM) rfl (by decide) rfl (Nat.le_of_ble_eq_true rfl) (fun r2 ν2 h2 => ?_)
  refine lr_eq (tgt := 1712) F dL_law_1484 (by decide) (h1.1.trans h2.1.symm) ?_
  exact kk _ _ (MI.F (MI_s_twice _ _ hM) h2.2) (Rel.F (MI_s_twice _ _ hM) h1.2 h2.2)

theorem lc_40 {X : lX} (F : LF X) {i : Nat} {μ ν : j_M} (hi : i + 6 ≤ lL X) (hM : MI ν) (hR : Rel μ ν) (kk : ∀ μ2 ν2 : j_M, MI ν2 → Rel μ2 ν2 → LV X 1712 i [] μ2 ν2) : LV X 1489 i [] μ ν := by
  refine lr_x F dL_law_1489 ?_
  refine lr_ld (j := 1) F hi (by decide) dL_law_1490 dL_law_1491 dL_law_1492 dL_law_1493 dL_law_1494 ?_
  refine lr_callxI (As := [.int (lxs X (i + 1))]) (rest := []) F mX9_unlike mlL_184 im_X9_unlike se_X9_unlike dL_law_1495 rfl (c_X9_unlike _ μ ν hM hR) rfl (by decide) rfl (Nat.le_of_ble_eq_true rfl) (fun r1 μ2 h1 => ?_)
  refine lr_m F dL_law_1498 ?_
  refine lr_ld (j := 1) F hi (by decide) dL_law_1499 dL_law_1500 dL_law_1501 dL_law_1502 dL_law_1503 ?_
  refine lr_callmI (As := [.int (lxs X (i + 1))]) (rest := [.int r1]) F mX10_unlike mlL_187 im_X10_unlike se_X10_unlike dL_law_1504 rfl (c_X10_unlike _ ν hM) rfl (by decide) rfl (Nat.le_of_ble_eq_true rfl) (fun r2 ν2 h2 => ?_)
  refine lr_eq (tgt := 1712) F dL_law_1507 (by decide) (h1.1.trans h2.1.symm) ?_
  exact kk _ _ (MI.F (MI_s_unlike _ hM) h2.2) (Rel.F (MI_s_unlike _ hM) h1.2 h2.2)

theorem lc_41 {X : lX} (F : LF X) {i : Nat} {μ ν : j_M} (hi : i + 6 ≤ lL X) (hM : MI ν) (hR : Rel μ ν) (kk : ∀ μ2 ν2 : j_M, MI ν2 → Rel μ2 ν2 → LV X 1712 i [] μ2 ν2) : LV X 1512 i [] μ ν := by
  refine lr_x F dL_law_1512 ?_
  refine lr_ld (j := 1) F hi (by decide) dL_law_1513 dL_law_1514 dL_law_1515 dL_law_1516 dL_law_1517 ?_
  refine lr_callxI (As := [.int (lxs X (i + 1))]) (rest := []) F mX9_next mlL_188 im_X9_next se_X9_next dL_law_1518 rfl (c_X9_next _ μ ν hM hR) rfl (by decide) rfl (Nat.le_of_ble_eq_true rfl) (fun r1 μ2 h1 => ?_)
  refine lr_m F dL_law_1521 ?_
  refine lr_ld (j := 1) F hi (by decide) dL_law_1522 dL_law_1523 dL_law_1524 dL_law_1525 dL_law_1526 ?_
  refine lr_callmI (As := [.int (lxs X (i + 1))]) (rest := [.int r1]) F mX10_next_ mlL_191 im_X10_next_ se_X10_next_ dL_law_1527 rfl (c_X10_next_ _ ν hM) rfl (by decide) rfl (Nat.le_of_ble_eq_true rfl) (fun r2 ν2 h2 => ?_)
  refine lr_eq (tgt := 1712) F dL_law_1530 (by decide) (h1.1.trans h2.1.symm) ?_
  exact kk _ _ (MI.F (MI_s_next_ _ hM) h2.2) (Rel.F (MI_s_next_ _ hM) h1.2 h2.2)

theorem lc_42 {X : lX} (F : LF X) {i : Nat} {μ ν : j_M} (hi : i + 6 ≤ lL X) (hM : MI ν) (hR : Rel μ ν) (kk : ∀ μ2 ν2 : j_M, MI ν2 → Rel μ2 ν2 → LV X 1712 i [] μ2 ν2) : LV X 1535 i [] μ ν := by
  refine lr_x F dL_law_1535 ?_
  refine lr_callxI (As := []) (rest := []) F mX9_swapped mlL_192 im_X9_swapped se_X9_swapped dL_law_1536 rfl (c_X9_swapped  μ ν hM hR) rfl (by decide) rfl (Nat.le_of_ble_eq_true rfl) (fun r1 μ2 h1 => ?_)
  refine lr_m F dL_law_1539 ?_
  refine lr_callmI (As := []) (rest := [.int r1]) F mX10_swapped mlL_195 im_X10_swapped se_X10_swapped dL_law_1540 rfl (c_X10_swapped  ν hM) rfl (by decide) rfl (Nat.le_of_ble_eq_true rfl) (fun r2 ν2 h2 => ?_)
  refine lr_eq (tgt := 1712) F dL_law_1543 (by decide) (h1.1.trans h2.1.symm) ?_
  exact kk _ _ (MI.F (MI_s_swapped  hM) h2.2) (Rel.F (MI_s_swapped  hM) h1.2 h2.2)

theorem lc_43 {X : lX} (F : LF X) {i : Nat} {μ ν : j_M} (hi : i + 6 ≤ lL X) (hM : MI ν) (hR : Rel μ ν) (kk : ∀ μ2 ν2 : j_M, MI ν2 → Rel μ2 ν2 → LV X 1712 i [] μ2 ν2) : LV X 1548 i [] μ ν := by
  refine lr_x F dL_law_1548 ?_
  refine lr_ld (j := 1) F hi (by decide) dL_law_1549 dL_law_1550 dL_law_1551 dL_law_1552 dL_law_1553 ?_
  refine lr_ld (j := 2) F hi (by decide) dL_law_1554 dL_law_1555 dL_law_1556 dL_law_1557 dL_law_1558 ?_
  refine lr_callxI (As := [.int (lxs X (i + 1)), .int (lxs X (i + 2))]) (rest := []) F mX9_judge mlL_196 im_X9_judge se_X9_judge dL_law_1559 rfl (c_X9_judge _ _ μ ν hM hR) rfl (by decide) rfl (Nat.le_of_ble_eq_true rfl) (fun r1 μ2 h1 => ?_)
  refine lr_m F dL_law_1562 ?_
  refine lr_ld (j := 1) F hi (by decide) dL_law_1563 dL_law_1564 dL_law_1565 dL_law_1566 dL_law_1567 ?_
  refine lr_ld (j := 2) F hi (by decide) dL_law_1568 dL_law_1569 dL_law_1570 dL_law_1571 dL_law_1572 ?_
  refine lr_callmI (As := [.int (lxs X (i + 1)), .int (lxs X (i + 2))]) (rest := [.int r1]) F mX10_judge mlL_199 im_X10_judge se_X10_judge dL_law_1573 rfl (c_X10_judge _ _ ν hM) rfl (by decide) rfl (Nat.le_of_ble_eq_true rfl) (fun r2 ν2 h2 => ?_)
  refine lr_eq (tgt := 1712) F dL_law_1576 (by decide) (h1.1.trans h2.1.symm) ?_
  exact kk _ _ (MI.F (MI_s_judge _ _ hM) h2.2) (Rel.F (MI_s_judge _ _ hM) h1.2 h2.2)

theorem lc_44 {X : lX} (F : LF X) {i : Nat} {μ ν : j_M} (hi : i + 6 ≤ lL X) (hM : MI ν) (hR : Rel μ ν) (kk : ∀ μ2 ν2 : j_M, MI ν2 → Rel μ2 ν2 → LV X 1712 i [] μ2 ν2) : LV X 1581 i [] μ ν := by
  refine lr_x F dL_law_1581 ?_
  refine lr_ld (j := 1) F hi (by decide) dL_law_1582 dL_law_1583 dL_law_1584 dL_law_1585 dL_law_1586 ?_
  refine lr_callxI (As := [.int (lxs X (i + 1))]) (rest := []) F mX9_evening mlL_200 im_X9_evening se_X9_evening dL_law_1587 rfl (c_X9_evening _ μ ν hM hR) rfl (by decide) rfl (Nat.le_of_ble_eq_true rfl) (fun r1 μ2 h1 => ?_)
  refine lr_m F dL_law_1590 ?_
  refine lr_ld (j := 1) F hi (by decide) dL_law_1591 dL_law_1592 dL_law_1593 dL_law_1594 dL_law_1595 ?_
  refine lr_callmI (As := [.int (lxs X (i + 1))]) (rest := [.int r1]) F mX10_evening mlL_203 im_X10_evening se_X10_evening dL_law_1596 rfl (c_X10_evening _ ν hM) rfl (by decide) rfl (Nat.le_of_ble_eq_true rfl) (fun r2 ν2 h2 => ?_)
  refine lr_eq (tgt := 1712) F dL_law_1599 (by decide) (h1.1.trans h2.1.symm) ?_
  exact kk _ _ (MI.F (MI_s_evening _ hM) h2.2) (Rel.F (MI_s_evening _ hM) h1.2 h2.2)

theorem lc_45 {X : lX} (F : LF X) {i : Nat} {μ ν : j_M} (hi : i + 6 ≤ lL X) (hM : MI ν) (hR : Rel μ ν) (kk : ∀ μ2 ν2 : j_M, MI ν2 → Rel μ2 ν2 → LV X 1712 i [] μ2 ν2) : LV X 1604 i [] μ ν := by
  refine lr_x F dL_law_1604 ?_
  refine lr_callxI (As := []) (rest := []) F mX9_swap mlL_204 im_X9_swap se_X9_swap dL_law_1605 rfl (c_X9_swap  μ ν hM hR) rfl (by decide) rfl (Nat.le_of_ble_eq_true rfl) (fun r1 μ2 h1 => ?_)
  refine lr_m F dL_law_1608 ?_
  refine lr_callmI (As := []) (rest := [.int r1]) F mX10_swap mlL_207 im_X10_swap se_X10_swap dL_law_1609 rfl (c_X10_swap  ν hM) rfl (by decide) rfl (Nat.le_of_ble_eq_true rfl) (fun r2 ν2 h2 => ?_)
  refine lr_eq (tgt := 1712) F dL_law_1612 (by decide) (h1.1.trans h2.1.symm) ?_
  exact kk _ _ (MI.F (MI_s_swap  hM) h2.2) (Rel.F (MI_s_swap  hM) h1.2 h2.2)

theorem lc_46 {X : lX} (F : LF X) {i : Nat} {μ ν : j_M} (hi : i + 6 ≤ lL X) (hM : MI ν) (hR : Rel μ ν) (kk : ∀ μ2 ν2 : j_M, MI ν2 → Rel μ2 ν2 → LV X 1712 i [] μ2 ν2) : LV X 1617 i [] μ ν := by
  refine lr_x F dL_law_1617 ?_
  refine lr_ld (j := 1) F hi (by decide) dL_law_1618 dL_law_1619 dL_law_1620 dL_law_1621 dL_law_1622 ?_
  refine lr_callxI (As := [.int (lxs X (i + 1))]) (rest := []) F mX9_christmases mlL_208 im_X9_christmases se_X9_christmases dL_law_1623 rfl (c_X9_christmases _ μ ν hM hR) rfl (by decide) rfl (Nat.le_of_ble_eq_true rfl) (fun r1 μ2 h1 => ?_)
  refine lr_m F dL_law_1626 ?_
  refine lr_ld (j := 1) F hi (by decide) dL_law_1627 dL_law_1628 dL_law_1629 dL_law_1630 dL_law_1631 ?_
  refine lr_callmI (As := [.int (lxs X (i + 1))]) (rest := [.int r1]) F mX10_christmases mlL_211 im_X10_christmases se_X10_christmases dL_law_1632 rfl (c_X10_christmases _ ν hM) rfl (by decide) rfl (Nat.le_of_ble_eq_true rfl) (fun r2 ν2 h2 => ?_)
  refine lr_eq (tgt := 1712) F dL_law_1635 (by decide) (h1.1.trans h2.1.symm) ?_
  exact kk _ _ (MI.F (MI_s_christmases _ hM) h2.2) (Rel.F (MI_s_christmases _ hM) h1.2 h2.2)

theorem lc_47 {X : lX} (F : LF X) {i : Nat} {μ ν : j_M} (hi : i + 6 ≤ lL X) (hM : MI ν) (hR : Rel μ ν) (kk : ∀ μ2 ν2 : j_M, MI ν2 → Rel μ2 ν2 → LV X 1712 i [] μ2 ν2) : LV X 1640 i [] μ ν := by
  refine lr_x F dL_law_1640 ?_
  refine lr_ld (j := 1) F hi (by decide) dL_law_1641 dL_law_1642 dL_law_1643 dL_law_1644 dL_law_1645 ?_
  refine lr_callxI (As := [.int (lxs X (i + 1))]) (rest := []) F mX9_seed mlL_212 im_X9_seed se_X9_seed dL_law_1646 rfl (c_X9_seed _ μ ν hM hR) rfl (by decide) rfl (Nat.le_of_ble_eq_true rfl) (fun r1 μ2 h1 => ?_)
  refine lr_m F dL_law_1649 ?_
  refine lr_ld (j := 1) F hi (by decide) dL_law_1650 dL_law_1651 dL_law_1652 dL_law_1653 dL_law_1654 ?_
  refine lr_callmI (As := [.int (lxs X (i + 1))]) (rest := [.int r1]) F mX10_seed mlL_215 im_X10_seed se_X10_seed dL_law_1655 rfl (c_X10_seed _ ν hM) rfl (by decide) rfl (Nat.le_of_ble_eq_true rfl) (fun r2 ν2 h2 => ?_)
  refine lr_eq (tgt := 1712) F dL_law_1658 (by decide) (h1.1.trans h2.1.symm) ?_
  exact kk _ _ (MI.F (MI_s_seed _ hM) h2.2) (Rel.F (MI_s_seed _ hM) h1.2 h2.2)

theorem lc_48 {X : lX} (F : LF X) {i : Nat} {μ ν : j_M} (hi : i + 6 ≤ lL X) (hM : MI ν) (hR : Rel μ ν) (kk : ∀ μ2 ν2 : j_M, MI ν2 → Rel μ2 ν2 → LV X 1712 i [] μ2 ν2) : LV X 1663 i [] μ ν := by
  refine lr_x F dL_law_1663 ?_
  refine lr_callxI (As := []) (rest := []) F mX9_image mlL_216 im_X9_image se_X9_image dL_law_1664 rfl (c_X9_image  μ ν hM hR) rfl (by decide) rfl (Nat.le_of_ble_eq_true rfl) (fun r1 μ2 h1 => ?_)
  refine lr_m F dL_law_1667 ?_
  refine lr_callmI (As := []) (rest := [.int r1]) F mX10_image mlL_219 im_X10_image se_X10_image dL_law_1668 rfl (c_X10_image  ν hM) rfl (by decide) rfl (Nat.le_of_ble_eq_true rfl) (fun r2 ν2 h2 => ?_)
  refine lr_eq (tgt := 1712) F dL_law_1671 (by decide) (h1.1.trans h2.1.symm) ?_
  exact kk _ _ (MI.F (MI_s_image  hM) h2.2) (Rel.F (MI_s_image  hM) h1.2 h2.2)

theorem lc_49 {X : lX} (F : LF X) {i : Nat} {μ ν : j_M} (hi : i + 6 ≤ lL X) (hM : MI ν) (hR : Rel μ ν) (kk : ∀ μ2 ν2 : j_M, MI ν2 → Rel μ2 ν2 → LV X 1712 i [] μ2 ν2) : LV X 1676 i [] μ ν := by
  refine lr_x F dL_law_1676 ?_
  refine lr_callxI (As := []) (rest := []) F mX9_back mlL_220 im_X9_back se_X9_back dL_law_1677 rfl (c_X9_back  μ ν hM hR) rfl (by decide) rfl (Nat.le_of_ble_eq_true rfl) (fun r1 μ2 h1 => ?_)
  refine lr_m F dL_law_1680 ?_
  refine lr_callmI (As := []) (rest := [.int r1]) F mX10_back mlL_223 im_X10_back se_X10_back dL_law_1681 rfl (c_X10_back  ν hM) rfl (by decide) rfl (Nat.le_of_ble_eq_true rfl) (fun r2 ν2 h2 => ?_)
  refine lr_eq (tgt := 1712) F dL_law_1684 (by decide) (h1.1.trans h2.1.symm) ?_
  exact kk _ _ (MI.F (MI_s_back  hM) h2.2) (Rel.F (MI_s_back  hM) h1.2 h2.2)

theorem lc_50 {X : lX} (F : LF X) {i : Nat} {μ ν : j_M} (hi : i + 6 ≤ lL X) (hM : MI ν) (hR : Rel μ ν) (kk : ∀ μ2 ν2 : j_M, MI ν2 → Rel μ2 ν2 → LV X 1712 i [] μ2 ν2) : LV X 1689 i [] μ ν := by
  refine lr_x F dL_law_1689 ?_
  refine lr_ld (j := 1) F hi (by decide) dL_law_1690 dL_law_1691 dL_law_1692 dL_law_1693 dL_law_1694 ?_
  refine lr_callxI (As := [.int (lxs X (i + 1))]) (rest := []) F mX9_status mlL_224 im_X9_status se_X9_status dL_law_1695 rfl (c_X9_status _ μ ν hM hR) rfl (by decide) rfl (Nat.le_of_ble_eq_true rfl) (fun r1 μ2 h1 => ?_)
  refine lr_m F dL_law_1698 ?_
  refine lr_ld (j := 1) F hi (by decide) dL_law_1699 dL_law_1700 dL_law_1701 dL_law_1702 dL_law_1703 ?_
  refine lr_callmI (As := [.int (lxs X (i + 1))]) (rest := [.int r1]) F mX10_status mlL_227 im_X10_status se_X10_status dL_law_1704 rfl (c_X10_status _ ν hM) rfl (by decide) rfl (Nat.le_of_ble_eq_true rfl) (fun r2 ν2 h2 => ?_)
  refine lr_eq (tgt := 1712) F dL_law_1707 (by decide) (h1.1.trans h2.1.symm) ?_
  exact kk _ _ (MI.F (MI_s_status _ hM) h2.2) (Rel.F (MI_s_status _ hM) h1.2 h2.2)
