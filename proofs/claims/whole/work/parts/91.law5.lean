/-! the law: cases 39 to 46 -/
theorem lo_X10_sends : gOkM yX10_sends 4 := ⟨by decide +kernel, by decide +kernel, by decide +kernel⟩
theorem lc_X10_sends : Cond.code yX10_sends cX10_sends 5 (some .int) ∈ gtb := (gtb_at 1034 (by decide +kernel) rfl)
theorem lo_X11_sends : gOkM yX11_sends 4 := ⟨by decide +kernel, by decide +kernel, by decide +kernel⟩
theorem lc_X11_sends : Cond.code yX11_sends cX11_sends 6 (some .int) ∈ gtb := (gtb_at 1823 (by decide +kernel) rfl)
theorem lo_X10_rests : gOkM yX10_rests 1 := ⟨by decide +kernel, by decide +kernel, by decide +kernel⟩
theorem lc_X10_rests : Cond.code yX10_rests cX10_rests 4 (some .int) ∈ gtb := (gtb_at 1041 (by decide +kernel) rfl)
theorem lo_X11_rests : gOkM yX11_rests 1 := ⟨by decide +kernel, by decide +kernel, by decide +kernel⟩
theorem lc_X11_rests : Cond.code yX11_rests cX11_rests 3 (some .int) ∈ gtb := (gtb_at 1830 (by decide +kernel) rfl)
theorem lo_X10_rest : gOkM yX10_rest 1 := ⟨by decide +kernel, by decide +kernel, by decide +kernel⟩
theorem lc_X10_rest : Cond.code yX10_rest cX10_rest 3 (some .int) ∈ gtb := (gtb_at 1054 (by decide +kernel) rfl)
theorem lo_X11_rest : gOkM yX11_rest 1 := ⟨by decide +kernel, by decide +kernel, by decide +kernel⟩
theorem lc_X11_rest : Cond.code yX11_rest cX11_rest 3 (some .int) ∈ gtb := (gtb_at 1841 (by decide +kernel) rfl)
theorem lo_X10_safe : gOkM yX10_safe 3 := ⟨by decide +kernel, by decide +kernel, by decide +kernel⟩
theorem lc_X10_safe : Cond.code yX10_safe cX10_safe 4 (some .long) ∈ gtb := (gtb_at 1058 (by decide +kernel) rfl)
theorem lo_X11_safe : gOkM yX11_safe 3 := ⟨by decide +kernel, by decide +kernel, by decide +kernel⟩
theorem lc_X11_safe : Cond.code yX11_safe cX11_safe 5 (some .long) ∈ gtb := (gtb_at 1845 (by decide +kernel) rfl)
theorem lo_X10_left : gOkM yX10_left 3 := ⟨by decide +kernel, by decide +kernel, by decide +kernel⟩
theorem lc_X10_left : Cond.code yX10_left cX10_left 5 (some .long) ∈ gtb := (gtb_at 1080 (by decide +kernel) rfl)
theorem lo_X11_left : gOkM yX11_left 3 := ⟨by decide +kernel, by decide +kernel, by decide +kernel⟩
theorem lc_X11_left : Cond.code yX11_left cX11_left 9 (some .long) ∈ gtb := (gtb_at 1856 (by decide +kernel) rfl)
theorem lo_X10_stays : gOkM yX10_stays 2 := ⟨by decide +kernel, by decide +kernel, by decide +kernel⟩
theorem lc_X10_stays : Cond.code yX10_stays cX10_stays 3 (some .long) ∈ gtb := (gtb_at 1090 (by decide +kernel) rfl)
theorem lo_X11_stays : gOkM yX11_stays 2 := ⟨by decide +kernel, by decide +kernel, by decide +kernel⟩
theorem lc_X11_stays : Cond.code yX11_stays cX11_stays 7 (some .long) ∈ gtb := (gtb_at 1860 (by decide +kernel) rfl)
theorem lo_X10_aloft : gOkM yX10_aloft 2 := ⟨by decide +kernel, by decide +kernel, by decide +kernel⟩
theorem lc_X10_aloft : Cond.code yX10_aloft cX10_aloft 3 (some .int) ∈ gtb := (gtb_at 1097 (by decide +kernel) rfl)
theorem lo_X11_aloft : gOkM yX11_aloft 2 := ⟨by decide +kernel, by decide +kernel, by decide +kernel⟩
theorem lc_X11_aloft : Cond.code yX11_aloft cX11_aloft 4 (some .int) ∈ gtb := (gtb_at 1864 (by decide +kernel) rfl)
theorem lo_X10_last : gOkM yX10_last 1 := ⟨by decide +kernel, by decide +kernel, by decide +kernel⟩
theorem lc_X10_last : Cond.code yX10_last cX10_last 2 (some .int) ∈ gtb := (gtb_at 1115 (by decide +kernel) rfl)
theorem lo_X11_last : gOkM yX11_last 1 := ⟨by decide +kernel, by decide +kernel, by decide +kernel⟩
theorem lc_X11_last : Cond.code yX11_last cX11_last 7 (some .int) ∈ gtb := (gtb_at 1874 (by decide +kernel) rfl)
theorem lk_39 {L : Nat} {xs : Nat → Int32} {κ σ i : Nat} {h : gH} (hi : i + 6 ≤ L) (hL3 : L ≤ 3072) (hκ : κ + 2 ≤ 601024) (hσ : σ + 20 ≤ 7293034) (hI : LI2 h) (K : ∀ h', LI2 h' → gK L xs (κ + 2) (σ + 20) 1882 [some (.ref 2000), some (.ref 0), some (.ref 142), some (.ref 156), some (.int (zI (i : Int))), none, none] [] h') : gK L xs κ σ 1243 [some (.ref 2000), some (.ref 0), some (.ref 142), some (.ref 156), some (.int (zI (i : Int))), none, none] [] h := by
  obtain ⟨t, n, T, B, s, q, hI⟩ := hI
  refine gk_aload_n (pc' := 1244) dL_law_1243 rfl rfl ?_
  refine gk_aload_n (pc' := 1245) dL_law_1244 rfl rfl ?_
  refine gk_iload (pc' := 1247) dL_law_1245 rfl rfl ?_
  refine gk_iconst (pc' := 1248) dL_law_1247 rfl ?_
  refine gk_iadd (pc' := 1249) dL_law_1248 rfl ?_
  refine gk_sld (pc' := 1250) (j := i + 1) (by omega) (by omega) hL3 dL_law_1249 rfl ?_
  refine gk_aload_n (pc' := 1251) dL_law_1250 rfl rfl ?_
  refine gk_iload (pc' := 1253) dL_law_1251 rfl rfl ?_
  refine gk_iconst (pc' := 1254) dL_law_1253 rfl ?_
  refine gk_iadd (pc' := 1255) dL_law_1254 rfl ?_
  refine gk_sld (pc' := 1256) (j := i + 2) (by omega) (by omega) hL3 dL_law_1255 rfl ?_
  refine gk_ne0 (pc' := 1264) (xZ_in _ _) dL_law_1256 dL_law_1259 dL_law_1260 dL_law_1263 rfl ?_
  refine gk_aload_n (pc' := 1265) dL_law_1264 rfl rfl ?_
  refine gk_iload (pc' := 1267) dL_law_1265 rfl rfl ?_
  refine gk_iconst (pc' := 1268) dL_law_1267 rfl ?_
  refine gk_iadd (pc' := 1269) dL_law_1268 rfl ?_
  refine gk_sld (pc' := 1270) (j := i + 3) (by omega) (by omega) hL3 dL_law_1269 rfl ?_
  refine gk_ne0 (pc' := 1278) (xZ_in _ _) dL_law_1270 dL_law_1273 dL_law_1274 dL_law_1277 rfl ?_
  refine gk_aload_n (pc' := 1279) dL_law_1278 rfl rfl ?_
  refine gk_iload (pc' := 1281) dL_law_1279 rfl rfl ?_
  refine gk_iconst (pc' := 1282) dL_law_1281 rfl ?_
  refine gk_iadd (pc' := 1283) dL_law_1282 rfl ?_
  refine gk_sld (pc' := 1284) (j := i + 4) (by omega) (by omega) hL3 dL_law_1283 rfl ?_
  refine gk_ne0 (pc' := 1292) (xZ_in _ _) dL_law_1284 dL_law_1287 dL_law_1288 dL_law_1291 rfl ?_
  refine gk_callV (C := RX10) (ci := 9) (rest := []) (x_sends (S := s.1) (b := xZ xs (i + 1)) (p := decide (xZ xs (i + 2) ≠ 0)) (q := decide (xZ xs (i + 3) ≠ 0)) (o := decide (xZ xs (i + 4) ≠ 0)) hI.1.1 (xZ_in _ _)) lo_X10_sends (gtb_at 1031 (by decide +kernel) rfl) (gtb_at 1032 (by decide +kernel) rfl) (gtb_at 1033 (by decide +kernel) rfl) (gtb_at 1 (by decide +kernel) rfl) lc_X10_sends (by decide) rfl rfl (by decide) (by omega) (by omega) rfl (Nat.le_of_ble_eq_true rfl) dL_law_1292 rfl (fun v9 h1 q1 => ?_)
  obtain ⟨rfl, b, b9⟩ := q1
  show gK _ _ _ _ _ _ [.int (zI _)] _
  refine gk_aload_n (pc' := 1296) dL_law_1295 rfl rfl ?_
  refine gk_aload_n (pc' := 1297) dL_law_1296 rfl rfl ?_
  refine gk_iload (pc' := 1299) dL_law_1297 rfl rfl ?_
  refine gk_iconst (pc' := 1300) dL_law_1299 rfl ?_
  refine gk_iadd (pc' := 1301) dL_law_1300 rfl ?_
  refine gk_sld (pc' := 1302) (j := i + 1) (by omega) (by omega) hL3 dL_law_1301 rfl ?_
  refine gk_aload_n (pc' := 1303) dL_law_1302 rfl rfl ?_
  refine gk_iload (pc' := 1305) dL_law_1303 rfl rfl ?_
  refine gk_iconst (pc' := 1306) dL_law_1305 rfl ?_
  refine gk_iadd (pc' := 1307) dL_law_1306 rfl ?_
  refine gk_sld (pc' := 1308) (j := i + 2) (by omega) (by omega) hL3 dL_law_1307 rfl ?_
  refine gk_ne0 (pc' := 1316) (xZ_in _ _) dL_law_1308 dL_law_1311 dL_law_1312 dL_law_1315 rfl ?_
  refine gk_aload_n (pc' := 1317) dL_law_1316 rfl rfl ?_
  refine gk_iload (pc' := 1319) dL_law_1317 rfl rfl ?_
  refine gk_iconst (pc' := 1320) dL_law_1319 rfl ?_
  refine gk_iadd (pc' := 1321) dL_law_1320 rfl ?_
  refine gk_sld (pc' := 1322) (j := i + 3) (by omega) (by omega) hL3 dL_law_1321 rfl ?_
  refine gk_ne0 (pc' := 1330) (xZ_in _ _) dL_law_1322 dL_law_1325 dL_law_1326 dL_law_1329 rfl ?_
  refine gk_aload_n (pc' := 1331) dL_law_1330 rfl rfl ?_
  refine gk_iload (pc' := 1333) dL_law_1331 rfl rfl ?_
  refine gk_iconst (pc' := 1334) dL_law_1333 rfl ?_
  refine gk_iadd (pc' := 1335) dL_law_1334 rfl ?_
  refine gk_sld (pc' := 1336) (j := i + 4) (by omega) (by omega) hL3 dL_law_1335 rfl ?_
  refine gk_ne0 (pc' := 1344) (xZ_in _ _) dL_law_1336 dL_law_1339 dL_law_1340 dL_law_1343 rfl ?_
  refine gk_callV (C := RX11) (ci := 10) (rest := [.int (zI _)]) (m_sends (S := s.1) (b := xZ xs (i + 1)) (p := decide (xZ xs (i + 2) ≠ 0)) (q := decide (xZ xs (i + 3) ≠ 0)) (o := decide (xZ xs (i + 4) ≠ 0)) (hI.2.1.1.xs b.m) (xZ_in _ _)) lo_X11_sends (gtb_at 1820 (by decide +kernel) rfl) (gtb_at 1821 (by decide +kernel) rfl) (gtb_at 1822 (by decide +kernel) rfl) (gtb_at 11 (by decide +kernel) rfl) lc_X11_sends (by decide) rfl rfl (by decide) (by omega) (by omega) rfl (Nat.le_of_ble_eq_true rfl) dL_law_1344 rfl (fun v9 h2 q2 => ?_)
  obtain ⟨rfl, c, c11⟩ := q2
  show gK _ _ _ _ _ _ [.int (zI _), .int (zI _)] _
  refine gk_same (tgt := 1882) dL_law_1347 (by decide) rfl ?_
  exact gk_widen (by omega) (by omega) (K h2 (hI.q b b9 c c11 (ok_aSends _ _ _ _ _)))
theorem lk_40 {L : Nat} {xs : Nat → Int32} {κ σ i : Nat} {h : gH} (hi : i + 6 ≤ L) (hL3 : L ≤ 3072) (hκ : κ + 2 ≤ 601024) (hσ : σ + 20 ≤ 7293034) (hI : LI2 h) (K : ∀ h', LI2 h' → gK L xs (κ + 2) (σ + 20) 1882 [some (.ref 2000), some (.ref 0), some (.ref 142), some (.ref 156), some (.int (zI (i : Int))), none, none] [] h') : gK L xs κ σ 1352 [some (.ref 2000), some (.ref 0), some (.ref 142), some (.ref 156), some (.int (zI (i : Int))), none, none] [] h := by
  obtain ⟨t, n, T, B, s, q, hI⟩ := hI
  refine gk_aload_n (pc' := 1353) dL_law_1352 rfl rfl ?_
  refine gk_aload_n (pc' := 1354) dL_law_1353 rfl rfl ?_
  refine gk_iload (pc' := 1356) dL_law_1354 rfl rfl ?_
  refine gk_iconst (pc' := 1357) dL_law_1356 rfl ?_
  refine gk_iadd (pc' := 1358) dL_law_1357 rfl ?_
  refine gk_sld (pc' := 1359) (j := i + 1) (by omega) (by omega) hL3 dL_law_1358 rfl ?_
  refine gk_callV (C := RX10) (ci := 9) (rest := []) (x_rests (S := s.1) (b := xZ xs (i + 1)) hI.1.1 (xZ_in _ _)) lo_X10_rests (gtb_at 1038 (by decide +kernel) rfl) (gtb_at 1039 (by decide +kernel) rfl) (gtb_at 1040 (by decide +kernel) rfl) (gtb_at 1 (by decide +kernel) rfl) lc_X10_rests (by decide) rfl rfl (by decide) (by omega) (by omega) rfl (Nat.le_of_ble_eq_true rfl) dL_law_1359 rfl (fun v9 h1 q1 => ?_)
  obtain ⟨rfl, b, b9⟩ := q1
  show gK _ _ _ _ _ _ [.int (zI _)] _
  refine gk_aload_n (pc' := 1363) dL_law_1362 rfl rfl ?_
  refine gk_aload_n (pc' := 1364) dL_law_1363 rfl rfl ?_
  refine gk_iload (pc' := 1366) dL_law_1364 rfl rfl ?_
  refine gk_iconst (pc' := 1367) dL_law_1366 rfl ?_
  refine gk_iadd (pc' := 1368) dL_law_1367 rfl ?_
  refine gk_sld (pc' := 1369) (j := i + 1) (by omega) (by omega) hL3 dL_law_1368 rfl ?_
  refine gk_callV (C := RX11) (ci := 10) (rest := [.int (zI _)]) (m_rests (S := s.1) (b := xZ xs (i + 1)) (hI.2.1.1.xs b.m) (xZ_in _ _)) lo_X11_rests (gtb_at 1827 (by decide +kernel) rfl) (gtb_at 1828 (by decide +kernel) rfl) (gtb_at 1829 (by decide +kernel) rfl) (gtb_at 11 (by decide +kernel) rfl) lc_X11_rests (by decide) rfl rfl (by decide) (by omega) (by omega) rfl (Nat.le_of_ble_eq_true rfl) dL_law_1369 rfl (fun v9 h2 q2 => ?_)
  obtain ⟨rfl, c, c11⟩ := q2
  show gK _ _ _ _ _ _ [.int (zI _), .int (zI _)] _
  refine gk_same (tgt := 1882) dL_law_1372 (by decide) rfl ?_
  exact gk_widen (by omega) (by omega) (K h2 (hI.q b b9 c c11 (ok_aRests _ _)))
theorem lk_41 {L : Nat} {xs : Nat → Int32} {κ σ i : Nat} {h : gH} (hi : i + 6 ≤ L) (hL3 : L ≤ 3072) (hκ : κ + 2 ≤ 601024) (hσ : σ + 20 ≤ 7293034) (hI : LI2 h) (K : ∀ h', LI2 h' → gK L xs (κ + 2) (σ + 20) 1882 [some (.ref 2000), some (.ref 0), some (.ref 142), some (.ref 156), some (.int (zI (i : Int))), none, none] [] h') : gK L xs κ σ 1377 [some (.ref 2000), some (.ref 0), some (.ref 142), some (.ref 156), some (.int (zI (i : Int))), none, none] [] h := by
  obtain ⟨t, n, T, B, s, q, hI⟩ := hI
  refine gk_aload_n (pc' := 1378) dL_law_1377 rfl rfl ?_
  refine gk_aload_n (pc' := 1379) dL_law_1378 rfl rfl ?_
  refine gk_iload (pc' := 1381) dL_law_1379 rfl rfl ?_
  refine gk_iconst (pc' := 1382) dL_law_1381 rfl ?_
  refine gk_iadd (pc' := 1383) dL_law_1382 rfl ?_
  refine gk_sld (pc' := 1384) (j := i + 1) (by omega) (by omega) hL3 dL_law_1383 rfl ?_
  refine gk_callV (C := RX10) (ci := 9) (rest := []) (x_rest (S := s.1) (b := xZ xs (i + 1)) hI.1.1 (xZ_in _ _)) lo_X10_rest (gtb_at 1051 (by decide +kernel) rfl) (gtb_at 1052 (by decide +kernel) rfl) (gtb_at 1053 (by decide +kernel) rfl) (gtb_at 1 (by decide +kernel) rfl) lc_X10_rest (by decide) rfl rfl (by decide) (by omega) (by omega) rfl (Nat.le_of_ble_eq_true rfl) dL_law_1384 rfl (fun v9 h1 q1 => ?_)
  obtain ⟨rfl, b, b9⟩ := q1
  show gK _ _ _ _ _ _ [.int (zI _)] _
  refine gk_aload_n (pc' := 1388) dL_law_1387 rfl rfl ?_
  refine gk_aload_n (pc' := 1389) dL_law_1388 rfl rfl ?_
  refine gk_iload (pc' := 1391) dL_law_1389 rfl rfl ?_
  refine gk_iconst (pc' := 1392) dL_law_1391 rfl ?_
  refine gk_iadd (pc' := 1393) dL_law_1392 rfl ?_
  refine gk_sld (pc' := 1394) (j := i + 1) (by omega) (by omega) hL3 dL_law_1393 rfl ?_
  refine gk_callV (C := RX11) (ci := 10) (rest := [.int (zI _)]) (m_rest (S := s.1) (b := xZ xs (i + 1)) (hI.2.1.1.xs b.m) (xZ_in _ _)) lo_X11_rest (gtb_at 1838 (by decide +kernel) rfl) (gtb_at 1839 (by decide +kernel) rfl) (gtb_at 1840 (by decide +kernel) rfl) (gtb_at 11 (by decide +kernel) rfl) lc_X11_rest (by decide) rfl rfl (by decide) (by omega) (by omega) rfl (Nat.le_of_ble_eq_true rfl) dL_law_1394 rfl (fun v9 h2 q2 => ?_)
  obtain ⟨rfl, c, c11⟩ := q2
  show gK _ _ _ _ _ _ [.int (zI _), .int (zI _)] _
  refine gk_same (tgt := 1882) dL_law_1397 (by decide) rfl ?_
  exact gk_widen (by omega) (by omega) (K h2 (hI.q b b9 c c11 (ok_aRest _ _)))
theorem lk_42 {L : Nat} {xs : Nat → Int32} {κ σ i : Nat} {h : gH} (hi : i + 6 ≤ L) (hL3 : L ≤ 3072) (hκ : κ + 2 ≤ 601024) (hσ : σ + 20 ≤ 7293034) (hI : LI2 h) (K : ∀ h', LI2 h' → gK L xs (κ + 2) (σ + 20) 1882 [some (.ref 2000), some (.ref 0), some (.ref 142), some (.ref 156), some (.int (zI (i : Int))), none, none] [] h') : gK L xs κ σ 1402 [some (.ref 2000), some (.ref 0), some (.ref 142), some (.ref 156), some (.int (zI (i : Int))), none, none] [] h := by
  obtain ⟨t, n, T, B, s, q, hI⟩ := hI
  refine gk_aload_n (pc' := 1403) dL_law_1402 rfl rfl ?_
  refine gk_aload_n (pc' := 1404) dL_law_1403 rfl rfl ?_
  refine gk_iload (pc' := 1406) dL_law_1404 rfl rfl ?_
  refine gk_iconst (pc' := 1407) dL_law_1406 rfl ?_
  refine gk_iadd (pc' := 1408) dL_law_1407 rfl ?_
  refine gk_sld (pc' := 1409) (j := i + 1) (by omega) (by omega) hL3 dL_law_1408 rfl ?_
  refine gk_aload_n (pc' := 1410) dL_law_1409 rfl rfl ?_
  refine gk_iload (pc' := 1412) dL_law_1410 rfl rfl ?_
  refine gk_iconst (pc' := 1413) dL_law_1412 rfl ?_
  refine gk_iadd (pc' := 1414) dL_law_1413 rfl ?_
  refine gk_sld (pc' := 1415) (j := i + 2) (by omega) (by omega) hL3 dL_law_1414 rfl ?_
  refine gk_aload_n (pc' := 1416) dL_law_1415 rfl rfl ?_
  refine gk_iload (pc' := 1418) dL_law_1416 rfl rfl ?_
  refine gk_iconst (pc' := 1419) dL_law_1418 rfl ?_
  refine gk_iadd (pc' := 1420) dL_law_1419 rfl ?_
  refine gk_sld (pc' := 1421) (j := i + 3) (by omega) (by omega) hL3 dL_law_1420 rfl ?_
  refine gk_ne0 (pc' := 1429) (xZ_in _ _) dL_law_1421 dL_law_1424 dL_law_1425 dL_law_1428 rfl ?_
  refine gk_callV (C := RX10) (ci := 9) (rest := []) (x_safe (S := s.1) (a := xZ xs (i + 1)) (b := xZ xs (i + 2)) (l := decide (xZ xs (i + 3) ≠ 0)) hI.1.1 (xZ_in _ _) (xZ_in _ _)) lo_X10_safe (gtb_at 1055 (by decide +kernel) rfl) (gtb_at 1056 (by decide +kernel) rfl) (gtb_at 1057 (by decide +kernel) rfl) (gtb_at 1 (by decide +kernel) rfl) lc_X10_safe (by decide) rfl rfl (by decide) (by omega) (by omega) rfl (Nat.le_of_ble_eq_true rfl) dL_law_1429 rfl (fun v9 h1 q1 => ?_)
  obtain ⟨rfl, b, b9⟩ := q1
  show gK _ _ _ _ _ _ [.long (zL _)] _
  refine gk_aload_n (pc' := 1433) dL_law_1432 rfl rfl ?_
  refine gk_aload_n (pc' := 1434) dL_law_1433 rfl rfl ?_
  refine gk_iload (pc' := 1436) dL_law_1434 rfl rfl ?_
  refine gk_iconst (pc' := 1437) dL_law_1436 rfl ?_
  refine gk_iadd (pc' := 1438) dL_law_1437 rfl ?_
  refine gk_sld (pc' := 1439) (j := i + 1) (by omega) (by omega) hL3 dL_law_1438 rfl ?_
  refine gk_aload_n (pc' := 1440) dL_law_1439 rfl rfl ?_
  refine gk_iload (pc' := 1442) dL_law_1440 rfl rfl ?_
  refine gk_iconst (pc' := 1443) dL_law_1442 rfl ?_
  refine gk_iadd (pc' := 1444) dL_law_1443 rfl ?_
  refine gk_sld (pc' := 1445) (j := i + 2) (by omega) (by omega) hL3 dL_law_1444 rfl ?_
  refine gk_aload_n (pc' := 1446) dL_law_1445 rfl rfl ?_
  refine gk_iload (pc' := 1448) dL_law_1446 rfl rfl ?_
  refine gk_iconst (pc' := 1449) dL_law_1448 rfl ?_
  refine gk_iadd (pc' := 1450) dL_law_1449 rfl ?_
  refine gk_sld (pc' := 1451) (j := i + 3) (by omega) (by omega) hL3 dL_law_1450 rfl ?_
  refine gk_ne0 (pc' := 1459) (xZ_in _ _) dL_law_1451 dL_law_1454 dL_law_1455 dL_law_1458 rfl ?_
  refine gk_callV (C := RX11) (ci := 10) (rest := [.long (zL _)]) (m_safe (S := s.1) (a := xZ xs (i + 1)) (b := xZ xs (i + 2)) (l := decide (xZ xs (i + 3) ≠ 0)) (hI.2.1.1.xs b.m) (xZ_in _ _) (xZ_in _ _)) lo_X11_safe (gtb_at 1842 (by decide +kernel) rfl) (gtb_at 1843 (by decide +kernel) rfl) (gtb_at 1844 (by decide +kernel) rfl) (gtb_at 11 (by decide +kernel) rfl) lc_X11_safe (by decide) rfl rfl (by decide) (by omega) (by omega) rfl (Nat.le_of_ble_eq_true rfl) dL_law_1459 rfl (fun v9 h2 q2 => ?_)
  obtain ⟨rfl, c, c11⟩ := q2
  show gK _ _ _ _ _ _ [.long (zL _), .long (zL _)] _
  refine gk_lsame (tgt := 1882) dL_law_1462 dL_law_1463 (by decide) rfl ?_
  exact gk_widen (by omega) (by omega) (K h2 (hI.q b b9 c c11 (ok_aSafe _ _ _ _ _)))
theorem lk_43 {L : Nat} {xs : Nat → Int32} {κ σ i : Nat} {h : gH} (hi : i + 6 ≤ L) (hL3 : L ≤ 3072) (hκ : κ + 2 ≤ 601024) (hσ : σ + 20 ≤ 7293034) (hI : LI2 h) (K : ∀ h', LI2 h' → gK L xs (κ + 2) (σ + 20) 1882 [some (.ref 2000), some (.ref 0), some (.ref 142), some (.ref 156), some (.int (zI (i : Int))), none, none] [] h') : gK L xs κ σ 1468 [some (.ref 2000), some (.ref 0), some (.ref 142), some (.ref 156), some (.int (zI (i : Int))), none, none] [] h := by
  obtain ⟨t, n, T, B, s, q, hI⟩ := hI
  refine gk_aload_n (pc' := 1469) dL_law_1468 rfl rfl ?_
  refine gk_aload_n (pc' := 1470) dL_law_1469 rfl rfl ?_
  refine gk_iload (pc' := 1472) dL_law_1470 rfl rfl ?_
  refine gk_iconst (pc' := 1473) dL_law_1472 rfl ?_
  refine gk_iadd (pc' := 1474) dL_law_1473 rfl ?_
  refine gk_sld (pc' := 1475) (j := i + 1) (by omega) (by omega) hL3 dL_law_1474 rfl ?_
  refine gk_aload_n (pc' := 1476) dL_law_1475 rfl rfl ?_
  refine gk_iload (pc' := 1478) dL_law_1476 rfl rfl ?_
  refine gk_iconst (pc' := 1479) dL_law_1478 rfl ?_
  refine gk_iadd (pc' := 1480) dL_law_1479 rfl ?_
  refine gk_sld (pc' := 1481) (j := i + 2) (by omega) (by omega) hL3 dL_law_1480 rfl ?_
  refine gk_aload_n (pc' := 1482) dL_law_1481 rfl rfl ?_
  refine gk_iload (pc' := 1484) dL_law_1482 rfl rfl ?_
  refine gk_iconst (pc' := 1485) dL_law_1484 rfl ?_
  refine gk_iadd (pc' := 1486) dL_law_1485 rfl ?_
  refine gk_sld (pc' := 1487) (j := i + 3) (by omega) (by omega) hL3 dL_law_1486 rfl ?_
  refine gk_ne0 (pc' := 1495) (xZ_in _ _) dL_law_1487 dL_law_1490 dL_law_1491 dL_law_1494 rfl ?_
  refine gk_callV (C := RX10) (ci := 9) (rest := []) (x_left (S := s.1) (a := xZ xs (i + 1)) (b := xZ xs (i + 2)) (l := decide (xZ xs (i + 3) ≠ 0)) hI.1.1 (xZ_in _ _) (xZ_in _ _)) lo_X10_left (gtb_at 1077 (by decide +kernel) rfl) (gtb_at 1078 (by decide +kernel) rfl) (gtb_at 1079 (by decide +kernel) rfl) (gtb_at 1 (by decide +kernel) rfl) lc_X10_left (by decide) rfl rfl (by decide) (by omega) (by omega) rfl (Nat.le_of_ble_eq_true rfl) dL_law_1495 rfl (fun v9 h1 q1 => ?_)
  obtain ⟨rfl, b, b9⟩ := q1
  show gK _ _ _ _ _ _ [.long (zL _)] _
  refine gk_aload_n (pc' := 1499) dL_law_1498 rfl rfl ?_
  refine gk_aload_n (pc' := 1500) dL_law_1499 rfl rfl ?_
  refine gk_iload (pc' := 1502) dL_law_1500 rfl rfl ?_
  refine gk_iconst (pc' := 1503) dL_law_1502 rfl ?_
  refine gk_iadd (pc' := 1504) dL_law_1503 rfl ?_
  refine gk_sld (pc' := 1505) (j := i + 1) (by omega) (by omega) hL3 dL_law_1504 rfl ?_
  refine gk_aload_n (pc' := 1506) dL_law_1505 rfl rfl ?_
  refine gk_iload (pc' := 1508) dL_law_1506 rfl rfl ?_
  refine gk_iconst (pc' := 1509) dL_law_1508 rfl ?_
  refine gk_iadd (pc' := 1510) dL_law_1509 rfl ?_
  refine gk_sld (pc' := 1511) (j := i + 2) (by omega) (by omega) hL3 dL_law_1510 rfl ?_
  refine gk_aload_n (pc' := 1512) dL_law_1511 rfl rfl ?_
  refine gk_iload (pc' := 1514) dL_law_1512 rfl rfl ?_
  refine gk_iconst (pc' := 1515) dL_law_1514 rfl ?_
  refine gk_iadd (pc' := 1516) dL_law_1515 rfl ?_
  refine gk_sld (pc' := 1517) (j := i + 3) (by omega) (by omega) hL3 dL_law_1516 rfl ?_
  refine gk_ne0 (pc' := 1525) (xZ_in _ _) dL_law_1517 dL_law_1520 dL_law_1521 dL_law_1524 rfl ?_
  refine gk_callV (C := RX11) (ci := 10) (rest := [.long (zL _)]) (m_left (S := s.1) (a := xZ xs (i + 1)) (b := xZ xs (i + 2)) (l := decide (xZ xs (i + 3) ≠ 0)) (hI.2.1.1.xs b.m) (xZ_in _ _) (xZ_in _ _)) lo_X11_left (gtb_at 1853 (by decide +kernel) rfl) (gtb_at 1854 (by decide +kernel) rfl) (gtb_at 1855 (by decide +kernel) rfl) (gtb_at 11 (by decide +kernel) rfl) lc_X11_left (by decide) rfl rfl (by decide) (by omega) (by omega) rfl (Nat.le_of_ble_eq_true rfl) dL_law_1525 rfl (fun v9 h2 q2 => ?_)
  obtain ⟨rfl, c, c11⟩ := q2
  show gK _ _ _ _ _ _ [.long (zL _), .long (zL _)] _
  refine gk_lsame (tgt := 1882) dL_law_1528 dL_law_1529 (by decide) rfl ?_
  exact gk_widen (by omega) (by omega) (K h2 (hI.q b b9 c c11 (ok_aLeft _ _ _ _ _)))
theorem lk_44 {L : Nat} {xs : Nat → Int32} {κ σ i : Nat} {h : gH} (hi : i + 6 ≤ L) (hL3 : L ≤ 3072) (hκ : κ + 2 ≤ 601024) (hσ : σ + 20 ≤ 7293034) (hI : LI2 h) (K : ∀ h', LI2 h' → gK L xs (κ + 2) (σ + 20) 1882 [some (.ref 2000), some (.ref 0), some (.ref 142), some (.ref 156), some (.int (zI (i : Int))), none, none] [] h') : gK L xs κ σ 1534 [some (.ref 2000), some (.ref 0), some (.ref 142), some (.ref 156), some (.int (zI (i : Int))), none, none] [] h := by
  obtain ⟨t, n, T, B, s, q, hI⟩ := hI
  refine gk_aload_n (pc' := 1535) dL_law_1534 rfl rfl ?_
  refine gk_aload_n (pc' := 1536) dL_law_1535 rfl rfl ?_
  refine gk_iload (pc' := 1538) dL_law_1536 rfl rfl ?_
  refine gk_iconst (pc' := 1539) dL_law_1538 rfl ?_
  refine gk_iadd (pc' := 1540) dL_law_1539 rfl ?_
  refine gk_sld (pc' := 1541) (j := i + 1) (by omega) (by omega) hL3 dL_law_1540 rfl ?_
  refine gk_aload_n (pc' := 1542) dL_law_1541 rfl rfl ?_
  refine gk_iload (pc' := 1544) dL_law_1542 rfl rfl ?_
  refine gk_iconst (pc' := 1545) dL_law_1544 rfl ?_
  refine gk_iadd (pc' := 1546) dL_law_1545 rfl ?_
  refine gk_sld (pc' := 1547) (j := i + 2) (by omega) (by omega) hL3 dL_law_1546 rfl ?_
  refine gk_ne0 (pc' := 1555) (xZ_in _ _) dL_law_1547 dL_law_1550 dL_law_1551 dL_law_1554 rfl ?_
  refine gk_callV (C := RX10) (ci := 9) (rest := []) (x_stays (S := s.1) (b := xZ xs (i + 1)) (l := decide (xZ xs (i + 2) ≠ 0)) hI.1.1 (xZ_in _ _)) lo_X10_stays (gtb_at 1087 (by decide +kernel) rfl) (gtb_at 1088 (by decide +kernel) rfl) (gtb_at 1089 (by decide +kernel) rfl) (gtb_at 1 (by decide +kernel) rfl) lc_X10_stays (by decide) rfl rfl (by decide) (by omega) (by omega) rfl (Nat.le_of_ble_eq_true rfl) dL_law_1555 rfl (fun v9 h1 q1 => ?_)
  obtain ⟨rfl, b, b9⟩ := q1
  show gK _ _ _ _ _ _ [.long (zL _)] _
  refine gk_aload_n (pc' := 1559) dL_law_1558 rfl rfl ?_
  refine gk_aload_n (pc' := 1560) dL_law_1559 rfl rfl ?_
  refine gk_iload (pc' := 1562) dL_law_1560 rfl rfl ?_
  refine gk_iconst (pc' := 1563) dL_law_1562 rfl ?_
  refine gk_iadd (pc' := 1564) dL_law_1563 rfl ?_
  refine gk_sld (pc' := 1565) (j := i + 1) (by omega) (by omega) hL3 dL_law_1564 rfl ?_
  refine gk_aload_n (pc' := 1566) dL_law_1565 rfl rfl ?_
  refine gk_iload (pc' := 1568) dL_law_1566 rfl rfl ?_
  refine gk_iconst (pc' := 1569) dL_law_1568 rfl ?_
  refine gk_iadd (pc' := 1570) dL_law_1569 rfl ?_
  refine gk_sld (pc' := 1571) (j := i + 2) (by omega) (by omega) hL3 dL_law_1570 rfl ?_
  refine gk_ne0 (pc' := 1579) (xZ_in _ _) dL_law_1571 dL_law_1574 dL_law_1575 dL_law_1578 rfl ?_
  refine gk_callV (C := RX11) (ci := 10) (rest := [.long (zL _)]) (m_stays (S := s.1) (b := xZ xs (i + 1)) (l := decide (xZ xs (i + 2) ≠ 0)) (hI.2.1.1.xs b.m) (xZ_in _ _)) lo_X11_stays (gtb_at 1857 (by decide +kernel) rfl) (gtb_at 1858 (by decide +kernel) rfl) (gtb_at 1859 (by decide +kernel) rfl) (gtb_at 11 (by decide +kernel) rfl) lc_X11_stays (by decide) rfl rfl (by decide) (by omega) (by omega) rfl (Nat.le_of_ble_eq_true rfl) dL_law_1579 rfl (fun v9 h2 q2 => ?_)
  obtain ⟨rfl, c, c11⟩ := q2
  show gK _ _ _ _ _ _ [.long (zL _), .long (zL _)] _
  refine gk_lsame (tgt := 1882) dL_law_1582 dL_law_1583 (by decide) rfl ?_
  exact gk_widen (by omega) (by omega) (K h2 (hI.q b b9 c c11 (ok_aStays _ _ _)))
theorem lk_45 {L : Nat} {xs : Nat → Int32} {κ σ i : Nat} {h : gH} (hi : i + 6 ≤ L) (hL3 : L ≤ 3072) (hκ : κ + 2 ≤ 601024) (hσ : σ + 20 ≤ 7293034) (hI : LI2 h) (K : ∀ h', LI2 h' → gK L xs (κ + 2) (σ + 20) 1882 [some (.ref 2000), some (.ref 0), some (.ref 142), some (.ref 156), some (.int (zI (i : Int))), none, none] [] h') : gK L xs κ σ 1588 [some (.ref 2000), some (.ref 0), some (.ref 142), some (.ref 156), some (.int (zI (i : Int))), none, none] [] h := by
  obtain ⟨t, n, T, B, s, q, hI⟩ := hI
  refine gk_aload_n (pc' := 1589) dL_law_1588 rfl rfl ?_
  refine gk_aload_n (pc' := 1590) dL_law_1589 rfl rfl ?_
  refine gk_iload (pc' := 1592) dL_law_1590 rfl rfl ?_
  refine gk_iconst (pc' := 1593) dL_law_1592 rfl ?_
  refine gk_iadd (pc' := 1594) dL_law_1593 rfl ?_
  refine gk_sld (pc' := 1595) (j := i + 1) (by omega) (by omega) hL3 dL_law_1594 rfl ?_
  refine gk_aload_n (pc' := 1596) dL_law_1595 rfl rfl ?_
  refine gk_iload (pc' := 1598) dL_law_1596 rfl rfl ?_
  refine gk_iconst (pc' := 1599) dL_law_1598 rfl ?_
  refine gk_iadd (pc' := 1600) dL_law_1599 rfl ?_
  refine gk_sld (pc' := 1601) (j := i + 2) (by omega) (by omega) hL3 dL_law_1600 rfl ?_
  refine gk_callV (C := RX10) (ci := 9) (rest := []) (x_aloft (S := s.1) (a := xZ xs (i + 1)) (b := xZ xs (i + 2)) hI.1.1 (xZ_in _ _) (xZ_in _ _)) lo_X10_aloft (gtb_at 1094 (by decide +kernel) rfl) (gtb_at 1095 (by decide +kernel) rfl) (gtb_at 1096 (by decide +kernel) rfl) (gtb_at 1 (by decide +kernel) rfl) lc_X10_aloft (by decide) rfl rfl (by decide) (by omega) (by omega) rfl (Nat.le_of_ble_eq_true rfl) dL_law_1601 rfl (fun v9 h1 q1 => ?_)
  obtain ⟨rfl, b, b9⟩ := q1
  show gK _ _ _ _ _ _ [.int (zI _)] _
  refine gk_aload_n (pc' := 1605) dL_law_1604 rfl rfl ?_
  refine gk_aload_n (pc' := 1606) dL_law_1605 rfl rfl ?_
  refine gk_iload (pc' := 1608) dL_law_1606 rfl rfl ?_
  refine gk_iconst (pc' := 1609) dL_law_1608 rfl ?_
  refine gk_iadd (pc' := 1610) dL_law_1609 rfl ?_
  refine gk_sld (pc' := 1611) (j := i + 1) (by omega) (by omega) hL3 dL_law_1610 rfl ?_
  refine gk_aload_n (pc' := 1612) dL_law_1611 rfl rfl ?_
  refine gk_iload (pc' := 1614) dL_law_1612 rfl rfl ?_
  refine gk_iconst (pc' := 1615) dL_law_1614 rfl ?_
  refine gk_iadd (pc' := 1616) dL_law_1615 rfl ?_
  refine gk_sld (pc' := 1617) (j := i + 2) (by omega) (by omega) hL3 dL_law_1616 rfl ?_
  refine gk_callV (C := RX11) (ci := 10) (rest := [.int (zI _)]) (m_aloft (S := s.1) (a := xZ xs (i + 1)) (b := xZ xs (i + 2)) (hI.2.1.1.xs b.m) (xZ_in _ _) (xZ_in _ _)) lo_X11_aloft (gtb_at 1861 (by decide +kernel) rfl) (gtb_at 1862 (by decide +kernel) rfl) (gtb_at 1863 (by decide +kernel) rfl) (gtb_at 11 (by decide +kernel) rfl) lc_X11_aloft (by decide) rfl rfl (by decide) (by omega) (by omega) rfl (Nat.le_of_ble_eq_true rfl) dL_law_1617 rfl (fun v9 h2 q2 => ?_)
  obtain ⟨rfl, c, c11⟩ := q2
  show gK _ _ _ _ _ _ [.int (zI _), .int (zI _)] _
  refine gk_same (tgt := 1882) dL_law_1620 (by decide) rfl ?_
  exact gk_widen (by omega) (by omega) (K h2 (hI.q b b9 c c11 (ok_aBiN _ _ _ _ _)))
theorem lk_46 {L : Nat} {xs : Nat → Int32} {κ σ i : Nat} {h : gH} (hi : i + 6 ≤ L) (hL3 : L ≤ 3072) (hκ : κ + 2 ≤ 601024) (hσ : σ + 20 ≤ 7293034) (hI : LI2 h) (K : ∀ h', LI2 h' → gK L xs (κ + 2) (σ + 20) 1882 [some (.ref 2000), some (.ref 0), some (.ref 142), some (.ref 156), some (.int (zI (i : Int))), none, none] [] h') : gK L xs κ σ 1625 [some (.ref 2000), some (.ref 0), some (.ref 142), some (.ref 156), some (.int (zI (i : Int))), none, none] [] h := by
  obtain ⟨t, n, T, B, s, q, hI⟩ := hI
  refine gk_aload_n (pc' := 1626) dL_law_1625 rfl rfl ?_
  refine gk_aload_n (pc' := 1627) dL_law_1626 rfl rfl ?_
  refine gk_iload (pc' := 1629) dL_law_1627 rfl rfl ?_
  refine gk_iconst (pc' := 1630) dL_law_1629 rfl ?_
  refine gk_iadd (pc' := 1631) dL_law_1630 rfl ?_
  refine gk_sld (pc' := 1632) (j := i + 1) (by omega) (by omega) hL3 dL_law_1631 rfl ?_
  refine gk_callV (C := RX10) (ci := 9) (rest := []) (x_last (S := s.1) (a := xZ xs (i + 1)) hI.1.1 (xZ_in _ _)) lo_X10_last (gtb_at 1112 (by decide +kernel) rfl) (gtb_at 1113 (by decide +kernel) rfl) (gtb_at 1114 (by decide +kernel) rfl) (gtb_at 1 (by decide +kernel) rfl) lc_X10_last (by decide) rfl rfl (by decide) (by omega) (by omega) rfl (Nat.le_of_ble_eq_true rfl) dL_law_1632 rfl (fun v9 h1 q1 => ?_)
  obtain ⟨rfl, b, b9⟩ := q1
  show gK _ _ _ _ _ _ [.int (zI _)] _
  refine gk_aload_n (pc' := 1636) dL_law_1635 rfl rfl ?_
  refine gk_aload_n (pc' := 1637) dL_law_1636 rfl rfl ?_
  refine gk_iload (pc' := 1639) dL_law_1637 rfl rfl ?_
  refine gk_iconst (pc' := 1640) dL_law_1639 rfl ?_
  refine gk_iadd (pc' := 1641) dL_law_1640 rfl ?_
  refine gk_sld (pc' := 1642) (j := i + 1) (by omega) (by omega) hL3 dL_law_1641 rfl ?_
  refine gk_callV (C := RX11) (ci := 10) (rest := [.int (zI _)]) (m_lastQ (S := s.1) (a := xZ xs (i + 1)) (hI.2.1.1.xs b.m) (xZ_in _ _)) lo_X11_last (gtb_at 1871 (by decide +kernel) rfl) (gtb_at 1872 (by decide +kernel) rfl) (gtb_at 1873 (by decide +kernel) rfl) (gtb_at 11 (by decide +kernel) rfl) lc_X11_last (by decide) rfl rfl (by decide) (by omega) (by omega) rfl (Nat.le_of_ble_eq_true rfl) dL_law_1642 rfl (fun v9 h2 q2 => ?_)
  obtain ⟨rfl, c, c11⟩ := q2
  show gK _ _ _ _ _ _ [.int (zI _), .int (zI _)] _
  refine gk_same (tgt := 1882) dL_law_1645 (by decide) rfl ?_
  exact gk_widen (by omega) (by omega) (K h2 (hI.q b b9 c c11 (ok_aToN _ _ _ _)))
