section LAW
variable {L : Nat} {xs : Nat → Int32} {Q : Option g_V → g_H → Prop} {i k n : Nat} {sh : List (Nat × Nat)} {a : Nat → Nat → Int32} {r : Nat → Nat → Option Nat} {g : Nat → Nat → Int64}
theorem L_feed (hL : L ≤ 3584) (hi : i + 7 ≤ L) (hS : RLs k n sh a r) (hK : RLk L xs Q i) : Gd YL_law (zL L xs Q) k n 307 (lcs i) [] (sh, a, r, g) := by
  obtain ⟨φ, nt, ts, cd, nb, tp, bk, ψ, so, sz, cl, hLI, hLW, hA, hMA, hX, hM⟩ := hS
  obtain ⟨hP, hTI, hTB, hSI, hBK⟩ := id hLI
  have hW := hLW.1
  have hk0 : k + 0 ≤ 600000 := LW_k hLW hTI
  have hn0 : n + 0 ≤ 7302250 := LW_n hLW hTI
  refine Gd_aload_n (i := 1) rfl eL_law_307 ?_
  refine Gd_aload_n (i := 0) rfl eL_law_308 ?_
  refine Gd_iload_n (i := 3) rfl eL_law_309 ?_
  refine Gd_iconst ki_1 eL_law_310 ?_
  refine Gd_iaddN eL_law_311 ?_
  refine Gd_sldL (by omega) hL eL_law_312 ?_
  refine Gd_aload_n (i := 0) rfl eL_law_313 ?_
  refine Gd_iload_n (i := 3) rfl eL_law_314 ?_
  refine Gd_iconst ki_2 eL_law_315 ?_
  refine Gd_iaddN eL_law_316 ?_
  refine Gd_sldL (by omega) hL eL_law_317 ?_
  refine Gd_aload_n (i := 0) rfl eL_law_318 ?_
  refine Gd_iload_n (i := 3) rfl eL_law_319 ?_
  refine Gd_iconst ki_3 eL_law_320 ?_
  refine Gd_iaddN eL_law_321 ?_
  refine Gd_sldL (by omega) hL eL_law_322 ?_
  refine Gd_aload_n (i := 0) rfl eL_law_323 ?_
  refine Gd_iload_n (i := 3) rfl eL_law_324 ?_
  refine Gd_iconst ki_4 eL_law_325 ?_
  refine Gd_iaddN eL_law_326 ?_
  refine Gd_sldL (by omega) hL eL_law_327 ?_
  refine Gd_aload_n (i := 0) rfl eL_law_328 ?_
  refine Gd_iload_n (i := 3) rfl eL_law_329 ?_
  refine Gd_iconst ki_5 eL_law_330 ?_
  refine Gd_iaddN eL_law_331 ?_
  refine Gd_sldL (by omega) hL eL_law_332 ?_
  refine Gd_aload_n (i := 0) rfl eL_law_333 ?_
  refine Gd_iload_n (i := 3) rfl eL_law_334 ?_
  refine Gd_bipush kb_6 eL_law_335 ?_
  refine Gd_iaddN eL_law_337 ?_
  refine Gd_sldL (by omega) hL eL_law_338 ?_
  refine Gd_callEV (g_cV (x_feed hW hX.2.1 hTB.1 _ _ _ _ _ _) ok_X7_feed lk_RL_28 (W_s0 hW) ⟨_, _, rfl⟩ rfl rfl (Nat.le_of_ble_eq_true rfl) (Nat.le_of_ble_eq_true rfl) hk0 hn0 eL_law_339) (fun a1 hq1 => ?_)
  obtain ⟨hT1, c1⟩ := hq1
  have hMA1 := MA_x xo_N hMA c1
  have hM1 := MQ_x xo_N hM c1
  refine Gd_aload_n (i := 2) rfl eL_law_342 ?_
  refine Gd_aload_n (i := 0) rfl eL_law_343 ?_
  refine Gd_iload_n (i := 3) rfl eL_law_344 ?_
  refine Gd_iconst ki_1 eL_law_345 ?_
  refine Gd_iaddN eL_law_346 ?_
  refine Gd_sldL (by omega) hL eL_law_347 ?_
  refine Gd_aload_n (i := 0) rfl eL_law_348 ?_
  refine Gd_iload_n (i := 3) rfl eL_law_349 ?_
  refine Gd_iconst ki_2 eL_law_350 ?_
  refine Gd_iaddN eL_law_351 ?_
  refine Gd_sldL (by omega) hL eL_law_352 ?_
  refine Gd_aload_n (i := 0) rfl eL_law_353 ?_
  refine Gd_iload_n (i := 3) rfl eL_law_354 ?_
  refine Gd_iconst ki_3 eL_law_355 ?_
  refine Gd_iaddN eL_law_356 ?_
  refine Gd_sldL (by omega) hL eL_law_357 ?_
  refine Gd_aload_n (i := 0) rfl eL_law_358 ?_
  refine Gd_iload_n (i := 3) rfl eL_law_359 ?_
  refine Gd_iconst ki_4 eL_law_360 ?_
  refine Gd_iaddN eL_law_361 ?_
  refine Gd_sldL (by omega) hL eL_law_362 ?_
  refine Gd_aload_n (i := 0) rfl eL_law_363 ?_
  refine Gd_iload_n (i := 3) rfl eL_law_364 ?_
  refine Gd_iconst ki_5 eL_law_365 ?_
  refine Gd_iaddN eL_law_366 ?_
  refine Gd_sldL (by omega) hL eL_law_367 ?_
  refine Gd_aload_n (i := 0) rfl eL_law_368 ?_
  refine Gd_iload_n (i := 3) rfl eL_law_369 ?_
  refine Gd_bipush kb_6 eL_law_370 ?_
  refine Gd_iaddN eL_law_372 ?_
  refine Gd_sldL (by omega) hL eL_law_373 ?_
  refine Gd_callEV (g_cV (m_feed hW hM1.2.1 hTB.1 _ _ _ _ _ _) ok_X8_feed lk_RL_32 (W_s50 hW) ⟨_, _, rfl⟩ rfl rfl (Nat.le_of_ble_eq_true rfl) (Nat.le_of_ble_eq_true rfl) hk0 hn0 eL_law_374) (fun a2 hq2 => ?_)
  obtain ⟨hT2, c2⟩ := hq2
  refine Gd_icmp_eq eL_law_377 (fun _ => ?_) (fun c => absurd rfl c)
  exact hK _ _ _ _ _ _ (LS_T hLI hLW (rFeed_ok hTB.1 hTB.2 _ _ _ _ _ _) hA hMA1 hX hM1 hT1 c1 hT2 c2)
theorem L_film (hL : L ≤ 3584) (hi : i + 7 ≤ L) (hS : RLs k n sh a r) (hK : RLk L xs Q i) : Gd YL_law (zL L xs Q) k n 1331 (lcs i) [] (sh, a, r, g) := by
  obtain ⟨φ, nt, ts, cd, nb, tp, bk, ψ, so, sz, cl, hLI, hLW, hA, hMA, hX, hM⟩ := hS
  obtain ⟨hP, hTI, hTB, hSI, hBK⟩ := id hLI
  have hW := hLW.1
  have hk0 : k + 0 ≤ 600000 := LW_k hLW hTI
  have hn0 : n + 0 ≤ 7302250 := LW_n hLW hTI
  refine Gd_aload_n (i := 1) rfl eL_law_1331 ?_
  refine Gd_aload_n (i := 0) rfl eL_law_1332 ?_
  refine Gd_iload_n (i := 3) rfl eL_law_1333 ?_
  refine Gd_iconst ki_1 eL_law_1334 ?_
  refine Gd_iaddN eL_law_1335 ?_
  refine Gd_sldL (by omega) hL eL_law_1336 ?_
  refine Gd_aload_n (i := 0) rfl eL_law_1337 ?_
  refine Gd_iload_n (i := 3) rfl eL_law_1338 ?_
  refine Gd_iconst ki_2 eL_law_1339 ?_
  refine Gd_iaddN eL_law_1340 ?_
  refine Gd_sldL (by omega) hL eL_law_1341 ?_
  refine Gd_aload_n (i := 0) rfl eL_law_1342 ?_
  refine Gd_iload_n (i := 3) rfl eL_law_1343 ?_
  refine Gd_iconst ki_3 eL_law_1344 ?_
  refine Gd_iaddN eL_law_1345 ?_
  refine Gd_sldL (by omega) hL eL_law_1346 ?_
  refine Gd_callEV (g_cV (x_film hW hA hP.1 hX.1 hTI hP.2.2.2.2 hX.2.2.1 hSI _ _ _) ok_X7_film lk_RL_140 (W_s0 hW) ⟨_, _, rfl⟩ rfl rfl (Nat.le_of_ble_eq_true rfl) (Nat.le_of_ble_eq_true rfl) hk0 hn0 eL_law_1347) (fun a1 hq1 => ?_)
  obtain ⟨hS1, c1⟩ := hq1
  have hMA1 := MA_x xo_XC hMA c1
  have hM1 := MQ_x xo_XC hM c1
  refine Gd_aload_n (i := 2) rfl eL_law_1350 ?_
  refine Gd_aload_n (i := 0) rfl eL_law_1351 ?_
  refine Gd_iload_n (i := 3) rfl eL_law_1352 ?_
  refine Gd_iconst ki_1 eL_law_1353 ?_
  refine Gd_iaddN eL_law_1354 ?_
  refine Gd_sldL (by omega) hL eL_law_1355 ?_
  refine Gd_aload_n (i := 0) rfl eL_law_1356 ?_
  refine Gd_iload_n (i := 3) rfl eL_law_1357 ?_
  refine Gd_iconst ki_2 eL_law_1358 ?_
  refine Gd_iaddN eL_law_1359 ?_
  refine Gd_sldL (by omega) hL eL_law_1360 ?_
  refine Gd_aload_n (i := 0) rfl eL_law_1361 ?_
  refine Gd_iload_n (i := 3) rfl eL_law_1362 ?_
  refine Gd_iconst ki_3 eL_law_1363 ?_
  refine Gd_iaddN eL_law_1364 ?_
  refine Gd_sldL (by omega) hL eL_law_1365 ?_
  refine Gd_callEV (g_cV (m_film hW hMA1 hP.1 hM1.1 hTI hP.2.2.2.2 hM1.2.2.2.1 hSI _ _ _) ok_X8_film lk_RL_143 (W_s50 hW) ⟨_, _, rfl⟩ rfl rfl (Nat.le_of_ble_eq_true rfl) (Nat.le_of_ble_eq_true rfl) hk0 hn0 eL_law_1366) (fun a2 hq2 => ?_)
  obtain ⟨hMA2, hS2, c2⟩ := hq2
  refine Gd_icmp_eq eL_law_1369 (fun _ => ?_) (fun c => absurd rfl c)
  exact hK _ _ _ _ _ _ (LS_S hLI hLW (SI_rFilm hSI (FI_hu hP.1) _ _ _) hA hX hM hS1 c1 hMA2 hS2 c2)
theorem L_image (hL : L ≤ 3584) (hi : i + 7 ≤ L) (hS : RLs k n sh a r) (hK : RLk L xs Q i) : Gd YL_law (zL L xs Q) k n 1471 (lcs i) [] (sh, a, r, g) := by
  obtain ⟨φ, nt, ts, cd, nb, tp, bk, ψ, so, sz, cl, hLI, hLW, hA, hMA, hX, hM⟩ := hS
  obtain ⟨hP, hTI, hTB, hSI, hBK⟩ := id hLI
  have hW := hLW.1
  have hk0 : k + 0 ≤ 600000 := LW_k hLW hTI
  have hn0 : n + 0 ≤ 7302250 := LW_n hLW hTI
  refine Gd_aload_n (i := 1) rfl eL_law_1471 ?_
  refine Gd_callEV (g_cV (x_image hW hA) ok_X7_image lk_RL_153 (W_s0 hW) ⟨_, _, rfl⟩ rfl rfl (Nat.le_of_ble_eq_true rfl) (Nat.le_of_ble_eq_true rfl) hk0 hn0 eL_law_1472) (fun a1 hq1 => ?_)
  obtain ⟨hA1, h17, h03, c1⟩ := hq1
  have hMA1 := MA_x xo_Ix hMA c1
  have hM1 := MQ_x xo_Ix hM c1
  refine Gd_aload_n (i := 2) rfl eL_law_1475 ?_
  refine Gd_callEV (g_cV (m_image hW hMA1) ok_X8_image lk_RL_156 (W_s50 hW) ⟨_, _, rfl⟩ rfl rfl (Nat.le_of_ble_eq_true rfl) (Nat.le_of_ble_eq_true rfl) hk0 hn0 eL_law_1476) (fun a2 hq2 => ?_)
  obtain ⟨hMA2, hIM, h13, c2⟩ := hq2
  refine Gd_icmp_eq eL_law_1479 (fun _ => ?_) (fun c => absurd rfl c)
  exact hK _ _ _ _ _ _ (LS_I hLI hLW hX hM hA1 h17 h03 c1 hMA2 hIM h13 c2)
theorem L_back (hL : L ≤ 3584) (hi : i + 7 ≤ L) (hS : RLs k n sh a r) (hK : RLk L xs Q i) : Gd YL_law (zL L xs Q) k n 1484 (lcs i) [] (sh, a, r, g) := by
  obtain ⟨φ, nt, ts, cd, nb, tp, bk, ψ, so, sz, cl, hLI, hLW, hA, hMA, hX, hM⟩ := hS
  obtain ⟨hP, hTI, hTB, hSI, hBK⟩ := id hLI
  have hW := hLW.1
  have hk0 : k + 0 ≤ 600000 := LW_k hLW hTI
  have hn0 : n + 0 ≤ 7302250 := LW_n hLW hTI
  refine Gd_aload_n (i := 1) rfl eL_law_1484 ?_
  refine Gd_callEV (g_cV (x_back hW hA hX.2.2.2.1 hX.2.2.2.2) ok_X7_back lk_RL_157 (W_s0 hW) ⟨_, _, rfl⟩ rfl rfl (Nat.le_of_ble_eq_true rfl) (Nat.le_of_ble_eq_true rfl) hk0 hn0 eL_law_1485) (fun a1 hq1 => ?_)
  obtain ⟨hA1, hq1⟩ := hq1
  have c1 := chg_mono2 U_1 hq1
  have hMA1 := MA_x xo_U hMA c1
  have hM1 := MQ_x xo_U hM c1
  refine Gd_aload_n (i := 2) rfl eL_law_1488 ?_
  refine Gd_callEV (g_cV (m_back hW hMA1 hM1.2.2.2.2.1 hM1.2.2.2.2.2 (fun z => (hBK z).2)) ok_X8_back lk_RL_160 (W_s50 hW) ⟨_, _, rfl⟩ rfl rfl (Nat.le_of_ble_eq_true rfl) (Nat.le_of_ble_eq_true rfl) hk0 hn0 eL_law_1489) (fun a2 hq2 => ?_)
  obtain ⟨hMA2, c2⟩ := hq2
  refine Gd_icmp_eq eL_law_1492 (fun _ => ?_) (fun c => absurd rfl c)
  refine hK _ _ _ _ _ _ (LS_G hLI hLW ?_ (fun z => ?_) hX hM hA1 c1 hMA2 c2)
  · split
    · next z => exact (hBK z).1
    · exact hP
  · rw [if_pos z]; exact IK_rf _
theorem L_sheet (hL : L ≤ 3584) (hi : i + 7 ≤ L) (hS : RLs k n sh a r) (hK : RLk L xs Q i) : Gd YL_law (zL L xs Q) k n 1497 (lcs i) [] (sh, a, r, g) := by
  obtain ⟨φ, nt, ts, cd, nb, tp, bk, ψ, so, sz, cl, hLI, hLW, hA, hMA, hX, hM⟩ := hS
  obtain ⟨hP, hTI, hTB, hSI, hBK⟩ := id hLI
  have hW := hLW.1
  have hk0 : k + 0 ≤ 600000 := LW_k hLW hTI
  have hn0 : n + 0 ≤ 7302250 := LW_n hLW hTI
  refine Gd_aload_n (i := 1) rfl eL_law_1497 ?_
  refine Gd_aload_n (i := 0) rfl eL_law_1498 ?_
  refine Gd_iload_n (i := 3) rfl eL_law_1499 ?_
  refine Gd_iconst ki_1 eL_law_1500 ?_
  refine Gd_iaddN eL_law_1501 ?_
  refine Gd_sldL (by omega) hL eL_law_1502 ?_
  refine Gd_aload_n (i := 0) rfl eL_law_1503 ?_
  refine Gd_iload_n (i := 3) rfl eL_law_1504 ?_
  refine Gd_iconst ki_2 eL_law_1505 ?_
  refine Gd_iaddN eL_law_1506 ?_
  refine Gd_sldL (by omega) hL eL_law_1507 ?_
  refine Gd_aload_n (i := 0) rfl eL_law_1508 ?_
  refine Gd_iload_n (i := 3) rfl eL_law_1509 ?_
  refine Gd_iconst ki_3 eL_law_1510 ?_
  refine Gd_iaddN eL_law_1511 ?_
  refine Gd_sldL (by omega) hL eL_law_1512 ?_
  refine Gd_callEV (g_cV (x_sheet hW hX.2.2.1 hSI _ _ _) ok_X7_sheet lk_RL_161 (W_s0 hW) ⟨_, _, rfl⟩ rfl rfl (Nat.le_of_ble_eq_true rfl) (Nat.le_of_ble_eq_true rfl) hk0 hn0 eL_law_1513) (fun a1 hq1 => ?_)
  obtain ⟨hS1, c1⟩ := hq1
  have hMA1 := MA_x xo_Cx hMA c1
  have hM1 := MQ_x xo_Cx hM c1
  refine Gd_aload_n (i := 2) rfl eL_law_1516 ?_
  refine Gd_aload_n (i := 0) rfl eL_law_1517 ?_
  refine Gd_iload_n (i := 3) rfl eL_law_1518 ?_
  refine Gd_iconst ki_1 eL_law_1519 ?_
  refine Gd_iaddN eL_law_1520 ?_
  refine Gd_sldL (by omega) hL eL_law_1521 ?_
  refine Gd_aload_n (i := 0) rfl eL_law_1522 ?_
  refine Gd_iload_n (i := 3) rfl eL_law_1523 ?_
  refine Gd_iconst ki_2 eL_law_1524 ?_
  refine Gd_iaddN eL_law_1525 ?_
  refine Gd_sldL (by omega) hL eL_law_1526 ?_
  refine Gd_aload_n (i := 0) rfl eL_law_1527 ?_
  refine Gd_iload_n (i := 3) rfl eL_law_1528 ?_
  refine Gd_iconst ki_3 eL_law_1529 ?_
  refine Gd_iaddN eL_law_1530 ?_
  refine Gd_sldL (by omega) hL eL_law_1531 ?_
  refine Gd_callEV (g_cV (m_sheet hW hM1.2.2.2.1 hSI _ _ _) ok_X8_sheet lk_RL_164 (W_s50 hW) ⟨_, _, rfl⟩ rfl rfl (Nat.le_of_ble_eq_true rfl) (Nat.le_of_ble_eq_true rfl) hk0 hn0 eL_law_1532) (fun a2 hq2 => ?_)
  obtain ⟨hS2, c2⟩ := hq2
  refine Gd_icmp_eq eL_law_1535 (fun _ => ?_) (fun c => absurd rfl c)
  exact hK _ _ _ _ _ _ (LS_S hLI hLW (SI_rSheet hSI _ _ _) hA hX hM hS1 (chg_mono2 XC_Cx c1) (MA_C hMA1 c2) hS2 (chg_mono2 Fi_C c2))
theorem L_cell (hL : L ≤ 3584) (hi : i + 7 ≤ L) (hS : RLs k n sh a r) (hK : RLk L xs Q i) : Gd YL_law (zL L xs Q) k n 1540 (lcs i) [] (sh, a, r, g) := by
  obtain ⟨φ, nt, ts, cd, nb, tp, bk, ψ, so, sz, cl, hLI, hLW, hA, hMA, hX, hM⟩ := hS
  obtain ⟨hP, hTI, hTB, hSI, hBK⟩ := id hLI
  have hW := hLW.1
  have hk0 : k + 0 ≤ 600000 := LW_k hLW hTI
  have hn0 : n + 0 ≤ 7302250 := LW_n hLW hTI
  refine Gd_aload_n (i := 1) rfl eL_law_1540 ?_
  refine Gd_aload_n (i := 0) rfl eL_law_1541 ?_
  refine Gd_iload_n (i := 3) rfl eL_law_1542 ?_
  refine Gd_iconst ki_1 eL_law_1543 ?_
  refine Gd_iaddN eL_law_1544 ?_
  refine Gd_sldL (by omega) hL eL_law_1545 ?_
  refine Gd_aload_n (i := 0) rfl eL_law_1546 ?_
  refine Gd_iload_n (i := 3) rfl eL_law_1547 ?_
  refine Gd_iconst ki_2 eL_law_1548 ?_
  refine Gd_iaddN eL_law_1549 ?_
  refine Gd_sldL (by omega) hL eL_law_1550 ?_
  refine Gd_aload_n (i := 0) rfl eL_law_1551 ?_
  refine Gd_iload_n (i := 3) rfl eL_law_1552 ?_
  refine Gd_iconst ki_3 eL_law_1553 ?_
  refine Gd_iaddN eL_law_1554 ?_
  refine Gd_sldL (by omega) hL eL_law_1555 ?_
  refine Gd_callEV (g_cV (x_cell hW hX.2.2.1 hSI _ _ _) ok_X7_cell lk_RL_165 (W_s0 hW) ⟨_, _, rfl⟩ rfl rfl (Nat.le_of_ble_eq_true rfl) (Nat.le_of_ble_eq_true rfl) hk0 hn0 eL_law_1556) (fun a1 hq1 => ?_)
  obtain ⟨hS1, c1⟩ := hq1
  have hMA1 := MA_x xo_Cx hMA c1
  have hM1 := MQ_x xo_Cx hM c1
  refine Gd_aload_n (i := 2) rfl eL_law_1559 ?_
  refine Gd_aload_n (i := 0) rfl eL_law_1560 ?_
  refine Gd_iload_n (i := 3) rfl eL_law_1561 ?_
  refine Gd_iconst ki_1 eL_law_1562 ?_
  refine Gd_iaddN eL_law_1563 ?_
  refine Gd_sldL (by omega) hL eL_law_1564 ?_
  refine Gd_aload_n (i := 0) rfl eL_law_1565 ?_
  refine Gd_iload_n (i := 3) rfl eL_law_1566 ?_
  refine Gd_iconst ki_2 eL_law_1567 ?_
  refine Gd_iaddN eL_law_1568 ?_
  refine Gd_sldL (by omega) hL eL_law_1569 ?_
  refine Gd_aload_n (i := 0) rfl eL_law_1570 ?_
  refine Gd_iload_n (i := 3) rfl eL_law_1571 ?_
  refine Gd_iconst ki_3 eL_law_1572 ?_
  refine Gd_iaddN eL_law_1573 ?_
  refine Gd_sldL (by omega) hL eL_law_1574 ?_
  refine Gd_callEV (g_cV (m_cell hW hM1.2.2.2.1 hSI _ _ _) ok_X8_cell lk_RL_168 (W_s50 hW) ⟨_, _, rfl⟩ rfl rfl (Nat.le_of_ble_eq_true rfl) (Nat.le_of_ble_eq_true rfl) hk0 hn0 eL_law_1575) (fun a2 hq2 => ?_)
  obtain ⟨hS2, c2⟩ := hq2
  refine Gd_icmp_eq eL_law_1578 (fun _ => ?_) (fun c => absurd rfl c)
  exact hK _ _ _ _ _ _ (LS_S hLI hLW (SI_rCell hSI _ _ _) hA hX hM hS1 (chg_mono2 XC_Cx c1) (MA_C hMA1 c2) hS2 (chg_mono2 Fi_C c2))
theorem L_copy (hL : L ≤ 3584) (hi : i + 7 ≤ L) (hS : RLs k n sh a r) (hK : RLk L xs Q i) : Gd YL_law (zL L xs Q) k n 1583 (lcs i) [] (sh, a, r, g) := by
  obtain ⟨φ, nt, ts, cd, nb, tp, bk, ψ, so, sz, cl, hLI, hLW, hA, hMA, hX, hM⟩ := hS
  obtain ⟨hP, hTI, hTB, hSI, hBK⟩ := id hLI
  have hW := hLW.1
  have hk0 : k + 0 ≤ 600000 := LW_k hLW hTI
  have hn0 : n + 0 ≤ 7302250 := LW_n hLW hTI
  refine Gd_aload_n (i := 1) rfl eL_law_1583 ?_
  refine Gd_aload_n (i := 0) rfl eL_law_1584 ?_
  refine Gd_iload_n (i := 3) rfl eL_law_1585 ?_
  refine Gd_iconst ki_1 eL_law_1586 ?_
  refine Gd_iaddN eL_law_1587 ?_
  refine Gd_sldL (by omega) hL eL_law_1588 ?_
  refine Gd_aload_n (i := 0) rfl eL_law_1589 ?_
  refine Gd_iload_n (i := 3) rfl eL_law_1590 ?_
  refine Gd_iconst ki_2 eL_law_1591 ?_
  refine Gd_iaddN eL_law_1592 ?_
  refine Gd_sldL (by omega) hL eL_law_1593 ?_
  refine Gd_aload_n (i := 0) rfl eL_law_1594 ?_
  refine Gd_iload_n (i := 3) rfl eL_law_1595 ?_
  refine Gd_iconst ki_3 eL_law_1596 ?_
  refine Gd_iaddN eL_law_1597 ?_
  refine Gd_sldL (by omega) hL eL_law_1598 ?_
  refine Gd_aload_n (i := 0) rfl eL_law_1599 ?_
  refine Gd_iload_n (i := 3) rfl eL_law_1600 ?_
  refine Gd_iconst ki_4 eL_law_1601 ?_
  refine Gd_iaddN eL_law_1602 ?_
  refine Gd_sldL (by omega) hL eL_law_1603 ?_
  refine Gd_aload_n (i := 0) rfl eL_law_1604 ?_
  refine Gd_iload_n (i := 3) rfl eL_law_1605 ?_
  refine Gd_iconst ki_5 eL_law_1606 ?_
  refine Gd_iaddN eL_law_1607 ?_
  refine Gd_sldL (by omega) hL eL_law_1608 ?_
  refine Gd_callEV (g_cV (x_copy hW hX.2.2.1 hSI _ _ _ _ _) ok_X7_copy lk_RL_169 (W_s0 hW) ⟨_, _, rfl⟩ rfl rfl (Nat.le_of_ble_eq_true rfl) (Nat.le_of_ble_eq_true rfl) hk0 hn0 eL_law_1609) (fun a1 hq1 => ?_)
  obtain ⟨hS1, c1⟩ := hq1
  have hMA1 := MA_x xo_Cx hMA c1
  have hM1 := MQ_x xo_Cx hM c1
  refine Gd_aload_n (i := 2) rfl eL_law_1612 ?_
  refine Gd_aload_n (i := 0) rfl eL_law_1613 ?_
  refine Gd_iload_n (i := 3) rfl eL_law_1614 ?_
  refine Gd_iconst ki_1 eL_law_1615 ?_
  refine Gd_iaddN eL_law_1616 ?_
  refine Gd_sldL (by omega) hL eL_law_1617 ?_
  refine Gd_aload_n (i := 0) rfl eL_law_1618 ?_
  refine Gd_iload_n (i := 3) rfl eL_law_1619 ?_
  refine Gd_iconst ki_2 eL_law_1620 ?_
  refine Gd_iaddN eL_law_1621 ?_
  refine Gd_sldL (by omega) hL eL_law_1622 ?_
  refine Gd_aload_n (i := 0) rfl eL_law_1623 ?_
  refine Gd_iload_n (i := 3) rfl eL_law_1624 ?_
  refine Gd_iconst ki_3 eL_law_1625 ?_
  refine Gd_iaddN eL_law_1626 ?_
  refine Gd_sldL (by omega) hL eL_law_1627 ?_
  refine Gd_aload_n (i := 0) rfl eL_law_1628 ?_
  refine Gd_iload_n (i := 3) rfl eL_law_1629 ?_
  refine Gd_iconst ki_4 eL_law_1630 ?_
  refine Gd_iaddN eL_law_1631 ?_
  refine Gd_sldL (by omega) hL eL_law_1632 ?_
  refine Gd_aload_n (i := 0) rfl eL_law_1633 ?_
  refine Gd_iload_n (i := 3) rfl eL_law_1634 ?_
  refine Gd_iconst ki_5 eL_law_1635 ?_
  refine Gd_iaddN eL_law_1636 ?_
  refine Gd_sldL (by omega) hL eL_law_1637 ?_
  refine Gd_callEV (g_cV (m_copy hW hM1.2.2.2.1 hSI _ _ _ _ _) ok_X8_copy lk_RL_173 (W_s50 hW) ⟨_, _, rfl⟩ rfl rfl (Nat.le_of_ble_eq_true rfl) (Nat.le_of_ble_eq_true rfl) hk0 hn0 eL_law_1638) (fun a2 hq2 => ?_)
  obtain ⟨hS2, c2⟩ := hq2
  refine Gd_icmp_eq eL_law_1641 (fun _ => ?_) (fun c => absurd rfl c)
  exact hK _ _ _ _ _ _ (LS_S hLI hLW (SI_rCopy hSI _ _ _ _ _) hA hX hM hS1 (chg_mono2 XC_Cx c1) (MA_C hMA1 c2) hS2 (chg_mono2 Fi_C c2))
end LAW
