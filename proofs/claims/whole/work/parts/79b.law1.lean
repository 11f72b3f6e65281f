section LAW
variable {L : Nat} {xs : Nat → Int32} {Q : Option g_V → g_H → Prop} {i k n : Nat} {sh : List (Nat × Nat)} {a : Nat → Nat → Int32} {r : Nat → Nat → Option Nat} {g : Nat → Nat → Int64}
theorem L_count (hL : L ≤ 3584) (hi : i + 7 ≤ L) (hS : RLs k n sh a r) (hK : RLk L xs Q i) : Gd YL_law (zL L xs Q) k n 208 (lcs i) [] (sh, a, r, g) := by
  obtain ⟨φ, nt, ts, cd, nb, tp, bk, ψ, so, sz, cl, hLI, hLW, hA, hMA, hX, hM⟩ := hS
  obtain ⟨hP, hTI, hTB, hSI, hBK⟩ := id hLI
  have hW := hLW.1
  have hk0 : k + 0 ≤ 600000 := LW_k hLW hTI
  have hn0 : n + 0 ≤ 7302250 := LW_n hLW hTI
  refine Gd_aload_n (i := 1) rfl eL_law_208 ?_
  refine Gd_aload_n (i := 0) rfl eL_law_209 ?_
  refine Gd_iload_n (i := 3) rfl eL_law_210 ?_
  refine Gd_iconst ki_1 eL_law_211 ?_
  refine Gd_iaddN eL_law_212 ?_
  refine Gd_sldL (by omega) hL eL_law_213 ?_
  refine Gd_callP (g_cV (x_count hW hA hP.1 hX.1.1 hX.2.1.1 _) ok_X7_count lk_RL_13 (W_s0 hW) ⟨_, _, rfl⟩ rfl rfl (Nat.le_of_ble_eq_true rfl) (Nat.le_of_ble_eq_true rfl) hk0 hn0 eL_law_214) ?_
  have c1 : chg scU a a := chg_rf
  have hA1 := hA
  have hMA1 := MA_x xo_U hMA c1
  have hM1 := MQ_x xo_U hM c1
  refine Gd_aload_n (i := 2) rfl eL_law_217 ?_
  refine Gd_aload_n (i := 0) rfl eL_law_218 ?_
  refine Gd_iload_n (i := 3) rfl eL_law_219 ?_
  refine Gd_iconst ki_1 eL_law_220 ?_
  refine Gd_iaddN eL_law_221 ?_
  refine Gd_sldL (by omega) hL eL_law_222 ?_
  refine Gd_callP (g_cV (m_count hW hMA1 hP.1 hM1.1.1 hM1.2.1.1 _) ok_X8_count lk_RL_17 (W_s50 hW) ⟨_, _, rfl⟩ rfl rfl (Nat.le_of_ble_eq_true rfl) (Nat.le_of_ble_eq_true rfl) hk0 hn0 eL_law_223) ?_
  have c2 := chg_rf (S := scZ) (a := a)
  have hMA2 := hMA1
  refine Gd_icmp_eq eL_law_226 (fun _ => ?_) (fun c => absurd rfl c)
  exact hK _ _ _ _ _ _ (LS_F hLI hLW (SG_rf hP) hX hM hA1 c1 hMA2 c2)
theorem L_forest (hL : L ≤ 3584) (hi : i + 7 ≤ L) (hS : RLs k n sh a r) (hK : RLk L xs Q i) : Gd YL_law (zL L xs Q) k n 231 (lcs i) [] (sh, a, r, g) := by
  obtain ⟨φ, nt, ts, cd, nb, tp, bk, ψ, so, sz, cl, hLI, hLW, hA, hMA, hX, hM⟩ := hS
  obtain ⟨hP, hTI, hTB, hSI, hBK⟩ := id hLI
  have hW := hLW.1
  have hk0 : k + 0 ≤ 600000 := LW_k hLW hTI
  have hn0 : n + 0 ≤ 7302250 := LW_n hLW hTI
  refine Gd_aload_n (i := 1) rfl eL_law_231 ?_
  refine Gd_aload_n (i := 0) rfl eL_law_232 ?_
  refine Gd_iload_n (i := 3) rfl eL_law_233 ?_
  refine Gd_iconst ki_1 eL_law_234 ?_
  refine Gd_iaddN eL_law_235 ?_
  refine Gd_sldL (by omega) hL eL_law_236 ?_
  refine Gd_aload_n (i := 0) rfl eL_law_237 ?_
  refine Gd_iload_n (i := 3) rfl eL_law_238 ?_
  refine Gd_iconst ki_2 eL_law_239 ?_
  refine Gd_iaddN eL_law_240 ?_
  refine Gd_sldL (by omega) hL eL_law_241 ?_
  refine Gd_aload_n (i := 0) rfl eL_law_242 ?_
  refine Gd_iload_n (i := 3) rfl eL_law_243 ?_
  refine Gd_iconst ki_3 eL_law_244 ?_
  refine Gd_iaddN eL_law_245 ?_
  refine Gd_sldL (by omega) hL eL_law_246 ?_
  refine Gd_callEV (g_cV (x_forest hW hA hP.1 _ _ _) ok_X7_forest lk_RL_18 (W_s0 hW) ⟨_, _, rfl⟩ rfl rfl (Nat.le_of_ble_eq_true rfl) (Nat.le_of_ble_eq_true rfl) hk0 hn0 eL_law_247) (fun a1 hq1 => ?_)
  obtain ⟨hA1, hq1⟩ := hq1
  have c1 := chg_mono2 U_Fx hq1
  have hMA1 := MA_x xo_U hMA c1
  have hM1 := MQ_x xo_U hM c1
  refine Gd_aload_n (i := 2) rfl eL_law_250 ?_
  refine Gd_aload_n (i := 0) rfl eL_law_251 ?_
  refine Gd_iload_n (i := 3) rfl eL_law_252 ?_
  refine Gd_iconst ki_1 eL_law_253 ?_
  refine Gd_iaddN eL_law_254 ?_
  refine Gd_sldL (by omega) hL eL_law_255 ?_
  refine Gd_aload_n (i := 0) rfl eL_law_256 ?_
  refine Gd_iload_n (i := 3) rfl eL_law_257 ?_
  refine Gd_iconst ki_2 eL_law_258 ?_
  refine Gd_iaddN eL_law_259 ?_
  refine Gd_sldL (by omega) hL eL_law_260 ?_
  refine Gd_aload_n (i := 0) rfl eL_law_261 ?_
  refine Gd_iload_n (i := 3) rfl eL_law_262 ?_
  refine Gd_iconst ki_3 eL_law_263 ?_
  refine Gd_iaddN eL_law_264 ?_
  refine Gd_sldL (by omega) hL eL_law_265 ?_
  refine Gd_callEV (g_cV (m_forest hW hMA1 hP.1 _ _ _) ok_X8_forest lk_RL_22 (W_s50 hW) ⟨_, _, rfl⟩ rfl rfl (Nat.le_of_ble_eq_true rfl) (Nat.le_of_ble_eq_true rfl) hk0 hn0 eL_law_266) (fun a2 hq2 => ?_)
  obtain ⟨hMA2, hq2⟩ := hq2
  have c2 := chg_mono2 Z_F hq2
  refine Gd_icmp_eq eL_law_269 (fun _ => ?_) (fun c => absurd rfl c)
  exact hK _ _ _ _ _ _ (LS_F hLI hLW (SG_rForest hP _ _ _) hX hM hA1 c1 hMA2 c2)
theorem L_deer (hL : L ≤ 3584) (hi : i + 7 ≤ L) (hS : RLs k n sh a r) (hK : RLk L xs Q i) : Gd YL_law (zL L xs Q) k n 274 (lcs i) [] (sh, a, r, g) := by
  obtain ⟨φ, nt, ts, cd, nb, tp, bk, ψ, so, sz, cl, hLI, hLW, hA, hMA, hX, hM⟩ := hS
  obtain ⟨hP, hTI, hTB, hSI, hBK⟩ := id hLI
  have hW := hLW.1
  have hk0 : k + 0 ≤ 600000 := LW_k hLW hTI
  have hn0 : n + 0 ≤ 7302250 := LW_n hLW hTI
  refine Gd_aload_n (i := 1) rfl eL_law_274 ?_
  refine Gd_aload_n (i := 0) rfl eL_law_275 ?_
  refine Gd_iload_n (i := 3) rfl eL_law_276 ?_
  refine Gd_iconst ki_1 eL_law_277 ?_
  refine Gd_iaddN eL_law_278 ?_
  refine Gd_sldL (by omega) hL eL_law_279 ?_
  refine Gd_aload_n (i := 0) rfl eL_law_280 ?_
  refine Gd_iload_n (i := 3) rfl eL_law_281 ?_
  refine Gd_iconst ki_2 eL_law_282 ?_
  refine Gd_iaddN eL_law_283 ?_
  refine Gd_sldL (by omega) hL eL_law_284 ?_
  refine Gd_callP (g_cV (x_deer hW hA hP.1 _ _) ok_X7_deer lk_RL_23 (W_s0 hW) ⟨_, _, rfl⟩ rfl rfl (Nat.le_of_ble_eq_true rfl) (Nat.le_of_ble_eq_true rfl) hk0 hn0 eL_law_285) ?_
  have c1 : chg scU a a := chg_rf
  have hA1 := hA
  have hMA1 := MA_x xo_U hMA c1
  have hM1 := MQ_x xo_U hM c1
  refine Gd_aload_n (i := 2) rfl eL_law_288 ?_
  refine Gd_aload_n (i := 0) rfl eL_law_289 ?_
  refine Gd_iload_n (i := 3) rfl eL_law_290 ?_
  refine Gd_iconst ki_1 eL_law_291 ?_
  refine Gd_iaddN eL_law_292 ?_
  refine Gd_sldL (by omega) hL eL_law_293 ?_
  refine Gd_aload_n (i := 0) rfl eL_law_294 ?_
  refine Gd_iload_n (i := 3) rfl eL_law_295 ?_
  refine Gd_iconst ki_2 eL_law_296 ?_
  refine Gd_iaddN eL_law_297 ?_
  refine Gd_sldL (by omega) hL eL_law_298 ?_
  refine Gd_callP (g_cV (m_deer hW hMA1 hP.1 _ _) ok_X8_deer lk_RL_27 (W_s50 hW) ⟨_, _, rfl⟩ rfl rfl (Nat.le_of_ble_eq_true rfl) (Nat.le_of_ble_eq_true rfl) hk0 hn0 eL_law_299) ?_
  have c2 := chg_rf (S := scZ) (a := a)
  have hMA2 := hMA1
  refine Gd_icmp_eq eL_law_302 (fun _ => ?_) (fun c => absurd rfl c)
  exact hK _ _ _ _ _ _ (LS_F hLI hLW (SG_rf hP) hX hM hA1 c1 hMA2 c2)
theorem L_force (hL : L ≤ 3584) (hi : i + 7 ≤ L) (hS : RLs k n sh a r) (hK : RLk L xs Q i) : Gd YL_law (zL L xs Q) k n 395 (lcs i) [] (sh, a, r, g) := by
  obtain ⟨φ, nt, ts, cd, nb, tp, bk, ψ, so, sz, cl, hLI, hLW, hA, hMA, hX, hM⟩ := hS
  obtain ⟨hP, hTI, hTB, hSI, hBK⟩ := id hLI
  have hW := hLW.1
  have hk0 : k + 0 ≤ 600000 := LW_k hLW hTI
  have hn0 : n + 0 ≤ 7302250 := LW_n hLW hTI
  refine Gd_aload_n (i := 1) rfl eL_law_395 ?_
  refine Gd_aload_n (i := 0) rfl eL_law_396 ?_
  refine Gd_iload_n (i := 3) rfl eL_law_397 ?_
  refine Gd_iconst ki_1 eL_law_398 ?_
  refine Gd_iaddN eL_law_399 ?_
  refine Gd_sldL (by omega) hL eL_law_400 ?_
  refine Gd_callEV (g_cV (x_force hW hA hP.1 hX.1 hTI hP.2.2.2.2 _) ok_X7_force lk_RL_38 (W_s0 hW) ⟨_, _, rfl⟩ rfl rfl (Nat.le_of_ble_eq_true rfl) (Nat.le_of_ble_eq_true rfl) hk0 hn0 eL_law_401) (fun a1 hq1 => ?_)
  obtain ⟨hA1, hq1⟩ := hq1
  have c1 := chg_mono2 U_13 hq1
  have hMA1 := MA_x xo_U hMA c1
  have hM1 := MQ_x xo_U hM c1
  refine Gd_aload_n (i := 2) rfl eL_law_404 ?_
  refine Gd_aload_n (i := 0) rfl eL_law_405 ?_
  refine Gd_iload_n (i := 3) rfl eL_law_406 ?_
  refine Gd_iconst ki_1 eL_law_407 ?_
  refine Gd_iaddN eL_law_408 ?_
  refine Gd_sldL (by omega) hL eL_law_409 ?_
  refine Gd_callEV (g_cV (m_force hW hMA1 hP.1 hM1.1 hTI hP.2.2.2.2 _) ok_X8_force lk_RL_41 (W_s50 hW) ⟨_, _, rfl⟩ rfl rfl (Nat.le_of_ble_eq_true rfl) (Nat.le_of_ble_eq_true rfl) hk0 hn0 eL_law_410) (fun a2 hq2 => ?_)
  obtain ⟨hMA2, hq2⟩ := hq2
  have c2 := chg_mono2 Z_12 hq2
  refine Gd_icmp_eq eL_law_413 (fun _ => ?_) (fun c => absurd rfl c)
  exact hK _ _ _ _ _ _ (LS_F hLI hLW (SG_sForce hP hTI.2.1 _) hX hM hA1 c1 hMA2 c2)
theorem L_asks (hL : L ≤ 3584) (hi : i + 7 ≤ L) (hS : RLs k n sh a r) (hK : RLk L xs Q i) : Gd YL_law (zL L xs Q) k n 418 (lcs i) [] (sh, a, r, g) := by
  obtain ⟨φ, nt, ts, cd, nb, tp, bk, ψ, so, sz, cl, hLI, hLW, hA, hMA, hX, hM⟩ := hS
  obtain ⟨hP, hTI, hTB, hSI, hBK⟩ := id hLI
  have hW := hLW.1
  have hk0 : k + 0 ≤ 600000 := LW_k hLW hTI
  have hn0 : n + 0 ≤ 7302250 := LW_n hLW hTI
  refine Gd_aload_n (i := 1) rfl eL_law_418 ?_
  refine Gd_aload_n (i := 0) rfl eL_law_419 ?_
  refine Gd_iload_n (i := 3) rfl eL_law_420 ?_
  refine Gd_iconst ki_1 eL_law_421 ?_
  refine Gd_iaddN eL_law_422 ?_
  refine Gd_sldL (by omega) hL eL_law_423 ?_
  refine Gd_aload_n (i := 0) rfl eL_law_424 ?_
  refine Gd_iload_n (i := 3) rfl eL_law_425 ?_
  refine Gd_iconst ki_2 eL_law_426 ?_
  refine Gd_iaddN eL_law_427 ?_
  refine Gd_sldL (by omega) hL eL_law_428 ?_
  refine Gd_aload_n (i := 0) rfl eL_law_429 ?_
  refine Gd_iload_n (i := 3) rfl eL_law_430 ?_
  refine Gd_iconst ki_3 eL_law_431 ?_
  refine Gd_iaddN eL_law_432 ?_
  refine Gd_sldL (by omega) hL eL_law_433 ?_
  refine Gd_callEV (g_cV (x_asks hW hA hP.1 hX.1 hTI hP.2.2.2.2 _ _ _) ok_X7_asks lk_RL_42 (W_s0 hW) ⟨_, _, rfl⟩ rfl rfl (Nat.le_of_ble_eq_true rfl) (Nat.le_of_ble_eq_true rfl) hk0 hn0 eL_law_434) (fun a1 hq1 => ?_)
  have c1 := chg_mono2 U_R hq1
  have hA1 := FA_s hA hq1 s_R
  have hMA1 := MA_x xo_U hMA c1
  have hM1 := MQ_x xo_U hM c1
  refine Gd_aload_n (i := 2) rfl eL_law_437 ?_
  refine Gd_aload_n (i := 0) rfl eL_law_438 ?_
  refine Gd_iload_n (i := 3) rfl eL_law_439 ?_
  refine Gd_iconst ki_1 eL_law_440 ?_
  refine Gd_iaddN eL_law_441 ?_
  refine Gd_sldL (by omega) hL eL_law_442 ?_
  refine Gd_aload_n (i := 0) rfl eL_law_443 ?_
  refine Gd_iload_n (i := 3) rfl eL_law_444 ?_
  refine Gd_iconst ki_2 eL_law_445 ?_
  refine Gd_iaddN eL_law_446 ?_
  refine Gd_sldL (by omega) hL eL_law_447 ?_
  refine Gd_aload_n (i := 0) rfl eL_law_448 ?_
  refine Gd_iload_n (i := 3) rfl eL_law_449 ?_
  refine Gd_iconst ki_3 eL_law_450 ?_
  refine Gd_iaddN eL_law_451 ?_
  refine Gd_sldL (by omega) hL eL_law_452 ?_
  refine Gd_callEV (g_cV (m_asks hW hMA1 hP.1 hM1.1 hTI hP.2.2.2.2 _ _ _) ok_X8_asks lk_RL_45 (W_s50 hW) ⟨_, _, rfl⟩ rfl rfl (Nat.le_of_ble_eq_true rfl) (Nat.le_of_ble_eq_true rfl) hk0 hn0 eL_law_453) (fun a2 hq2 => ?_)
  have c2 := chg_mono2 Z_M hq2
  have hMA2 := MA_sM hMA1 hq2
  refine Gd_icmp_eq eL_law_456 (fun _ => ?_) (fun c => absurd rfl c)
  exact hK _ _ _ _ _ _ (LS_F hLI hLW (SG_rf hP) hX hM hA1 c1 hMA2 c2)
theorem L_hunter (hL : L ≤ 3584) (hi : i + 7 ≤ L) (hS : RLs k n sh a r) (hK : RLk L xs Q i) : Gd YL_law (zL L xs Q) k n 461 (lcs i) [] (sh, a, r, g) := by
  obtain ⟨φ, nt, ts, cd, nb, tp, bk, ψ, so, sz, cl, hLI, hLW, hA, hMA, hX, hM⟩ := hS
  obtain ⟨hP, hTI, hTB, hSI, hBK⟩ := id hLI
  have hW := hLW.1
  have hk0 : k + 0 ≤ 600000 := LW_k hLW hTI
  have hn0 : n + 0 ≤ 7302250 := LW_n hLW hTI
  refine Gd_aload_n (i := 1) rfl eL_law_461 ?_
  refine Gd_aload_n (i := 0) rfl eL_law_462 ?_
  refine Gd_iload_n (i := 3) rfl eL_law_463 ?_
  refine Gd_iconst ki_1 eL_law_464 ?_
  refine Gd_iaddN eL_law_465 ?_
  refine Gd_sldL (by omega) hL eL_law_466 ?_
  refine Gd_aload_n (i := 0) rfl eL_law_467 ?_
  refine Gd_iload_n (i := 3) rfl eL_law_468 ?_
  refine Gd_iconst ki_2 eL_law_469 ?_
  refine Gd_iaddN eL_law_470 ?_
  refine Gd_sldL (by omega) hL eL_law_471 ?_
  refine Gd_aload_n (i := 0) rfl eL_law_472 ?_
  refine Gd_iload_n (i := 3) rfl eL_law_473 ?_
  refine Gd_iconst ki_3 eL_law_474 ?_
  refine Gd_iaddN eL_law_475 ?_
  refine Gd_sldL (by omega) hL eL_law_476 ?_
  refine Gd_callEV (g_cV (x_hunter hW hA hP.1 _ _ _) ok_X7_hunter lk_RL_46 (W_s0 hW) ⟨_, _, rfl⟩ rfl rfl (Nat.le_of_ble_eq_true rfl) (Nat.le_of_ble_eq_true rfl) hk0 hn0 eL_law_477) (fun a1 hq1 => ?_)
  obtain ⟨hA1, hq1⟩ := hq1
  have c1 := chg_mono2 U_Hx hq1
  have hMA1 := MA_x xo_U hMA c1
  have hM1 := MQ_x xo_U hM c1
  refine Gd_aload_n (i := 2) rfl eL_law_480 ?_
  refine Gd_aload_n (i := 0) rfl eL_law_481 ?_
  refine Gd_iload_n (i := 3) rfl eL_law_482 ?_
  refine Gd_iconst ki_1 eL_law_483 ?_
  refine Gd_iaddN eL_law_484 ?_
  refine Gd_sldL (by omega) hL eL_law_485 ?_
  refine Gd_aload_n (i := 0) rfl eL_law_486 ?_
  refine Gd_iload_n (i := 3) rfl eL_law_487 ?_
  refine Gd_iconst ki_2 eL_law_488 ?_
  refine Gd_iaddN eL_law_489 ?_
  refine Gd_sldL (by omega) hL eL_law_490 ?_
  refine Gd_aload_n (i := 0) rfl eL_law_491 ?_
  refine Gd_iload_n (i := 3) rfl eL_law_492 ?_
  refine Gd_iconst ki_3 eL_law_493 ?_
  refine Gd_iaddN eL_law_494 ?_
  refine Gd_sldL (by omega) hL eL_law_495 ?_
  refine Gd_callEV (g_cV (m_hunter hW hMA1 hP.1 _ _ _) ok_X8_hunter lk_RL_49 (W_s50 hW) ⟨_, _, rfl⟩ rfl rfl (Nat.le_of_ble_eq_true rfl) (Nat.le_of_ble_eq_true rfl) hk0 hn0 eL_law_496) (fun a2 hq2 => ?_)
  obtain ⟨hMA2, hq2⟩ := hq2
  have c2 := chg_mono2 Z_H hq2
  refine Gd_icmp_eq eL_law_499 (fun _ => ?_) (fun c => absurd rfl c)
  exact hK _ _ _ _ _ _ (LS_F hLI hLW (SG_rHunter hP _ _ _) hX hM hA1 c1 hMA2 c2)
theorem L_friends (hL : L ≤ 3584) (hi : i + 7 ≤ L) (hS : RLs k n sh a r) (hK : RLk L xs Q i) : Gd YL_law (zL L xs Q) k n 504 (lcs i) [] (sh, a, r, g) := by
  obtain ⟨φ, nt, ts, cd, nb, tp, bk, ψ, so, sz, cl, hLI, hLW, hA, hMA, hX, hM⟩ := hS
  obtain ⟨hP, hTI, hTB, hSI, hBK⟩ := id hLI
  have hW := hLW.1
  have hk0 : k + 0 ≤ 600000 := LW_k hLW hTI
  have hn0 : n + 0 ≤ 7302250 := LW_n hLW hTI
  refine Gd_aload_n (i := 1) rfl eL_law_504 ?_
  refine Gd_aload_n (i := 0) rfl eL_law_505 ?_
  refine Gd_iload_n (i := 3) rfl eL_law_506 ?_
  refine Gd_iconst ki_1 eL_law_507 ?_
  refine Gd_iaddN eL_law_508 ?_
  refine Gd_sldL (by omega) hL eL_law_509 ?_
  refine Gd_aload_n (i := 0) rfl eL_law_510 ?_
  refine Gd_iload_n (i := 3) rfl eL_law_511 ?_
  refine Gd_iconst ki_2 eL_law_512 ?_
  refine Gd_iaddN eL_law_513 ?_
  refine Gd_sldL (by omega) hL eL_law_514 ?_
  refine Gd_aload_n (i := 0) rfl eL_law_515 ?_
  refine Gd_iload_n (i := 3) rfl eL_law_516 ?_
  refine Gd_iconst ki_3 eL_law_517 ?_
  refine Gd_iaddN eL_law_518 ?_
  refine Gd_sldL (by omega) hL eL_law_519 ?_
  refine Gd_callEV (g_cV (x_friends hW hA hP.1 _ _ _) ok_X7_friends lk_RL_50 (W_s0 hW) ⟨_, _, rfl⟩ rfl rfl (Nat.le_of_ble_eq_true rfl) (Nat.le_of_ble_eq_true rfl) hk0 hn0 eL_law_520) (fun a1 hq1 => ?_)
  obtain ⟨hA1, hq1⟩ := hq1
  have c1 := chg_mono2 U_s6 hq1
  have hMA1 := MA_x xo_U hMA c1
  have hM1 := MQ_x xo_U hM c1
  refine Gd_aload_n (i := 2) rfl eL_law_523 ?_
  refine Gd_aload_n (i := 0) rfl eL_law_524 ?_
  refine Gd_iload_n (i := 3) rfl eL_law_525 ?_
  refine Gd_iconst ki_1 eL_law_526 ?_
  refine Gd_iaddN eL_law_527 ?_
  refine Gd_sldL (by omega) hL eL_law_528 ?_
  refine Gd_aload_n (i := 0) rfl eL_law_529 ?_
  refine Gd_iload_n (i := 3) rfl eL_law_530 ?_
  refine Gd_iconst ki_2 eL_law_531 ?_
  refine Gd_iaddN eL_law_532 ?_
  refine Gd_sldL (by omega) hL eL_law_533 ?_
  refine Gd_aload_n (i := 0) rfl eL_law_534 ?_
  refine Gd_iload_n (i := 3) rfl eL_law_535 ?_
  refine Gd_iconst ki_3 eL_law_536 ?_
  refine Gd_iaddN eL_law_537 ?_
  refine Gd_sldL (by omega) hL eL_law_538 ?_
  refine Gd_callEV (g_cV (m_friends hW hMA1 hP.1 _ _ _) ok_X8_friends lk_RL_53 (W_s50 hW) ⟨_, _, rfl⟩ rfl rfl (Nat.le_of_ble_eq_true rfl) (Nat.le_of_ble_eq_true rfl) hk0 hn0 eL_law_539) (fun a2 hq2 => ?_)
  obtain ⟨hMA2, hq2⟩ := hq2
  have c2 := chg_mono2 Z_53 hq2
  refine Gd_icmp_eq eL_law_542 (fun _ => ?_) (fun c => absurd rfl c)
  exact hK _ _ _ _ _ _ (LS_F hLI hLW (SG_sFriends hP _ _ _) hX hM hA1 c1 hMA2 c2)
theorem L_put (hL : L ≤ 3584) (hi : i + 7 ≤ L) (hS : RLs k n sh a r) (hK : RLk L xs Q i) : Gd YL_law (zL L xs Q) k n 547 (lcs i) [] (sh, a, r, g) := by
  obtain ⟨φ, nt, ts, cd, nb, tp, bk, ψ, so, sz, cl, hLI, hLW, hA, hMA, hX, hM⟩ := hS
  obtain ⟨hP, hTI, hTB, hSI, hBK⟩ := id hLI
  have hW := hLW.1
  have hk0 : k + 0 ≤ 600000 := LW_k hLW hTI
  have hn0 : n + 0 ≤ 7302250 := LW_n hLW hTI
  refine Gd_aload_n (i := 1) rfl eL_law_547 ?_
  refine Gd_aload_n (i := 0) rfl eL_law_548 ?_
  refine Gd_iload_n (i := 3) rfl eL_law_549 ?_
  refine Gd_iconst ki_1 eL_law_550 ?_
  refine Gd_iaddN eL_law_551 ?_
  refine Gd_sldL (by omega) hL eL_law_552 ?_
  refine Gd_aload_n (i := 0) rfl eL_law_553 ?_
  refine Gd_iload_n (i := 3) rfl eL_law_554 ?_
  refine Gd_iconst ki_2 eL_law_555 ?_
  refine Gd_iaddN eL_law_556 ?_
  refine Gd_sldL (by omega) hL eL_law_557 ?_
  refine Gd_aload_n (i := 0) rfl eL_law_558 ?_
  refine Gd_iload_n (i := 3) rfl eL_law_559 ?_
  refine Gd_iconst ki_3 eL_law_560 ?_
  refine Gd_iaddN eL_law_561 ?_
  refine Gd_sldL (by omega) hL eL_law_562 ?_
  refine Gd_callEV (g_cV (x_put hW hA hP.1 _ _ _) ok_X7_put lk_RL_54 (W_s0 hW) ⟨_, _, rfl⟩ rfl rfl (Nat.le_of_ble_eq_true rfl) (Nat.le_of_ble_eq_true rfl) hk0 hn0 eL_law_563) (fun a1 hq1 => ?_)
  obtain ⟨hA1, hq1⟩ := hq1
  have c1 := chg_mono2 U_P hq1
  have hMA1 := MA_x xo_U hMA c1
  have hM1 := MQ_x xo_U hM c1
  refine Gd_aload_n (i := 2) rfl eL_law_566 ?_
  refine Gd_aload_n (i := 0) rfl eL_law_567 ?_
  refine Gd_iload_n (i := 3) rfl eL_law_568 ?_
  refine Gd_iconst ki_1 eL_law_569 ?_
  refine Gd_iaddN eL_law_570 ?_
  refine Gd_sldL (by omega) hL eL_law_571 ?_
  refine Gd_aload_n (i := 0) rfl eL_law_572 ?_
  refine Gd_iload_n (i := 3) rfl eL_law_573 ?_
  refine Gd_iconst ki_2 eL_law_574 ?_
  refine Gd_iaddN eL_law_575 ?_
  refine Gd_sldL (by omega) hL eL_law_576 ?_
  refine Gd_aload_n (i := 0) rfl eL_law_577 ?_
  refine Gd_iload_n (i := 3) rfl eL_law_578 ?_
  refine Gd_iconst ki_3 eL_law_579 ?_
  refine Gd_iaddN eL_law_580 ?_
  refine Gd_sldL (by omega) hL eL_law_581 ?_
  refine Gd_callEV (g_cV (m_put hW hMA1 hP.1 _ _ _) ok_X8_put lk_RL_57 (W_s50 hW) ⟨_, _, rfl⟩ rfl rfl (Nat.le_of_ble_eq_true rfl) (Nat.le_of_ble_eq_true rfl) hk0 hn0 eL_law_582) (fun a2 hq2 => ?_)
  obtain ⟨hMA2, hq2⟩ := hq2
  have c2 := chg_mono2 Z_53 hq2
  refine Gd_icmp_eq eL_law_585 (fun _ => ?_) (fun c => absurd rfl c)
  exact hK _ _ _ _ _ _ (LS_F hLI hLW (SG_rPut hP _ _ _) hX hM hA1 c1 hMA2 c2)
theorem L_told (hL : L ≤ 3584) (hi : i + 7 ≤ L) (hS : RLs k n sh a r) (hK : RLk L xs Q i) : Gd YL_law (zL L xs Q) k n 590 (lcs i) [] (sh, a, r, g) := by
  obtain ⟨φ, nt, ts, cd, nb, tp, bk, ψ, so, sz, cl, hLI, hLW, hA, hMA, hX, hM⟩ := hS
  obtain ⟨hP, hTI, hTB, hSI, hBK⟩ := id hLI
  have hW := hLW.1
  have hk0 : k + 0 ≤ 600000 := LW_k hLW hTI
  have hn0 : n + 0 ≤ 7302250 := LW_n hLW hTI
  refine Gd_aload_n (i := 1) rfl eL_law_590 ?_
  refine Gd_aload_n (i := 0) rfl eL_law_591 ?_
  refine Gd_iload_n (i := 3) rfl eL_law_592 ?_
  refine Gd_iconst ki_1 eL_law_593 ?_
  refine Gd_iaddN eL_law_594 ?_
  refine Gd_sldL (by omega) hL eL_law_595 ?_
  refine Gd_aload_n (i := 0) rfl eL_law_596 ?_
  refine Gd_iload_n (i := 3) rfl eL_law_597 ?_
  refine Gd_iconst ki_2 eL_law_598 ?_
  refine Gd_iaddN eL_law_599 ?_
  refine Gd_sldL (by omega) hL eL_law_600 ?_
  refine Gd_callEV (g_cV (x_told hW hA hP.1 hX.1 hTI hP.2.2.2.2 hP.2.1 _ _) ok_X7_told lk_RL_58 (W_s0 hW) ⟨_, _, rfl⟩ rfl rfl (Nat.le_of_ble_eq_true rfl) (Nat.le_of_ble_eq_true rfl) hk0 hn0 eL_law_601) (fun a1 hq1 => ?_)
  have c1 := chg_mono2 U_V hq1
  have hA1 := FA_s hA hq1 s_V
  have hMA1 := MA_x xo_U hMA c1
  have hM1 := MQ_x xo_U hM c1
  refine Gd_aload_n (i := 2) rfl eL_law_604 ?_
  refine Gd_aload_n (i := 0) rfl eL_law_605 ?_
  refine Gd_iload_n (i := 3) rfl eL_law_606 ?_
  refine Gd_iconst ki_1 eL_law_607 ?_
  refine Gd_iaddN eL_law_608 ?_
  refine Gd_sldL (by omega) hL eL_law_609 ?_
  refine Gd_aload_n (i := 0) rfl eL_law_610 ?_
  refine Gd_iload_n (i := 3) rfl eL_law_611 ?_
  refine Gd_iconst ki_2 eL_law_612 ?_
  refine Gd_iaddN eL_law_613 ?_
  refine Gd_sldL (by omega) hL eL_law_614 ?_
  refine Gd_callEV (g_cV (m_told hW hMA1 hP.1 hM1.1 hTI hP.2.2.2.2 hP.2.1 _ _) ok_X8_told lk_RL_61 (W_s50 hW) ⟨_, _, rfl⟩ rfl rfl (Nat.le_of_ble_eq_true rfl) (Nat.le_of_ble_eq_true rfl) hk0 hn0 eL_law_615) (fun a2 hq2 => ?_)
  have c2 := chg_mono2 Z_W hq2
  have hMA2 := MA_sW hMA1 hq2
  refine Gd_icmp_eq eL_law_618 (fun _ => ?_) (fun c => absurd rfl c)
  exact hK _ _ _ _ _ _ (LS_F hLI hLW (SG_rf hP) hX hM hA1 c1 hMA2 c2)
theorem L_hits (hL : L ≤ 3584) (hi : i + 7 ≤ L) (hS : RLs k n sh a r) (hK : RLk L xs Q i) : Gd YL_law (zL L xs Q) k n 623 (lcs i) [] (sh, a, r, g) := by
  obtain ⟨φ, nt, ts, cd, nb, tp, bk, ψ, so, sz, cl, hLI, hLW, hA, hMA, hX, hM⟩ := hS
  obtain ⟨hP, hTI, hTB, hSI, hBK⟩ := id hLI
  have hW := hLW.1
  have hk0 : k + 0 ≤ 600000 := LW_k hLW hTI
  have hn0 : n + 0 ≤ 7302250 := LW_n hLW hTI
  refine Gd_aload_n (i := 1) rfl eL_law_623 ?_
  refine Gd_aload_n (i := 0) rfl eL_law_624 ?_
  refine Gd_iload_n (i := 3) rfl eL_law_625 ?_
  refine Gd_iconst ki_1 eL_law_626 ?_
  refine Gd_iaddN eL_law_627 ?_
  refine Gd_sldL (by omega) hL eL_law_628 ?_
  refine Gd_aload_n (i := 0) rfl eL_law_629 ?_
  refine Gd_iload_n (i := 3) rfl eL_law_630 ?_
  refine Gd_iconst ki_2 eL_law_631 ?_
  refine Gd_iaddN eL_law_632 ?_
  refine Gd_sldL (by omega) hL eL_law_633 ?_
  refine Gd_callEV (g_cV (x_hits hW hA hP.1 hX.1 hTI hP.2.2.2.2 _ _) ok_X7_hits lk_RL_62 (W_s0 hW) ⟨_, _, rfl⟩ rfl rfl (Nat.le_of_ble_eq_true rfl) (Nat.le_of_ble_eq_true rfl) hk0 hn0 eL_law_634) (fun a1 hq1 => ?_)
  have c1 := chg_mono2 U_R hq1
  have hA1 := FA_s hA hq1 s_R
  have hMA1 := MA_x xo_U hMA c1
  have hM1 := MQ_x xo_U hM c1
  refine Gd_aload_n (i := 2) rfl eL_law_637 ?_
  refine Gd_aload_n (i := 0) rfl eL_law_638 ?_
  refine Gd_iload_n (i := 3) rfl eL_law_639 ?_
  refine Gd_iconst ki_1 eL_law_640 ?_
  refine Gd_iaddN eL_law_641 ?_
  refine Gd_sldL (by omega) hL eL_law_642 ?_
  refine Gd_aload_n (i := 0) rfl eL_law_643 ?_
  refine Gd_iload_n (i := 3) rfl eL_law_644 ?_
  refine Gd_iconst ki_2 eL_law_645 ?_
  refine Gd_iaddN eL_law_646 ?_
  refine Gd_sldL (by omega) hL eL_law_647 ?_
  refine Gd_callEV (g_cV (m_hits hW hMA1 hP.1 hM1.1 hTI hP.2.2.2.2 _ _) ok_X8_hits lk_RL_65 (W_s50 hW) ⟨_, _, rfl⟩ rfl rfl (Nat.le_of_ble_eq_true rfl) (Nat.le_of_ble_eq_true rfl) hk0 hn0 eL_law_648) (fun a2 hq2 => ?_)
  have c2 := chg_mono2 Z_M hq2
  have hMA2 := MA_sM hMA1 hq2
  refine Gd_icmp_eq eL_law_651 (fun _ => ?_) (fun c => absurd rfl c)
  exact hK _ _ _ _ _ _ (LS_F hLI hLW (SG_rf hP) hX hM hA1 c1 hMA2 c2)
theorem L_meet (hL : L ≤ 3584) (hi : i + 7 ≤ L) (hS : RLs k n sh a r) (hK : RLk L xs Q i) : Gd YL_law (zL L xs Q) k n 656 (lcs i) [] (sh, a, r, g) := by
  obtain ⟨φ, nt, ts, cd, nb, tp, bk, ψ, so, sz, cl, hLI, hLW, hA, hMA, hX, hM⟩ := hS
  obtain ⟨hP, hTI, hTB, hSI, hBK⟩ := id hLI
  have hW := hLW.1
  have hk0 : k + 0 ≤ 600000 := LW_k hLW hTI
  have hn0 : n + 0 ≤ 7302250 := LW_n hLW hTI
  refine Gd_aload_n (i := 1) rfl eL_law_656 ?_
  refine Gd_aload_n (i := 0) rfl eL_law_657 ?_
  refine Gd_iload_n (i := 3) rfl eL_law_658 ?_
  refine Gd_iconst ki_1 eL_law_659 ?_
  refine Gd_iaddN eL_law_660 ?_
  refine Gd_sldL (by omega) hL eL_law_661 ?_
  refine Gd_aload_n (i := 0) rfl eL_law_662 ?_
  refine Gd_iload_n (i := 3) rfl eL_law_663 ?_
  refine Gd_iconst ki_2 eL_law_664 ?_
  refine Gd_iaddN eL_law_665 ?_
  refine Gd_sldL (by omega) hL eL_law_666 ?_
  refine Gd_aload_n (i := 0) rfl eL_law_667 ?_
  refine Gd_iload_n (i := 3) rfl eL_law_668 ?_
  refine Gd_iconst ki_3 eL_law_669 ?_
  refine Gd_iaddN eL_law_670 ?_
  refine Gd_sldL (by omega) hL eL_law_671 ?_
  refine Gd_callEV (g_cV (x_meet hW hA hP.1 hX.1 hTI hP.2.2.2.2 _ _ _) ok_X7_meet lk_RL_66 (W_s0 hW) ⟨_, _, rfl⟩ rfl rfl (Nat.le_of_ble_eq_true rfl) (Nat.le_of_ble_eq_true rfl) hk0 hn0 eL_law_672) (fun a1 hq1 => ?_)
  obtain ⟨hA1, hq1⟩ := hq1
  have c1 := chg_mono2 U_U hq1
  have hMA1 := MA_x xo_U hMA c1
  have hM1 := MQ_x xo_U hM c1
  refine Gd_aload_n (i := 2) rfl eL_law_675 ?_
  refine Gd_aload_n (i := 0) rfl eL_law_676 ?_
  refine Gd_iload_n (i := 3) rfl eL_law_677 ?_
  refine Gd_iconst ki_1 eL_law_678 ?_
  refine Gd_iaddN eL_law_679 ?_
  refine Gd_sldL (by omega) hL eL_law_680 ?_
  refine Gd_aload_n (i := 0) rfl eL_law_681 ?_
  refine Gd_iload_n (i := 3) rfl eL_law_682 ?_
  refine Gd_iconst ki_2 eL_law_683 ?_
  refine Gd_iaddN eL_law_684 ?_
  refine Gd_sldL (by omega) hL eL_law_685 ?_
  refine Gd_aload_n (i := 0) rfl eL_law_686 ?_
  refine Gd_iload_n (i := 3) rfl eL_law_687 ?_
  refine Gd_iconst ki_3 eL_law_688 ?_
  refine Gd_iaddN eL_law_689 ?_
  refine Gd_sldL (by omega) hL eL_law_690 ?_
  refine Gd_callEV (g_cV (m_meet hW hMA1 hP.1 hM1.1 hTI hP.2.2.2.2 _ _ _) ok_X8_meet lk_RL_69 (W_s50 hW) ⟨_, _, rfl⟩ rfl rfl (Nat.le_of_ble_eq_true rfl) (Nat.le_of_ble_eq_true rfl) hk0 hn0 eL_law_691) (fun a2 hq2 => ?_)
  obtain ⟨hMA2, hq2⟩ := hq2
  have c2 := chg_mono2 Z_S hq2
  refine Gd_icmp_eq eL_law_694 (fun _ => ?_) (fun c => absurd rfl c)
  exact hK _ _ _ _ _ _ (LS_F hLI hLW (SG_rMeet hP _ _ _) hX hM hA1 c1 hMA2 c2)
theorem L_present (hL : L ≤ 3584) (hi : i + 7 ≤ L) (hS : RLs k n sh a r) (hK : RLk L xs Q i) : Gd YL_law (zL L xs Q) k n 699 (lcs i) [] (sh, a, r, g) := by
  obtain ⟨φ, nt, ts, cd, nb, tp, bk, ψ, so, sz, cl, hLI, hLW, hA, hMA, hX, hM⟩ := hS
  obtain ⟨hP, hTI, hTB, hSI, hBK⟩ := id hLI
  have hW := hLW.1
  have hk0 : k + 0 ≤ 600000 := LW_k hLW hTI
  have hn0 : n + 0 ≤ 7302250 := LW_n hLW hTI
  refine Gd_aload_n (i := 1) rfl eL_law_699 ?_
  refine Gd_aload_n (i := 0) rfl eL_law_700 ?_
  refine Gd_iload_n (i := 3) rfl eL_law_701 ?_
  refine Gd_iconst ki_1 eL_law_702 ?_
  refine Gd_iaddN eL_law_703 ?_
  refine Gd_sldL (by omega) hL eL_law_704 ?_
  refine Gd_aload_n (i := 0) rfl eL_law_705 ?_
  refine Gd_iload_n (i := 3) rfl eL_law_706 ?_
  refine Gd_iconst ki_2 eL_law_707 ?_
  refine Gd_iaddN eL_law_708 ?_
  refine Gd_sldL (by omega) hL eL_law_709 ?_
  refine Gd_aload_n (i := 0) rfl eL_law_710 ?_
  refine Gd_iload_n (i := 3) rfl eL_law_711 ?_
  refine Gd_iconst ki_3 eL_law_712 ?_
  refine Gd_iaddN eL_law_713 ?_
  refine Gd_sldL (by omega) hL eL_law_714 ?_
  refine Gd_callEV (g_cV (x_present hW hA hP.1 hX.1 hTI hP.2.2.2.2 _ _ _) ok_X7_present lk_RL_70 (W_s0 hW) ⟨_, _, rfl⟩ rfl rfl (Nat.le_of_ble_eq_true rfl) (Nat.le_of_ble_eq_true rfl) hk0 hn0 eL_law_715) (fun a1 hq1 => ?_)
  obtain ⟨hA1, hq1⟩ := hq1
  have c1 := chg_mono2 U_U hq1
  have hMA1 := MA_x xo_U hMA c1
  have hM1 := MQ_x xo_U hM c1
  refine Gd_aload_n (i := 2) rfl eL_law_718 ?_
  refine Gd_aload_n (i := 0) rfl eL_law_719 ?_
  refine Gd_iload_n (i := 3) rfl eL_law_720 ?_
  refine Gd_iconst ki_1 eL_law_721 ?_
  refine Gd_iaddN eL_law_722 ?_
  refine Gd_sldL (by omega) hL eL_law_723 ?_
  refine Gd_aload_n (i := 0) rfl eL_law_724 ?_
  refine Gd_iload_n (i := 3) rfl eL_law_725 ?_
  refine Gd_iconst ki_2 eL_law_726 ?_
  refine Gd_iaddN eL_law_727 ?_
  refine Gd_sldL (by omega) hL eL_law_728 ?_
  refine Gd_aload_n (i := 0) rfl eL_law_729 ?_
  refine Gd_iload_n (i := 3) rfl eL_law_730 ?_
  refine Gd_iconst ki_3 eL_law_731 ?_
  refine Gd_iaddN eL_law_732 ?_
  refine Gd_sldL (by omega) hL eL_law_733 ?_
  refine Gd_callEV (g_cV (m_present hW hMA1 hP.1 hM1.1 hTI hP.2.2.2.2 _ _ _) ok_X8_present lk_RL_73 (W_s50 hW) ⟨_, _, rfl⟩ rfl rfl (Nat.le_of_ble_eq_true rfl) (Nat.le_of_ble_eq_true rfl) hk0 hn0 eL_law_734) (fun a2 hq2 => ?_)
  obtain ⟨hMA2, hq2⟩ := hq2
  have c2 := chg_mono2 Z_S hq2
  refine Gd_icmp_eq eL_law_737 (fun _ => ?_) (fun c => absurd rfl c)
  exact hK _ _ _ _ _ _ (LS_F hLI hLW (SG_rPresent hP _ _ _) hX hM hA1 c1 hMA2 c2)
theorem L_circle (hL : L ≤ 3584) (hi : i + 7 ≤ L) (hS : RLs k n sh a r) (hK : RLk L xs Q i) : Gd YL_law (zL L xs Q) k n 742 (lcs i) [] (sh, a, r, g) := by
  obtain ⟨φ, nt, ts, cd, nb, tp, bk, ψ, so, sz, cl, hLI, hLW, hA, hMA, hX, hM⟩ := hS
  obtain ⟨hP, hTI, hTB, hSI, hBK⟩ := id hLI
  have hW := hLW.1
  have hk0 : k + 0 ≤ 600000 := LW_k hLW hTI
  have hn0 : n + 0 ≤ 7302250 := LW_n hLW hTI
  refine Gd_aload_n (i := 1) rfl eL_law_742 ?_
  refine Gd_aload_n (i := 0) rfl eL_law_743 ?_
  refine Gd_iload_n (i := 3) rfl eL_law_744 ?_
  refine Gd_iconst ki_1 eL_law_745 ?_
  refine Gd_iaddN eL_law_746 ?_
  refine Gd_sldL (by omega) hL eL_law_747 ?_
  refine Gd_aload_n (i := 0) rfl eL_law_748 ?_
  refine Gd_iload_n (i := 3) rfl eL_law_749 ?_
  refine Gd_iconst ki_2 eL_law_750 ?_
  refine Gd_iaddN eL_law_751 ?_
  refine Gd_sldL (by omega) hL eL_law_752 ?_
  refine Gd_callEV (g_cV (x_circle hW hA hP.1 hX.1 hTI hP.2.2.2.2 hP.2.1 _ _) ok_X7_circle lk_RL_74 (W_s0 hW) ⟨_, _, rfl⟩ rfl rfl (Nat.le_of_ble_eq_true rfl) (Nat.le_of_ble_eq_true rfl) hk0 hn0 eL_law_753) (fun a1 hq1 => ?_)
  have c1 := chg_mono2 U_V hq1
  have hA1 := FA_s hA hq1 s_V
  have hMA1 := MA_x xo_U hMA c1
  have hM1 := MQ_x xo_U hM c1
  refine Gd_aload_n (i := 2) rfl eL_law_756 ?_
  refine Gd_aload_n (i := 0) rfl eL_law_757 ?_
  refine Gd_iload_n (i := 3) rfl eL_law_758 ?_
  refine Gd_iconst ki_1 eL_law_759 ?_
  refine Gd_iaddN eL_law_760 ?_
  refine Gd_sldL (by omega) hL eL_law_761 ?_
  refine Gd_aload_n (i := 0) rfl eL_law_762 ?_
  refine Gd_iload_n (i := 3) rfl eL_law_763 ?_
  refine Gd_iconst ki_2 eL_law_764 ?_
  refine Gd_iaddN eL_law_765 ?_
  refine Gd_sldL (by omega) hL eL_law_766 ?_
  refine Gd_callEV (g_cV (m_circle hW hMA1 hP.1 hM1.1 hTI hP.2.2.2.2 hP.2.1 _ _) ok_X8_circle lk_RL_77 (W_s50 hW) ⟨_, _, rfl⟩ rfl rfl (Nat.le_of_ble_eq_true rfl) (Nat.le_of_ble_eq_true rfl) hk0 hn0 eL_law_767) (fun a2 hq2 => ?_)
  have c2 := chg_mono2 Z_W hq2
  have hMA2 := MA_sW hMA1 hq2
  refine Gd_icmp_eq eL_law_770 (fun _ => ?_) (fun c => absurd rfl c)
  exact hK _ _ _ _ _ _ (LS_F hLI hLW (SG_rf hP) hX hM hA1 c1 hMA2 c2)
theorem L_way (hL : L ≤ 3584) (hi : i + 7 ≤ L) (hS : RLs k n sh a r) (hK : RLk L xs Q i) : Gd YL_law (zL L xs Q) k n 775 (lcs i) [] (sh, a, r, g) := by
  obtain ⟨φ, nt, ts, cd, nb, tp, bk, ψ, so, sz, cl, hLI, hLW, hA, hMA, hX, hM⟩ := hS
  obtain ⟨hP, hTI, hTB, hSI, hBK⟩ := id hLI
  have hW := hLW.1
  have hk0 : k + 0 ≤ 600000 := LW_k hLW hTI
  have hn0 : n + 0 ≤ 7302250 := LW_n hLW hTI
  refine Gd_aload_n (i := 1) rfl eL_law_775 ?_
  refine Gd_aload_n (i := 0) rfl eL_law_776 ?_
  refine Gd_iload_n (i := 3) rfl eL_law_777 ?_
  refine Gd_iconst ki_1 eL_law_778 ?_
  refine Gd_iaddN eL_law_779 ?_
  refine Gd_sldL (by omega) hL eL_law_780 ?_
  refine Gd_aload_n (i := 0) rfl eL_law_781 ?_
  refine Gd_iload_n (i := 3) rfl eL_law_782 ?_
  refine Gd_iconst ki_2 eL_law_783 ?_
  refine Gd_iaddN eL_law_784 ?_
  refine Gd_sldL (by omega) hL eL_law_785 ?_
  refine Gd_aload_n (i := 0) rfl eL_law_786 ?_
  refine Gd_iload_n (i := 3) rfl eL_law_787 ?_
  refine Gd_iconst ki_3 eL_law_788 ?_
  refine Gd_iaddN eL_law_789 ?_
  refine Gd_sldL (by omega) hL eL_law_790 ?_
  refine Gd_callEV (g_cV (x_way hW hA hP.1 hX.1 hTI hP.2.2.2.2 hP.2.1 _ _ _) ok_X7_way lk_RL_78 (W_s0 hW) ⟨_, _, rfl⟩ rfl rfl (Nat.le_of_ble_eq_true rfl) (Nat.le_of_ble_eq_true rfl) hk0 hn0 eL_law_791) (fun a1 hq1 => ?_)
  have c1 := chg_mono2 U_V hq1
  have hA1 := FA_s hA hq1 s_V
  have hMA1 := MA_x xo_U hMA c1
  have hM1 := MQ_x xo_U hM c1
  refine Gd_aload_n (i := 2) rfl eL_law_794 ?_
  refine Gd_aload_n (i := 0) rfl eL_law_795 ?_
  refine Gd_iload_n (i := 3) rfl eL_law_796 ?_
  refine Gd_iconst ki_1 eL_law_797 ?_
  refine Gd_iaddN eL_law_798 ?_
  refine Gd_sldL (by omega) hL eL_law_799 ?_
  refine Gd_aload_n (i := 0) rfl eL_law_800 ?_
  refine Gd_iload_n (i := 3) rfl eL_law_801 ?_
  refine Gd_iconst ki_2 eL_law_802 ?_
  refine Gd_iaddN eL_law_803 ?_
  refine Gd_sldL (by omega) hL eL_law_804 ?_
  refine Gd_aload_n (i := 0) rfl eL_law_805 ?_
  refine Gd_iload_n (i := 3) rfl eL_law_806 ?_
  refine Gd_iconst ki_3 eL_law_807 ?_
  refine Gd_iaddN eL_law_808 ?_
  refine Gd_sldL (by omega) hL eL_law_809 ?_
  refine Gd_callEV (g_cV (m_way hW hMA1 hP.1 hM1.1 hTI hP.2.2.2.2 hP.2.1 _ _ _) ok_X8_way lk_RL_81 (W_s50 hW) ⟨_, _, rfl⟩ rfl rfl (Nat.le_of_ble_eq_true rfl) (Nat.le_of_ble_eq_true rfl) hk0 hn0 eL_law_810) (fun a2 hq2 => ?_)
  have c2 := chg_mono2 Z_W hq2
  have hMA2 := MA_sW hMA1 hq2
  refine Gd_icmp_eq eL_law_813 (fun _ => ?_) (fun c => absurd rfl c)
  exact hK _ _ _ _ _ _ (LS_F hLI hLW (SG_rf hP) hX hM hA1 c1 hMA2 c2)
theorem L_shoot (hL : L ≤ 3584) (hi : i + 7 ≤ L) (hS : RLs k n sh a r) (hK : RLk L xs Q i) : Gd YL_law (zL L xs Q) k n 818 (lcs i) [] (sh, a, r, g) := by
  obtain ⟨φ, nt, ts, cd, nb, tp, bk, ψ, so, sz, cl, hLI, hLW, hA, hMA, hX, hM⟩ := hS
  obtain ⟨hP, hTI, hTB, hSI, hBK⟩ := id hLI
  have hW := hLW.1
  have hk0 : k + 0 ≤ 600000 := LW_k hLW hTI
  have hn0 : n + 0 ≤ 7302250 := LW_n hLW hTI
  refine Gd_aload_n (i := 1) rfl eL_law_818 ?_
  refine Gd_aload_n (i := 0) rfl eL_law_819 ?_
  refine Gd_iload_n (i := 3) rfl eL_law_820 ?_
  refine Gd_iconst ki_1 eL_law_821 ?_
  refine Gd_iaddN eL_law_822 ?_
  refine Gd_sldL (by omega) hL eL_law_823 ?_
  refine Gd_aload_n (i := 0) rfl eL_law_824 ?_
  refine Gd_iload_n (i := 3) rfl eL_law_825 ?_
  refine Gd_iconst ki_2 eL_law_826 ?_
  refine Gd_iaddN eL_law_827 ?_
  refine Gd_sldL (by omega) hL eL_law_828 ?_
  refine Gd_callEV (g_cV (x_shoot hW hA hP.1 hX.1 hTI hP.2.2.2.2 _ _) ok_X7_shoot lk_RL_82 (W_s0 hW) ⟨_, _, rfl⟩ rfl rfl (Nat.le_of_ble_eq_true rfl) (Nat.le_of_ble_eq_true rfl) hk0 hn0 eL_law_829) (fun a1 hq1 => ?_)
  obtain ⟨hA1, hq1⟩ := hq1
  have c1 := chg_mono2 U_T hq1
  have hMA1 := MA_x xo_U hMA c1
  have hM1 := MQ_x xo_U hM c1
  refine Gd_aload_n (i := 2) rfl eL_law_832 ?_
  refine Gd_aload_n (i := 0) rfl eL_law_833 ?_
  refine Gd_iload_n (i := 3) rfl eL_law_834 ?_
  refine Gd_iconst ki_1 eL_law_835 ?_
  refine Gd_iaddN eL_law_836 ?_
  refine Gd_sldL (by omega) hL eL_law_837 ?_
  refine Gd_aload_n (i := 0) rfl eL_law_838 ?_
  refine Gd_iload_n (i := 3) rfl eL_law_839 ?_
  refine Gd_iconst ki_2 eL_law_840 ?_
  refine Gd_iaddN eL_law_841 ?_
  refine Gd_sldL (by omega) hL eL_law_842 ?_
  refine Gd_callEV (g_cV (m_shoot hW hMA1 hP.1 hM1.1 hTI hP.2.2.2.2 _ _) ok_X8_shoot lk_RL_85 (W_s50 hW) ⟨_, _, rfl⟩ rfl rfl (Nat.le_of_ble_eq_true rfl) (Nat.le_of_ble_eq_true rfl) hk0 hn0 eL_law_843) (fun a2 hq2 => ?_)
  obtain ⟨hMA2, hq2⟩ := hq2
  have c2 := chg_mono2 Z_S hq2
  refine Gd_icmp_eq eL_law_846 (fun _ => ?_) (fun c => absurd rfl c)
  exact hK _ _ _ _ _ _ (LS_F hLI hLW (SG_sShoot hP _ _) hX hM hA1 c1 hMA2 c2)
theorem L_aims (hL : L ≤ 3584) (hi : i + 7 ≤ L) (hS : RLs k n sh a r) (hK : RLk L xs Q i) : Gd YL_law (zL L xs Q) k n 851 (lcs i) [] (sh, a, r, g) := by
  obtain ⟨φ, nt, ts, cd, nb, tp, bk, ψ, so, sz, cl, hLI, hLW, hA, hMA, hX, hM⟩ := hS
  obtain ⟨hP, hTI, hTB, hSI, hBK⟩ := id hLI
  have hW := hLW.1
  have hk0 : k + 0 ≤ 600000 := LW_k hLW hTI
  have hn0 : n + 0 ≤ 7302250 := LW_n hLW hTI
  refine Gd_aload_n (i := 1) rfl eL_law_851 ?_
  refine Gd_aload_n (i := 0) rfl eL_law_852 ?_
  refine Gd_iload_n (i := 3) rfl eL_law_853 ?_
  refine Gd_iconst ki_1 eL_law_854 ?_
  refine Gd_iaddN eL_law_855 ?_
  refine Gd_sldL (by omega) hL eL_law_856 ?_
  refine Gd_aload_n (i := 0) rfl eL_law_857 ?_
  refine Gd_iload_n (i := 3) rfl eL_law_858 ?_
  refine Gd_iconst ki_2 eL_law_859 ?_
  refine Gd_iaddN eL_law_860 ?_
  refine Gd_sldL (by omega) hL eL_law_861 ?_
  refine Gd_callEV (g_cV (x_aims hW hA hP.1 hX.1 hTI hP.2.2.2.2 _ _) ok_X7_aims lk_RL_86 (W_s0 hW) ⟨_, _, rfl⟩ rfl rfl (Nat.le_of_ble_eq_true rfl) (Nat.le_of_ble_eq_true rfl) hk0 hn0 eL_law_862) (fun a1 hq1 => ?_)
  have c1 := chg_mono2 U_R hq1
  have hA1 := FA_s hA hq1 s_R
  have hMA1 := MA_x xo_U hMA c1
  have hM1 := MQ_x xo_U hM c1
  refine Gd_aload_n (i := 2) rfl eL_law_865 ?_
  refine Gd_aload_n (i := 0) rfl eL_law_866 ?_
  refine Gd_iload_n (i := 3) rfl eL_law_867 ?_
  refine Gd_iconst ki_1 eL_law_868 ?_
  refine Gd_iaddN eL_law_869 ?_
  refine Gd_sldL (by omega) hL eL_law_870 ?_
  refine Gd_aload_n (i := 0) rfl eL_law_871 ?_
  refine Gd_iload_n (i := 3) rfl eL_law_872 ?_
  refine Gd_iconst ki_2 eL_law_873 ?_
  refine Gd_iaddN eL_law_874 ?_
  refine Gd_sldL (by omega) hL eL_law_875 ?_
  refine Gd_callEV (g_cV (m_aims hW hMA1 hP.1 hM1.1 hTI hP.2.2.2.2 _ _) ok_X8_aims lk_RL_89 (W_s50 hW) ⟨_, _, rfl⟩ rfl rfl (Nat.le_of_ble_eq_true rfl) (Nat.le_of_ble_eq_true rfl) hk0 hn0 eL_law_876) (fun a2 hq2 => ?_)
  have c2 := chg_mono2 Z_M hq2
  have hMA2 := MA_sM hMA1 hq2
  refine Gd_icmp_eq eL_law_879 (fun _ => ?_) (fun c => absurd rfl c)
  exact hK _ _ _ _ _ _ (LS_F hLI hLW (SG_rf hP) hX hM hA1 c1 hMA2 c2)
end LAW
