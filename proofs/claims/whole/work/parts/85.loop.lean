-- the first text is without a fault
theorem tp0_M : bs tp0 35 9 = 35 ∧ ∀ j, j < 9 → bs tp0 35 j < 35 := by decide +kernel
theorem tp0_G : (rdF (tqf tp0 35) (bs tp0 35) 9 36).2.1 = 0 ∧ (rdF (tqf tp0 35) (bs tp0 35) 9 36).2.2.1 = 3 := by decide +kernel
section T1
variable {T : Nat → Nat} {tq pl : Nat → Nat} {M d : Nat} {G : g_Ps}
theorem TI_1 (htM : tq M = 0) (hM : M ≤ 160) (htq : ∀ k, tq k < 10106) (hd : 36 ≤ d) (hG : rdF tq pl M d = G) (hT : rdT tq pl M d = T) (hf : G.2.1 = 0) : TI 1 (fun _ => T) (fun _ => G.2.2.2) ∧ T 3 = G.2.2.1 := by
  have h0 : (rdA tq pl M d 3).2.1 = 0 := by
    rcases Nat.eq_zero_or_pos (rdA tq pl M d 3).2.1 with q | q
    · exact q
    · rw [← hG, rdF, pex_f (by decide) (by omega)] at hf; omega
  obtain ⟨k, n, c, e, hk, hn, ho⟩ := rdA_ok (pl := pl) htM hM htq hd 3 h0
  have e2 : G.2.2 = (n, c) := by rw [← hG, rdF, pex_n, e]
  have eT : ∀ p, p ≤ 3 → T p = (rdA tq pl M d p).2.2.1 := fun p hp => by rw [← hT, rdT_n hp]
  have e3 : (rdA tq pl M d 3).2.2.1 = n := by rw [e]
  refine ⟨⟨by omega, by omega, fun t ht => ⟨⟨?_, ?_, ?_, ?_⟩, fun q hq => ?_⟩⟩, by rw [eT 3 (Nat.le_refl _), e3, e2]⟩
  · show T 0 ≤ T 1; rw [eT 0 (by omega), eT 1 (by omega)]; exact (ho 0 (by omega)).1
  · show T 1 ≤ T 2; rw [eT 1 (by omega), eT 2 (by omega)]; exact (ho 1 (by omega)).1
  · show T 2 ≤ T 3; rw [eT 2 (by omega), eT 3 (by omega)]; exact (ho 2 (by omega)).1
  · show T 3 ≤ 160; rw [eT 3 (by omega), e3]; omega
  · show wfc G.2.2.2 (T q) (T (q + 1) - T q); rw [eT q (by omega), eT (q + 1) (by omega), e2]; exact (ho q hq).2.2
end T1
theorem PH_0 : PH 1 φ0 := ⟨⟨by decide, by decide, by decide, by decide, fun d _ => by show 0 ≤ 99; decide, fun d _ => by show 0 < 6; decide, fun d _ => by show 0 < 10; decide, fun d _ => by show 0 ≤ 99; decide, fun d _ => by show 0 < 64; decide, fun d _ => by show 0 < 1024; decide, fun d _ => by show 0 < 4294967296; decide⟩, fun p _ => Nat.zero_testBit _, fun p q _ _ => (Nat.zero_testBit _).trans (Nat.zero_testBit _).symm, fun p q _ _ h => absurd ((Nat.zero_testBit _).symm.trans h) (by decide), by decide⟩
-- the loop
section LAW
variable {L : Nat} {xs : Nat → Int32} {Q : Option g_V → g_H → Prop} {i k n : Nat} {sh : List (Nat × Nat)} {a : Nat → Nat → Int32} {r : Nat → Nat → Option Nat} {g : Nat → Nat → Int64}
theorem nI_inc7 (i : Nat) : nI i + Int32.ofInt 7 = nI (i + 7) := by rw [show Int32.ofInt 7 = nI 7 by decide]; exact nI_add i 7
theorem lt7 : ∀ l, l < 7 → nI l - nI 7 < nI 0 := by decide
theorem L_exit (hQ : ∀ h, Q (some (vi 1)) h) (hS : RLs k n sh a r) {x3 : Option g_V} : Gd YL_law (zL L xs Q) k n 1738 [some (vc 300), some (vr 0), some (vr 50), x3] [] (sh, a, r, g) := by
  obtain ⟨φ, nt, ts, cd, nb, tp, bk, ψ, so, sz, cl, hLI, hLW, _⟩ := hS
  refine Gd_iconst ki_1 eL_law_1738 ?_
  exact Gd_zreturn eL_law_1739 rfl (by decide) (LW_k hLW hLI.2.1) (LW_n hLW hLI.2.1) (hQ _)
theorem L_sw (hL : L ≤ 3584) (hi : i + 7 ≤ L) (hS : RLs k n sh a r) (hK : RLk L xs Q i) (x : Int32) : Gd YL_law (zL L xs Q) k n 33 (lcs i) [vi x] (sh, a, r, g) := by
  rcases swN 39 (by decide) x with ⟨j, hj, rfl⟩ | ho
  · rcases (by omega : j = 0 ∨ j = 1 ∨ j = 2 ∨ j = 3 ∨ j = 4 ∨ j = 5 ∨ j = 6 ∨ j = 7 ∨ j = 8 ∨ j = 9 ∨ j = 10 ∨ j = 11 ∨ j = 12 ∨ j = 13 ∨ j = 14 ∨ j = 15 ∨ j = 16 ∨ j = 17 ∨ j = 18 ∨ j = 19 ∨ j = 20 ∨ j = 21 ∨ j = 22 ∨ j = 23 ∨ j = 24 ∨ j = 25 ∨ j = 26 ∨ j = 27 ∨ j = 28 ∨ j = 29 ∨ j = 30 ∨ j = 31 ∨ j = 32 ∨ j = 33 ∨ j = 34 ∨ j = 35 ∨ j = 36 ∨ j = 37 ∨ j = 38 ∨ j = 39) with rfl | rfl | rfl | rfl | rfl | rfl | rfl | rfl | rfl | rfl | rfl | rfl | rfl | rfl | rfl | rfl | rfl | rfl | rfl | rfl | rfl | rfl | rfl | rfl | rfl | rfl | rfl | rfl | rfl | rfl | rfl | rfl | rfl | rfl | rfl | rfl | rfl | rfl | rfl | rfl
    · exact Gd_tabIn (off := 175) (tgt := 208) eL_law_33 (by decide) (by decide) (by decide +kernel) (by decide) (L_count hL hi hS hK)
    · exact Gd_tabIn (off := 198) (tgt := 231) eL_law_33 (by decide) (by decide) (by decide +kernel) (by decide) (L_forest hL hi hS hK)
    · exact Gd_tabIn (off := 241) (tgt := 274) eL_law_33 (by decide) (by decide) (by decide +kernel) (by decide) (L_deer hL hi hS hK)
    · exact Gd_tabIn (off := 274) (tgt := 307) eL_law_33 (by decide) (by decide) (by decide +kernel) (by decide) (L_feed hL hi hS hK)
    · exact Gd_tabIn (off := 349) (tgt := 382) eL_law_33 (by decide) (by decide) (by decide +kernel) (by decide) (L_text hS hK)
    · exact Gd_tabIn (off := 362) (tgt := 395) eL_law_33 (by decide) (by decide) (by decide +kernel) (by decide) (L_force hL hi hS hK)
    · exact Gd_tabIn (off := 385) (tgt := 418) eL_law_33 (by decide) (by decide) (by decide +kernel) (by decide) (L_asks hL hi hS hK)
    · exact Gd_tabIn (off := 428) (tgt := 461) eL_law_33 (by decide) (by decide) (by decide +kernel) (by decide) (L_hunter hL hi hS hK)
    · exact Gd_tabIn (off := 471) (tgt := 504) eL_law_33 (by decide) (by decide) (by decide +kernel) (by decide) (L_friends hL hi hS hK)
    · exact Gd_tabIn (off := 514) (tgt := 547) eL_law_33 (by decide) (by decide) (by decide +kernel) (by decide) (L_put hL hi hS hK)
    · exact Gd_tabIn (off := 557) (tgt := 590) eL_law_33 (by decide) (by decide) (by decide +kernel) (by decide) (L_told hL hi hS hK)
    · exact Gd_tabIn (off := 590) (tgt := 623) eL_law_33 (by decide) (by decide) (by decide +kernel) (by decide) (L_hits hL hi hS hK)
    · exact Gd_tabIn (off := 623) (tgt := 656) eL_law_33 (by decide) (by decide) (by decide +kernel) (by decide) (L_meet hL hi hS hK)
    · exact Gd_tabIn (off := 666) (tgt := 699) eL_law_33 (by decide) (by decide) (by decide +kernel) (by decide) (L_present hL hi hS hK)
    · exact Gd_tabIn (off := 709) (tgt := 742) eL_law_33 (by decide) (by decide) (by decide +kernel) (by decide) (L_circle hL hi hS hK)
    · exact Gd_tabIn (off := 742) (tgt := 775) eL_law_33 (by decide) (by decide) (by decide +kernel) (by decide) (L_way hL hi hS hK)
    · exact Gd_tabIn (off := 785) (tgt := 818) eL_law_33 (by decide) (by decide) (by decide +kernel) (by decide) (L_shoot hL hi hS hK)
    · exact Gd_tabIn (off := 818) (tgt := 851) eL_law_33 (by decide) (by decide) (by decide +kernel) (by decide) (L_aims hL hi hS hK)
    · exact Gd_tabIn (off := 851) (tgt := 884) eL_law_33 (by decide) (by decide) (by decide +kernel) (by decide) (L_season hL hi hS hK)
    · exact Gd_tabIn (off := 894) (tgt := 927) eL_law_33 (by decide) (by decide) (by decide +kernel) (by decide) (L_hunt hL hi hS hK)
    · exact Gd_tabIn (off := 927) (tgt := 960) eL_law_33 (by decide) (by decide) (by decide +kernel) (by decide) (L_ball hL hi hS hK)
    · exact Gd_tabIn (off := 950) (tgt := 983) eL_law_33 (by decide) (by decide) (by decide +kernel) (by decide) (L_safest hL hi hS hK)
    · exact Gd_tabIn (off := 973) (tgt := 1006) eL_law_33 (by decide) (by decide) (by decide +kernel) (by decide) (L_prize hL hi hS hK)
    · exact Gd_tabIn (off := 1006) (tgt := 1039) eL_law_33 (by decide) (by decide) (by decide +kernel) (by decide) (L_society hL hi hS hK)
    · exact Gd_tabIn (off := 1030) (tgt := 1063) eL_law_33 (by decide) (by decide) (by decide +kernel) (by decide) (L_judge hL hi hS hK)
    · exact Gd_tabIn (off := 1073) (tgt := 1106) eL_law_33 (by decide) (by decide) (by decide +kernel) (by decide) (L_kinds hL hi hS hK)
    · exact Gd_tabIn (off := 1126) (tgt := 1159) eL_law_33 (by decide) (by decide) (by decide +kernel) (by decide) (L_turned hL hi hS hK)
    · exact Gd_tabIn (off := 1169) (tgt := 1202) eL_law_33 (by decide) (by decide) (by decide +kernel) (by decide) (L_honours hL hi hS hK)
    · exact Gd_tabIn (off := 1222) (tgt := 1255) eL_law_33 (by decide) (by decide) (by decide +kernel) (by decide) (L_whose hL hi hS hK)
    · exact Gd_tabIn (off := 1255) (tgt := 1288) eL_law_33 (by decide) (by decide) (by decide +kernel) (by decide) (L_laws hL hi hS hK)
    · exact Gd_tabIn (off := 1298) (tgt := 1331) eL_law_33 (by decide) (by decide) (by decide +kernel) (by decide) (L_film hL hi hS hK)
    · exact Gd_tabIn (off := 1341) (tgt := 1374) eL_law_33 (by decide) (by decide) (by decide +kernel) (by decide) (L_drawn hL hi hS hK)
    · exact Gd_tabIn (off := 1384) (tgt := 1417) eL_law_33 (by decide) (by decide) (by decide +kernel) (by decide) (L_odds hL hi hS hK)
    · exact Gd_tabIn (off := 1438) (tgt := 1471) eL_law_33 (by decide) (by decide) (by decide +kernel) (by decide) (L_image hL hi hS hK)
    · exact Gd_tabIn (off := 1451) (tgt := 1484) eL_law_33 (by decide) (by decide) (by decide +kernel) (by decide) (L_back hL hi hS hK)
    · exact Gd_tabIn (off := 1464) (tgt := 1497) eL_law_33 (by decide) (by decide) (by decide +kernel) (by decide) (L_sheet hL hi hS hK)
    · exact Gd_tabIn (off := 1507) (tgt := 1540) eL_law_33 (by decide) (by decide) (by decide +kernel) (by decide) (L_cell hL hi hS hK)
    · exact Gd_tabIn (off := 1550) (tgt := 1583) eL_law_33 (by decide) (by decide) (by decide +kernel) (by decide) (L_copy hL hi hS hK)
    · exact Gd_tabIn (off := 1613) (tgt := 1646) eL_law_33 (by decide) (by decide) (by decide +kernel) (by decide) (L_huntersBy hL hi hS hK)
    · exact Gd_tabIn (off := 1666) (tgt := 1699) eL_law_33 (by decide) (by decide) (by decide +kernel) (by decide) (L_taken hL hi hS hK)
  · exact Gd_tabOut (tgt := 1732) eL_law_33 ho (by decide) (hK _ _ _ _ _ _ hS)
theorem L_loop (hL : L ≤ 3584) (hQ : ∀ h, Q (some (vi 1)) h) : ∀ (m i k n : Nat) (sh : List (Nat × Nat)) (a : Nat → Nat → Int32) (r : Nat → Nat → Option Nat) (g : Nat → Nat → Int64), L ≤ i + m → i ≤ 4000 → RLs k n sh a r → Gd YL_law (zL L xs Q) k n 18 (lcs i) [] (sh, a, r, g) := by
  intro m
  induction m with
  | zero =>
    intro i k n sh a r g hm hi hS
    refine Gd_iload_n (i := 3) rfl eL_law_18 ?_
    refine Gd_aload_n (i := 0) rfl eL_law_19 ?_
    refine Gd_slen (v := nI L) (by show L + 1 ≠ 0; omega) rfl eL_law_20 ?_
    refine Gd_bipush kb_7 eL_law_21 ?_
    rcases Nat.lt_or_ge L 7 with h7 | h7
    · refine Gd_isub eL_law_23 ?_
      refine Gd_icmp_gt eL_law_24 (fun _ => L_exit hQ hS) (fun c => absurd ?_ c)
      exact Int32.lt_of_lt_of_le (lt7 L h7) (by rw [nI_leI (by decide) (by omega)]; omega)
    · refine Gd_isubN h7 eL_law_23 ?_
      exact Gd_icmp_gtN (by omega) (by omega) eL_law_24 (fun _ => L_exit hQ hS) (fun c => absurd c (by omega))
  | succ m ih =>
    intro i k n sh a r g hm hi hS
    refine Gd_iload_n (i := 3) rfl eL_law_18 ?_
    refine Gd_aload_n (i := 0) rfl eL_law_19 ?_
    refine Gd_slen (v := nI L) (by show L + 1 ≠ 0; omega) rfl eL_law_20 ?_
    refine Gd_bipush kb_7 eL_law_21 ?_
    rcases Nat.lt_or_ge L 7 with h7 | h7
    · refine Gd_isub eL_law_23 ?_
      refine Gd_icmp_gt eL_law_24 (fun _ => L_exit hQ hS) (fun c => absurd ?_ c)
      exact Int32.lt_of_lt_of_le (lt7 L h7) (by rw [nI_leI (by decide) (by omega)]; omega)
    · refine Gd_isubN h7 eL_law_23 ?_
      refine Gd_icmp_gtN (by omega) (by omega) eL_law_24 (fun _ => L_exit hQ hS) (fun c => ?_)
      refine Gd_aload_n (i := 0) rfl eL_law_27 ?_
      refine Gd_iload_n (i := 3) rfl eL_law_28 ?_
      refine Gd_sldL (by omega) hL eL_law_29 ?_
      refine Gd_bipush kb_63 eL_law_30 ?_
      refine Gd_iand eL_law_32 ?_
      refine L_sw hL (by omega) hS (fun k n sh a r g hS => ?_) _
      refine Gd_iinc3 (ho := rfl) (he := nI_inc7 _) eL_law_1732 ?_
      refine Gd_goto eL_law_1735 ?_
      exact ih (i + 7) k n sh a r g (by omega) (by omega) hS
theorem law_body (hL : L ≤ 3584) (hQ : ∀ h, Q (some (vi 1)) h) (okr : g_okR 0 r) : Gd YL_law (zL L xs Q) 0 0 0 [some (vc 300), none, none, none] [] ([], a, r, g) := by
  obtain ⟨G, hG⟩ : ∃ G, rdF (tqf tp0 35) (bs tp0 35) 9 36 = G := ⟨_, rfl⟩
  obtain ⟨T, hT⟩ : ∃ T, rdT (tqf tp0 35) (bs tp0 35) 9 36 = T := ⟨_, rfl⟩
  have hf : G.2.1 = 0 := by rw [← hG]; exact tp0_G.1
  have hG3 : G.2.2.1 = 3 := by rw [← hG]; exact tp0_G.2
  obtain ⟨hTI, hT3⟩ := TI_1 (tq_end tp0_M.1) (by decide) (fun k => tkn_lt tp0_lt) (Nat.le_refl 36) hG hT hf
  have okl0 : ∀ M, g_okL M [some (vc 300), none, none, none] := fun M v hv => by
    simp only [List.mem_cons, List.not_mem_nil, or_false, Option.some.injEq, reduceCtorEq] at hv
    subst hv; trivial
  have okl1 : ∀ M, 0 < M → g_okL M [some (vc 300), some (vr 0), none, none] := fun M hM v hv => by
    simp only [List.mem_cons, List.not_mem_nil, or_false, Option.some.injEq, reduceCtorEq] at hv
    rcases hv with rfl | rfl
    · trivial
    · exact hM
  refine Gd_new (c := 7) (nf := 9) (CC := RX7) (T := TX7) rfl (by decide) (by decide) (Nat.le_of_ble_eq_true rfl) (Nat.le_of_ble_eq_true rfl) okr (okl0 _) (fun v hv => by cases hv) lc_RL_7 wm_RX7 wi_RX7 eL_law_0 ?_
  refine Gd_dup rfl eL_law_3 ?_
  refine g_call1 (g_cI (x_init (a := va_up a 0 (fun _ => 0)) (r := va_up r 0 (fun _ => none)) (g := va_up g 0 (fun _ => 0)) (by decide) tp0_M.1 tp0_M.2 hG hT hG3 (va_up_s _ _ _) (okR_nw okr)) ok_X7_init lk_RL_9 rfl rfl (Nat.le_of_ble_eq_true rfl) (Nat.le_of_ble_eq_true rfl) (Nat.le_of_ble_eq_true rfl) (Nat.le_of_ble_eq_true rfl) eL_law_4) (okl0 _) (fun v hv => by rw [List.mem_singleton.mp hv]; show 0 < 1; decide) (fun v h' hq => ?_)
  obtain ⟨rfl, a1, r1, g1, rfl, x1, x2, x3, x4, x5, x6, x7, x8, x9, x10⟩ := hq
  refine Gd_astore_n1 rfl eL_law_7 ?_
  have hl50 : (SHW.take 50).length = 50 := rfl
  refine Gd_new (c := 8) (nf := 36) (CC := RX8) (T := TX8) rfl (by decide) (by decide) (Nat.le_of_ble_eq_true rfl) (Nat.le_of_ble_eq_true rfl) x2 (okl1 _ (by decide)) (fun v hv => by cases hv) lc_RL_10 wm_RX8 wi_RX8 eL_law_8 ?_
  rw [show g_nw (SHW.take 50, a1, r1, g1) (8, 36) = (SHW.take 51, va_up a1 50 (fun _ => 0), va_up r1 50 (fun _ => none), va_up g1 50 (fun _ => 0)) from rfl]
  refine Gd_dup rfl eL_law_11 ?_
  have hr0 : ∀ q ∈ RTL, q.2.2 < 50 → va_up r1 50 (fun _ => none) q.1 q.2.1 = some q.2.2 := fun q hq hlt => by
    have := (by decide : ∀ q ∈ RTL, q.2.2 < 50 → q.1 < 50) q hq hlt
    rw [va_up_n _ _ (by omega)]; exact x1 q hq hlt
  refine g_call1 (g_cI (m_init (a0 := va_up a1 50 (fun _ => 0)) (r0 := va_up r1 50 (fun _ => none)) (g := va_up g1 50 (fun _ => 0)) (by decide) tp0_M.1 hG hT hf hT3 (va_up_s _ _ _) (okR_nw x2) hr0) ok_X8_init lk_RL_12 rfl rfl (Nat.le_of_ble_eq_true rfl) (Nat.le_of_ble_eq_true rfl) (Nat.le_of_ble_eq_true rfl) (Nat.le_of_ble_eq_true rfl) eL_law_12) (okl1 _ (by show 0 < (SHW.take 51).length; decide)) (fun v hv => by rw [List.mem_singleton.mp hv]; show 50 < (SHW.take 51).length; decide) (fun v h' hq => ?_)
  obtain ⟨rfl, a2, r2, g2, rfl, y1, y2, y3, y4, y5, y6, y7, y8, y9, y10⟩ := hq
  refine Gd_astore_n2 rfl eL_law_15 ?_
  refine Gd_iconst ki_0 eL_law_16 ?_
  refine Gd_istore_n3 rfl eL_law_17 ?_
  have fa : ∀ k, k < 50 → a2 k = a1 k := fun k hk => by rw [y1 k hk, va_up_n _ _ (by omega)]
  have fr : ∀ k, k < 50 → r2 k = r1 k := fun k hk => by rw [y2 k hk, va_up_n _ _ (by omega)]
  have hW : WD SHW r2 := ⟨fun k x hx => hx, fun q hq => by
    rcases (by decide : ∀ q ∈ RTL, (q.1 < 50 ∧ q.2.2 < 50) ∨ q.1 = 50) q hq with ⟨h1, h2⟩ | h1
    · rw [fr _ h1]; exact x1 q hq h2
    · exact y3 q hq h1⟩
  refine L_loop hL hQ L 0 _ _ _ _ _ _ (by omega) (by decide) ⟨φ0, 1, fun _ => T, fun _ => G.2.2.2, 0, tp0, false, φ0, so0, sz0, cl0, ⟨PH_0, hTI, ⟨Nat.zero_le _, fun i hi => absurd hi (Nat.not_lt_zero _)⟩, ⟨fun s hs => Or.inl rfl, fun s hs => Nat.zero_le _⟩, fun z => absurd z (by decide)⟩, ⟨hW, y4, rfl, by decide, by decide⟩, FA_fr x3 (fun k h1 h2 => fa k (by omega)), y5, ⟨⟨by rw [fa 31 (by decide)]; exact x7, fun t ht => ?_⟩, TP_0 (by rw [fa 25 (by decide)]; exact x4), ⟨fun s hs => by rw [fa _ (by omega)]; exact x5.1 s hs, fun s hs => by rw [fa _ (by omega)]; exact x5.2.1 s hs, fun s hs i hi => by rw [fa _ (by omega)]; exact x5.2.2 s hs i hi⟩, by rw [fa 0 (by decide)]; exact x6, fun z => absurd z (by decide)⟩, ⟨y6, TP_0 y7, y8, y9, y10, fun z => absurd z (by decide)⟩⟩
  obtain rfl : t = 0 := by omega
  refine ⟨⟨by rw [fr 32 (by decide)]; exact x8, rfl, by show SHW[48]? = some (20, T 3); rw [hT3, hG3]; rfl, rfl, ?_, ?_⟩, fun i hi => ?_, fun k hk => ?_⟩
  · rw [show pT 0 = 47 from rfl, fr 47 (by decide)]; exact x1 (47, 0, 48) (by decide) (by decide)
  · rw [show pT 0 = 47 from rfl, fr 47 (by decide)]; exact x1 (47, 1, 49) (by decide) (by decide)
  · rw [show pT 0 + 2 = 49 from rfl, fa 49 (by decide)]; exact x10 i hi
  · rw [show pT 0 + 1 = 48 from rfl, fa 48 (by decide)]; exact x9 k (by have hk : k < T 3 := hk; omega)
end LAW
