theorem m_season {sh : List (Nat × Nat)} {a : Nat → Nat → Int32} {r : Nat → Nat → Option Nat} {g : Nat → Nat → Int64} {φ ts cd : Nat → Nat → Nat} {nt : Nat} {so sz : Nat → Nat} {cl : Nat → Nat → Int32} (hW : WD sh r) (hM : MA φ a) (hI : FI φ) (hT : TM nt ts cd a) (hTI : TI nt ts cd) (hlt : φ 7 2 < nt) (hS : MS so sz cl a) (hSI : SI so sz) (vs vp vw : Int32) : Mt YX8_season 7 0 0 [vr 50, vi vs, vi vp, vi vw] (sh, a, r, g) (g_EV sh r g (vi (oSeason φ ts cd so sz cl vs vp vw)) (fun a' => MA φ a' ∧ chg scZ a a')) := by
  refine Mt_of rfl (Nat.le_of_ble_eq_true rfl) rfl ?_
  have hhu := FI_hu hI
  refine Gd_aload_n (i := 0) rfl eX8_season_0 ?_
  refine Gd_iload_n (i := 1) rfl eX8_season_1 ?_
  refine Gd_iload_n (i := 2) rfl eX8_season_2 ?_
  refine Gd_callP (g_cV (m_oneWrong hW hM hI hS hSI _ _) ok_X8_oneWrong lk_RX8_241 (W_s50 hW) ⟨_, _, rfl⟩ rfl rfl (Nat.le_of_ble_eq_true rfl) (Nat.le_of_ble_eq_true rfl) (Nat.le_refl _) (Nat.le_refl _) eX8_season_3) ?_
  refine Gd_istore4 rfl eX8_season_6 ?_
  refine Gd_iload (i := 4) rfl eX8_season_8 ?_
  refine Gd_if_eq eX8_season_10 (fun c10 => ?_) (fun c10 => ?_)
  · obtain ⟨i, p, hi, hpn, rfl, rfl, hso, hal⟩ := owr_ok hhu c10
    have hz := hSI.2 i hi
    have hp6 : p < 6 := by omega
    refine Gd_iload_n (i := 3) rfl eX8_season_16 ?_
    refine Gd_iconst ki_0 eX8_season_17 ?_
    refine Gd_iconst ki_4 eX8_season_18 ?_
    refine Gd_callP (g_cS (m_in _ _ _) ok_X8_in lk_RX8_84 rfl rfl (Nat.le_of_ble_eq_true rfl) (Nat.le_of_ble_eq_true rfl) (Nat.le_refl _) (Nat.le_refl _) eX8_season_19) ?_
    refine Gd_if_neB eX8_season_22 (fun c22 => ?_) (fun c22 => ?_)
    · obtain ⟨k, _, hk, rfl⟩ := inb_r (by decide) (by decide) c22
      have hr := oSeason_u (ts := ts) (cd := cd) c10 hi hp6 hk
      rcases (by omega : k = 0 ∨ k = 1 ∨ k = 2 ∨ k = 3 ∨ k = 4) with rfl | rfl | rfl | rfl | rfl
      · refine Gd_aload_n (i := 0) rfl eX8_season_28 ?_
        refine Gd_callE0 (g_cV (m_keeps hW hM) ok_X8_keeps lk_RX8_244 (W_s50 hW) ⟨_, _, rfl⟩ rfl rfl (Nat.le_of_ble_eq_true rfl) (Nat.le_of_ble_eq_true rfl) (Nat.le_refl _) (Nat.le_refl _) eX8_season_29) (fun a2 hq2 => ?_)
        obtain ⟨hK, hq2⟩ := hq2
        refine Gd_aload_n (i := 0) rfl eX8_season_32 ?_
        refine Gd_iload_n (i := 1) rfl eX8_season_33 ?_
        refine Gd_iload_n (i := 2) rfl eX8_season_34 ?_
        have hM2 : MA φ a2 := MA_K69 hM hq2
        have hc2 : chg scZ a a2 := chg_mono2 scZ_69 hq2
        refine Gd_callE0 (g_cV (m_goes hW (MA_K69 hM hq2) hI (TM_Z hT (chg_mono2 scZ_69 hq2)) hTI hlt (MS_Z hS (chg_mono2 scZ_69 hq2)) (s := i) (p := p) hi hal hz hpn) ok_X8_goes lk_RX8_247 (W_s50 hW) ⟨_, _, rfl⟩ rfl rfl (Nat.le_of_ble_eq_true rfl) (Nat.le_of_ble_eq_true rfl) (Nat.le_refl _) (Nat.le_refl _) eX8_season_35) (fun a3 hq3 => ?_)
        obtain ⟨hM3, h70, hq3⟩ := hq3
        have hK3 : KA φ a3 := KA_ch hK hq3 (fun j => rfl)
        have hc3 : chg scZ a a3 := chg_tr hc2 (chg_mono2 scZ_G hq3)
        have hIr := FI_runs (ts := ts) (cd := cd) (p := p) (f := cl i) (by omega) (sz i) 0 φ hI (by rw [Nat.zero_add]; exact hal)
        refine Gd_iconst ki_0 eX8_season_38 ?_
        refine Gd_istore5 rfl eX8_season_39 ?_
        refine Gd_iload_n (i := 3) rfl eX8_season_41 ?_
        refine Gd_tabIn (off := 30) (tgt := 72) eX8_season_42 (by decide) (by decide) (by decide +kernel) (by decide) ?_
        refine Gd_aload_n (i := 0) rfl eX8_season_72 ?_
        refine Gd_getR fl_RX8_71 (W_s50 hW) (W_r50_34 hW) eX8_season_73 ?_
        refine Gd_iconst ki_2 eX8_season_76 ?_
        refine Gd_ialdE (v := nI (tal ts cd p (cl i) 2 (sz i) 0 φ)) (W_s70 hW) (by first | omega | decide) (h70 2 (by decide) :) eX8_season_77 ?_
        refine Gd_istore5 rfl eX8_season_78 ?_
        refine Gd_goto eX8_season_80 ?_
        refine Gd_aload_n (i := 0) rfl eX8_season_124 ?_
        refine Gd_callE0 (g_cV (m_lays hW hM3 hK3) ok_X8_lays lk_RX8_251 (W_s50 hW) ⟨_, _, rfl⟩ rfl rfl (Nat.le_of_ble_eq_true rfl) (Nat.le_of_ble_eq_true rfl) (Nat.le_refl _) (Nat.le_refl _) eX8_season_125) (fun a4 hq4 => ?_)
        obtain ⟨hM4, hq4⟩ := hq4
        rw [lay_like like_runs] at hM4
        refine Gd_iload (i := 5) rfl eX8_season_128 ?_
        exact Gd_ireturn eX8_season_130 rfl (Nat.le_refl _) (Nat.le_refl _) ⟨a4, by rw [hr]; rfl, rfl, hM4, chg_tr hc3 (chg_mono2 scZ_L hq4)⟩
      · refine Gd_aload_n (i := 0) rfl eX8_season_28 ?_
        refine Gd_callE0 (g_cV (m_keeps hW hM) ok_X8_keeps lk_RX8_244 (W_s50 hW) ⟨_, _, rfl⟩ rfl rfl (Nat.le_of_ble_eq_true rfl) (Nat.le_of_ble_eq_true rfl) (Nat.le_refl _) (Nat.le_refl _) eX8_season_29) (fun a2 hq2 => ?_)
        obtain ⟨hK, hq2⟩ := hq2
        refine Gd_aload_n (i := 0) rfl eX8_season_32 ?_
        refine Gd_iload_n (i := 1) rfl eX8_season_33 ?_
        refine Gd_iload_n (i := 2) rfl eX8_season_34 ?_
        have hM2 : MA φ a2 := MA_K69 hM hq2
        have hc2 : chg scZ a a2 := chg_mono2 scZ_69 hq2
        refine Gd_callE0 (g_cV (m_goes hW (MA_K69 hM hq2) hI (TM_Z hT (chg_mono2 scZ_69 hq2)) hTI hlt (MS_Z hS (chg_mono2 scZ_69 hq2)) (s := i) (p := p) hi hal hz hpn) ok_X8_goes lk_RX8_247 (W_s50 hW) ⟨_, _, rfl⟩ rfl rfl (Nat.le_of_ble_eq_true rfl) (Nat.le_of_ble_eq_true rfl) (Nat.le_refl _) (Nat.le_refl _) eX8_season_35) (fun a3 hq3 => ?_)
        obtain ⟨hM3, h70, hq3⟩ := hq3
        have hK3 : KA φ a3 := KA_ch hK hq3 (fun j => rfl)
        have hc3 : chg scZ a a3 := chg_tr hc2 (chg_mono2 scZ_G hq3)
        have hIr := FI_runs (ts := ts) (cd := cd) (p := p) (f := cl i) (by omega) (sz i) 0 φ hI (by rw [Nat.zero_add]; exact hal)
        refine Gd_iconst ki_0 eX8_season_38 ?_
        refine Gd_istore5 rfl eX8_season_39 ?_
        refine Gd_iload_n (i := 3) rfl eX8_season_41 ?_
        refine Gd_tabIn (off := 41) (tgt := 83) eX8_season_42 (by decide) (by decide) (by decide +kernel) (by decide) ?_
        refine Gd_aload_n (i := 0) rfl eX8_season_83 ?_
        refine Gd_getR fl_RX8_71 (W_s50 hW) (W_r50_34 hW) eX8_season_84 ?_
        refine Gd_iconst ki_3 eX8_season_87 ?_
        refine Gd_ialdE (v := nI (tal ts cd p (cl i) 3 (sz i) 0 φ)) (W_s70 hW) (by first | omega | decide) (h70 3 (by decide) :) eX8_season_88 ?_
        refine Gd_istore5 rfl eX8_season_89 ?_
        refine Gd_goto eX8_season_91 ?_
        refine Gd_aload_n (i := 0) rfl eX8_season_124 ?_
        refine Gd_callE0 (g_cV (m_lays hW hM3 hK3) ok_X8_lays lk_RX8_251 (W_s50 hW) ⟨_, _, rfl⟩ rfl rfl (Nat.le_of_ble_eq_true rfl) (Nat.le_of_ble_eq_true rfl) (Nat.le_refl _) (Nat.le_refl _) eX8_season_125) (fun a4 hq4 => ?_)
        obtain ⟨hM4, hq4⟩ := hq4
        rw [lay_like like_runs] at hM4
        refine Gd_iload (i := 5) rfl eX8_season_128 ?_
        exact Gd_ireturn eX8_season_130 rfl (Nat.le_refl _) (Nat.le_refl _) ⟨a4, by rw [hr]; rfl, rfl, hM4, chg_tr hc3 (chg_mono2 scZ_L hq4)⟩
      · refine Gd_aload_n (i := 0) rfl eX8_season_28 ?_
        refine Gd_callE0 (g_cV (m_keeps hW hM) ok_X8_keeps lk_RX8_244 (W_s50 hW) ⟨_, _, rfl⟩ rfl rfl (Nat.le_of_ble_eq_true rfl) (Nat.le_of_ble_eq_true rfl) (Nat.le_refl _) (Nat.le_refl _) eX8_season_29) (fun a2 hq2 => ?_)
        obtain ⟨hK, hq2⟩ := hq2
        refine Gd_aload_n (i := 0) rfl eX8_season_32 ?_
        refine Gd_iload_n (i := 1) rfl eX8_season_33 ?_
        refine Gd_iload_n (i := 2) rfl eX8_season_34 ?_
        have hM2 : MA φ a2 := MA_K69 hM hq2
        have hc2 : chg scZ a a2 := chg_mono2 scZ_69 hq2
        refine Gd_callE0 (g_cV (m_goes hW (MA_K69 hM hq2) hI (TM_Z hT (chg_mono2 scZ_69 hq2)) hTI hlt (MS_Z hS (chg_mono2 scZ_69 hq2)) (s := i) (p := p) hi hal hz hpn) ok_X8_goes lk_RX8_247 (W_s50 hW) ⟨_, _, rfl⟩ rfl rfl (Nat.le_of_ble_eq_true rfl) (Nat.le_of_ble_eq_true rfl) (Nat.le_refl _) (Nat.le_refl _) eX8_season_35) (fun a3 hq3 => ?_)
        obtain ⟨hM3, h70, hq3⟩ := hq3
        have hK3 : KA φ a3 := KA_ch hK hq3 (fun j => rfl)
        have hc3 : chg scZ a a3 := chg_tr hc2 (chg_mono2 scZ_G hq3)
        have hIr := FI_runs (ts := ts) (cd := cd) (p := p) (f := cl i) (by omega) (sz i) 0 φ hI (by rw [Nat.zero_add]; exact hal)
        refine Gd_iconst ki_0 eX8_season_38 ?_
        refine Gd_istore5 rfl eX8_season_39 ?_
        refine Gd_iload_n (i := 3) rfl eX8_season_41 ?_
        refine Gd_tabIn (off := 52) (tgt := 94) eX8_season_42 (by decide) (by decide) (by decide +kernel) (by decide) ?_
        refine Gd_aload_n (i := 0) rfl eX8_season_94 ?_
        refine Gd_getR fl_RX8_71 (W_s50 hW) (W_r50_34 hW) eX8_season_95 ?_
        refine Gd_iconst ki_1 eX8_season_98 ?_
        refine Gd_ialdE (v := nI (tal ts cd p (cl i) 1 (sz i) 0 φ)) (W_s70 hW) (by first | omega | decide) (h70 1 (by decide) :) eX8_season_99 ?_
        refine Gd_istore5 rfl eX8_season_100 ?_
        refine Gd_goto eX8_season_102 ?_
        refine Gd_aload_n (i := 0) rfl eX8_season_124 ?_
        refine Gd_callE0 (g_cV (m_lays hW hM3 hK3) ok_X8_lays lk_RX8_251 (W_s50 hW) ⟨_, _, rfl⟩ rfl rfl (Nat.le_of_ble_eq_true rfl) (Nat.le_of_ble_eq_true rfl) (Nat.le_refl _) (Nat.le_refl _) eX8_season_125) (fun a4 hq4 => ?_)
        obtain ⟨hM4, hq4⟩ := hq4
        rw [lay_like like_runs] at hM4
        refine Gd_iload (i := 5) rfl eX8_season_128 ?_
        exact Gd_ireturn eX8_season_130 rfl (Nat.le_refl _) (Nat.le_refl _) ⟨a4, by rw [hr]; rfl, rfl, hM4, chg_tr hc3 (chg_mono2 scZ_L hq4)⟩
      · refine Gd_aload_n (i := 0) rfl eX8_season_28 ?_
        refine Gd_callE0 (g_cV (m_keeps hW hM) ok_X8_keeps lk_RX8_244 (W_s50 hW) ⟨_, _, rfl⟩ rfl rfl (Nat.le_of_ble_eq_true rfl) (Nat.le_of_ble_eq_true rfl) (Nat.le_refl _) (Nat.le_refl _) eX8_season_29) (fun a2 hq2 => ?_)
        obtain ⟨hK, hq2⟩ := hq2
        refine Gd_aload_n (i := 0) rfl eX8_season_32 ?_
        refine Gd_iload_n (i := 1) rfl eX8_season_33 ?_
        refine Gd_iload_n (i := 2) rfl eX8_season_34 ?_
        have hM2 : MA φ a2 := MA_K69 hM hq2
        have hc2 : chg scZ a a2 := chg_mono2 scZ_69 hq2
        refine Gd_callE0 (g_cV (m_goes hW (MA_K69 hM hq2) hI (TM_Z hT (chg_mono2 scZ_69 hq2)) hTI hlt (MS_Z hS (chg_mono2 scZ_69 hq2)) (s := i) (p := p) hi hal hz hpn) ok_X8_goes lk_RX8_247 (W_s50 hW) ⟨_, _, rfl⟩ rfl rfl (Nat.le_of_ble_eq_true rfl) (Nat.le_of_ble_eq_true rfl) (Nat.le_refl _) (Nat.le_refl _) eX8_season_35) (fun a3 hq3 => ?_)
        obtain ⟨hM3, h70, hq3⟩ := hq3
        have hK3 : KA φ a3 := KA_ch hK hq3 (fun j => rfl)
        have hc3 : chg scZ a a3 := chg_tr hc2 (chg_mono2 scZ_G hq3)
        have hIr := FI_runs (ts := ts) (cd := cd) (p := p) (f := cl i) (by omega) (sz i) 0 φ hI (by rw [Nat.zero_add]; exact hal)
        refine Gd_iconst ki_0 eX8_season_38 ?_
        refine Gd_istore5 rfl eX8_season_39 ?_
        refine Gd_iload_n (i := 3) rfl eX8_season_41 ?_
        refine Gd_tabIn (off := 63) (tgt := 105) eX8_season_42 (by decide) (by decide) (by decide +kernel) (by decide) ?_
        refine Gd_aload_n (i := 0) rfl eX8_season_105 ?_
        refine Gd_getR fl_RX8_16 (W_s50 hW) (W_r50_3 hW) eX8_season_106 ?_
        refine Gd_iconst ki_4 eX8_season_109 ?_
        refine Gd_iload_n (i := 2) rfl eX8_season_110 ?_
        refine Gd_imulN eX8_season_111 ?_
        refine Gd_ialdE (v := nI (runs ts cd p (cl i) (sz i) 0 φ 3 p)) (W_s53 hW) (by first | omega | decide) (MA_ho hM3 (p := p) hp6 :) eX8_season_112 ?_
        refine Gd_istore5 rfl eX8_season_113 ?_
        refine Gd_goto eX8_season_115 ?_
        refine Gd_aload_n (i := 0) rfl eX8_season_124 ?_
        refine Gd_callE0 (g_cV (m_lays hW hM3 hK3) ok_X8_lays lk_RX8_251 (W_s50 hW) ⟨_, _, rfl⟩ rfl rfl (Nat.le_of_ble_eq_true rfl) (Nat.le_of_ble_eq_true rfl) (Nat.le_refl _) (Nat.le_refl _) eX8_season_125) (fun a4 hq4 => ?_)
        obtain ⟨hM4, hq4⟩ := hq4
        rw [lay_like like_runs] at hM4
        refine Gd_iload (i := 5) rfl eX8_season_128 ?_
        exact Gd_ireturn eX8_season_130 rfl (Nat.le_refl _) (Nat.le_refl _) ⟨a4, by rw [hr]; rfl, rfl, hM4, chg_tr hc3 (chg_mono2 scZ_L hq4)⟩
      · refine Gd_aload_n (i := 0) rfl eX8_season_28 ?_
        refine Gd_callE0 (g_cV (m_keeps hW hM) ok_X8_keeps lk_RX8_244 (W_s50 hW) ⟨_, _, rfl⟩ rfl rfl (Nat.le_of_ble_eq_true rfl) (Nat.le_of_ble_eq_true rfl) (Nat.le_refl _) (Nat.le_refl _) eX8_season_29) (fun a2 hq2 => ?_)
        obtain ⟨hK, hq2⟩ := hq2
        refine Gd_aload_n (i := 0) rfl eX8_season_32 ?_
        refine Gd_iload_n (i := 1) rfl eX8_season_33 ?_
        refine Gd_iload_n (i := 2) rfl eX8_season_34 ?_
        have hM2 : MA φ a2 := MA_K69 hM hq2
        have hc2 : chg scZ a a2 := chg_mono2 scZ_69 hq2
        refine Gd_callE0 (g_cV (m_goes hW (MA_K69 hM hq2) hI (TM_Z hT (chg_mono2 scZ_69 hq2)) hTI hlt (MS_Z hS (chg_mono2 scZ_69 hq2)) (s := i) (p := p) hi hal hz hpn) ok_X8_goes lk_RX8_247 (W_s50 hW) ⟨_, _, rfl⟩ rfl rfl (Nat.le_of_ble_eq_true rfl) (Nat.le_of_ble_eq_true rfl) (Nat.le_refl _) (Nat.le_refl _) eX8_season_35) (fun a3 hq3 => ?_)
        obtain ⟨hM3, h70, hq3⟩ := hq3
        have hK3 : KA φ a3 := KA_ch hK hq3 (fun j => rfl)
        have hc3 : chg scZ a a3 := chg_tr hc2 (chg_mono2 scZ_G hq3)
        have hIr := FI_runs (ts := ts) (cd := cd) (p := p) (f := cl i) (by omega) (sz i) 0 φ hI (by rw [Nat.zero_add]; exact hal)
        refine Gd_iconst ki_0 eX8_season_38 ?_
        refine Gd_istore5 rfl eX8_season_39 ?_
        refine Gd_iload_n (i := 3) rfl eX8_season_41 ?_
        refine Gd_tabOut (tgt := 118) eX8_season_42 (by decide) (by decide) ?_
        refine Gd_aload_n (i := 0) rfl eX8_season_118 ?_
        refine Gd_getIe (v := nI (runs ts cd p (cl i) (sz i) 0 φ 7 0)) fl_RX8_22 (W_s50 hW) (MA_al hM3 :) eX8_season_119 ?_
        refine Gd_istore5 rfl eX8_season_122 ?_
        refine Gd_aload_n (i := 0) rfl eX8_season_124 ?_
        refine Gd_callE0 (g_cV (m_lays hW hM3 hK3) ok_X8_lays lk_RX8_251 (W_s50 hW) ⟨_, _, rfl⟩ rfl rfl (Nat.le_of_ble_eq_true rfl) (Nat.le_of_ble_eq_true rfl) (Nat.le_refl _) (Nat.le_refl _) eX8_season_125) (fun a4 hq4 => ?_)
        obtain ⟨hM4, hq4⟩ := hq4
        rw [lay_like like_runs] at hM4
        refine Gd_iload (i := 5) rfl eX8_season_128 ?_
        exact Gd_ireturn eX8_season_130 rfl (Nat.le_refl _) (Nat.le_refl _) ⟨a4, by rw [hr]; rfl, rfl, hM4, chg_tr hc3 (chg_mono2 scZ_L hq4)⟩
    · refine Gd_bipush kb_m7 eX8_season_25 ?_
      exact Gd_ireturn eX8_season_27 rfl (Nat.le_refl _) (Nat.le_refl _) ⟨a, by rw [oSeason_w c10 c22], rfl, hM, chg_rf⟩
  · refine Gd_iload (i := 4) rfl eX8_season_13 ?_
    exact Gd_ireturn eX8_season_15 rfl (Nat.le_refl _) (Nat.le_refl _) ⟨a, by rw [oSeason_r c10], rfl, hM, chg_rf⟩
theorem x_season {sh : List (Nat × Nat)} {a : Nat → Nat → Int32} {r : Nat → Nat → Option Nat} {g : Nat → Nat → Int64} {φ ts cd : Nat → Nat → Nat} {nt : Nat} {so sz : Nat → Nat} {cl : Nat → Nat → Int32} (hW : WD sh r) (hA : FA 1 φ a) (hI : FI φ) (hT : TX nt ts cd sh a r) (hTI : TI nt ts cd) (hlt : φ 7 2 < nt) (hS : SX so sz cl a) (hSI : SI so sz) (vs vp vw : Int32) : Mt YX7_season 7 0 0 [vr 0, vi vs, vi vp, vi vw] (sh, a, r, g) (g_EV sh r g (vi (oSeason φ ts cd so sz cl vs vp vw)) (fun a' => chg scX a a')) := by
  refine Mt_of rfl (Nat.le_of_ble_eq_true rfl) rfl ?_
  have hhu := FI_hu hI
  refine Gd_aload_n (i := 0) rfl eX7_season_0 ?_
  refine Gd_iload_n (i := 1) rfl eX7_season_1 ?_
  refine Gd_callP (g_cV (x_seasonRefusal hW hS hSI _) ok_X7_seasonRefusal lk_RX7_229 (W_s0 hW) ⟨_, _, rfl⟩ rfl rfl (Nat.le_of_ble_eq_true rfl) (Nat.le_of_ble_eq_true rfl) (Nat.le_refl _) (Nat.le_refl _) eX7_season_2) ?_
  refine Gd_istore4 rfl eX7_season_5 ?_
  refine Gd_iload (i := 4) rfl eX7_season_7 ?_
  refine Gd_if_eq eX7_season_9 (fun c9 => ?_) (fun c9 => ?_)
  · refine Gd_aload_n (i := 0) rfl eX7_season_15 ?_
    refine Gd_iload_n (i := 2) rfl eX7_season_16 ?_
    refine Gd_callP (g_cV (x_isHunter hW hA hI _) ok_X7_isHunter lk_RX7_140 (W_s0 hW) ⟨_, _, rfl⟩ rfl rfl (Nat.le_of_ble_eq_true rfl) (Nat.le_of_ble_eq_true rfl) (Nat.le_refl _) (Nat.le_refl _) eX7_season_17) ?_
    refine Gd_if_neB eX7_season_20 (fun c20 => ?_) (fun c20 => ?_)
    · have hown : owr so sz cl (φ 7 3) vs vp = 0 := by rw [owr, if_pos c9, if_pos c20, nI_0]
      obtain ⟨i, p, hi, hpn, rfl, rfl, hso, hal⟩ := owr_ok hhu hown
      have hz := hSI.2 i hi
      have hp6 : p < 6 := by omega
      refine Gd_iload_n (i := 3) rfl eX7_season_26 ?_
      refine Gd_iconst ki_0 eX7_season_27 ?_
      refine Gd_iconst ki_4 eX7_season_28 ?_
      refine Gd_callP (g_cS (x_isWithin _ _ _) ok_X7_isWithin lk_RX7_119 rfl rfl (Nat.le_of_ble_eq_true rfl) (Nat.le_of_ble_eq_true rfl) (Nat.le_refl _) (Nat.le_refl _) eX7_season_29) ?_
      refine Gd_if_neB eX7_season_32 (fun c32 => ?_) (fun c32 => ?_)
      · obtain ⟨k, _, hk, rfl⟩ := inb_r (by decide) (by decide) c32
        have hr := oSeason_u (ts := ts) (cd := cd) hown hi hp6 hk
        rcases (by omega : k = 0 ∨ k = 1 ∨ k = 2 ∨ k = 3 ∨ k = 4) with rfl | rfl | rfl | rfl | rfl
        · refine Gd_aload_n (i := 0) rfl eX7_season_38 ?_
          refine Gd_getR fl_RX7_16 (W_s0 hW) (W_r0_1 hW) eX7_season_39 ?_
          refine Gd_aload_n (i := 0) rfl eX7_season_42 ?_
          refine Gd_getR fl_RX7_10 (W_s0 hW) (W_r0_0 hW) eX7_season_43 ?_
          refine Gd_callE0 (g_cV (x_become9 hW hA) ok_X0_become lk_RX7_232 (W_s9 hW) ⟨_, _, rfl⟩ rfl rfl (Nat.le_of_ble_eq_true rfl) (Nat.le_of_ble_eq_true rfl) (Nat.le_refl _) (Nat.le_refl _) eX7_season_46) (fun a2 hq2 => ?_)
          obtain ⟨hA2, hq2⟩ := hq2
          have hc2 : chg scX a a2 := chg_mono2 scX_9 hq2
          have hT2 := TX_X hT hc2
          have hS2 := SX_X hS hc2
          refine Gd_iload_n (i := 3) rfl eX7_season_49 ?_
          refine Gd_if_ne eX7_season_50 (fun q => by first | exact absurd q (by decide) | exact absurd (by decide) q) (fun _ => ?_)
          refine Gd_iconst ki_2 eX7_season_53 ?_
          refine Gd_goto eX7_season_54 ?_
          refine Gd_istore5 rfl eX7_season_67 ?_
          refine Gd_aload_n (i := 0) rfl eX7_season_69 ?_
          refine Gd_aload_n (i := 0) rfl eX7_season_70 ?_
          refine Gd_getR fl_RX7_16 (W_s0 hW) (W_r0_1 hW) eX7_season_71 ?_
          refine Gd_aload_n (i := 0) rfl eX7_season_74 ?_
          refine Gd_getR fl_RX7_56 (W_s0 hW) (W_r0_8 hW) eX7_season_75 ?_
          refine Gd_iload_n (i := 1) rfl eX7_season_78 ?_
          refine Gd_aaldN (Or.inl ⟨rfl, rfl, rfl⟩ : g_rc 21 1 4) (W_s38 hW) (by first | omega | decide) (W_r38 hW (j := i) (by first | omega | decide)) eX7_season_79 ?_
          refine Gd_iload_n (i := 2) rfl eX7_season_80 ?_
          refine Gd_iload (i := 5) rfl eX7_season_81 ?_
          refine Gd_callEV (g_cV (x_shootAll hW (W_F9 hW) (by decide) hA2 hI hT2 hTI hlt hS2 (s := i) (p := p) hi hal hz hpn (k := 2) (by decide)) ok_X7_shootAll lk_RX7_236 (W_s0 hW) ⟨_, _, rfl⟩ rfl rfl (Nat.le_of_ble_eq_true rfl) (Nat.le_of_ble_eq_true rfl) (Nat.le_refl _) (Nat.le_refl _) eX7_season_83) (fun a3 hq3 => ?_)
          obtain ⟨hA3, hq3⟩ := hq3
          have hc3 : chg scX a a3 := chg_tr hc2 (chg_mono2 scX_T hq3)
          refine Gd_istore6 rfl eX7_season_86 ?_
          refine Gd_iload_n (i := 3) rfl eX7_season_88 ?_
          refine Gd_iconst ki_3 eX7_season_89 ?_
          refine Gd_icmp_ne eX7_season_90 (fun _ => ?_) (fun q => by first | exact absurd q (by decide) | exact absurd (by decide) q)
          refine Gd_iload_n (i := 3) rfl eX7_season_105 ?_
          refine Gd_iconst ki_4 eX7_season_106 ?_
          refine Gd_icmp_ne eX7_season_107 (fun _ => ?_) (fun q => by first | exact absurd q (by decide) | exact absurd (by decide) q)
          refine Gd_iload (i := 6) rfl eX7_season_120 ?_
          exact Gd_ireturn eX7_season_122 rfl (Nat.le_refl _) (Nat.le_refl _) ⟨a3, by rw [hr]; rfl, rfl, hc3⟩
        · refine Gd_aload_n (i := 0) rfl eX7_season_38 ?_
          refine Gd_getR fl_RX7_16 (W_s0 hW) (W_r0_1 hW) eX7_season_39 ?_
          refine Gd_aload_n (i := 0) rfl eX7_season_42 ?_
          refine Gd_getR fl_RX7_10 (W_s0 hW) (W_r0_0 hW) eX7_season_43 ?_
          refine Gd_callE0 (g_cV (x_become9 hW hA) ok_X0_become lk_RX7_232 (W_s9 hW) ⟨_, _, rfl⟩ rfl rfl (Nat.le_of_ble_eq_true rfl) (Nat.le_of_ble_eq_true rfl) (Nat.le_refl _) (Nat.le_refl _) eX7_season_46) (fun a2 hq2 => ?_)
          obtain ⟨hA2, hq2⟩ := hq2
          have hc2 : chg scX a a2 := chg_mono2 scX_9 hq2
          have hT2 := TX_X hT hc2
          have hS2 := SX_X hS hc2
          refine Gd_iload_n (i := 3) rfl eX7_season_49 ?_
          refine Gd_if_ne eX7_season_50 (fun _ => ?_) (fun q => by first | exact absurd q (by decide) | exact absurd (by decide) q)
          refine Gd_iload_n (i := 3) rfl eX7_season_57 ?_
          refine Gd_iconst ki_1 eX7_season_58 ?_
          refine Gd_icmp_ne eX7_season_59 (fun q => by first | exact absurd q (by decide) | exact absurd (by decide) q) (fun _ => ?_)
          refine Gd_iconst ki_3 eX7_season_62 ?_
          refine Gd_goto eX7_season_63 ?_
          refine Gd_istore5 rfl eX7_season_67 ?_
          refine Gd_aload_n (i := 0) rfl eX7_season_69 ?_
          refine Gd_aload_n (i := 0) rfl eX7_season_70 ?_
          refine Gd_getR fl_RX7_16 (W_s0 hW) (W_r0_1 hW) eX7_season_71 ?_
          refine Gd_aload_n (i := 0) rfl eX7_season_74 ?_
          refine Gd_getR fl_RX7_56 (W_s0 hW) (W_r0_8 hW) eX7_season_75 ?_
          refine Gd_iload_n (i := 1) rfl eX7_season_78 ?_
          refine Gd_aaldN (Or.inl ⟨rfl, rfl, rfl⟩ : g_rc 21 1 4) (W_s38 hW) (by first | omega | decide) (W_r38 hW (j := i) (by first | omega | decide)) eX7_season_79 ?_
          refine Gd_iload_n (i := 2) rfl eX7_season_80 ?_
          refine Gd_iload (i := 5) rfl eX7_season_81 ?_
          refine Gd_callEV (g_cV (x_shootAll hW (W_F9 hW) (by decide) hA2 hI hT2 hTI hlt hS2 (s := i) (p := p) hi hal hz hpn (k := 3) (by decide)) ok_X7_shootAll lk_RX7_236 (W_s0 hW) ⟨_, _, rfl⟩ rfl rfl (Nat.le_of_ble_eq_true rfl) (Nat.le_of_ble_eq_true rfl) (Nat.le_refl _) (Nat.le_refl _) eX7_season_83) (fun a3 hq3 => ?_)
          obtain ⟨hA3, hq3⟩ := hq3
          have hc3 : chg scX a a3 := chg_tr hc2 (chg_mono2 scX_T hq3)
          refine Gd_istore6 rfl eX7_season_86 ?_
          refine Gd_iload_n (i := 3) rfl eX7_season_88 ?_
          refine Gd_iconst ki_3 eX7_season_89 ?_
          refine Gd_icmp_ne eX7_season_90 (fun _ => ?_) (fun q => by first | exact absurd q (by decide) | exact absurd (by decide) q)
          refine Gd_iload_n (i := 3) rfl eX7_season_105 ?_
          refine Gd_iconst ki_4 eX7_season_106 ?_
          refine Gd_icmp_ne eX7_season_107 (fun _ => ?_) (fun q => by first | exact absurd q (by decide) | exact absurd (by decide) q)
          refine Gd_iload (i := 6) rfl eX7_season_120 ?_
          exact Gd_ireturn eX7_season_122 rfl (Nat.le_refl _) (Nat.le_refl _) ⟨a3, by rw [hr]; rfl, rfl, hc3⟩
        · refine Gd_aload_n (i := 0) rfl eX7_season_38 ?_
          refine Gd_getR fl_RX7_16 (W_s0 hW) (W_r0_1 hW) eX7_season_39 ?_
          refine Gd_aload_n (i := 0) rfl eX7_season_42 ?_
          refine Gd_getR fl_RX7_10 (W_s0 hW) (W_r0_0 hW) eX7_season_43 ?_
          refine Gd_callE0 (g_cV (x_become9 hW hA) ok_X0_become lk_RX7_232 (W_s9 hW) ⟨_, _, rfl⟩ rfl rfl (Nat.le_of_ble_eq_true rfl) (Nat.le_of_ble_eq_true rfl) (Nat.le_refl _) (Nat.le_refl _) eX7_season_46) (fun a2 hq2 => ?_)
          obtain ⟨hA2, hq2⟩ := hq2
          have hc2 : chg scX a a2 := chg_mono2 scX_9 hq2
          have hT2 := TX_X hT hc2
          have hS2 := SX_X hS hc2
          refine Gd_iload_n (i := 3) rfl eX7_season_49 ?_
          refine Gd_if_ne eX7_season_50 (fun _ => ?_) (fun q => by first | exact absurd q (by decide) | exact absurd (by decide) q)
          refine Gd_iload_n (i := 3) rfl eX7_season_57 ?_
          refine Gd_iconst ki_1 eX7_season_58 ?_
          refine Gd_icmp_ne eX7_season_59 (fun _ => ?_) (fun q => by first | exact absurd q (by decide) | exact absurd (by decide) q)
          refine Gd_iconst ki_1 eX7_season_66 ?_
          refine Gd_istore5 rfl eX7_season_67 ?_
          refine Gd_aload_n (i := 0) rfl eX7_season_69 ?_
          refine Gd_aload_n (i := 0) rfl eX7_season_70 ?_
          refine Gd_getR fl_RX7_16 (W_s0 hW) (W_r0_1 hW) eX7_season_71 ?_
          refine Gd_aload_n (i := 0) rfl eX7_season_74 ?_
          refine Gd_getR fl_RX7_56 (W_s0 hW) (W_r0_8 hW) eX7_season_75 ?_
          refine Gd_iload_n (i := 1) rfl eX7_season_78 ?_
          refine Gd_aaldN (Or.inl ⟨rfl, rfl, rfl⟩ : g_rc 21 1 4) (W_s38 hW) (by first | omega | decide) (W_r38 hW (j := i) (by first | omega | decide)) eX7_season_79 ?_
          refine Gd_iload_n (i := 2) rfl eX7_season_80 ?_
          refine Gd_iload (i := 5) rfl eX7_season_81 ?_
          refine Gd_callEV (g_cV (x_shootAll hW (W_F9 hW) (by decide) hA2 hI hT2 hTI hlt hS2 (s := i) (p := p) hi hal hz hpn (k := 1) (by decide)) ok_X7_shootAll lk_RX7_236 (W_s0 hW) ⟨_, _, rfl⟩ rfl rfl (Nat.le_of_ble_eq_true rfl) (Nat.le_of_ble_eq_true rfl) (Nat.le_refl _) (Nat.le_refl _) eX7_season_83) (fun a3 hq3 => ?_)
          obtain ⟨hA3, hq3⟩ := hq3
          have hc3 : chg scX a a3 := chg_tr hc2 (chg_mono2 scX_T hq3)
          refine Gd_istore6 rfl eX7_season_86 ?_
          refine Gd_iload_n (i := 3) rfl eX7_season_88 ?_
          refine Gd_iconst ki_3 eX7_season_89 ?_
          refine Gd_icmp_ne eX7_season_90 (fun _ => ?_) (fun q => by first | exact absurd q (by decide) | exact absurd (by decide) q)
          refine Gd_iload_n (i := 3) rfl eX7_season_105 ?_
          refine Gd_iconst ki_4 eX7_season_106 ?_
          refine Gd_icmp_ne eX7_season_107 (fun _ => ?_) (fun q => by first | exact absurd q (by decide) | exact absurd (by decide) q)
          refine Gd_iload (i := 6) rfl eX7_season_120 ?_
          exact Gd_ireturn eX7_season_122 rfl (Nat.le_refl _) (Nat.le_refl _) ⟨a3, by rw [hr]; rfl, rfl, hc3⟩
        · refine Gd_aload_n (i := 0) rfl eX7_season_38 ?_
          refine Gd_getR fl_RX7_16 (W_s0 hW) (W_r0_1 hW) eX7_season_39 ?_
          refine Gd_aload_n (i := 0) rfl eX7_season_42 ?_
          refine Gd_getR fl_RX7_10 (W_s0 hW) (W_r0_0 hW) eX7_season_43 ?_
          refine Gd_callE0 (g_cV (x_become9 hW hA) ok_X0_become lk_RX7_232 (W_s9 hW) ⟨_, _, rfl⟩ rfl rfl (Nat.le_of_ble_eq_true rfl) (Nat.le_of_ble_eq_true rfl) (Nat.le_refl _) (Nat.le_refl _) eX7_season_46) (fun a2 hq2 => ?_)
          obtain ⟨hA2, hq2⟩ := hq2
          have hc2 : chg scX a a2 := chg_mono2 scX_9 hq2
          have hT2 := TX_X hT hc2
          have hS2 := SX_X hS hc2
          refine Gd_iload_n (i := 3) rfl eX7_season_49 ?_
          refine Gd_if_ne eX7_season_50 (fun _ => ?_) (fun q => by first | exact absurd q (by decide) | exact absurd (by decide) q)
          refine Gd_iload_n (i := 3) rfl eX7_season_57 ?_
          refine Gd_iconst ki_1 eX7_season_58 ?_
          refine Gd_icmp_ne eX7_season_59 (fun _ => ?_) (fun q => by first | exact absurd q (by decide) | exact absurd (by decide) q)
          refine Gd_iconst ki_1 eX7_season_66 ?_
          refine Gd_istore5 rfl eX7_season_67 ?_
          refine Gd_aload_n (i := 0) rfl eX7_season_69 ?_
          refine Gd_aload_n (i := 0) rfl eX7_season_70 ?_
          refine Gd_getR fl_RX7_16 (W_s0 hW) (W_r0_1 hW) eX7_season_71 ?_
          refine Gd_aload_n (i := 0) rfl eX7_season_74 ?_
          refine Gd_getR fl_RX7_56 (W_s0 hW) (W_r0_8 hW) eX7_season_75 ?_
          refine Gd_iload_n (i := 1) rfl eX7_season_78 ?_
          refine Gd_aaldN (Or.inl ⟨rfl, rfl, rfl⟩ : g_rc 21 1 4) (W_s38 hW) (by first | omega | decide) (W_r38 hW (j := i) (by first | omega | decide)) eX7_season_79 ?_
          refine Gd_iload_n (i := 2) rfl eX7_season_80 ?_
          refine Gd_iload (i := 5) rfl eX7_season_81 ?_
          refine Gd_callEV (g_cV (x_shootAll hW (W_F9 hW) (by decide) hA2 hI hT2 hTI hlt hS2 (s := i) (p := p) hi hal hz hpn (k := 1) (by decide)) ok_X7_shootAll lk_RX7_236 (W_s0 hW) ⟨_, _, rfl⟩ rfl rfl (Nat.le_of_ble_eq_true rfl) (Nat.le_of_ble_eq_true rfl) (Nat.le_refl _) (Nat.le_refl _) eX7_season_83) (fun a3 hq3 => ?_)
          obtain ⟨hA3, hq3⟩ := hq3
          have hc3 : chg scX a a3 := chg_tr hc2 (chg_mono2 scX_T hq3)
          refine Gd_istore6 rfl eX7_season_86 ?_
          refine Gd_iload_n (i := 3) rfl eX7_season_88 ?_
          refine Gd_iconst ki_3 eX7_season_89 ?_
          refine Gd_icmp_ne eX7_season_90 (fun q => by first | exact absurd q (by decide) | exact absurd (by decide) q) (fun _ => ?_)
          refine Gd_aload_n (i := 0) rfl eX7_season_93 ?_
          refine Gd_getR fl_RX7_16 (W_s0 hW) (W_r0_1 hW) eX7_season_94 ?_
          refine Gd_getR fl_RX7_158 (W_s9 hW) (W_r9_7 hW) eX7_season_97 ?_
          refine Gd_iload_n (i := 2) rfl eX7_season_100 ?_
          refine Gd_ialdE (v := nI (runs ts cd p (cl i) (sz i) 0 φ 3 p)) (W_s13 hW) (by first | omega | decide) (FA_ho hA3 (p := p) hp6 :) eX7_season_101 ?_
          refine Gd_goto eX7_season_102 ?_
          exact Gd_ireturn eX7_season_122 rfl (Nat.le_refl _) (Nat.le_refl _) ⟨a3, by rw [hr]; rfl, rfl, hc3⟩
        · refine Gd_aload_n (i := 0) rfl eX7_season_38 ?_
          refine Gd_getR fl_RX7_16 (W_s0 hW) (W_r0_1 hW) eX7_season_39 ?_
          refine Gd_aload_n (i := 0) rfl eX7_season_42 ?_
          refine Gd_getR fl_RX7_10 (W_s0 hW) (W_r0_0 hW) eX7_season_43 ?_
          refine Gd_callE0 (g_cV (x_become9 hW hA) ok_X0_become lk_RX7_232 (W_s9 hW) ⟨_, _, rfl⟩ rfl rfl (Nat.le_of_ble_eq_true rfl) (Nat.le_of_ble_eq_true rfl) (Nat.le_refl _) (Nat.le_refl _) eX7_season_46) (fun a2 hq2 => ?_)
          obtain ⟨hA2, hq2⟩ := hq2
          have hc2 : chg scX a a2 := chg_mono2 scX_9 hq2
          have hT2 := TX_X hT hc2
          have hS2 := SX_X hS hc2
          refine Gd_iload_n (i := 3) rfl eX7_season_49 ?_
          refine Gd_if_ne eX7_season_50 (fun _ => ?_) (fun q => by first | exact absurd q (by decide) | exact absurd (by decide) q)
          refine Gd_iload_n (i := 3) rfl eX7_season_57 ?_
          refine Gd_iconst ki_1 eX7_season_58 ?_
          refine Gd_icmp_ne eX7_season_59 (fun _ => ?_) (fun q => by first | exact absurd q (by decide) | exact absurd (by decide) q)
          refine Gd_iconst ki_1 eX7_season_66 ?_
          refine Gd_istore5 rfl eX7_season_67 ?_
          refine Gd_aload_n (i := 0) rfl eX7_season_69 ?_
          refine Gd_aload_n (i := 0) rfl eX7_season_70 ?_
          refine Gd_getR fl_RX7_16 (W_s0 hW) (W_r0_1 hW) eX7_season_71 ?_
          refine Gd_aload_n (i := 0) rfl eX7_season_74 ?_
          refine Gd_getR fl_RX7_56 (W_s0 hW) (W_r0_8 hW) eX7_season_75 ?_
          refine Gd_iload_n (i := 1) rfl eX7_season_78 ?_
          refine Gd_aaldN (Or.inl ⟨rfl, rfl, rfl⟩ : g_rc 21 1 4) (W_s38 hW) (by first | omega | decide) (W_r38 hW (j := i) (by first | omega | decide)) eX7_season_79 ?_
          refine Gd_iload_n (i := 2) rfl eX7_season_80 ?_
          refine Gd_iload (i := 5) rfl eX7_season_81 ?_
          refine Gd_callEV (g_cV (x_shootAll hW (W_F9 hW) (by decide) hA2 hI hT2 hTI hlt hS2 (s := i) (p := p) hi hal hz hpn (k := 1) (by decide)) ok_X7_shootAll lk_RX7_236 (W_s0 hW) ⟨_, _, rfl⟩ rfl rfl (Nat.le_of_ble_eq_true rfl) (Nat.le_of_ble_eq_true rfl) (Nat.le_refl _) (Nat.le_refl _) eX7_season_83) (fun a3 hq3 => ?_)
          obtain ⟨hA3, hq3⟩ := hq3
          have hc3 : chg scX a a3 := chg_tr hc2 (chg_mono2 scX_T hq3)
          refine Gd_istore6 rfl eX7_season_86 ?_
          refine Gd_iload_n (i := 3) rfl eX7_season_88 ?_
          refine Gd_iconst ki_3 eX7_season_89 ?_
          refine Gd_icmp_ne eX7_season_90 (fun _ => ?_) (fun q => by first | exact absurd q (by decide) | exact absurd (by decide) q)
          refine Gd_iload_n (i := 3) rfl eX7_season_105 ?_
          refine Gd_iconst ki_4 eX7_season_106 ?_
          refine Gd_icmp_ne eX7_season_107 (fun q => by first | exact absurd q (by decide) | exact absurd (by decide) q) (fun _ => ?_)
          refine Gd_aload_n (i := 0) rfl eX7_season_110 ?_
          refine Gd_getR fl_RX7_16 (W_s0 hW) (W_r0_1 hW) eX7_season_111 ?_
          refine Gd_getIe (v := nI (runs ts cd p (cl i) (sz i) 0 φ 7 0)) fl_RX7_94 (W_s9 hW) (FA_al hA3 :) eX7_season_114 ?_
          refine Gd_goto eX7_season_117 ?_
          exact Gd_ireturn eX7_season_122 rfl (Nat.le_refl _) (Nat.le_refl _) ⟨a3, by rw [hr]; rfl, rfl, hc3⟩
      · refine Gd_bipush kb_m7 eX7_season_35 ?_
        exact Gd_ireturn eX7_season_37 rfl (Nat.le_refl _) (Nat.le_refl _) ⟨a, by rw [oSeason_w hown c32], rfl, chg_rf⟩
    · refine Gd_bipush kb_m5 eX7_season_23 ?_
      exact Gd_ireturn eX7_season_25 rfl (Nat.le_refl _) (Nat.le_refl _) ⟨a, by rw [oSeason_r (by rw [owr, if_pos c9, if_neg (by rw [c20]; decide)]; decide), owr, if_pos c9, if_neg (by rw [c20]; decide)], rfl, chg_rf⟩
  · refine Gd_iload (i := 4) rfl eX7_season_12 ?_
    exact Gd_ireturn eX7_season_14 rfl (Nat.le_refl _) (Nat.le_refl _) ⟨a, by rw [oSeason_r (by rw [owr, if_neg c9]; exact c9), owr, if_neg c9], rfl, chg_rf⟩
theorem m_hunt {sh : List (Nat × Nat)} {a : Nat → Nat → Int32} {r : Nat → Nat → Option Nat} {g : Nat → Nat → Int64} {φ ts cd : Nat → Nat → Nat} {nt : Nat} {so sz : Nat → Nat} {cl : Nat → Nat → Int32} (hW : WD sh r) (hM : MA φ a) (hI : FI φ) (hT : TM nt ts cd a) (hTI : TI nt ts cd) (hlt : φ 7 2 < nt) (hS : MS so sz cl a) (hSI : SI so sz) (vs vp : Int32) : Mt YX8_hunt 7 0 0 [vr 50, vi vs, vi vp] (sh, a, r, g) (g_EV sh r g (vi (rHunt φ ts cd so sz cl vs vp).1) (fun a' => MA (rHunt φ ts cd so sz cl vs vp).2 a' ∧ chg scZ a a')) := by
  refine Mt_of rfl (Nat.le_of_ble_eq_true rfl) rfl ?_
  have hhu := FI_hu hI
  refine Gd_aload_n (i := 0) rfl eX8_hunt_0 ?_
  refine Gd_iload_n (i := 1) rfl eX8_hunt_1 ?_
  refine Gd_iload_n (i := 2) rfl eX8_hunt_2 ?_
  refine Gd_callP (g_cV (m_oneWrong hW hM hI hS hSI _ _) ok_X8_oneWrong lk_RX8_241 (W_s50 hW) ⟨_, _, rfl⟩ rfl rfl (Nat.le_of_ble_eq_true rfl) (Nat.le_of_ble_eq_true rfl) (Nat.le_refl _) (Nat.le_refl _) eX8_hunt_3) ?_
  refine Gd_istore_n3 rfl eX8_hunt_6 ?_
  refine Gd_iload_n (i := 3) rfl eX8_hunt_7 ?_
  refine Gd_if_eq eX8_hunt_8 (fun c8 => ?_) (fun c8 => ?_)
  · obtain ⟨i, p, hi, hpn, rfl, rfl, hso, hal⟩ := owr_ok hhu c8
    have hz := hSI.2 i hi
    have hp6 : p < 6 := by omega
    have hr := rHunt_u (ts := ts) (cd := cd) c8 hi hp6
    have hda := FI_da hI
    refine Gd_aload_n (i := 0) rfl eX8_hunt_13 ?_
    refine Gd_getIe (v := nI (φ 7 1)) fl_RX8_96 (W_s50 hW) (MA_da hM :) eX8_hunt_14 ?_
    refine Gd_sipush ks_999 eX8_hunt_17 ?_
    refine Gd_icmp_neN (by first | omega | decide) (by first | omega | decide) eX8_hunt_20 (fun c20 => ?_) (fun c20 => ?_)
    · refine Gd_aload_n (i := 0) rfl eX8_hunt_26 ?_
      refine Gd_iload_n (i := 1) rfl eX8_hunt_27 ?_
      refine Gd_iload_n (i := 2) rfl eX8_hunt_28 ?_
      refine Gd_callE0 (g_cV (m_goes hW hM hI hT hTI hlt hS (s := i) (p := p) hi hal hz hpn) ok_X8_goes lk_RX8_247 (W_s50 hW) ⟨_, _, rfl⟩ rfl rfl (Nat.le_of_ble_eq_true rfl) (Nat.le_of_ble_eq_true rfl) (Nat.le_refl _) (Nat.le_refl _) eX8_hunt_29) (fun a3 hq3 => ?_)
      obtain ⟨hM3, h70, hq3⟩ := hq3
      have hd3 : runs ts cd p (cl i) (sz i) 0 φ 7 1 = φ 7 1 := runs_k (by decide) (by decide) (by decide) _ _ _
      have hM4 := MA_setda (v := φ 7 1 + 1) hM3
      refine Gd_aload_n (i := 0) rfl eX8_hunt_32 ?_
      refine Gd_dup rfl eX8_hunt_33 ?_
      refine Gd_getIe (v := nI (φ 7 1)) fl_RX8_96 (W_s50 hW) ((MA_da hM3).trans (by rw [hd3]) :) eX8_hunt_34 ?_
      refine Gd_iconst ki_1 eX8_hunt_37 ?_
      refine Gd_iaddN eX8_hunt_38 ?_
      refine Gd_putI fl_RX8_96 (W_s50 hW) eX8_hunt_39 ?_
      refine Gd_aload_n (i := 0) rfl eX8_hunt_42 ?_
      refine Gd_getR fl_RX8_16 (W_s50 hW) (W_r50_3 hW) eX8_hunt_43 ?_
      refine Gd_iconst ki_4 eX8_hunt_46 ?_
      refine Gd_iload_n (i := 2) rfl eX8_hunt_47 ?_
      refine Gd_imulN eX8_hunt_48 ?_
      refine Gd_ialdE (v := nI (runs ts cd p (cl i) (sz i) 0 φ 3 p)) (W_s53 hW) (by first | omega | decide) (MA_ho hM3 (p := p) hp6 :) eX8_hunt_49 ?_
      exact Gd_ireturn eX8_hunt_50 rfl (Nat.le_refl _) (Nat.le_refl _) (by rw [hr, if_neg (by omega)]; exact ⟨_, rfl, rfl, hM4, chg_up (chg_mono2 scZ_G hq3) rfl⟩)
    · refine Gd_bipush kb_m3 eX8_hunt_23 ?_
      exact Gd_ireturn eX8_hunt_25 rfl (Nat.le_refl _) (Nat.le_refl _) (by rw [hr, if_pos (by omega)]; exact ⟨a, rfl, rfl, hM, chg_rf⟩)
  · refine Gd_iload_n (i := 3) rfl eX8_hunt_11 ?_
    exact Gd_ireturn eX8_hunt_12 rfl (Nat.le_refl _) (Nat.le_refl _) (by rw [rHunt_r c8]; exact ⟨a, rfl, rfl, hM, chg_rf⟩)
theorem x_hunt {sh : List (Nat × Nat)} {a : Nat → Nat → Int32} {r : Nat → Nat → Option Nat} {g : Nat → Nat → Int64} {φ ts cd : Nat → Nat → Nat} {nt : Nat} {so sz : Nat → Nat} {cl : Nat → Nat → Int32} (hW : WD sh r) (hA : FA 1 φ a) (hI : FI φ) (hT : TX nt ts cd sh a r) (hTI : TI nt ts cd) (hlt : φ 7 2 < nt) (hS : SX so sz cl a) (hSI : SI so sz) (vs vp : Int32) : Mt YX7_hunt 7 0 0 [vr 0, vi vs, vi vp] (sh, a, r, g) (g_EV sh r g (vi (rHunt φ ts cd so sz cl vs vp).1) (fun a' => FA 1 (rHunt φ ts cd so sz cl vs vp).2 a' ∧ chg scU a a')) := by
  refine Mt_of rfl (Nat.le_of_ble_eq_true rfl) rfl ?_
  have hhu := FI_hu hI
  refine Gd_aload_n (i := 0) rfl eX7_hunt_0 ?_
  refine Gd_iload_n (i := 1) rfl eX7_hunt_1 ?_
  refine Gd_callP (g_cV (x_seasonRefusal hW hS hSI _) ok_X7_seasonRefusal lk_RX7_229 (W_s0 hW) ⟨_, _, rfl⟩ rfl rfl (Nat.le_of_ble_eq_true rfl) (Nat.le_of_ble_eq_true rfl) (Nat.le_refl _) (Nat.le_refl _) eX7_hunt_2) ?_
  refine Gd_istore_n3 rfl eX7_hunt_5 ?_
  refine Gd_iload_n (i := 3) rfl eX7_hunt_6 ?_
  refine Gd_if_eq eX7_hunt_7 (fun c7 => ?_) (fun c7 => ?_)
  · refine Gd_aload_n (i := 0) rfl eX7_hunt_12 ?_
    refine Gd_iload_n (i := 2) rfl eX7_hunt_13 ?_
    refine Gd_callP (g_cV (x_isHunter hW hA hI _) ok_X7_isHunter lk_RX7_140 (W_s0 hW) ⟨_, _, rfl⟩ rfl rfl (Nat.le_of_ble_eq_true rfl) (Nat.le_of_ble_eq_true rfl) (Nat.le_refl _) (Nat.le_refl _) eX7_hunt_14) ?_
    refine Gd_if_neB eX7_hunt_17 (fun c17 => ?_) (fun c17 => ?_)
    · have hown : owr so sz cl (φ 7 3) vs vp = 0 := by rw [owr, if_pos c7, if_pos c17, nI_0]
      obtain ⟨i, p, hi, hpn, rfl, rfl, hso, hal⟩ := owr_ok hhu hown
      have hz := hSI.2 i hi
      have hp6 : p < 6 := by omega
      have hr := rHunt_u (ts := ts) (cd := cd) hown hi hp6
      have hda := FI_da hI
      refine Gd_aload_n (i := 0) rfl eX7_hunt_23 ?_
      refine Gd_getR fl_RX7_10 (W_s0 hW) (W_r0_0 hW) eX7_hunt_24 ?_
      refine Gd_getIe (v := nI (φ 7 1)) fl_RX7_103 (W_s1 hW) (FA_da hA :) eX7_hunt_27 ?_
      refine Gd_sipush ks_999 eX7_hunt_30 ?_
      refine Gd_icmp_ltN (by first | omega | decide) (by first | omega | decide) eX7_hunt_33 (fun c33 => ?_) (fun c33 => ?_)
      · refine Gd_aload_n (i := 0) rfl eX7_hunt_39 ?_
        refine Gd_aload_n (i := 0) rfl eX7_hunt_40 ?_
        refine Gd_getR fl_RX7_10 (W_s0 hW) (W_r0_0 hW) eX7_hunt_41 ?_
        refine Gd_aload_n (i := 0) rfl eX7_hunt_44 ?_
        refine Gd_getR fl_RX7_56 (W_s0 hW) (W_r0_8 hW) eX7_hunt_45 ?_
        refine Gd_iload_n (i := 1) rfl eX7_hunt_48 ?_
        refine Gd_aaldN (Or.inl ⟨rfl, rfl, rfl⟩ : g_rc 21 1 4) (W_s38 hW) (by first | omega | decide) (W_r38 hW (j := i) (by first | omega | decide)) eX7_hunt_49 ?_
        refine Gd_iload_n (i := 2) rfl eX7_hunt_50 ?_
        refine Gd_iconst ki_2 eX7_hunt_51 ?_
        refine Gd_callEV (g_cV (x_shootAll hW (W_F1 hW) (by decide) hA hI hT hTI hlt hS (s := i) (p := p) hi hal hz hpn (k := 2) (by decide)) ok_X7_shootAll lk_RX7_236 (W_s0 hW) ⟨_, _, rfl⟩ rfl rfl (Nat.le_of_ble_eq_true rfl) (Nat.le_of_ble_eq_true rfl) (Nat.le_refl _) (Nat.le_refl _) eX7_hunt_52) (fun a3 hq3 => ?_)
        obtain ⟨hA3, hq3⟩ := hq3
        have hd3 : runs ts cd p (cl i) (sz i) 0 φ 7 1 = φ 7 1 := runs_k (by decide) (by decide) (by decide) _ _ _
        have hA4 := FA_setda (v := φ 7 1 + 1) hA3
        refine Gd_pop rfl eX7_hunt_55 ?_
        refine Gd_aload_n (i := 0) rfl eX7_hunt_56 ?_
        refine Gd_getR fl_RX7_10 (W_s0 hW) (W_r0_0 hW) eX7_hunt_57 ?_
        refine Gd_dup rfl eX7_hunt_60 ?_
        refine Gd_getIe (v := nI (φ 7 1)) fl_RX7_103 (W_s1 hW) ((FA_da hA3).trans (by rw [hd3]) :) eX7_hunt_61 ?_
        refine Gd_iconst ki_1 eX7_hunt_64 ?_
        refine Gd_iaddN eX7_hunt_65 ?_
        refine Gd_putI fl_RX7_103 (W_s1 hW) eX7_hunt_66 ?_
        refine Gd_aload_n (i := 0) rfl eX7_hunt_69 ?_
        refine Gd_getR fl_RX7_10 (W_s0 hW) (W_r0_0 hW) eX7_hunt_70 ?_
        refine Gd_getR fl_RX7_158 (W_s1 hW) (W_r1_7 hW) eX7_hunt_73 ?_
        refine Gd_iload_n (i := 2) rfl eX7_hunt_76 ?_
        refine Gd_ialdE (v := nI (runs ts cd p (cl i) (sz i) 0 φ 3 p)) (W_s5 hW) (by first | omega | decide) (FA_ho hA3 (p := p) hp6 :) eX7_hunt_77 ?_
        exact Gd_ireturn eX7_hunt_78 rfl (Nat.le_refl _) (Nat.le_refl _) (by rw [hr, if_neg (by omega)]; exact ⟨_, rfl, rfl, hA4, chg_up (chg_mono2 (scU_T (by decide)) hq3) rfl⟩)
      · refine Gd_bipush kb_m3 eX7_hunt_36 ?_
        exact Gd_ireturn eX7_hunt_38 rfl (Nat.le_refl _) (Nat.le_refl _) (by rw [hr, if_pos (by omega)]; exact ⟨a, rfl, rfl, hA, chg_rf⟩)
    · refine Gd_bipush kb_m5 eX7_hunt_20 ?_
      exact Gd_ireturn eX7_hunt_22 rfl (Nat.le_refl _) (Nat.le_refl _) (by rw [rHunt_r (by rw [owr, if_pos c7, if_neg (by rw [c17]; decide)]; decide), owr, if_pos c7, if_neg (by rw [c17]; decide)]; exact ⟨a, rfl, rfl, hA, chg_rf⟩)
  · refine Gd_iload_n (i := 3) rfl eX7_hunt_10 ?_
    exact Gd_ireturn eX7_hunt_11 rfl (Nat.le_refl _) (Nat.le_refl _) (by rw [rHunt_r (by rw [owr, if_neg c7]; exact c7), owr, if_neg c7]; exact ⟨a, rfl, rfl, hA, chg_rf⟩)
theorem m_judge {sh : List (Nat × Nat)} {a : Nat → Nat → Int32} {r : Nat → Nat → Option Nat} {g : Nat → Nat → Int64} {φ ts cd : Nat → Nat → Nat} {nt : Nat} {so sz : Nat → Nat} {cl : Nat → Nat → Int32} (hW : WD sh r) (hM : MA φ a) (hI : FI φ) (hT : TM nt ts cd a) (hTI : TI nt ts cd) (hlt : φ 7 2 < nt) (hS : MS so sz cl a) (hSI : SI so sz) (vs vt vp : Int32) : Mt YX8_judge 7 0 0 [vr 50, vi vs, vi vt, vi vp] (sh, a, r, g) (g_EV sh r g (vi (oJudge φ ts cd so sz cl vs vt vp)) (fun a' => MA φ a' ∧ chg scZ a a')) := by
  refine Mt_of rfl (Nat.le_of_ble_eq_true rfl) rfl ?_
  have hhu := FI_hu hI
  refine Gd_aload_n (i := 0) rfl eX8_judge_0 ?_
  refine Gd_iload_n (i := 1) rfl eX8_judge_1 ?_
  refine Gd_iload_n (i := 2) rfl eX8_judge_2 ?_
  refine Gd_iload_n (i := 3) rfl eX8_judge_3 ?_
  refine Gd_callP (g_cV (m_toldWrong hW hM hI hS hSI _ _ _) ok_X8_toldWrong lk_RX8_266 (W_s50 hW) ⟨_, _, rfl⟩ rfl rfl (Nat.le_of_ble_eq_true rfl) (Nat.le_of_ble_eq_true rfl) (Nat.le_refl _) (Nat.le_refl _) eX8_judge_4) ?_
  refine Gd_istore4 rfl eX8_judge_7 ?_
  refine Gd_iload (i := 4) rfl eX8_judge_9 ?_
  refine Gd_if_ne eX8_judge_11 (fun c11 => ?_) (fun c11 => ?_)
  · refine Gd_iload (i := 4) rfl eX8_judge_24 ?_
    exact Gd_ireturn eX8_judge_26 rfl (Nat.le_refl _) (Nat.le_refl _) ⟨a, by rw [oJudge_r c11], rfl, hM, chg_rf⟩
  · obtain ⟨i, j, p, hi, hj, hpn, rfl, rfl, rfl, hso, hal, hle⟩ := tlw_ok hhu c11
    have hz := hSI.2 i hi
    have hp6 : p < 6 := by omega
    refine Gd_aload_n (i := 0) rfl eX8_judge_14 ?_
    refine Gd_iload_n (i := 1) rfl eX8_judge_15 ?_
    refine Gd_iload_n (i := 2) rfl eX8_judge_16 ?_
    refine Gd_iload_n (i := 3) rfl eX8_judge_17 ?_
    refine Gd_callEV (g_cV (m_unlike hW hM hI hT hTI hlt hS (s := i) (t := j) (p := p) hi hj hal hle hz hpn) ok_X8_unlike lk_RX8_269 (W_s50 hW) ⟨_, _, rfl⟩ rfl rfl (Nat.le_of_ble_eq_true rfl) (Nat.le_of_ble_eq_true rfl) (Nat.le_refl _) (Nat.le_refl _) eX8_judge_18) (fun a3 hq3 => ?_)
    obtain ⟨hM3, hq3⟩ := hq3
    refine Gd_goto eX8_judge_21 ?_
    exact Gd_ireturn eX8_judge_26 rfl (Nat.le_refl _) (Nat.le_refl _) ⟨a3, by rw [oJudge_u c11 hi hj hp6], rfl, hM3, chg_mono2 scZ_K hq3⟩
theorem x_judge {sh : List (Nat × Nat)} {a : Nat → Nat → Int32} {r : Nat → Nat → Option Nat} {g : Nat → Nat → Int64} {φ ts cd : Nat → Nat → Nat} {nt : Nat} {so sz : Nat → Nat} {cl : Nat → Nat → Int32} (hW : WD sh r) (hA : FA 1 φ a) (hI : FI φ) (hT : TX nt ts cd sh a r) (hTI : TI nt ts cd) (hlt : φ 7 2 < nt) (hS : SX so sz cl a) (hSI : SI so sz) (vs vt vp : Int32) : Mt YX7_judge 7 0 0 [vr 0, vi vs, vi vt, vi vp] (sh, a, r, g) (g_EV sh r g (vi (oJudge φ ts cd so sz cl vs vt vp)) (fun a' => chg scX a a')) := by
  refine Mt_of rfl (Nat.le_of_ble_eq_true rfl) rfl ?_
  have hhu := FI_hu hI
  refine Gd_aload_n (i := 0) rfl eX7_judge_0 ?_
  refine Gd_iload_n (i := 1) rfl eX7_judge_1 ?_
  refine Gd_iload_n (i := 2) rfl eX7_judge_2 ?_
  refine Gd_iload_n (i := 3) rfl eX7_judge_3 ?_
  refine Gd_callP (g_cV (x_judgeRefusal hW hS hSI hA hI _ _ _) ok_X7_judgeRefusal lk_RX7_253 (W_s0 hW) ⟨_, _, rfl⟩ rfl rfl (Nat.le_of_ble_eq_true rfl) (Nat.le_of_ble_eq_true rfl) (Nat.le_refl _) (Nat.le_refl _) eX7_judge_4) ?_
  refine Gd_istore4 rfl eX7_judge_7 ?_
  refine Gd_iload (i := 4) rfl eX7_judge_9 ?_
  refine Gd_if_eq eX7_judge_11 (fun c11 => ?_) (fun c11 => ?_)
  · obtain ⟨i, j, p, hi, hj, hpn, rfl, rfl, rfl, hso, hal, hle⟩ := tlw_ok hhu c11
    have hz := hSI.2 i hi
    have hp6 : p < 6 := by omega
    refine Gd_aload_n (i := 0) rfl eX7_judge_17 ?_
    refine Gd_getR fl_RX7_16 (W_s0 hW) (W_r0_1 hW) eX7_judge_18 ?_
    refine Gd_aload_n (i := 0) rfl eX7_judge_21 ?_
    refine Gd_getR fl_RX7_10 (W_s0 hW) (W_r0_0 hW) eX7_judge_22 ?_
    refine Gd_callE0 (g_cV (x_become9 hW hA) ok_X0_become lk_RX7_232 (W_s9 hW) ⟨_, _, rfl⟩ rfl rfl (Nat.le_of_ble_eq_true rfl) (Nat.le_of_ble_eq_true rfl) (Nat.le_refl _) (Nat.le_refl _) eX7_judge_25) (fun a2 hq2 => ?_)
    obtain ⟨hA2, hq2⟩ := hq2
    have hc2 : chg scX a a2 := chg_mono2 scX_9 hq2
    have hT2 := TX_X hT hc2
    have hS2 := SX_X hS hc2
    refine Gd_aload_n (i := 0) rfl eX7_judge_28 ?_
    refine Gd_aload_n (i := 0) rfl eX7_judge_29 ?_
    refine Gd_getR fl_RX7_56 (W_s0 hW) (W_r0_8 hW) eX7_judge_30 ?_
    refine Gd_iload_n (i := 1) rfl eX7_judge_33 ?_
    refine Gd_aaldN (Or.inl ⟨rfl, rfl, rfl⟩ : g_rc 21 1 4) (W_s38 hW) (by first | omega | decide) (W_r38 hW (j := i) (by first | omega | decide)) eX7_judge_34 ?_
    refine Gd_aload_n (i := 0) rfl eX7_judge_35 ?_
    refine Gd_getR fl_RX7_56 (W_s0 hW) (W_r0_8 hW) eX7_judge_36 ?_
    refine Gd_iload_n (i := 2) rfl eX7_judge_39 ?_
    refine Gd_aaldN (Or.inl ⟨rfl, rfl, rfl⟩ : g_rc 21 1 4) (W_s38 hW) (by first | omega | decide) (W_r38 hW (j := j) (by first | omega | decide)) eX7_judge_40 ?_
    refine Gd_iload_n (i := 3) rfl eX7_judge_41 ?_
    refine Gd_callEV (g_cV (x_firstOtherwise hW hA2 hI hT2 hTI hlt hS2 (s := i) (t := j) (p := p) hi hj hal hle hz hpn) ok_X7_firstOtherwise lk_RX7_257 (W_s0 hW) ⟨_, _, rfl⟩ rfl rfl (Nat.le_of_ble_eq_true rfl) (Nat.le_of_ble_eq_true rfl) (Nat.le_refl _) (Nat.le_refl _) eX7_judge_42) (fun a3 hq3 => ?_)
    exact Gd_ireturn eX7_judge_45 rfl (Nat.le_refl _) (Nat.le_refl _) ⟨a3, by rw [oJudge_u c11 hi hj hp6], rfl, chg_tr hc2 (chg_mono2 scX_T hq3)⟩
  · refine Gd_iload (i := 4) rfl eX7_judge_14 ?_
    exact Gd_ireturn eX7_judge_16 rfl (Nat.le_refl _) (Nat.le_refl _) ⟨a, by rw [oJudge_r c11], rfl, chg_rf⟩
