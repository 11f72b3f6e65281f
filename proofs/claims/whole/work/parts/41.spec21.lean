theorem m_hits {sh : List (Nat × Nat)} {a : Nat → Nat → Int32} {r : Nat → Nat → Option Nat} {g : Nat → Nat → Int64} {φ ts cd : Nat → Nat → Nat} {nt : Nat} (hW : WD sh r) (hM : MA φ a) (hI : FI φ) (hT : TM nt ts cd a) (hTI : TI nt ts cd) (hlt : φ 7 2 < nt) (vp vd : Int32) : Mt YX8_hits 4 0 0 [vr 50, vi vp, vi vd] (sh, a, r, g) (g_EV sh r g (vi (oHits φ ts cd vp vd)) (fun a' => chg scM a a')) := by
  refine Mt_of rfl (Nat.le_of_ble_eq_true rfl) rfl ?_
  have hhu := FI_hu hI
  have hch : chg scM a a := chg_rf
  refine Gd_aload_n (i := 0) rfl eX8_hits_0 ?_
  refine Gd_iload_n (i := 1) rfl eX8_hits_1 ?_
  refine Gd_callP (g_cV (m_isOne hW hM hI _) ok_X8_isOne lk_RX8_88 (W_s50 hW) ⟨_, _, rfl⟩ rfl rfl (Nat.le_of_ble_eq_true rfl) (Nat.le_of_ble_eq_true rfl) (Nat.le_refl _) (Nat.le_refl _) eX8_hits_2) ?_
  refine Gd_if_eqB eX8_hits_5 (fun c5 => ?_) (fun c5 => ?_)
  · refine Gd_sipush ks_m1000 eX8_hits_24 ?_
    exact Gd_ireturn eX8_hits_27 rfl (Nat.le_refl _) (Nat.le_refl _) ⟨a, by rw [oHits, if_pos (Or.inl c5)], rfl, chg_rf⟩
  · obtain ⟨p, hpn, rfl⟩ := inr_t c5 (by omega)
    refine Gd_iload_n (i := 2) rfl eX8_hits_8 ?_
    refine Gd_callP (g_cS (m_isDeer _) ok_X8_isDeer lk_RX8_105 rfl rfl (Nat.le_of_ble_eq_true rfl) (Nat.le_of_ble_eq_true rfl) (Nat.le_refl _) (Nat.le_refl _) eX8_hits_9) ?_
    refine Gd_if_eqB eX8_hits_12 (fun c12 => ?_) (fun c12 => ?_)
    · refine Gd_sipush ks_m1000 eX8_hits_24 ?_
      exact Gd_ireturn eX8_hits_27 rfl (Nat.le_refl _) (Nat.le_refl _) ⟨a, by rw [oHits, if_pos (Or.inr c12)], rfl, chg_rf⟩
    · obtain ⟨d, hd, rfl⟩ := inr_t c12 (by decide)
      refine Gd_aload_n (i := 0) rfl eX8_hits_15 ?_
      refine Gd_iload_n (i := 1) rfl eX8_hits_16 ?_
      refine Gd_iload_n (i := 2) rfl eX8_hits_17 ?_
      refine Gd_callEV (g_cV (m_hitsOf hW hM hI hT hTI hlt hpn hd) ok_X8_hitsOf lk_RX8_199 (W_s50 hW) ⟨_, _, rfl⟩ rfl rfl (Nat.le_of_ble_eq_true rfl) (Nat.le_of_ble_eq_true rfl) (Nat.le_refl _) (Nat.le_refl _) eX8_hits_18) (fun a hq => ?_)
      have hM := MA_sc hM hq
      have hT := TM_sc hT hq
      have hch := chg_tr hch hq
      refine Gd_goto eX8_hits_21 ?_
      exact Gd_ireturn eX8_hits_27 rfl (Nat.le_refl _) (Nat.le_refl _) ⟨a, by rw [oHits_u hhu hpn hd], rfl, hch⟩
theorem x_hits {sh : List (Nat × Nat)} {a : Nat → Nat → Int32} {r : Nat → Nat → Option Nat} {g : Nat → Nat → Int64} {φ ts cd : Nat → Nat → Nat} {nt : Nat} (hW : WD sh r) (hA : FA 1 φ a) (hI : FI φ) (hT : TX nt ts cd sh a r) (hTI : TI nt ts cd) (hlt : φ 7 2 < nt) (vp vd : Int32) : Mt YX7_hits 4 0 0 [vr 0, vi vp, vi vd] (sh, a, r, g) (g_EV sh r g (vi (oHits φ ts cd vp vd)) (fun a' => chg scR a a')) := by
  refine Mt_of rfl (Nat.le_of_ble_eq_true rfl) rfl ?_
  have hhu := FI_hu hI
  have hch : chg scR a a := chg_rf
  refine Gd_aload_n (i := 0) rfl eX7_hits_0 ?_
  refine Gd_iload_n (i := 1) rfl eX7_hits_1 ?_
  refine Gd_callP (g_cV (x_isHunter hW hA hI _) ok_X7_isHunter lk_RX7_140 (W_s0 hW) ⟨_, _, rfl⟩ rfl rfl (Nat.le_of_ble_eq_true rfl) (Nat.le_of_ble_eq_true rfl) (Nat.le_refl _) (Nat.le_refl _) eX7_hits_2) ?_
  refine Gd_if_eqB eX7_hits_5 (fun c5 => ?_) (fun c5 => ?_)
  · refine Gd_sipush ks_m1000 eX7_hits_15 ?_
    exact Gd_ireturn eX7_hits_18 rfl (Nat.le_refl _) (Nat.le_refl _) ⟨a, by rw [oHits, if_pos (Or.inl c5)], rfl, chg_rf⟩
  · obtain ⟨p, hpn, rfl⟩ := inr_t c5 (by omega)
    refine Gd_iload_n (i := 2) rfl eX7_hits_8 ?_
    refine Gd_callP (g_cS (x_isDeer _) ok_X7_isDeer lk_RX7_115 rfl rfl (Nat.le_of_ble_eq_true rfl) (Nat.le_of_ble_eq_true rfl) (Nat.le_refl _) (Nat.le_refl _) eX7_hits_9) ?_
    refine Gd_if_neB eX7_hits_12 (fun c12 => ?_) (fun c12 => ?_)
    · obtain ⟨d, hd, rfl⟩ := inr_t c12 (by decide)
      refine Gd_aload_n (i := 0) rfl eX7_hits_19 ?_
      refine Gd_getR fl_RX7_36 (W_s0 hW) (W_r0_5 hW) eX7_hits_20 ?_
      refine Gd_aload_n (i := 0) rfl eX7_hits_23 ?_
      refine Gd_getR fl_RX7_10 (W_s0 hW) (W_r0_0 hW) eX7_hits_24 ?_
      refine Gd_iload_n (i := 1) rfl eX7_hits_27 ?_
      refine Gd_iload_n (i := 2) rfl eX7_hits_28 ?_
      refine Gd_callEV (g_cV (x_aimOf hW (W_F1 hW) (by decide) hA hI hT hTI hlt hpn hd) ok_X3_aimOf lk_RX7_188 (W_s31 hW) ⟨_, _, rfl⟩ rfl rfl (Nat.le_of_ble_eq_true rfl) (Nat.le_of_ble_eq_true rfl) (Nat.le_refl _) (Nat.le_refl _) eX7_hits_29) (fun a hq => ?_)
      have hch := chg_tr hch hq
      exact Gd_ireturn eX7_hits_32 rfl (Nat.le_refl _) (Nat.le_refl _) ⟨a, by rw [oHits_u hhu hpn hd], rfl, hch⟩
    · refine Gd_sipush ks_m1000 eX7_hits_15 ?_
      exact Gd_ireturn eX7_hits_18 rfl (Nat.le_refl _) (Nat.le_refl _) ⟨a, by rw [oHits, if_pos (Or.inr c12)], rfl, chg_rf⟩
theorem m_aims {sh : List (Nat × Nat)} {a : Nat → Nat → Int32} {r : Nat → Nat → Option Nat} {g : Nat → Nat → Int64} {φ ts cd : Nat → Nat → Nat} {nt : Nat} (hW : WD sh r) (hM : MA φ a) (hI : FI φ) (hT : TM nt ts cd a) (hTI : TI nt ts cd) (hlt : φ 7 2 < nt) (vp vd : Int32) : Mt YX8_aims 5 0 0 [vr 50, vi vp, vi vd] (sh, a, r, g) (g_EV sh r g (vi (oAims φ ts cd vp vd)) (fun a' => chg scM a a')) := by
  refine Mt_of rfl (Nat.le_of_ble_eq_true rfl) rfl ?_
  have hhu := FI_hu hI
  have hch : chg scM a a := chg_rf
  refine Gd_aload_n (i := 0) rfl eX8_aims_0 ?_
  refine Gd_iload_n (i := 1) rfl eX8_aims_1 ?_
  refine Gd_callP (g_cV (m_isOne hW hM hI _) ok_X8_isOne lk_RX8_88 (W_s50 hW) ⟨_, _, rfl⟩ rfl rfl (Nat.le_of_ble_eq_true rfl) (Nat.le_of_ble_eq_true rfl) (Nat.le_refl _) (Nat.le_refl _) eX8_aims_2) ?_
  refine Gd_if_neB eX8_aims_5 (fun c5 => ?_) (fun c5 => ?_)
  · obtain ⟨p, hpn, rfl⟩ := inr_t c5 (by omega)
    refine Gd_iload_n (i := 2) rfl eX8_aims_11 ?_
    refine Gd_callP (g_cS (m_isDeer _) ok_X8_isDeer lk_RX8_105 rfl rfl (Nat.le_of_ble_eq_true rfl) (Nat.le_of_ble_eq_true rfl) (Nat.le_refl _) (Nat.le_refl _) eX8_aims_12) ?_
    refine Gd_if_eqB eX8_aims_15 (fun c15 => ?_) (fun c15 => ?_)
    · refine Gd_bipush kb_m6 eX8_aims_27 ?_
      exact Gd_ireturn eX8_aims_29 rfl (Nat.le_refl _) (Nat.le_refl _) ⟨a, by rw [oAims, if_neg (by rw [inr_nI (by omega)]; simp [hpn]), if_pos c15], rfl, chg_rf⟩
    · obtain ⟨d, hd, rfl⟩ := inr_t c15 (by decide)
      refine Gd_aload_n (i := 0) rfl eX8_aims_18 ?_
      refine Gd_iload_n (i := 1) rfl eX8_aims_19 ?_
      refine Gd_iload_n (i := 2) rfl eX8_aims_20 ?_
      refine Gd_callEV (g_cV (m_aimOf hW hM hI hT hTI hlt hpn hd) ok_X8_aimOf lk_RX8_232 (W_s50 hW) ⟨_, _, rfl⟩ rfl rfl (Nat.le_of_ble_eq_true rfl) (Nat.le_of_ble_eq_true rfl) (Nat.le_refl _) (Nat.le_refl _) eX8_aims_21) (fun a hq => ?_)
      have hM := MA_sc hM hq
      have hT := TM_sc hT hq
      have hch := chg_tr hch hq
      refine Gd_goto eX8_aims_24 ?_
      exact Gd_ireturn eX8_aims_29 rfl (Nat.le_refl _) (Nat.le_refl _) ⟨a, by rw [oAims_u hhu hpn hd], rfl, hch⟩
  · refine Gd_bipush kb_m5 eX8_aims_8 ?_
    exact Gd_ireturn eX8_aims_10 rfl (Nat.le_refl _) (Nat.le_refl _) ⟨a, by rw [oAims, if_pos c5], rfl, chg_rf⟩
theorem x_shotRefusal {sh : List (Nat × Nat)} {a : Nat → Nat → Int32} {r : Nat → Nat → Option Nat} {g : Nat → Nat → Int64} {φ : Nat → Nat → Nat} (hW : WD sh r) (hA : FA 1 φ a) (hI : FI φ) (vp vd : Int32) : Mt YX7_shotRefusal 1 0 0 [vr 0, vi vp, vi vd] (sh, a, r, g) (g_P (some (vi (srf φ vp vd))) (sh, a, r, g)) := by
  refine Mt_of rfl (Nat.le_of_ble_eq_true rfl) rfl ?_
  refine Gd_aload_n (i := 0) rfl eX7_shotRefusal_0 ?_
  refine Gd_iload_n (i := 1) rfl eX7_shotRefusal_1 ?_
  refine Gd_callP (g_cV (x_isHunter hW hA hI _) ok_X7_isHunter lk_RX7_140 (W_s0 hW) ⟨_, _, rfl⟩ rfl rfl (Nat.le_of_ble_eq_true rfl) (Nat.le_of_ble_eq_true rfl) (Nat.le_refl _) (Nat.le_refl _) eX7_shotRefusal_2) ?_
  refine Gd_if_neB eX7_shotRefusal_5 (fun c5 => ?_) (fun c5 => ?_)
  · refine Gd_iload_n (i := 2) rfl eX7_shotRefusal_11 ?_
    refine Gd_callP (g_cS (x_isDeer _) ok_X7_isDeer lk_RX7_115 rfl rfl (Nat.le_of_ble_eq_true rfl) (Nat.le_of_ble_eq_true rfl) (Nat.le_refl _) (Nat.le_refl _) eX7_shotRefusal_12) ?_
    refine Gd_if_eqB eX7_shotRefusal_15 (fun c15 => ?_) (fun c15 => ?_)
    · refine Gd_bipush kb_m6 eX7_shotRefusal_22 ?_
      exact Gd_ireturn eX7_shotRefusal_24 rfl (Nat.le_refl _) (Nat.le_refl _) ⟨by rw [srf, if_neg (by rw [c5]; decide), if_pos c15], rfl⟩
    · refine Gd_iconst ki_0 eX7_shotRefusal_18 ?_
      refine Gd_goto eX7_shotRefusal_19 ?_
      exact Gd_ireturn eX7_shotRefusal_24 rfl (Nat.le_refl _) (Nat.le_refl _) ⟨by rw [srf, if_neg (by rw [c5]; decide), if_neg (by rw [c15]; decide)], rfl⟩
  · refine Gd_bipush kb_m5 eX7_shotRefusal_8 ?_
    exact Gd_ireturn eX7_shotRefusal_10 rfl (Nat.le_refl _) (Nat.le_refl _) ⟨by rw [srf, if_pos c5], rfl⟩
theorem x_aims {sh : List (Nat × Nat)} {a : Nat → Nat → Int32} {r : Nat → Nat → Option Nat} {g : Nat → Nat → Int64} {φ ts cd : Nat → Nat → Nat} {nt : Nat} (hW : WD sh r) (hA : FA 1 φ a) (hI : FI φ) (hT : TX nt ts cd sh a r) (hTI : TI nt ts cd) (hlt : φ 7 2 < nt) (vp vd : Int32) : Mt YX7_aims 5 0 0 [vr 0, vi vp, vi vd] (sh, a, r, g) (g_EV sh r g (vi (oAims φ ts cd vp vd)) (fun a' => chg scR a a')) := by
  refine Mt_of rfl (Nat.le_of_ble_eq_true rfl) rfl ?_
  have hhu := FI_hu hI
  have hch : chg scR a a := chg_rf
  refine Gd_aload_n (i := 0) rfl eX7_aims_0 ?_
  refine Gd_iload_n (i := 1) rfl eX7_aims_1 ?_
  refine Gd_iload_n (i := 2) rfl eX7_aims_2 ?_
  refine Gd_callP (g_cV (x_shotRefusal hW hA hI _ _) ok_X7_shotRefusal lk_RX7_219 (W_s0 hW) ⟨_, _, rfl⟩ rfl rfl (Nat.le_of_ble_eq_true rfl) (Nat.le_of_ble_eq_true rfl) (Nat.le_refl _) (Nat.le_refl _) eX7_aims_3) ?_
  refine Gd_istore_n3 rfl eX7_aims_6 ?_
  refine Gd_iload_n (i := 3) rfl eX7_aims_7 ?_
  refine Gd_if_eq eX7_aims_8 (fun c8 => ?_) (fun c8 => ?_)
  · obtain ⟨p, d, hpn, hd, rfl, rfl⟩ := srf_0 hhu c8
    refine Gd_aload_n (i := 0) rfl eX7_aims_15 ?_
    refine Gd_getR fl_RX7_36 (W_s0 hW) (W_r0_5 hW) eX7_aims_16 ?_
    refine Gd_aload_n (i := 0) rfl eX7_aims_19 ?_
    refine Gd_getR fl_RX7_10 (W_s0 hW) (W_r0_0 hW) eX7_aims_20 ?_
    refine Gd_iload_n (i := 1) rfl eX7_aims_23 ?_
    refine Gd_iload_n (i := 2) rfl eX7_aims_24 ?_
    refine Gd_callEV (g_cV (x_shotNow hW (W_F1 hW) (by decide) hA hI hT hTI hlt hpn hd) ok_X3_shotNow lk_RX7_226 (W_s31 hW) ⟨_, _, rfl⟩ rfl rfl (Nat.le_of_ble_eq_true rfl) (Nat.le_of_ble_eq_true rfl) (Nat.le_refl _) (Nat.le_refl _) eX7_aims_25) (fun a hq => ?_)
    have hch := chg_tr hch hq
    exact Gd_ireturn eX7_aims_28 rfl (Nat.le_refl _) (Nat.le_refl _) ⟨a, by rw [oAims_u hhu hpn hd], rfl, hch⟩
  · refine Gd_iload_n (i := 3) rfl eX7_aims_11 ?_
    refine Gd_goto eX7_aims_12 ?_
    exact Gd_ireturn eX7_aims_28 rfl (Nat.le_refl _) (Nat.le_refl _) ⟨a, by rw [oAims_r c8], rfl, chg_rf⟩
