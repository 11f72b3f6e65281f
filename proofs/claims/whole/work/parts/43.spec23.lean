theorem m_shoot {sh : List (Nat × Nat)} {a : Nat → Nat → Int32} {r : Nat → Nat → Option Nat} {g : Nat → Nat → Int64} {φ ts cd : Nat → Nat → Nat} {nt : Nat} (hW : WD sh r) (hM : MA φ a) (hI : FI φ) (hT : TM nt ts cd a) (hTI : TI nt ts cd) (hlt : φ 7 2 < nt) (vp vd : Int32) : Mt YX8_shoot 6 0 0 [vr 50, vi vp, vi vd] (sh, a, r, g) (g_EV sh r g (vi (oAims φ ts cd vp vd)) (fun a' => MA (sShoot φ ts cd vp vd) a' ∧ chg scS a a')) := by
  refine Mt_of rfl (Nat.le_of_ble_eq_true rfl) rfl ?_
  have hhu := FI_hu hI
  refine Gd_aload_n (i := 0) rfl eX8_shoot_0 ?_
  refine Gd_iload_n (i := 1) rfl eX8_shoot_1 ?_
  refine Gd_callP (g_cV (m_isOne hW hM hI _) ok_X8_isOne lk_RX8_88 (W_s50 hW) ⟨_, _, rfl⟩ rfl rfl (Nat.le_of_ble_eq_true rfl) (Nat.le_of_ble_eq_true rfl) (Nat.le_refl _) (Nat.le_refl _) eX8_shoot_2) ?_
  refine Gd_if_neB eX8_shoot_5 (fun c5 => ?_) (fun c5 => ?_)
  · obtain ⟨p, hpn, rfl⟩ := inr_t c5 (by omega)
    refine Gd_iload_n (i := 2) rfl eX8_shoot_11 ?_
    refine Gd_callP (g_cS (m_isDeer _) ok_X8_isDeer lk_RX8_105 rfl rfl (Nat.le_of_ble_eq_true rfl) (Nat.le_of_ble_eq_true rfl) (Nat.le_refl _) (Nat.le_refl _) eX8_shoot_12) ?_
    refine Gd_if_eqB eX8_shoot_15 (fun c15 => ?_) (fun c15 => ?_)
    · refine Gd_bipush kb_m6 eX8_shoot_27 ?_
      exact Gd_ireturn eX8_shoot_29 rfl (Nat.le_refl _) (Nat.le_refl _) ⟨a, by rw [oAims, if_neg (by rw [inr_nI (by omega)]; simp [hpn]), if_pos c15], rfl, by rw [sShoot_d hhu hpn c15]; exact hM, chg_rf⟩
    · obtain ⟨d, hd, rfl⟩ := inr_t c15 (by decide)
      refine Gd_aload_n (i := 0) rfl eX8_shoot_18 ?_
      refine Gd_iload_n (i := 1) rfl eX8_shoot_19 ?_
      refine Gd_iload_n (i := 2) rfl eX8_shoot_20 ?_
      refine Gd_callEV (g_cV (m_shotOf hW hM hI hT hTI hlt hpn hd) ok_X8_shotOf lk_RX8_235 (W_s50 hW) ⟨_, _, rfl⟩ rfl rfl (Nat.le_of_ble_eq_true rfl) (Nat.le_of_ble_eq_true rfl) (Nat.le_refl _) (Nat.le_refl _) eX8_shoot_21) (fun a2 hq => ?_)
      obtain ⟨hM2, hq⟩ := hq
      refine Gd_goto eX8_shoot_24 ?_
      exact Gd_ireturn eX8_shoot_29 rfl (Nat.le_refl _) (Nat.le_refl _) ⟨a2, by rw [oAims_u hhu hpn hd], rfl, by rw [sShoot_u hhu hpn hd]; exact hM2, hq⟩
  · refine Gd_bipush kb_m5 eX8_shoot_8 ?_
    exact Gd_ireturn eX8_shoot_10 rfl (Nat.le_refl _) (Nat.le_refl _) ⟨a, by rw [oAims, if_pos c5], rfl, by rw [sShoot_p c5]; exact hM, chg_rf⟩
theorem x_shoot {sh : List (Nat × Nat)} {a : Nat → Nat → Int32} {r : Nat → Nat → Option Nat} {g : Nat → Nat → Int64} {φ ts cd : Nat → Nat → Nat} {nt : Nat} (hW : WD sh r) (hA : FA 1 φ a) (hI : FI φ) (hT : TX nt ts cd sh a r) (hTI : TI nt ts cd) (hlt : φ 7 2 < nt) (vp vd : Int32) : Mt YX7_shoot 6 0 0 [vr 0, vi vp, vi vd] (sh, a, r, g) (g_EV sh r g (vi (oAims φ ts cd vp vd)) (fun a' => FA 1 (sShoot φ ts cd vp vd) a' ∧ chg (scT 1) a a')) := by
  refine Mt_of rfl (Nat.le_of_ble_eq_true rfl) rfl ?_
  have hhu := FI_hu hI
  refine Gd_aload_n (i := 0) rfl eX7_shoot_0 ?_
  refine Gd_iload_n (i := 1) rfl eX7_shoot_1 ?_
  refine Gd_iload_n (i := 2) rfl eX7_shoot_2 ?_
  refine Gd_callP (g_cV (x_shotRefusal hW hA hI _ _) ok_X7_shotRefusal lk_RX7_219 (W_s0 hW) ⟨_, _, rfl⟩ rfl rfl (Nat.le_of_ble_eq_true rfl) (Nat.le_of_ble_eq_true rfl) (Nat.le_refl _) (Nat.le_refl _) eX7_shoot_3) ?_
  refine Gd_istore_n3 rfl eX7_shoot_6 ?_
  refine Gd_iload_n (i := 3) rfl eX7_shoot_7 ?_
  refine Gd_if_eq eX7_shoot_8 (fun c8 => ?_) (fun c8 => ?_)
  · obtain ⟨p, d, hpn, hd, rfl, rfl⟩ := srf_0 hhu c8
    refine Gd_aload_n (i := 0) rfl eX7_shoot_15 ?_
    refine Gd_getR fl_RX7_36 (W_s0 hW) (W_r0_5 hW) eX7_shoot_16 ?_
    refine Gd_aload_n (i := 0) rfl eX7_shoot_19 ?_
    refine Gd_getR fl_RX7_10 (W_s0 hW) (W_r0_0 hW) eX7_shoot_20 ?_
    refine Gd_iload_n (i := 1) rfl eX7_shoot_23 ?_
    refine Gd_iload_n (i := 2) rfl eX7_shoot_24 ?_
    refine Gd_callEV (g_cV (x_shot hW (W_F1 hW) (by decide) hA hI hT hTI hlt hpn hd) ok_X3_shot lk_RX7_223 (W_s31 hW) ⟨_, _, rfl⟩ rfl rfl (Nat.le_of_ble_eq_true rfl) (Nat.le_of_ble_eq_true rfl) (Nat.le_refl _) (Nat.le_refl _) eX7_shoot_25) (fun a2 hq => ?_)
    obtain ⟨hA2, hq⟩ := hq
    exact Gd_ireturn eX7_shoot_28 rfl (Nat.le_refl _) (Nat.le_refl _) ⟨a2, by rw [oAims_u hhu hpn hd], rfl, by rw [sShoot_u hhu hpn hd]; exact hA2, hq⟩
  · refine Gd_iload_n (i := 3) rfl eX7_shoot_11 ?_
    refine Gd_goto eX7_shoot_12 ?_
    exact Gd_ireturn eX7_shoot_28 rfl (Nat.le_refl _) (Nat.le_refl _) ⟨a, by rw [oAims_r c8], rfl, by rw [sShoot, if_neg c8]; exact hA, chg_rf⟩
