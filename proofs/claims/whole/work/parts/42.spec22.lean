theorem m_force {sh : List (Nat × Nat)} {a : Nat → Nat → Int32} {r : Nat → Nat → Option Nat} {g : Nat → Nat → Int64} {φ ts cd : Nat → Nat → Nat} {nt : Nat} (hW : WD sh r) (hM : MA φ a) (hI : FI φ) (hT : TM nt ts cd a) (hTI : TI nt ts cd) (hlt : φ 7 2 < nt) (vt : Int32) : Mt YX8_force 1 0 0 [vr 50, vi vt] (sh, a, r, g) (g_EV sh r g (vi (oForce φ nt vt)) (fun a' => MA (sForce φ nt vt) a' ∧ chg s50_12 a a')) := by
  refine Mt_of rfl (Nat.le_of_ble_eq_true rfl) rfl ?_
  have hnt := hTI.2.1
  refine Gd_iload_n (i := 1) rfl eX8_force_0 ?_
  refine Gd_iconst ki_0 eX8_force_1 ?_
  refine Gd_aload_n (i := 0) rfl eX8_force_2 ?_
  refine Gd_getIe (v := nI (nt)) fl_RX8_99 (W_s50 hW) (hT.1 :) eX8_force_3 ?_
  refine Gd_iconst ki_1 eX8_force_6 ?_
  refine Gd_isub eX8_force_7 ?_
  refine Gd_callP (g_cS (m_in _ _ _) ok_X8_in lk_RX8_84 rfl rfl (Nat.le_of_ble_eq_true rfl) (Nat.le_of_ble_eq_true rfl) (Nat.le_refl _) (Nat.le_refl _) eX8_force_8) ?_
  refine Gd_if_neB eX8_force_11 (fun c11 => ?_) (fun c11 => ?_)
  · rw [inbN (by omega)] at c11
    have hin := c11
    obtain ⟨t, ht, rfl⟩ := inr_t c11 (by omega)
    refine Gd_aload_n (i := 0) rfl eX8_force_17 ?_
    refine Gd_getIe (v := nI (φ 7 2)) fl_RX8_102 (W_s50 hW) (MA_la hM :) eX8_force_18 ?_
    refine Gd_istore_n2 rfl eX8_force_21 ?_
    refine Gd_aload_n (i := 0) rfl eX8_force_22 ?_
    refine Gd_iload_n (i := 1) rfl eX8_force_23 ?_
    refine Gd_putI fl_RX8_102 (W_s50 hW) eX8_force_24 ?_
    refine Gd_iload_n (i := 2) rfl eX8_force_27 ?_
    exact Gd_ireturn eX8_force_28 rfl (Nat.le_refl _) (Nat.le_refl _) ⟨_, by rw [oForce, if_neg (by rw [hin]; decide)], rfl, by rw [sForce, if_neg (by rw [hin]; decide), nI_clamp (by omega)]; exact MA_setla hM, chg_up chg_rf rfl⟩
  · refine Gd_bipush kb_m2 eX8_force_14 ?_
    exact Gd_ireturn eX8_force_16 rfl (Nat.le_refl _) (Nat.le_refl _) ⟨a, by rw [oForce, if_pos (by rw [← inbN (by omega)]; exact c11)], rfl, by rw [sForce, if_pos (by rw [← inbN (by omega)]; exact c11)]; exact hM, chg_rf⟩
theorem x_force {sh : List (Nat × Nat)} {a : Nat → Nat → Int32} {r : Nat → Nat → Option Nat} {g : Nat → Nat → Int64} {φ ts cd : Nat → Nat → Nat} {nt : Nat} (hW : WD sh r) (hA : FA 1 φ a) (hI : FI φ) (hT : TX nt ts cd sh a r) (hTI : TI nt ts cd) (hlt : φ 7 2 < nt) (vt : Int32) : Mt YX7_force 1 0 0 [vr 0, vi vt] (sh, a, r, g) (g_EV sh r g (vi (oForce φ nt vt)) (fun a' => FA 1 (sForce φ nt vt) a' ∧ chg s1_3 a a')) := by
  refine Mt_of rfl (Nat.le_of_ble_eq_true rfl) rfl ?_
  have hnt := hTI.2.1
  refine Gd_iload_n (i := 1) rfl eX7_force_0 ?_
  refine Gd_iconst ki_0 eX7_force_1 ?_
  refine Gd_aload_n (i := 0) rfl eX7_force_2 ?_
  refine Gd_getR fl_RX7_36 (W_s0 hW) (W_r0_5 hW) eX7_force_3 ?_
  refine Gd_getIe (v := nI (nt)) fl_RX7_106 (W_s31 hW) (hT.1 :) eX7_force_6 ?_
  refine Gd_iconst ki_1 eX7_force_9 ?_
  refine Gd_isub eX7_force_10 ?_
  refine Gd_callP (g_cS (x_isWithin _ _ _) ok_X7_isWithin lk_RX7_119 rfl rfl (Nat.le_of_ble_eq_true rfl) (Nat.le_of_ble_eq_true rfl) (Nat.le_refl _) (Nat.le_refl _) eX7_force_11) ?_
  refine Gd_if_neB eX7_force_14 (fun c14 => ?_) (fun c14 => ?_)
  · rw [inbN (by omega)] at c14
    have hin := c14
    obtain ⟨t, ht, rfl⟩ := inr_t c14 (by omega)
    refine Gd_aload_n (i := 0) rfl eX7_force_20 ?_
    refine Gd_getR fl_RX7_10 (W_s0 hW) (W_r0_0 hW) eX7_force_21 ?_
    refine Gd_getIe (v := nI (φ 7 2)) fl_RX7_109 (W_s1 hW) (FA_la hA :) eX7_force_24 ?_
    refine Gd_istore_n2 rfl eX7_force_27 ?_
    refine Gd_aload_n (i := 0) rfl eX7_force_28 ?_
    refine Gd_getR fl_RX7_10 (W_s0 hW) (W_r0_0 hW) eX7_force_29 ?_
    refine Gd_iload_n (i := 1) rfl eX7_force_32 ?_
    refine Gd_putI fl_RX7_109 (W_s1 hW) eX7_force_33 ?_
    refine Gd_iload_n (i := 2) rfl eX7_force_36 ?_
    exact Gd_ireturn eX7_force_37 rfl (Nat.le_refl _) (Nat.le_refl _) ⟨_, by rw [oForce, if_neg (by rw [hin]; decide)], rfl, by rw [sForce, if_neg (by rw [hin]; decide), nI_clamp (by omega)]; exact FA_setla hA, chg_up chg_rf rfl⟩
  · refine Gd_bipush kb_m2 eX7_force_17 ?_
    exact Gd_ireturn eX7_force_19 rfl (Nat.le_refl _) (Nat.le_refl _) ⟨a, by rw [oForce, if_pos (by rw [← inbN (by omega)]; exact c14)], rfl, by rw [sForce, if_pos (by rw [← inbN (by omega)]; exact c14)]; exact hA, chg_rf⟩
