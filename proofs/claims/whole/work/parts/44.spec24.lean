theorem m_friends {sh : List (Nat × Nat)} {a : Nat → Nat → Int32} {r : Nat → Nat → Option Nat} {g : Nat → Nat → Int64} {φ : Nat → Nat → Nat} (hW : WD sh r) (hM : MA φ a) (hI : FI φ) (vp vq vv : Int32) : Mt YX8_friends 3 0 0 [vr 50, vi vp, vi vq, vi vv] (sh, a, r, g) (g_EV sh r g (vi (oFriends φ vp vq vv)) (fun a' => MA (sFriends φ vp vq vv) a' ∧ chg s53 a a')) := by
  refine Mt_of rfl (Nat.le_of_ble_eq_true rfl) rfl ?_
  have hhu := FI_hu hI
  refine Gd_aload_n (i := 0) rfl eX8_friends_0 ?_
  refine Gd_iload_n (i := 1) rfl eX8_friends_1 ?_
  refine Gd_iload_n (i := 2) rfl eX8_friends_2 ?_
  refine Gd_callP (g_cV (m_areTwo hW hM hI _ _) ok_X8_areTwo lk_RX8_189 (W_s50 hW) ⟨_, _, rfl⟩ rfl rfl (Nat.le_of_ble_eq_true rfl) (Nat.le_of_ble_eq_true rfl) (Nat.le_refl _) (Nat.le_refl _) eX8_friends_3) ?_
  refine Gd_if_neB eX8_friends_6 (fun c6 => ?_) (fun c6 => ?_)
  · have h2 : twoH φ vp vq = true := c6
    obtain ⟨p, q, hp, hqn, hne, rfl, rfl⟩ := twoH_t hhu h2
    refine Gd_iload_n (i := 3) rfl eX8_friends_12 ?_
    refine Gd_iconst ki_0 eX8_friends_13 ?_
    refine Gd_iconst ki_1 eX8_friends_14 ?_
    refine Gd_callP (g_cS (m_in _ _ _) ok_X8_in lk_RX8_84 rfl rfl (Nat.le_of_ble_eq_true rfl) (Nat.le_of_ble_eq_true rfl) (Nat.le_refl _) (Nat.le_refl _) eX8_friends_15) ?_
    refine Gd_if_neB eX8_friends_18 (fun c18 => ?_) (fun c18 => ?_)
    · obtain ⟨v, _, hv, rfl⟩ := inb_r (by decide) (by decide) c18
      have hu := oFr_u hhu hp hqn h2 hv
      rcases (by omega : v = 0 ∨ v = 1) with rfl | rfl
      · refine Gd_aload_n (i := 0) rfl eX8_friends_24 ?_
        refine Gd_iload_n (i := 1) rfl eX8_friends_25 ?_
        refine Gd_iload_n (i := 2) rfl eX8_friends_26 ?_
        refine Gd_callP (g_cV (m_haveMet hW hM hI (by first | omega | decide) (by first | omega | decide)) ok_X8_haveMet lk_RX8_192 (W_s50 hW) ⟨_, _, rfl⟩ rfl rfl (Nat.le_of_ble_eq_true rfl) (Nat.le_of_ble_eq_true rfl) (Nat.le_refl _) (Nat.le_refl _) eX8_friends_27) ?_
        refine Gd_if_eqB eX8_friends_30 (fun c30 => ?_) (fun c30 => ?_)
        · refine Gd_iconst ki_0 eX8_friends_37 ?_
          refine Gd_istore4 rfl eX8_friends_38 ?_
          refine Gd_aload_n (i := 0) rfl eX8_friends_40 ?_
          refine Gd_iload_n (i := 1) rfl eX8_friends_41 ?_
          refine Gd_iload_n (i := 2) rfl eX8_friends_42 ?_
          refine Gd_iload_n (i := 3) rfl eX8_friends_43 ?_
          refine Gd_callE0 (g_cV (m_meets0 hW hM hI (by first | omega | decide) (by first | omega | decide) hne) ok_X8_meets lk_RX8_195 (W_s50 hW) ⟨_, _, rfl⟩ rfl rfl (Nat.le_of_ble_eq_true rfl) (Nat.le_of_ble_eq_true rfl) (Nat.le_refl _) (Nat.le_refl _) eX8_friends_44) (fun a2 hq => ?_)
          obtain ⟨hM2, hq⟩ := hq
          refine Gd_iload (i := 4) rfl eX8_friends_47 ?_
          exact Gd_ireturn eX8_friends_49 rfl (Nat.le_refl _) (Nat.le_refl _) ⟨a2, by rw [hu.1, c30]; rfl, rfl, by rw [hu.2]; exact hM2, hq⟩
        · refine Gd_iconst ki_1 eX8_friends_33 ?_
          refine Gd_goto eX8_friends_34 ?_
          refine Gd_istore4 rfl eX8_friends_38 ?_
          refine Gd_aload_n (i := 0) rfl eX8_friends_40 ?_
          refine Gd_iload_n (i := 1) rfl eX8_friends_41 ?_
          refine Gd_iload_n (i := 2) rfl eX8_friends_42 ?_
          refine Gd_iload_n (i := 3) rfl eX8_friends_43 ?_
          refine Gd_callE0 (g_cV (m_meets0 hW hM hI (by first | omega | decide) (by first | omega | decide) hne) ok_X8_meets lk_RX8_195 (W_s50 hW) ⟨_, _, rfl⟩ rfl rfl (Nat.le_of_ble_eq_true rfl) (Nat.le_of_ble_eq_true rfl) (Nat.le_refl _) (Nat.le_refl _) eX8_friends_44) (fun a2 hq => ?_)
          obtain ⟨hM2, hq⟩ := hq
          refine Gd_iload (i := 4) rfl eX8_friends_47 ?_
          exact Gd_ireturn eX8_friends_49 rfl (Nat.le_refl _) (Nat.le_refl _) ⟨a2, by rw [hu.1, c30]; rfl, rfl, by rw [hu.2]; exact hM2, hq⟩
      · refine Gd_aload_n (i := 0) rfl eX8_friends_24 ?_
        refine Gd_iload_n (i := 1) rfl eX8_friends_25 ?_
        refine Gd_iload_n (i := 2) rfl eX8_friends_26 ?_
        refine Gd_callP (g_cV (m_haveMet hW hM hI (by first | omega | decide) (by first | omega | decide)) ok_X8_haveMet lk_RX8_192 (W_s50 hW) ⟨_, _, rfl⟩ rfl rfl (Nat.le_of_ble_eq_true rfl) (Nat.le_of_ble_eq_true rfl) (Nat.le_refl _) (Nat.le_refl _) eX8_friends_27) ?_
        refine Gd_if_eqB eX8_friends_30 (fun c30 => ?_) (fun c30 => ?_)
        · refine Gd_iconst ki_0 eX8_friends_37 ?_
          refine Gd_istore4 rfl eX8_friends_38 ?_
          refine Gd_aload_n (i := 0) rfl eX8_friends_40 ?_
          refine Gd_iload_n (i := 1) rfl eX8_friends_41 ?_
          refine Gd_iload_n (i := 2) rfl eX8_friends_42 ?_
          refine Gd_iload_n (i := 3) rfl eX8_friends_43 ?_
          refine Gd_callE0 (g_cV (m_meets1 hW hM hI (by first | omega | decide) (by first | omega | decide) hne) ok_X8_meets lk_RX8_195 (W_s50 hW) ⟨_, _, rfl⟩ rfl rfl (Nat.le_of_ble_eq_true rfl) (Nat.le_of_ble_eq_true rfl) (Nat.le_refl _) (Nat.le_refl _) eX8_friends_44) (fun a2 hq => ?_)
          obtain ⟨hM2, hq⟩ := hq
          refine Gd_iload (i := 4) rfl eX8_friends_47 ?_
          exact Gd_ireturn eX8_friends_49 rfl (Nat.le_refl _) (Nat.le_refl _) ⟨a2, by rw [hu.1, c30]; rfl, rfl, by rw [hu.2]; exact hM2, hq⟩
        · refine Gd_iconst ki_1 eX8_friends_33 ?_
          refine Gd_goto eX8_friends_34 ?_
          refine Gd_istore4 rfl eX8_friends_38 ?_
          refine Gd_aload_n (i := 0) rfl eX8_friends_40 ?_
          refine Gd_iload_n (i := 1) rfl eX8_friends_41 ?_
          refine Gd_iload_n (i := 2) rfl eX8_friends_42 ?_
          refine Gd_iload_n (i := 3) rfl eX8_friends_43 ?_
          refine Gd_callE0 (g_cV (m_meets1 hW hM hI (by first | omega | decide) (by first | omega | decide) hne) ok_X8_meets lk_RX8_195 (W_s50 hW) ⟨_, _, rfl⟩ rfl rfl (Nat.le_of_ble_eq_true rfl) (Nat.le_of_ble_eq_true rfl) (Nat.le_refl _) (Nat.le_refl _) eX8_friends_44) (fun a2 hq => ?_)
          obtain ⟨hM2, hq⟩ := hq
          refine Gd_iload (i := 4) rfl eX8_friends_47 ?_
          exact Gd_ireturn eX8_friends_49 rfl (Nat.le_refl _) (Nat.le_refl _) ⟨a2, by rw [hu.1, c30]; rfl, rfl, by rw [hu.2]; exact hM2, hq⟩
    · refine Gd_bipush kb_m7 eX8_friends_21 ?_
      exact Gd_ireturn eX8_friends_23 rfl (Nat.le_refl _) (Nat.le_refl _) ⟨a, by rw [(oFr_v h2 c18).1], rfl, by rw [(oFr_v h2 c18).2]; exact hM, chg_rf⟩
  · refine Gd_bipush kb_m5 eX8_friends_9 ?_
    exact Gd_ireturn eX8_friends_11 rfl (Nat.le_refl _) (Nat.le_refl _) ⟨a, by rw [(oFr_n c6).1], rfl, by rw [(oFr_n c6).2]; exact hM, chg_rf⟩
theorem x_friends {sh : List (Nat × Nat)} {a : Nat → Nat → Int32} {r : Nat → Nat → Option Nat} {g : Nat → Nat → Int64} {φ : Nat → Nat → Nat} (hW : WD sh r) (hA : FA 1 φ a) (hI : FI φ) (vp vq vv : Int32) : Mt YX7_friends 3 0 0 [vr 0, vi vp, vi vq, vi vv] (sh, a, r, g) (g_EV sh r g (vi (oFriends φ vp vq vv)) (fun a' => FA 1 (sFriends φ vp vq vv) a' ∧ chg (sR (1 + 5)) a a')) := by
  refine Mt_of rfl (Nat.le_of_ble_eq_true rfl) rfl ?_
  have hhu := FI_hu hI
  refine Gd_aload_n (i := 0) rfl eX7_friends_0 ?_
  refine Gd_iload_n (i := 1) rfl eX7_friends_1 ?_
  refine Gd_callP (g_cV (x_isHunter hW hA hI _) ok_X7_isHunter lk_RX7_140 (W_s0 hW) ⟨_, _, rfl⟩ rfl rfl (Nat.le_of_ble_eq_true rfl) (Nat.le_of_ble_eq_true rfl) (Nat.le_refl _) (Nat.le_refl _) eX7_friends_2) ?_
  refine Gd_if_eqB eX7_friends_5 (fun c5 => ?_) (fun c5 => ?_)
  · refine Gd_bipush kb_m5 eX7_friends_21 ?_
    exact Gd_ireturn eX7_friends_23 rfl (Nat.le_refl _) (Nat.le_refl _) ⟨a, by rw [(oFr_n (by simp [twoH, c5])).1], rfl, by rw [(oFr_n (by simp [twoH, c5])).2]; exact hA, chg_rf⟩
  · refine Gd_aload_n (i := 0) rfl eX7_friends_8 ?_
    refine Gd_iload_n (i := 2) rfl eX7_friends_9 ?_
    refine Gd_callP (g_cV (x_isHunter hW hA hI _) ok_X7_isHunter lk_RX7_140 (W_s0 hW) ⟨_, _, rfl⟩ rfl rfl (Nat.le_of_ble_eq_true rfl) (Nat.le_of_ble_eq_true rfl) (Nat.le_refl _) (Nat.le_refl _) eX7_friends_10) ?_
    refine Gd_if_eqB eX7_friends_13 (fun c13 => ?_) (fun c13 => ?_)
    · refine Gd_bipush kb_m5 eX7_friends_21 ?_
      exact Gd_ireturn eX7_friends_23 rfl (Nat.le_refl _) (Nat.le_refl _) ⟨a, by rw [(oFr_n (by simp [twoH, c13])).1], rfl, by rw [(oFr_n (by simp [twoH, c13])).2]; exact hA, chg_rf⟩
    · refine Gd_iload_n (i := 1) rfl eX7_friends_16 ?_
      refine Gd_iload_n (i := 2) rfl eX7_friends_17 ?_
      refine Gd_icmp_ne eX7_friends_18 (fun c18 => ?_) (fun c18 => ?_)
      · have h2 : twoH φ vp vq = true := by simp [twoH, c5, c13, c18]
        obtain ⟨p, q, hp, hqn, hne, rfl, rfl⟩ := twoH_t hhu h2
        refine Gd_iload_n (i := 3) rfl eX7_friends_24 ?_
        refine Gd_iconst ki_0 eX7_friends_25 ?_
        refine Gd_iconst ki_1 eX7_friends_26 ?_
        refine Gd_callP (g_cS (x_isWithin _ _ _) ok_X7_isWithin lk_RX7_119 rfl rfl (Nat.le_of_ble_eq_true rfl) (Nat.le_of_ble_eq_true rfl) (Nat.le_refl _) (Nat.le_refl _) eX7_friends_27) ?_
        refine Gd_if_neB eX7_friends_30 (fun c30 => ?_) (fun c30 => ?_)
        · obtain ⟨v, _, hv, rfl⟩ := inb_r (by decide) (by decide) c30
          have hu := oFr_u hhu hp hqn h2 hv
          rcases (by omega : v = 0 ∨ v = 1) with rfl | rfl
          · refine Gd_aload_n (i := 0) rfl eX7_friends_36 ?_
            refine Gd_getR fl_RX7_10 (W_s0 hW) (W_r0_0 hW) eX7_friends_37 ?_
            refine Gd_iload_n (i := 1) rfl eX7_friends_40 ?_
            refine Gd_iload_n (i := 2) rfl eX7_friends_41 ?_
            refine Gd_callP (g_cV (x_haveMet (W_F1 hW) hA hI (by first | omega | decide) (by first | omega | decide)) ok_X0_haveMet lk_RX7_150 (W_s1 hW) ⟨_, _, rfl⟩ rfl rfl (Nat.le_of_ble_eq_true rfl) (Nat.le_of_ble_eq_true rfl) (Nat.le_refl _) (Nat.le_refl _) eX7_friends_42) ?_
            refine Gd_if_eqB eX7_friends_45 (fun c45 => ?_) (fun c45 => ?_)
            · refine Gd_iconst ki_0 eX7_friends_52 ?_
              refine Gd_istore4 rfl eX7_friends_53 ?_
              refine Gd_aload_n (i := 0) rfl eX7_friends_55 ?_
              refine Gd_getR fl_RX7_10 (W_s0 hW) (W_r0_0 hW) eX7_friends_56 ?_
              refine Gd_iload_n (i := 1) rfl eX7_friends_59 ?_
              refine Gd_iload_n (i := 2) rfl eX7_friends_60 ?_
              refine Gd_iload_n (i := 3) rfl eX7_friends_61 ?_
              refine Gd_iconst ki_1 eX7_friends_62 ?_
              refine Gd_icmp_ne eX7_friends_63 (fun _ => ?_) (fun q => by first | exact absurd q (by decide) | exact absurd (by decide) q)
              refine Gd_iconst ki_0 eX7_friends_70 ?_
              refine Gd_callE0 (g_cV (x_setMet0 (W_F1 hW) hA hI (by first | omega | decide) (by first | omega | decide) hne) ok_X0_setMet lk_RX7_154 (W_s1 hW) ⟨_, _, rfl⟩ rfl rfl (Nat.le_of_ble_eq_true rfl) (Nat.le_of_ble_eq_true rfl) (Nat.le_refl _) (Nat.le_refl _) eX7_friends_71) (fun a2 hq => ?_)
              obtain ⟨hM2, hq⟩ := hq
              refine Gd_iload (i := 4) rfl eX7_friends_74 ?_
              exact Gd_ireturn eX7_friends_76 rfl (Nat.le_refl _) (Nat.le_refl _) ⟨a2, by rw [hu.1, c45]; rfl, rfl, by rw [hu.2]; exact hM2, hq⟩
            · refine Gd_iconst ki_1 eX7_friends_48 ?_
              refine Gd_goto eX7_friends_49 ?_
              refine Gd_istore4 rfl eX7_friends_53 ?_
              refine Gd_aload_n (i := 0) rfl eX7_friends_55 ?_
              refine Gd_getR fl_RX7_10 (W_s0 hW) (W_r0_0 hW) eX7_friends_56 ?_
              refine Gd_iload_n (i := 1) rfl eX7_friends_59 ?_
              refine Gd_iload_n (i := 2) rfl eX7_friends_60 ?_
              refine Gd_iload_n (i := 3) rfl eX7_friends_61 ?_
              refine Gd_iconst ki_1 eX7_friends_62 ?_
              refine Gd_icmp_ne eX7_friends_63 (fun _ => ?_) (fun q => by first | exact absurd q (by decide) | exact absurd (by decide) q)
              refine Gd_iconst ki_0 eX7_friends_70 ?_
              refine Gd_callE0 (g_cV (x_setMet0 (W_F1 hW) hA hI (by first | omega | decide) (by first | omega | decide) hne) ok_X0_setMet lk_RX7_154 (W_s1 hW) ⟨_, _, rfl⟩ rfl rfl (Nat.le_of_ble_eq_true rfl) (Nat.le_of_ble_eq_true rfl) (Nat.le_refl _) (Nat.le_refl _) eX7_friends_71) (fun a2 hq => ?_)
              obtain ⟨hM2, hq⟩ := hq
              refine Gd_iload (i := 4) rfl eX7_friends_74 ?_
              exact Gd_ireturn eX7_friends_76 rfl (Nat.le_refl _) (Nat.le_refl _) ⟨a2, by rw [hu.1, c45]; rfl, rfl, by rw [hu.2]; exact hM2, hq⟩
          · refine Gd_aload_n (i := 0) rfl eX7_friends_36 ?_
            refine Gd_getR fl_RX7_10 (W_s0 hW) (W_r0_0 hW) eX7_friends_37 ?_
            refine Gd_iload_n (i := 1) rfl eX7_friends_40 ?_
            refine Gd_iload_n (i := 2) rfl eX7_friends_41 ?_
            refine Gd_callP (g_cV (x_haveMet (W_F1 hW) hA hI (by first | omega | decide) (by first | omega | decide)) ok_X0_haveMet lk_RX7_150 (W_s1 hW) ⟨_, _, rfl⟩ rfl rfl (Nat.le_of_ble_eq_true rfl) (Nat.le_of_ble_eq_true rfl) (Nat.le_refl _) (Nat.le_refl _) eX7_friends_42) ?_
            refine Gd_if_eqB eX7_friends_45 (fun c45 => ?_) (fun c45 => ?_)
            · refine Gd_iconst ki_0 eX7_friends_52 ?_
              refine Gd_istore4 rfl eX7_friends_53 ?_
              refine Gd_aload_n (i := 0) rfl eX7_friends_55 ?_
              refine Gd_getR fl_RX7_10 (W_s0 hW) (W_r0_0 hW) eX7_friends_56 ?_
              refine Gd_iload_n (i := 1) rfl eX7_friends_59 ?_
              refine Gd_iload_n (i := 2) rfl eX7_friends_60 ?_
              refine Gd_iload_n (i := 3) rfl eX7_friends_61 ?_
              refine Gd_iconst ki_1 eX7_friends_62 ?_
              refine Gd_icmp_ne eX7_friends_63 (fun q => by first | exact absurd q (by decide) | exact absurd (by decide) q) (fun _ => ?_)
              refine Gd_iconst ki_1 eX7_friends_66 ?_
              refine Gd_goto eX7_friends_67 ?_
              refine Gd_callE0 (g_cV (x_setMet1 (W_F1 hW) hA hI (by first | omega | decide) (by first | omega | decide) hne) ok_X0_setMet lk_RX7_154 (W_s1 hW) ⟨_, _, rfl⟩ rfl rfl (Nat.le_of_ble_eq_true rfl) (Nat.le_of_ble_eq_true rfl) (Nat.le_refl _) (Nat.le_refl _) eX7_friends_71) (fun a2 hq => ?_)
              obtain ⟨hM2, hq⟩ := hq
              refine Gd_iload (i := 4) rfl eX7_friends_74 ?_
              exact Gd_ireturn eX7_friends_76 rfl (Nat.le_refl _) (Nat.le_refl _) ⟨a2, by rw [hu.1, c45]; rfl, rfl, by rw [hu.2]; exact hM2, hq⟩
            · refine Gd_iconst ki_1 eX7_friends_48 ?_
              refine Gd_goto eX7_friends_49 ?_
              refine Gd_istore4 rfl eX7_friends_53 ?_
              refine Gd_aload_n (i := 0) rfl eX7_friends_55 ?_
              refine Gd_getR fl_RX7_10 (W_s0 hW) (W_r0_0 hW) eX7_friends_56 ?_
              refine Gd_iload_n (i := 1) rfl eX7_friends_59 ?_
              refine Gd_iload_n (i := 2) rfl eX7_friends_60 ?_
              refine Gd_iload_n (i := 3) rfl eX7_friends_61 ?_
              refine Gd_iconst ki_1 eX7_friends_62 ?_
              refine Gd_icmp_ne eX7_friends_63 (fun q => by first | exact absurd q (by decide) | exact absurd (by decide) q) (fun _ => ?_)
              refine Gd_iconst ki_1 eX7_friends_66 ?_
              refine Gd_goto eX7_friends_67 ?_
              refine Gd_callE0 (g_cV (x_setMet1 (W_F1 hW) hA hI (by first | omega | decide) (by first | omega | decide) hne) ok_X0_setMet lk_RX7_154 (W_s1 hW) ⟨_, _, rfl⟩ rfl rfl (Nat.le_of_ble_eq_true rfl) (Nat.le_of_ble_eq_true rfl) (Nat.le_refl _) (Nat.le_refl _) eX7_friends_71) (fun a2 hq => ?_)
              obtain ⟨hM2, hq⟩ := hq
              refine Gd_iload (i := 4) rfl eX7_friends_74 ?_
              exact Gd_ireturn eX7_friends_76 rfl (Nat.le_refl _) (Nat.le_refl _) ⟨a2, by rw [hu.1, c45]; rfl, rfl, by rw [hu.2]; exact hM2, hq⟩
        · refine Gd_bipush kb_m7 eX7_friends_33 ?_
          exact Gd_ireturn eX7_friends_35 rfl (Nat.le_refl _) (Nat.le_refl _) ⟨a, by rw [(oFr_v h2 c30).1], rfl, by rw [(oFr_v h2 c30).2]; exact hA, chg_rf⟩
      · refine Gd_bipush kb_m5 eX7_friends_21 ?_
        exact Gd_ireturn eX7_friends_23 rfl (Nat.le_refl _) (Nat.le_refl _) ⟨a, by rw [(oFr_n (by simp [twoH, c18])).1], rfl, by rw [(oFr_n (by simp [twoH, c18])).2]; exact hA, chg_rf⟩
