theorem x_turnCard {sh : List (Nat × Nat)} {a : Nat → Nat → Int32} {r : Nat → Nat → Option Nat} {g : Nat → Nat → Int64} {φ : Nat → Nat → Nat} {f : Nat} (hF : isF sh r f) (hA : FA f φ a) (hI : FI φ) {p d : Nat} (hp : p < 6) (hd : d < 10) : Mt YX0_turnCard 0 0 0 [vr f, vi (nI p), vi (nI d)] (sh, a, r, g) (g_P none (sh, up2 a (f + 6) p (nI (φ 5 p ^^^ 2 ^ d)), r, g)) := by
  refine Mt_of rfl (Nat.le_of_ble_eq_true rfl) rfl ?_
  refine Gd_aload_n (i := 0) rfl eX0_turnCard_0 ?_
  refine Gd_getR fl_RX0_40 (F_s0 hF) (F_r9 hF) eX0_turnCard_1 ?_
  refine Gd_iload_n (i := 1) rfl eX0_turnCard_4 ?_
  refine Gd_dup2 rfl rfl eX0_turnCard_5 ?_
  refine Gd_ialdE (v := nI (φ 5 p)) (F_s6 hF) (by first | omega | decide) (FA_ca hA (p := p) (by first | omega | decide) :) eX0_turnCard_6 ?_
  refine Gd_iconst ki_1 eX0_turnCard_7 ?_
  refine Gd_iload_n (i := 2) rfl eX0_turnCard_8 ?_
  refine Gd_ishl1 (by first | omega | decide) eX0_turnCard_9 ?_
  refine Gd_ixorN eX0_turnCard_10 ?_
  refine Gd_iastN (F_s6 hF) (by first | omega | decide) eX0_turnCard_11 ?_
  exact Gd_return eX0_turnCard_12 rfl (Nat.le_refl _) (Nat.le_refl _) ⟨rfl, rfl⟩
theorem m_present {sh : List (Nat × Nat)} {a : Nat → Nat → Int32} {r : Nat → Nat → Option Nat} {g : Nat → Nat → Int64} {φ ts cd : Nat → Nat → Nat} {nt : Nat} (hW : WD sh r) (hM : MA φ a) (hI : FI φ) (hT : TM nt ts cd a) (hTI : TI nt ts cd) (hlt : φ 7 2 < nt) (vt vp vd : Int32) : Mt YX8_present 5 0 0 [vr 50, vi vt, vi vp, vi vd] (sh, a, r, g) (g_EV sh r g (vi (rPresent φ ts cd vt vp vd).1) (fun a' => MA (rPresent φ ts cd vt vp vd).2 a' ∧ chg scS a a')) := by
  refine Mt_of rfl (Nat.le_of_ble_eq_true rfl) rfl ?_
  have hhu := FI_hu hI
  have hch : chg scM a a := chg_rf
  refine Gd_aload_n (i := 0) rfl eX8_present_0 ?_
  refine Gd_iload_n (i := 1) rfl eX8_present_1 ?_
  refine Gd_iload_n (i := 2) rfl eX8_present_2 ?_
  refine Gd_callP (g_cV (m_areTwo hW hM hI _ _) ok_X8_areTwo lk_RX8_189 (W_s50 hW) ⟨_, _, rfl⟩ rfl rfl (Nat.le_of_ble_eq_true rfl) (Nat.le_of_ble_eq_true rfl) (Nat.le_refl _) (Nat.le_refl _) eX8_present_3) ?_
  refine Gd_if_neB eX8_present_6 (fun c6 => ?_) (fun c6 => ?_)
  · obtain ⟨t, p, ht, hp, htp, rfl, rfl⟩ := twoH_t (φ := φ) hhu c6
    refine Gd_iload_n (i := 3) rfl eX8_present_12 ?_
    refine Gd_callP (g_cS (m_isDeer _) ok_X8_isDeer lk_RX8_105 rfl rfl (Nat.le_of_ble_eq_true rfl) (Nat.le_of_ble_eq_true rfl) (Nat.le_refl _) (Nat.le_refl _) eX8_present_13) ?_
    refine Gd_if_neB eX8_present_16 (fun c16 => ?_) (fun c16 => ?_)
    · obtain ⟨d, hd, rfl⟩ := inr_t c16 (by decide)
      have hr := rPresent_u (φ := φ) (ts := ts) (cd := cd) hhu ht hp htp hd
      refine Gd_aload_n (i := 0) rfl eX8_present_22 ?_
      refine Gd_iload_n (i := 1) rfl eX8_present_23 ?_
      refine Gd_iload_n (i := 2) rfl eX8_present_24 ?_
      refine Gd_callP (g_cV (m_haveMet hW hM hI (by first | omega | decide) (by first | omega | decide)) ok_X8_haveMet lk_RX8_192 (W_s50 hW) ⟨_, _, rfl⟩ rfl rfl (Nat.le_of_ble_eq_true rfl) (Nat.le_of_ble_eq_true rfl) (Nat.le_refl _) (Nat.le_refl _) eX8_present_25) ?_
      refine Gd_if_eqB eX8_present_28 (fun c28 => ?_) (fun c28 => ?_)
      · refine Gd_iconst ki_0 eX8_present_53 ?_
        refine Gd_istore4 rfl eX8_present_54 ?_
        refine Gd_iload (i := 4) rfl eX8_present_56 ?_
        refine Gd_if_eq eX8_present_58 (fun _ => ?_) (fun q => by first | exact absurd q (by decide) | exact absurd (by decide) q)
        refine Gd_bipush kb_m3 eX8_present_77 ?_
        exact Gd_ireturn eX8_present_79 rfl (Nat.le_refl _) (Nat.le_refl _) (by rw [hr, if_neg (by simp [prn, c28])]; exact ⟨a, rfl, rfl, hM, chg_mono2 scS_M hch⟩)
      · refine Gd_aload_n (i := 0) rfl eX8_present_31 ?_
        refine Gd_iload_n (i := 1) rfl eX8_present_32 ?_
        refine Gd_iload_n (i := 3) rfl eX8_present_33 ?_
        refine Gd_callP (g_cV (m_isCard hW hM hI (by first | omega | decide) (by first | omega | decide)) ok_X8_isCard lk_RX8_112 (W_s50 hW) ⟨_, _, rfl⟩ rfl rfl (Nat.le_of_ble_eq_true rfl) (Nat.le_of_ble_eq_true rfl) (Nat.le_refl _) (Nat.le_refl _) eX8_present_34) ?_
        refine Gd_if_eqB eX8_present_37 (fun c37 => ?_) (fun c37 => ?_)
        · refine Gd_iconst ki_0 eX8_present_53 ?_
          refine Gd_istore4 rfl eX8_present_54 ?_
          refine Gd_iload (i := 4) rfl eX8_present_56 ?_
          refine Gd_if_eq eX8_present_58 (fun _ => ?_) (fun q => by first | exact absurd q (by decide) | exact absurd (by decide) q)
          refine Gd_bipush kb_m3 eX8_present_77 ?_
          exact Gd_ireturn eX8_present_79 rfl (Nat.le_refl _) (Nat.le_refl _) (by rw [hr, if_neg (by simp [prn, c28, c37])]; exact ⟨a, rfl, rfl, hM, chg_mono2 scS_M hch⟩)
        · refine Gd_aload_n (i := 0) rfl eX8_present_40 ?_
          refine Gd_iload_n (i := 2) rfl eX8_present_41 ?_
          refine Gd_iload_n (i := 3) rfl eX8_present_42 ?_
          refine Gd_callP (g_cV (m_isCard hW hM hI (by first | omega | decide) (by first | omega | decide)) ok_X8_isCard lk_RX8_112 (W_s50 hW) ⟨_, _, rfl⟩ rfl rfl (Nat.le_of_ble_eq_true rfl) (Nat.le_of_ble_eq_true rfl) (Nat.le_refl _) (Nat.le_refl _) eX8_present_43) ?_
          refine Gd_if_neB eX8_present_46 (fun c46 => ?_) (fun c46 => ?_)
          · refine Gd_iconst ki_0 eX8_present_53 ?_
            refine Gd_istore4 rfl eX8_present_54 ?_
            refine Gd_iload (i := 4) rfl eX8_present_56 ?_
            refine Gd_if_eq eX8_present_58 (fun _ => ?_) (fun q => by first | exact absurd q (by decide) | exact absurd (by decide) q)
            refine Gd_bipush kb_m3 eX8_present_77 ?_
            exact Gd_ireturn eX8_present_79 rfl (Nat.le_refl _) (Nat.le_refl _) (by rw [hr, if_neg (by simp [prn, c28, c37, c46])]; exact ⟨a, rfl, rfl, hM, chg_mono2 scS_M hch⟩)
          · refine Gd_iconst ki_1 eX8_present_49 ?_
            refine Gd_goto eX8_present_50 ?_
            refine Gd_istore4 rfl eX8_present_54 ?_
            refine Gd_iload (i := 4) rfl eX8_present_56 ?_
            refine Gd_if_eq eX8_present_58 (fun q => by first | exact absurd q (by decide) | exact absurd (by decide) q) (fun _ => ?_)
            refine Gd_aload_n (i := 0) rfl eX8_present_61 ?_
            refine Gd_iload_n (i := 3) rfl eX8_present_62 ?_
            refine Gd_callP (g_cV (m_isAlive hW hM hI hd) ok_X8_isAlive lk_RX8_208 (W_s50 hW) ⟨_, _, rfl⟩ rfl rfl (Nat.le_of_ble_eq_true rfl) (Nat.le_of_ble_eq_true rfl) (Nat.le_refl _) (Nat.le_refl _) eX8_present_63) ?_
            refine Gd_if_eqB eX8_present_66 (fun c66 => ?_) (fun c66 => ?_)
            · refine Gd_bipush kb_m3 eX8_present_77 ?_
              exact Gd_ireturn eX8_present_79 rfl (Nat.le_refl _) (Nat.le_refl _) (by rw [hr, if_neg (by simp [prn, c28, c37, c46, c66])]; exact ⟨a, rfl, rfl, hM, chg_mono2 scS_M hch⟩)
            · refine Gd_aload_n (i := 0) rfl eX8_present_69 ?_
              refine Gd_iload_n (i := 1) rfl eX8_present_70 ?_
              refine Gd_callEV (g_cV (m_doesWill hW hM hI hT hTI hlt (p := t) ht) ok_X8_doesWill lk_RX8_205 (W_s50 hW) ⟨_, _, rfl⟩ rfl rfl (Nat.le_of_ble_eq_true rfl) (Nat.le_of_ble_eq_true rfl) (Nat.le_refl _) (Nat.le_refl _) eX8_present_71) (fun a hq => ?_)
              have hM := MA_sc hM hq
              have hT := TM_sc hT hq
              have hch := chg_tr hch hq
              refine Gd_if_neB eX8_present_74 (fun c74 => ?_) (fun c74 => ?_)
              · refine Gd_aload_n (i := 0) rfl eX8_present_80 ?_
                refine Gd_getR fl_RX8_16 (W_s50 hW) (W_r50_3 hW) eX8_present_81 ?_
                refine Gd_iconst ki_4 eX8_present_84 ?_
                refine Gd_iload_n (i := 2) rfl eX8_present_85 ?_
                refine Gd_imulN eX8_present_86 ?_
                refine Gd_iconst ki_1 eX8_present_87 ?_
                refine Gd_iaddN eX8_present_88 ?_
                refine Gd_dup2 rfl rfl eX8_present_89 ?_
                refine Gd_ialdE (v := nI (φ 5 p)) (W_s53 hW) (by first | omega | decide) (MA_ca hM (p := p) (by first | omega | decide) :) eX8_present_90 ?_
                refine Gd_iconst ki_1 eX8_present_91 ?_
                refine Gd_iload_n (i := 3) rfl eX8_present_92 ?_
                refine Gd_ishl1 (by first | omega | decide) eX8_present_93 ?_
                refine Gd_iorN eX8_present_94 ?_
                refine Gd_iastN (W_s53 hW) (by first | omega | decide) eX8_present_95 ?_
                refine Gd_aload_n (i := 0) rfl eX8_present_96 ?_
                refine Gd_getR fl_RX8_16 (W_s50 hW) (W_r50_3 hW) eX8_present_97 ?_
                refine Gd_iconst ki_4 eX8_present_100 ?_
                refine Gd_iload_n (i := 2) rfl eX8_present_101 ?_
                refine Gd_imulN eX8_present_102 ?_
                refine Gd_iconst ki_3 eX8_present_103 ?_
                refine Gd_iaddN eX8_present_104 ?_
                refine Gd_iload_n (i := 1) rfl eX8_present_105 ?_
                refine Gd_iastN (W_s53 hW) (by first | omega | decide) eX8_present_106 ?_
                refine Gd_aload_n (i := 0) rfl eX8_present_107 ?_
                refine Gd_iload_n (i := 1) rfl eX8_present_108 ?_
                have hM3 : MA (prf φ t p d) _ := MA_setby (v := t) (p := p) (MA_setca (v := φ 5 p ||| 2 ^ d) (p := p) hM)
                have hc3 : chg scS a (up2 (up2 a 53 (4 * p + 1) (nI (φ 5 p ||| 2 ^ d))) 53 (4 * p + 3) (nI t)) := chg_up (chg_up chg_rf rfl) rfl
                refine Gd_callEV (g_cV (m_gainsBy hW hM3 (FI_prf hI (by omega) (by omega) hd) (TM_scS hT hc3) hTI hlt (p := t) ht) ok_X8_gainsBy lk_RX8_226 (W_s50 hW) ⟨_, _, rfl⟩ rfl rfl (Nat.le_of_ble_eq_true rfl) (Nat.le_of_ble_eq_true rfl) (Nat.le_refl _) (Nat.le_refl _) eX8_present_109) (fun a4 hq => ?_)
                obtain ⟨hM4, hq⟩ := hq
                exact Gd_ireturn eX8_present_112 rfl (Nat.le_refl _) (Nat.le_refl _) (by rw [hr, if_pos (by simp [prn, c28, c37, c46, c66, c74])]; exact ⟨a4, rfl, rfl, hM4, chg_tr (chg_mono2 scS_M hch) (chg_tr hc3 hq)⟩)
              · refine Gd_bipush kb_m3 eX8_present_77 ?_
                exact Gd_ireturn eX8_present_79 rfl (Nat.le_refl _) (Nat.le_refl _) (by rw [hr, if_neg (by simp [prn, c28, c37, c46, c66, c74])]; exact ⟨a, rfl, rfl, hM, chg_mono2 scS_M hch⟩)
    · refine Gd_bipush kb_m6 eX8_present_19 ?_
      exact Gd_ireturn eX8_present_21 rfl (Nat.le_refl _) (Nat.le_refl _) (by rw [rPresent_d (twoH_u hhu ht hp htp) c16]; exact ⟨a, rfl, rfl, hM, chg_rf⟩)
  · refine Gd_bipush kb_m5 eX8_present_9 ?_
    exact Gd_ireturn eX8_present_11 rfl (Nat.le_refl _) (Nat.le_refl _) (by rw [rPresent_n (show twoH φ vt vp = false from c6)]; exact ⟨a, rfl, rfl, hM, chg_rf⟩)
theorem x_present {sh : List (Nat × Nat)} {a : Nat → Nat → Int32} {r : Nat → Nat → Option Nat} {g : Nat → Nat → Int64} {φ ts cd : Nat → Nat → Nat} {nt : Nat} (hW : WD sh r) (hA : FA 1 φ a) (hI : FI φ) (hT : TX nt ts cd sh a r) (hTI : TI nt ts cd) (hlt : φ 7 2 < nt) (vt vp vd : Int32) : Mt YX7_present 5 0 0 [vr 0, vi vt, vi vp, vi vd] (sh, a, r, g) (g_EV sh r g (vi (rPresent φ ts cd vt vp vd).1) (fun a' => FA 1 (rPresent φ ts cd vt vp vd).2 a' ∧ chg scU a a')) := by
  refine Mt_of rfl (Nat.le_of_ble_eq_true rfl) rfl ?_
  have hhu := FI_hu hI
  have hch : chg scR a a := chg_rf
  refine Gd_aload_n (i := 0) rfl eX7_present_0 ?_
  refine Gd_iload_n (i := 1) rfl eX7_present_1 ?_
  refine Gd_callP (g_cV (x_isHunter hW hA hI _) ok_X7_isHunter lk_RX7_140 (W_s0 hW) ⟨_, _, rfl⟩ rfl rfl (Nat.le_of_ble_eq_true rfl) (Nat.le_of_ble_eq_true rfl) (Nat.le_refl _) (Nat.le_refl _) eX7_present_2) ?_
  refine Gd_if_eqB eX7_present_5 (fun c5 => ?_) (fun c5 => ?_)
  · refine Gd_bipush kb_m5 eX7_present_21 ?_
    exact Gd_ireturn eX7_present_23 rfl (Nat.le_refl _) (Nat.le_refl _) (by rw [rPresent_n (by simp [twoH, c5])]; exact ⟨a, rfl, rfl, hA, chg_rf⟩)
  · refine Gd_aload_n (i := 0) rfl eX7_present_8 ?_
    refine Gd_iload_n (i := 2) rfl eX7_present_9 ?_
    refine Gd_callP (g_cV (x_isHunter hW hA hI _) ok_X7_isHunter lk_RX7_140 (W_s0 hW) ⟨_, _, rfl⟩ rfl rfl (Nat.le_of_ble_eq_true rfl) (Nat.le_of_ble_eq_true rfl) (Nat.le_refl _) (Nat.le_refl _) eX7_present_10) ?_
    refine Gd_if_eqB eX7_present_13 (fun c13 => ?_) (fun c13 => ?_)
    · refine Gd_bipush kb_m5 eX7_present_21 ?_
      exact Gd_ireturn eX7_present_23 rfl (Nat.le_refl _) (Nat.le_refl _) (by rw [rPresent_n (by simp [twoH, c13])]; exact ⟨a, rfl, rfl, hA, chg_rf⟩)
    · refine Gd_iload_n (i := 1) rfl eX7_present_16 ?_
      refine Gd_iload_n (i := 2) rfl eX7_present_17 ?_
      refine Gd_icmp_ne eX7_present_18 (fun c18 => ?_) (fun c18 => ?_)
      · obtain ⟨t, ht, rfl⟩ := inr_t c5 (by omega)
        obtain ⟨p, hp, rfl⟩ := inr_t c13 (by omega)
        have htp : t ≠ p := fun e => c18 (by rw [e])
        refine Gd_iload_n (i := 3) rfl eX7_present_24 ?_
        refine Gd_callP (g_cS (x_isDeer _) ok_X7_isDeer lk_RX7_115 rfl rfl (Nat.le_of_ble_eq_true rfl) (Nat.le_of_ble_eq_true rfl) (Nat.le_refl _) (Nat.le_refl _) eX7_present_25) ?_
        refine Gd_if_neB eX7_present_28 (fun c28 => ?_) (fun c28 => ?_)
        · obtain ⟨d, hd, rfl⟩ := inr_t c28 (by decide)
          have hr := rPresent_u (φ := φ) (ts := ts) (cd := cd) hhu ht hp htp hd
          refine Gd_aload_n (i := 0) rfl eX7_present_34 ?_
          refine Gd_getR fl_RX7_10 (W_s0 hW) (W_r0_0 hW) eX7_present_35 ?_
          refine Gd_iload_n (i := 1) rfl eX7_present_38 ?_
          refine Gd_iload_n (i := 2) rfl eX7_present_39 ?_
          refine Gd_callP (g_cV (x_haveMet (W_F1 hW) hA hI (by first | omega | decide) (by first | omega | decide)) ok_X0_haveMet lk_RX7_150 (W_s1 hW) ⟨_, _, rfl⟩ rfl rfl (Nat.le_of_ble_eq_true rfl) (Nat.le_of_ble_eq_true rfl) (Nat.le_refl _) (Nat.le_refl _) eX7_present_40) ?_
          refine Gd_if_eqB eX7_present_43 (fun c43 => ?_) (fun c43 => ?_)
          · refine Gd_bipush kb_m3 eX7_present_96 ?_
            exact Gd_ireturn eX7_present_98 rfl (Nat.le_refl _) (Nat.le_refl _) (by rw [hr, if_neg (by simp [prn, c43])]; exact ⟨a, rfl, rfl, hA, chg_mono2 scU_R hch⟩)
          · refine Gd_aload_n (i := 0) rfl eX7_present_46 ?_
            refine Gd_getR fl_RX7_10 (W_s0 hW) (W_r0_0 hW) eX7_present_47 ?_
            refine Gd_iload_n (i := 1) rfl eX7_present_50 ?_
            refine Gd_iload_n (i := 3) rfl eX7_present_51 ?_
            refine Gd_callP (g_cV (x_hasCard (W_F1 hW) hA hI (by first | omega | decide) (by first | omega | decide)) ok_X0_hasCard lk_RX7_195 (W_s1 hW) ⟨_, _, rfl⟩ rfl rfl (Nat.le_of_ble_eq_true rfl) (Nat.le_of_ble_eq_true rfl) (Nat.le_refl _) (Nat.le_refl _) eX7_present_52) ?_
            refine Gd_if_eqB eX7_present_55 (fun c55 => ?_) (fun c55 => ?_)
            · refine Gd_bipush kb_m3 eX7_present_96 ?_
              exact Gd_ireturn eX7_present_98 rfl (Nat.le_refl _) (Nat.le_refl _) (by rw [hr, if_neg (by simp [prn, c43, c55])]; exact ⟨a, rfl, rfl, hA, chg_mono2 scU_R hch⟩)
            · refine Gd_aload_n (i := 0) rfl eX7_present_58 ?_
              refine Gd_getR fl_RX7_10 (W_s0 hW) (W_r0_0 hW) eX7_present_59 ?_
              refine Gd_iload_n (i := 2) rfl eX7_present_62 ?_
              refine Gd_iload_n (i := 3) rfl eX7_present_63 ?_
              refine Gd_callP (g_cV (x_hasCard (W_F1 hW) hA hI (by first | omega | decide) (by first | omega | decide)) ok_X0_hasCard lk_RX7_195 (W_s1 hW) ⟨_, _, rfl⟩ rfl rfl (Nat.le_of_ble_eq_true rfl) (Nat.le_of_ble_eq_true rfl) (Nat.le_refl _) (Nat.le_refl _) eX7_present_64) ?_
              refine Gd_if_neB eX7_present_67 (fun c67 => ?_) (fun c67 => ?_)
              · refine Gd_bipush kb_m3 eX7_present_96 ?_
                exact Gd_ireturn eX7_present_98 rfl (Nat.le_refl _) (Nat.le_refl _) (by rw [hr, if_neg (by simp [prn, c43, c55, c67])]; exact ⟨a, rfl, rfl, hA, chg_mono2 scU_R hch⟩)
              · refine Gd_aload_n (i := 0) rfl eX7_present_70 ?_
                refine Gd_getR fl_RX7_10 (W_s0 hW) (W_r0_0 hW) eX7_present_71 ?_
                refine Gd_iload_n (i := 3) rfl eX7_present_74 ?_
                refine Gd_callP (g_cV (x_isAlive (W_F1 hW) hA hI hd) ok_X0_isAlive lk_RX7_127 (W_s1 hW) ⟨_, _, rfl⟩ rfl rfl (Nat.le_of_ble_eq_true rfl) (Nat.le_of_ble_eq_true rfl) (Nat.le_refl _) (Nat.le_refl _) eX7_present_75) ?_
                refine Gd_if_eqB eX7_present_78 (fun c78 => ?_) (fun c78 => ?_)
                · refine Gd_bipush kb_m3 eX7_present_96 ?_
                  exact Gd_ireturn eX7_present_98 rfl (Nat.le_refl _) (Nat.le_refl _) (by rw [hr, if_neg (by simp [prn, c43, c55, c67, c78])]; exact ⟨a, rfl, rfl, hA, chg_mono2 scU_R hch⟩)
                · refine Gd_aload_n (i := 0) rfl eX7_present_81 ?_
                  refine Gd_getR fl_RX7_36 (W_s0 hW) (W_r0_5 hW) eX7_present_82 ?_
                  refine Gd_aload_n (i := 0) rfl eX7_present_85 ?_
                  refine Gd_getR fl_RX7_10 (W_s0 hW) (W_r0_0 hW) eX7_present_86 ?_
                  refine Gd_iload_n (i := 1) rfl eX7_present_89 ?_
                  refine Gd_callEV (g_cV (x_isWilling hW (W_F1 hW) (by decide) hA hI hT hTI hlt (p := t) ht) ok_X3_isWilling lk_RX7_173 (W_s31 hW) ⟨_, _, rfl⟩ rfl rfl (Nat.le_of_ble_eq_true rfl) (Nat.le_of_ble_eq_true rfl) (Nat.le_refl _) (Nat.le_refl _) eX7_present_90) (fun a hq => ?_)
                  have hA := FA_R hA (by decide) hq
                  have hT := TX_R hT hq
                  have hch := chg_tr hch hq
                  refine Gd_if_neB eX7_present_93 (fun c93 => ?_) (fun c93 => ?_)
                  · refine Gd_aload_n (i := 0) rfl eX7_present_99 ?_
                    refine Gd_getR fl_RX7_10 (W_s0 hW) (W_r0_0 hW) eX7_present_100 ?_
                    refine Gd_iload_n (i := 2) rfl eX7_present_103 ?_
                    refine Gd_iload_n (i := 3) rfl eX7_present_104 ?_
                    refine Gd_callP0 (g_cV (x_turnCard (W_F1 hW) hA hI (p := p) (d := d) (by first | omega | decide) hd) ok_X0_turnCard lk_RX7_198 (W_s1 hW) ⟨_, _, rfl⟩ rfl rfl (Nat.le_of_ble_eq_true rfl) (Nat.le_of_ble_eq_true rfl) (Nat.le_refl _) (Nat.le_refl _) eX7_present_105) rfl ?_
                    have hx : φ 5 p ^^^ 2 ^ d = φ 5 p ||| 2 ^ d := xor_or10 d hd _ (FI_ca hI (by omega)) c67
                    rw [hx]
                    refine Gd_aload_n (i := 0) rfl eX7_present_108 ?_
                    refine Gd_getR fl_RX7_10 (W_s0 hW) (W_r0_0 hW) eX7_present_109 ?_
                    refine Gd_getR fl_RX7_181 (W_s1 hW) (W_r1_10 hW) eX7_present_112 ?_
                    refine Gd_iload_n (i := 2) rfl eX7_present_115 ?_
                    refine Gd_iload_n (i := 1) rfl eX7_present_116 ?_
                    refine Gd_iastN (W_s8 hW) (by first | omega | decide) eX7_present_117 ?_
                    refine Gd_aload_n (i := 0) rfl eX7_present_118 ?_
                    refine Gd_getR fl_RX7_36 (W_s0 hW) (W_r0_5 hW) eX7_present_119 ?_
                    refine Gd_aload_n (i := 0) rfl eX7_present_122 ?_
                    refine Gd_getR fl_RX7_10 (W_s0 hW) (W_r0_0 hW) eX7_present_123 ?_
                    refine Gd_iload_n (i := 1) rfl eX7_present_126 ?_
                    have hA3 : FA 1 (prf φ t p d) _ := FA_setby (v := t) (p := p) (FA_setca (v := φ 5 p ||| 2 ^ d) (p := p) hA)
                    have hc3 : chg scU a (up2 (up2 a 7 p (nI (φ 5 p ||| 2 ^ d))) 8 p (nI t)) := chg_up (chg_up chg_rf rfl) rfl
                    refine Gd_callEV (g_cV (x_reward hW (W_F1 hW) (by decide) hA3 (FI_prf hI (by omega) (by omega) hd) (TX_U hT hc3) hTI hlt (p := t) ht) ok_X3_reward lk_RX7_192 (W_s31 hW) ⟨_, _, rfl⟩ rfl rfl (Nat.le_of_ble_eq_true rfl) (Nat.le_of_ble_eq_true rfl) (Nat.le_refl _) (Nat.le_refl _) eX7_present_127) (fun a4 hq => ?_)
                    obtain ⟨hA4, hq⟩ := hq
                    exact Gd_ireturn eX7_present_130 rfl (Nat.le_refl _) (Nat.le_refl _) (by rw [hr, if_pos (by simp [prn, c43, c55, c67, c78, c93])]; exact ⟨a4, rfl, rfl, hA4, chg_tr (chg_mono2 scU_R hch) (chg_tr hc3 (chg_mono2 (scU_T (by decide)) hq))⟩)
                  · refine Gd_bipush kb_m3 eX7_present_96 ?_
                    exact Gd_ireturn eX7_present_98 rfl (Nat.le_refl _) (Nat.le_refl _) (by rw [hr, if_neg (by simp [prn, c43, c55, c67, c78, c93])]; exact ⟨a, rfl, rfl, hA, chg_mono2 scU_R hch⟩)
        · refine Gd_bipush kb_m6 eX7_present_31 ?_
          exact Gd_ireturn eX7_present_33 rfl (Nat.le_refl _) (Nat.le_refl _) (by rw [rPresent_d (twoH_u hhu ht hp htp) c28]; exact ⟨a, rfl, rfl, hA, chg_rf⟩)
      · refine Gd_bipush kb_m5 eX7_present_21 ?_
        exact Gd_ireturn eX7_present_23 rfl (Nat.le_refl _) (Nat.le_refl _) (by rw [rPresent_n (by simp [twoH, c18])]; exact ⟨a, rfl, rfl, hA, chg_rf⟩)
