theorem m_way {sh : List (Nat × Nat)} {a : Nat → Nat → Int32} {r : Nat → Nat → Option Nat} {g : Nat → Nat → Int64} {φ ts cd : Nat → Nat → Nat} {nt : Nat} (hW : WD sh r) (hM : MA φ a) (hI : FI φ) (hT : TM nt ts cd a) (hTI : TI nt ts cd) (hlt : φ 7 2 < nt) (hJ : FJ φ) (vp vd vv : Int32) : Mt YX8_way 6 0 0 [vr 50, vi vp, vi vd, vi vv] (sh, a, r, g) (g_EV sh r g (vi (oWay φ ts cd vp vd vv)) (fun a' => chg scW a a')) := by
  refine Mt_of rfl (Nat.le_of_ble_eq_true rfl) rfl ?_
  refine Gd_aload_n (i := 0) rfl eX8_way_0 ?_
  refine Gd_iload_n (i := 1) rfl eX8_way_1 ?_
  refine Gd_callP (g_cV (m_isOne hW hM hI _) ok_X8_isOne lk_RX8_88 (W_s50 hW) ⟨_, _, rfl⟩ rfl rfl (Nat.le_of_ble_eq_true rfl) (Nat.le_of_ble_eq_true rfl) (Nat.le_refl _) (Nat.le_refl _) eX8_way_2) ?_
  refine Gd_if_neB eX8_way_5 (fun c5 => ?_) (fun c5 => ?_)
  · have hhu := FI_hu hI
    obtain ⟨p, hpn, rfl⟩ := inr_t c5 (by omega)
    refine Gd_iload_n (i := 2) rfl eX8_way_11 ?_
    refine Gd_callP (g_cS (m_isDeer _) ok_X8_isDeer lk_RX8_105 rfl rfl (Nat.le_of_ble_eq_true rfl) (Nat.le_of_ble_eq_true rfl) (Nat.le_refl _) (Nat.le_refl _) eX8_way_12) ?_
    refine Gd_if_eqB eX8_way_15 (fun c15 => ?_) (fun c15 => ?_)
    · refine Gd_bipush kb_m7 eX8_way_27 ?_
      exact Gd_ireturn eX8_way_29 rfl (Nat.le_refl _) (Nat.le_refl _) ⟨a, by rw [oWay_d hpn hhu (Or.inl c15)], rfl, chg_rf⟩
    · refine Gd_iload_n (i := 3) rfl eX8_way_18 ?_
      refine Gd_iconst ki_0 eX8_way_19 ?_
      refine Gd_iconst ki_2 eX8_way_20 ?_
      refine Gd_callP (g_cS (m_in _ _ _) ok_X8_in lk_RX8_84 rfl rfl (Nat.le_of_ble_eq_true rfl) (Nat.le_of_ble_eq_true rfl) (Nat.le_refl _) (Nat.le_refl _) eX8_way_21) ?_
      refine Gd_if_neB eX8_way_24 (fun c24 => ?_) (fun c24 => ?_)
      · obtain ⟨d, hd, rfl⟩ := inr_t c15 (by decide)
        obtain ⟨v, hv1, hv2, rfl⟩ := inb_r (by decide) (by decide) c24
        have ow := oWay_u (ts := ts) (cd := cd) hpn hhu hd hv2
        have hp6 : p < 6 := by omega
        refine Gd_aload_n (i := 0) rfl eX8_way_30 ?_
        refine Gd_iload_n (i := 1) rfl eX8_way_31 ?_
        refine Gd_iload_n (i := 2) rfl eX8_way_32 ?_
        refine Gd_callP (g_cV (m_isCard hW hM hI (by first | omega | decide) (by first | omega | decide)) ok_X8_isCard lk_RX8_112 (W_s50 hW) ⟨_, _, rfl⟩ rfl rfl (Nat.le_of_ble_eq_true rfl) (Nat.le_of_ble_eq_true rfl) (Nat.le_refl _) (Nat.le_refl _) eX8_way_33) ?_
        refine Gd_if_eqB eX8_way_36 (fun c36 => ?_) (fun c36 => ?_)
        · refine Gd_aload_n (i := 0) rfl eX8_way_50 ?_
          refine Gd_callE0 (g_cV (m_tellsWilling hW hM hI hT hTI hlt) ok_X8_tellsWilling lk_RX8_211 (W_s50 hW) ⟨_, _, rfl⟩ rfl rfl (Nat.le_of_ble_eq_true rfl) (Nat.le_of_ble_eq_true rfl) (Nat.le_refl _) (Nat.le_refl _) eX8_way_51) (fun a1 hq1 => ?_)
          obtain ⟨h32, hq1⟩ := hq1
          have hM := MA_sc hM hq1
          have hp6 : p < 6 := by have := FI_hu hI; omega
          refine Gd_aload_n (i := 0) rfl eX8_way_54 ?_
          refine Gd_iload_n (i := 1) rfl eX8_way_55 ?_
          refine Gd_callE0 (g_cV (m_tellsFar hW hM hI hJ h32 hp6) ok_X8_tellsFar lk_RX8_214 (W_s50 hW) ⟨_, _, rfl⟩ rfl rfl (Nat.le_of_ble_eq_true rfl) (Nat.le_of_ble_eq_true rfl) (Nat.le_refl _) (Nat.le_refl _) eX8_way_56) (fun a2 hq2 => ?_)
          obtain ⟨h68, hq2⟩ := hq2
          have hM2 := MA_ch hM hq2 (fun _ _ => sR_M (K := 68) (by decide))
          have h32b := (hq2 50 32 rfl).trans h32
          refine Gd_aload_n (i := 0) rfl eX8_way_59 ?_
          refine Gd_iload_n (i := 1) rfl eX8_way_60 ?_
          refine Gd_iload_n (i := 2) rfl eX8_way_61 ?_
          refine Gd_callP (g_cV (m_sponsorBy hW hM2 hI hJ h32b hp6 (by first | omega | decide) h68) ok_X8_sponsorBy lk_RX8_217 (W_s50 hW) ⟨_, _, rfl⟩ rfl rfl (Nat.le_of_ble_eq_true rfl) (Nat.le_of_ble_eq_true rfl) (Nat.le_refl _) (Nat.le_refl _) eX8_way_62) ?_
          refine Gd_istore4 rfl eX8_way_65 ?_
          refine Gd_iload (i := 4) rfl eX8_way_67 ?_
          refine Gd_iconst ki_m1 eX8_way_69 ?_
          refine Gd_icmp_eq eX8_way_70 (fun c70 => ?_) (fun c70 => ?_)
          · refine Gd_iload (i := 4) rfl eX8_way_78 ?_
            exact Gd_ireturn eX8_way_80 rfl (Nat.le_refl _) (Nat.le_refl _) ⟨a2, by rw [ow, if_neg (by rw [c36]; decide), if_pos (Or.inl c70)], rfl, chg_tr (chg_mono hq1 (fun k j => scW_M)) (chg_mono hq2 (fun k j => scW_68))⟩
          · refine Gd_iload_n (i := 3) rfl eX8_way_73 ?_
            refine Gd_iconst ki_2 eX8_way_74 ?_
            refine Gd_icmp_neN (by first | omega | decide) (by first | omega | decide) eX8_way_75 (fun c75 => ?_) (fun c75 => ?_)
            · obtain ⟨u, k, hu, hs, hk⟩ := spo_n c70
              rw [hs]
              have hul := dst_le (φ := φ) (ts := ts) (cd := cd) (p := p) 6 u
              refine Gd_iload_n (i := 3) rfl eX8_way_81 ?_
              refine Gd_if_neN (by first | omega | decide) eX8_way_82 (fun c82 => ?_) (fun c82 => ?_)
              · refine Gd_aload_n (i := 0) rfl eX8_way_95 ?_
                refine Gd_iload (i := 4) rfl eX8_way_96 ?_
                refine Gd_callP (g_cV (m_digitsTo hW hM2 hI h32b h68 hu hk) ok_X8_digitsTo lk_RX8_229 (W_s50 hW) ⟨_, _, rfl⟩ rfl rfl (Nat.le_of_ble_eq_true rfl) (Nat.le_of_ble_eq_true rfl) (Nat.le_refl _) (Nat.le_refl _) eX8_way_98) ?_
                exact Gd_ireturn eX8_way_101 rfl (Nat.le_refl _) (Nat.le_refl _) ⟨a2, by rw [ow, if_neg (by rw [c36]; decide), if_neg (fun z => z.elim c70 c75), hs, nI_clamp (by omega), hk, if_neg (by omega)], rfl, chg_tr (chg_mono hq1 (fun k j => scW_M)) (chg_mono hq2 (fun k j => scW_68))⟩
              · refine Gd_aload_n (i := 0) rfl eX8_way_85 ?_
                refine Gd_getR fl_RX8_65 (W_s50 hW) (W_r50_31 hW) eX8_way_86 ?_
                refine Gd_iload (i := 4) rfl eX8_way_89 ?_
                refine Gd_ialdE (v := nI (k + 1)) (W_s68 hW) (by first | omega | decide) ((h68 u (by omega)).trans (by rw [fr_dst hu (by omega), hk]) :) eX8_way_91 ?_
                refine Gd_goto eX8_way_92 ?_
                exact Gd_ireturn eX8_way_101 rfl (Nat.le_refl _) (Nat.le_refl _) ⟨a2, by rw [ow, if_neg (by rw [c36]; decide), if_neg (fun z => z.elim c70 c75), hs, nI_clamp (by omega), hk, if_pos (by omega)], rfl, chg_tr (chg_mono hq1 (fun k j => scW_M)) (chg_mono hq2 (fun k j => scW_68))⟩
            · refine Gd_iload (i := 4) rfl eX8_way_78 ?_
              exact Gd_ireturn eX8_way_80 rfl (Nat.le_refl _) (Nat.le_refl _) ⟨a2, by rw [ow, if_neg (by rw [c36]; decide), if_pos (Or.inr c75)], rfl, chg_tr (chg_mono hq1 (fun k j => scW_M)) (chg_mono hq2 (fun k j => scW_68))⟩
        · refine Gd_iload_n (i := 3) rfl eX8_way_39 ?_
          refine Gd_iconst ki_2 eX8_way_40 ?_
          refine Gd_icmp_neN (by first | omega | decide) (by first | omega | decide) eX8_way_41 (fun c41 => ?_) (fun c41 => ?_)
          · refine Gd_iconst ki_0 eX8_way_48 ?_
            exact Gd_ireturn eX8_way_49 rfl (Nat.le_refl _) (Nat.le_refl _) ⟨a, by rw [ow, if_pos c36, if_neg c41], rfl, chg_rf⟩
          · refine Gd_iconst ki_m1 eX8_way_44 ?_
            refine Gd_goto eX8_way_45 ?_
            exact Gd_ireturn eX8_way_49 rfl (Nat.le_refl _) (Nat.le_refl _) ⟨a, by rw [ow, if_pos c36, if_pos c41], rfl, chg_rf⟩
      · refine Gd_bipush kb_m7 eX8_way_27 ?_
        exact Gd_ireturn eX8_way_29 rfl (Nat.le_refl _) (Nat.le_refl _) ⟨a, by rw [oWay_d hpn hhu (Or.inr c24)], rfl, chg_rf⟩
  · refine Gd_bipush kb_m5 eX8_way_8 ?_
    exact Gd_ireturn eX8_way_10 rfl (Nat.le_refl _) (Nat.le_refl _) ⟨a, by rw [oWay_p c5], rfl, chg_rf⟩
theorem x_way {sh : List (Nat × Nat)} {a : Nat → Nat → Int32} {r : Nat → Nat → Option Nat} {g : Nat → Nat → Int64} {φ ts cd : Nat → Nat → Nat} {nt : Nat} (hW : WD sh r) (hA : FA 1 φ a) (hI : FI φ) (hT : TX nt ts cd sh a r) (hTI : TI nt ts cd) (hlt : φ 7 2 < nt) (hJ : FJ φ) (vp vd vv : Int32) : Mt YX7_way 6 0 0 [vr 0, vi vp, vi vd, vi vv] (sh, a, r, g) (g_EV sh r g (vi (oWay φ ts cd vp vd vv)) (fun a' => chg scV a a')) := by
  refine Mt_of rfl (Nat.le_of_ble_eq_true rfl) rfl ?_
  refine Gd_aload_n (i := 0) rfl eX7_way_0 ?_
  refine Gd_iload_n (i := 1) rfl eX7_way_1 ?_
  refine Gd_callP (g_cV (x_isHunter hW hA hI _) ok_X7_isHunter lk_RX7_140 (W_s0 hW) ⟨_, _, rfl⟩ rfl rfl (Nat.le_of_ble_eq_true rfl) (Nat.le_of_ble_eq_true rfl) (Nat.le_refl _) (Nat.le_refl _) eX7_way_2) ?_
  refine Gd_if_neB eX7_way_5 (fun c5 => ?_) (fun c5 => ?_)
  · have hhu := FI_hu hI
    obtain ⟨p, hpn, rfl⟩ := inr_t c5 (by omega)
    refine Gd_iload_n (i := 2) rfl eX7_way_11 ?_
    refine Gd_callP (g_cS (x_isDeer _) ok_X7_isDeer lk_RX7_115 rfl rfl (Nat.le_of_ble_eq_true rfl) (Nat.le_of_ble_eq_true rfl) (Nat.le_refl _) (Nat.le_refl _) eX7_way_12) ?_
    refine Gd_if_eqB eX7_way_15 (fun c15 => ?_) (fun c15 => ?_)
    · refine Gd_bipush kb_m7 eX7_way_27 ?_
      exact Gd_ireturn eX7_way_29 rfl (Nat.le_refl _) (Nat.le_refl _) ⟨a, by rw [oWay_d hpn hhu (Or.inl c15)], rfl, chg_rf⟩
    · refine Gd_iload_n (i := 3) rfl eX7_way_18 ?_
      refine Gd_iconst ki_0 eX7_way_19 ?_
      refine Gd_iconst ki_2 eX7_way_20 ?_
      refine Gd_callP (g_cS (x_isWithin _ _ _) ok_X7_isWithin lk_RX7_119 rfl rfl (Nat.le_of_ble_eq_true rfl) (Nat.le_of_ble_eq_true rfl) (Nat.le_refl _) (Nat.le_refl _) eX7_way_21) ?_
      refine Gd_if_neB eX7_way_24 (fun c24 => ?_) (fun c24 => ?_)
      · obtain ⟨d, hd, rfl⟩ := inr_t c15 (by decide)
        obtain ⟨v, hv1, hv2, rfl⟩ := inb_r (by decide) (by decide) c24
        have ow := oWay_u (ts := ts) (cd := cd) hpn hhu hd hv2
        have hp6 : p < 6 := by omega
        refine Gd_aload_n (i := 0) rfl eX7_way_30 ?_
        refine Gd_getR fl_RX7_10 (W_s0 hW) (W_r0_0 hW) eX7_way_31 ?_
        refine Gd_iload_n (i := 1) rfl eX7_way_34 ?_
        refine Gd_iload_n (i := 2) rfl eX7_way_35 ?_
        refine Gd_callP (g_cV (x_hasCard (W_F1 hW) hA hI (by first | omega | decide) (by first | omega | decide)) ok_X0_hasCard lk_RX7_195 (W_s1 hW) ⟨_, _, rfl⟩ rfl rfl (Nat.le_of_ble_eq_true rfl) (Nat.le_of_ble_eq_true rfl) (Nat.le_refl _) (Nat.le_refl _) eX7_way_36) ?_
        refine Gd_if_eqB eX7_way_39 (fun c39 => ?_) (fun c39 => ?_)
        · refine Gd_aload_n (i := 0) rfl eX7_way_53 ?_
          refine Gd_getR fl_RX7_43 (W_s0 hW) (W_r0_6 hW) eX7_way_54 ?_
          refine Gd_aload_n (i := 0) rfl eX7_way_57 ?_
          refine Gd_getR fl_RX7_36 (W_s0 hW) (W_r0_5 hW) eX7_way_58 ?_
          refine Gd_aload_n (i := 0) rfl eX7_way_61 ?_
          refine Gd_getR fl_RX7_10 (W_s0 hW) (W_r0_0 hW) eX7_way_62 ?_
          refine Gd_iload_n (i := 1) rfl eX7_way_65 ?_
          refine Gd_callE0 (g_cV (x_measure hW (W_F1 hW) (by decide) hA hI hT hTI hlt hJ hpn) ok_X6_measure lk_RX7_206 (W_s35 hW) ⟨_, _, rfl⟩ rfl rfl (Nat.le_of_ble_eq_true rfl) (Nat.le_of_ble_eq_true rfl) (Nat.le_refl _) (Nat.le_refl _) eX7_way_66) (fun a2 hq => ?_)
          obtain ⟨h35, h36, hq⟩ := hq
          refine Gd_aload_n (i := 0) rfl eX7_way_69 ?_
          refine Gd_getR fl_RX7_43 (W_s0 hW) (W_r0_6 hW) eX7_way_70 ?_
          refine Gd_aload_n (i := 0) rfl eX7_way_73 ?_
          refine Gd_getR fl_RX7_10 (W_s0 hW) (W_r0_0 hW) eX7_way_74 ?_
          refine Gd_iload_n (i := 1) rfl eX7_way_77 ?_
          refine Gd_iload_n (i := 2) rfl eX7_way_78 ?_
          refine Gd_callP (g_cV (x_sponsorOf hW (W_F1 hW) (FA_V hA (by decide) hq) hI h35 hp6 (by first | omega | decide) h36) ok_X6_sponsorOf lk_RX7_210 (W_s35 hW) ⟨_, _, rfl⟩ rfl rfl (Nat.le_of_ble_eq_true rfl) (Nat.le_of_ble_eq_true rfl) (Nat.le_refl _) (Nat.le_refl _) eX7_way_79) ?_
          refine Gd_istore4 rfl eX7_way_82 ?_
          refine Gd_iload (i := 4) rfl eX7_way_84 ?_
          refine Gd_iconst ki_m1 eX7_way_86 ?_
          refine Gd_icmp_eq eX7_way_87 (fun c87 => ?_) (fun c87 => ?_)
          · refine Gd_iload (i := 4) rfl eX7_way_95 ?_
            exact Gd_ireturn eX7_way_97 rfl (Nat.le_refl _) (Nat.le_refl _) ⟨a2, by rw [ow, if_neg (by rw [c39]; decide), if_pos (Or.inl c87)], rfl, hq⟩
          · refine Gd_iload_n (i := 3) rfl eX7_way_90 ?_
            refine Gd_iconst ki_2 eX7_way_91 ?_
            refine Gd_icmp_neN (by first | omega | decide) (by first | omega | decide) eX7_way_92 (fun c92 => ?_) (fun c92 => ?_)
            · obtain ⟨u, k, hu, hs, hk⟩ := spo_n c87
              rw [hs]
              have hul := dst_le (φ := φ) (ts := ts) (cd := cd) (p := p) 6 u
              refine Gd_iload_n (i := 3) rfl eX7_way_98 ?_
              refine Gd_if_neN (by first | omega | decide) eX7_way_99 (fun c99 => ?_) (fun c99 => ?_)
              · refine Gd_aload_n (i := 0) rfl eX7_way_115 ?_
                refine Gd_getR fl_RX7_43 (W_s0 hW) (W_r0_6 hW) eX7_way_116 ?_
                refine Gd_aload_n (i := 0) rfl eX7_way_119 ?_
                refine Gd_getR fl_RX7_10 (W_s0 hW) (W_r0_0 hW) eX7_way_120 ?_
                refine Gd_iload (i := 4) rfl eX7_way_123 ?_
                refine Gd_callP (g_cV (x_pathTo hW (W_F1 hW) (FA_V hA (by decide) hq) hI h35 h36 hu hk) ok_X6_pathTo lk_RX7_216 (W_s35 hW) ⟨_, _, rfl⟩ rfl rfl (Nat.le_of_ble_eq_true rfl) (Nat.le_of_ble_eq_true rfl) (Nat.le_refl _) (Nat.le_refl _) eX7_way_125) ?_
                exact Gd_ireturn eX7_way_128 rfl (Nat.le_refl _) (Nat.le_refl _) ⟨a2, by rw [ow, if_neg (by rw [c39]; decide), if_neg (fun z => z.elim c87 c92), hs, nI_clamp (by omega), hk, if_neg (by omega)], rfl, hq⟩
              · refine Gd_aload_n (i := 0) rfl eX7_way_102 ?_
                refine Gd_getR fl_RX7_43 (W_s0 hW) (W_r0_6 hW) eX7_way_103 ?_
                refine Gd_getR fl_RX7_213 (W_s35 hW) (W_r35_1 hW) eX7_way_106 ?_
                refine Gd_iload (i := 4) rfl eX7_way_109 ?_
                refine Gd_ialdE (v := nI (k + 1)) (W_s36 hW) (by first | omega | decide) ((h36 u (by omega)).trans (by rw [fx_dst hu, hk]) :) eX7_way_111 ?_
                refine Gd_goto eX7_way_112 ?_
                exact Gd_ireturn eX7_way_128 rfl (Nat.le_refl _) (Nat.le_refl _) ⟨a2, by rw [ow, if_neg (by rw [c39]; decide), if_neg (fun z => z.elim c87 c92), hs, nI_clamp (by omega), hk, if_pos (by omega)], rfl, hq⟩
            · refine Gd_iload (i := 4) rfl eX7_way_95 ?_
              exact Gd_ireturn eX7_way_97 rfl (Nat.le_refl _) (Nat.le_refl _) ⟨a2, by rw [ow, if_neg (by rw [c39]; decide), if_pos (Or.inr c92)], rfl, hq⟩
        · refine Gd_iload_n (i := 3) rfl eX7_way_42 ?_
          refine Gd_iconst ki_2 eX7_way_43 ?_
          refine Gd_icmp_neN (by first | omega | decide) (by first | omega | decide) eX7_way_44 (fun c44 => ?_) (fun c44 => ?_)
          · refine Gd_iconst ki_0 eX7_way_51 ?_
            exact Gd_ireturn eX7_way_52 rfl (Nat.le_refl _) (Nat.le_refl _) ⟨a, by rw [ow, if_pos c39, if_neg c44], rfl, chg_rf⟩
          · refine Gd_iconst ki_m1 eX7_way_47 ?_
            refine Gd_goto eX7_way_48 ?_
            exact Gd_ireturn eX7_way_52 rfl (Nat.le_refl _) (Nat.le_refl _) ⟨a, by rw [ow, if_pos c39, if_pos c44], rfl, chg_rf⟩
      · refine Gd_bipush kb_m7 eX7_way_27 ?_
        exact Gd_ireturn eX7_way_29 rfl (Nat.le_refl _) (Nat.le_refl _) ⟨a, by rw [oWay_d hpn hhu (Or.inr c24)], rfl, chg_rf⟩
  · refine Gd_bipush kb_m5 eX7_way_8 ?_
    exact Gd_ireturn eX7_way_10 rfl (Nat.le_refl _) (Nat.le_refl _) ⟨a, by rw [oWay_p c5], rfl, chg_rf⟩
