theorem sw9 (v : Int32) : v = nI 0 ∨ v = nI 1 ∨ v = nI 2 ∨ v = nI 3 ∨ v = nI 4 ∨ v = nI 5 ∨ v = nI 6 ∨ v = nI 7 ∨ v = nI 8 ∨ (v.toInt < 0 ∨ 8 < v.toInt) := by
  rcases swN 8 (by decide) v with ⟨j, hj, rfl⟩ | h
  · rcases (by omega : j = 0 ∨ j = 1 ∨ j = 2 ∨ j = 3 ∨ j = 4 ∨ j = 5 ∨ j = 6 ∨ j = 7 ∨ j = 8) with rfl | rfl | rfl | rfl | rfl | rfl | rfl | rfl | rfl
    · exact Or.inl rfl
    · exact Or.inr (Or.inl rfl)
    · exact Or.inr (Or.inr (Or.inl rfl))
    · exact Or.inr (Or.inr (Or.inr (Or.inl rfl)))
    · exact Or.inr (Or.inr (Or.inr (Or.inr (Or.inl rfl))))
    · exact Or.inr (Or.inr (Or.inr (Or.inr (Or.inr (Or.inl rfl)))))
    · exact Or.inr (Or.inr (Or.inr (Or.inr (Or.inr (Or.inr (Or.inl rfl))))))
    · exact Or.inr (Or.inr (Or.inr (Or.inr (Or.inr (Or.inr (Or.inr (Or.inl rfl)))))))
    · exact Or.inr (Or.inr (Or.inr (Or.inr (Or.inr (Or.inr (Or.inr (Or.inr (Or.inl rfl))))))))
  · exact Or.inr (Or.inr (Or.inr (Or.inr (Or.inr (Or.inr (Or.inr (Or.inr (Or.inr ((by omega))))))))))
theorem m_told {sh : List (Nat × Nat)} {a : Nat → Nat → Int32} {r : Nat → Nat → Option Nat} {g : Nat → Nat → Int64} {φ ts cd : Nat → Nat → Nat} {nt : Nat} (hW : WD sh r) (hM : MA φ a) (hI : FI φ) (hT : TM nt ts cd a) (hTI : TI nt ts cd) (hlt : φ 7 2 < nt) (hJ : FJ φ) (vp vv : Int32) : Mt YX8_told 7 0 0 [vr 50, vi vp, vi vv] (sh, a, r, g) (g_EV sh r g (vi (oTold φ ts cd vp vv)) (fun a' => chg scW a a')) := by
  refine Mt_of rfl (Nat.le_of_ble_eq_true rfl) rfl ?_
  have hhu := FI_hu hI
  have hch : chg scM a a := chg_rf
  refine Gd_aload_n (i := 0) rfl eX8_told_0 ?_
  refine Gd_iload_n (i := 1) rfl eX8_told_1 ?_
  refine Gd_callP (g_cV (m_isOne hW hM hI _) ok_X8_isOne lk_RX8_88 (W_s50 hW) ⟨_, _, rfl⟩ rfl rfl (Nat.le_of_ble_eq_true rfl) (Nat.le_of_ble_eq_true rfl) (Nat.le_refl _) (Nat.le_refl _) eX8_told_2) ?_
  refine Gd_if_neB eX8_told_5 (fun c5 => ?_) (fun c5 => ?_)
  · obtain ⟨p, hpn, rfl⟩ := inr_t c5 (by omega)
    have hp6 : p < 6 := by omega
    rcases sw9 vv with rfl | rfl | rfl | rfl | rfl | rfl | rfl | rfl | rfl | hout
    · refine Gd_iload_n (i := 2) rfl eX8_told_12 ?_
      refine Gd_tabIn (off := 51) (tgt := 64) eX8_told_13 (by decide) (by decide) (by decide +kernel) (by decide) ?_
      refine Gd_aload_n (i := 0) rfl eX8_told_64 ?_
      refine Gd_getR fl_RX8_16 (W_s50 hW) (W_r50_3 hW) eX8_told_65 ?_
      refine Gd_iconst ki_4 eX8_told_68 ?_
      refine Gd_iload_n (i := 1) rfl eX8_told_69 ?_
      refine Gd_imulN eX8_told_70 ?_
      refine Gd_iload_n (i := 2) rfl eX8_told_71 ?_
      refine Gd_iaddN eX8_told_72 ?_
      refine Gd_ialdE (v := nI (φ 3 p)) (W_s53 hW) (by first | omega | decide) (MA_ho hM (p := p) (by first | omega | decide) :) eX8_told_73 ?_
      exact Gd_ireturn eX8_told_74 rfl (Nat.le_refl _) (Nat.le_refl _) ⟨a, by rw [oTold_u hpn hhu (by decide)]; rfl, rfl, chg_rf⟩
    · refine Gd_iload_n (i := 2) rfl eX8_told_12 ?_
      refine Gd_tabIn (off := 51) (tgt := 64) eX8_told_13 (by decide) (by decide) (by decide +kernel) (by decide) ?_
      refine Gd_aload_n (i := 0) rfl eX8_told_64 ?_
      refine Gd_getR fl_RX8_16 (W_s50 hW) (W_r50_3 hW) eX8_told_65 ?_
      refine Gd_iconst ki_4 eX8_told_68 ?_
      refine Gd_iload_n (i := 1) rfl eX8_told_69 ?_
      refine Gd_imulN eX8_told_70 ?_
      refine Gd_iload_n (i := 2) rfl eX8_told_71 ?_
      refine Gd_iaddN eX8_told_72 ?_
      refine Gd_ialdE (v := nI (φ 5 p)) (W_s53 hW) (by first | omega | decide) (MA_ca hM (p := p) (by first | omega | decide) :) eX8_told_73 ?_
      exact Gd_ireturn eX8_told_74 rfl (Nat.le_refl _) (Nat.le_refl _) ⟨a, by rw [oTold_u hpn hhu (by decide)]; rfl, rfl, chg_rf⟩
    · refine Gd_iload_n (i := 2) rfl eX8_told_12 ?_
      refine Gd_tabIn (off := 51) (tgt := 64) eX8_told_13 (by decide) (by decide) (by decide +kernel) (by decide) ?_
      refine Gd_aload_n (i := 0) rfl eX8_told_64 ?_
      refine Gd_getR fl_RX8_16 (W_s50 hW) (W_r50_3 hW) eX8_told_65 ?_
      refine Gd_iconst ki_4 eX8_told_68 ?_
      refine Gd_iload_n (i := 1) rfl eX8_told_69 ?_
      refine Gd_imulN eX8_told_70 ?_
      refine Gd_iload_n (i := 2) rfl eX8_told_71 ?_
      refine Gd_iaddN eX8_told_72 ?_
      refine Gd_ialdE (v := nI (φ 4 p)) (W_s53 hW) (by first | omega | decide) (MA_me hM (p := p) (by first | omega | decide) :) eX8_told_73 ?_
      exact Gd_ireturn eX8_told_74 rfl (Nat.le_refl _) (Nat.le_refl _) ⟨a, by rw [oTold_u hpn hhu (by decide)]; rfl, rfl, chg_rf⟩
    · refine Gd_iload_n (i := 2) rfl eX8_told_12 ?_
      refine Gd_tabIn (off := 62) (tgt := 75) eX8_told_13 (by decide) (by decide) (by decide +kernel) (by decide) ?_
      refine Gd_aload_n (i := 0) rfl eX8_told_75 ?_
      refine Gd_getR fl_RX8_7 (W_s50 hW) (W_r50_1 hW) eX8_told_76 ?_
      refine Gd_iload_n (i := 1) rfl eX8_told_79 ?_
      refine Gd_ialdE (v := nI (φ 1 p)) (W_s51 hW) (by first | omega | decide) (MA_ki hM (p := p) (by first | omega | decide) :) eX8_told_80 ?_
      exact Gd_ireturn eX8_told_81 rfl (Nat.le_refl _) (Nat.le_refl _) ⟨a, by rw [oTold_u hpn hhu (by decide)]; rfl, rfl, chg_rf⟩
    · refine Gd_iload_n (i := 2) rfl eX8_told_12 ?_
      refine Gd_tabIn (off := 69) (tgt := 82) eX8_told_13 (by decide) (by decide) (by decide +kernel) (by decide) ?_
      refine Gd_aload_n (i := 0) rfl eX8_told_82 ?_
      refine Gd_getR fl_RX8_13 (W_s50 hW) (W_r50_2 hW) eX8_told_83 ?_
      refine Gd_iload_n (i := 1) rfl eX8_told_86 ?_
      refine Gd_ialdE (v := nI (φ 2 p)) (W_s52 hW) (by first | omega | decide) (MA_mo hM (p := p) (by first | omega | decide) :) eX8_told_87 ?_
      exact Gd_ireturn eX8_told_88 rfl (Nat.le_refl _) (Nat.le_refl _) ⟨a, by rw [oTold_u hpn hhu (by decide)]; rfl, rfl, chg_rf⟩
    · refine Gd_iload_n (i := 2) rfl eX8_told_12 ?_
      refine Gd_tabIn (off := 76) (tgt := 89) eX8_told_13 (by decide) (by decide) (by decide +kernel) (by decide) ?_
      refine Gd_aload_n (i := 0) rfl eX8_told_89 ?_
      refine Gd_iload_n (i := 1) rfl eX8_told_90 ?_
      refine Gd_callEV (g_cV (m_doesWill hW hM hI hT hTI hlt hpn) ok_X8_doesWill lk_RX8_205 (W_s50 hW) ⟨_, _, rfl⟩ rfl rfl (Nat.le_of_ble_eq_true rfl) (Nat.le_of_ble_eq_true rfl) (Nat.le_refl _) (Nat.le_refl _) eX8_told_91) (fun a hq => ?_)
      have hM := MA_sc hM hq
      have hT := TM_sc hT hq
      have hch := chg_tr hch hq
      refine Gd_if_eqB eX8_told_94 (fun c94 => ?_) (fun c94 => ?_)
      · refine Gd_iconst ki_0 eX8_told_101 ?_
        exact Gd_ireturn eX8_told_102 rfl (Nat.le_refl _) (Nat.le_refl _) ⟨a, by rw [oTold_u hpn hhu (by decide)]; simp [tl9, c94, bI], rfl, chg_mono hch (fun k j => scW_M)⟩
      · refine Gd_iconst ki_1 eX8_told_97 ?_
        refine Gd_goto eX8_told_98 ?_
        exact Gd_ireturn eX8_told_102 rfl (Nat.le_refl _) (Nat.le_refl _) ⟨a, by rw [oTold_u hpn hhu (by decide)]; simp [tl9, c94, bI], rfl, chg_mono hch (fun k j => scW_M)⟩
    · refine Gd_iload_n (i := 2) rfl eX8_told_12 ?_
      refine Gd_tabIn (off := 90) (tgt := 103) eX8_told_13 (by decide) (by decide) (by decide +kernel) (by decide) ?_
      refine Gd_aload_n (i := 0) rfl eX8_told_103 ?_
      refine Gd_iload_n (i := 1) rfl eX8_told_104 ?_
      refine Gd_callEV (g_cV (m_gainsOf hW hM hI hT hTI hlt hpn) ok_X8_gainsOf lk_RX8_220 (W_s50 hW) ⟨_, _, rfl⟩ rfl rfl (Nat.le_of_ble_eq_true rfl) (Nat.le_of_ble_eq_true rfl) (Nat.le_refl _) (Nat.le_refl _) eX8_told_105) (fun a hq => ?_)
      have hM := MA_sc hM hq
      have hT := TM_sc hT hq
      have hch := chg_tr hch hq
      exact Gd_ireturn eX8_told_108 rfl (Nat.le_refl _) (Nat.le_refl _) ⟨a, by rw [oTold_u hpn hhu (by decide)]; rfl, rfl, chg_mono hch (fun k j => scW_M)⟩
    · refine Gd_iload_n (i := 2) rfl eX8_told_12 ?_
      refine Gd_tabIn (off := 96) (tgt := 109) eX8_told_13 (by decide) (by decide) (by decide +kernel) (by decide) ?_
      refine Gd_aload_n (i := 0) rfl eX8_told_109 ?_
      refine Gd_getR fl_RX8_16 (W_s50 hW) (W_r50_3 hW) eX8_told_110 ?_
      refine Gd_iconst ki_4 eX8_told_113 ?_
      refine Gd_iload_n (i := 1) rfl eX8_told_114 ?_
      refine Gd_imulN eX8_told_115 ?_
      refine Gd_iconst ki_3 eX8_told_116 ?_
      refine Gd_iaddN eX8_told_117 ?_
      refine Gd_ialdE (v := nI (φ 6 p)) (W_s53 hW) (by first | omega | decide) (MA_by hM (p := p) (by first | omega | decide) :) eX8_told_118 ?_
      exact Gd_ireturn eX8_told_119 rfl (Nat.le_refl _) (Nat.le_refl _) ⟨a, by rw [oTold_u hpn hhu (by decide)]; rfl, rfl, chg_rf⟩
    · refine Gd_iload_n (i := 2) rfl eX8_told_12 ?_
      refine Gd_tabIn (off := 107) (tgt := 120) eX8_told_13 (by decide) (by decide) (by decide +kernel) (by decide) ?_
      refine Gd_aload_n (i := 0) rfl eX8_told_120 ?_
      refine Gd_iload_n (i := 1) rfl eX8_told_121 ?_
      refine Gd_callEV (g_cV (m_sponsored hW hM hI hT hTI hlt hJ hpn) ok_X8_sponsored lk_RX8_223 (W_s50 hW) ⟨_, _, rfl⟩ rfl rfl (Nat.le_of_ble_eq_true rfl) (Nat.le_of_ble_eq_true rfl) (Nat.le_refl _) (Nat.le_refl _) eX8_told_122) (fun a2 hq => ?_)
      exact Gd_ireturn eX8_told_125 rfl (Nat.le_refl _) (Nat.le_refl _) ⟨a2, by rw [oTold_u hpn hhu (by decide)]; rfl, rfl, hq⟩
    · refine Gd_iload_n (i := 2) rfl eX8_told_12 ?_
      refine Gd_tabOut (tgt := 126) eX8_told_13 (by assumption) (by decide) ?_
      refine Gd_sipush ks_m7000 eX8_told_126 ?_
      exact Gd_ireturn eX8_told_129 rfl (Nat.le_refl _) (Nat.le_refl _) ⟨a, by rw [oTold_o hpn hhu hout], rfl, chg_rf⟩
  · refine Gd_sipush ks_m5000 eX8_told_8 ?_
    exact Gd_ireturn eX8_told_11 rfl (Nat.le_refl _) (Nat.le_refl _) ⟨a, by rw [oTold_p c5], rfl, chg_rf⟩
theorem x_told {sh : List (Nat × Nat)} {a : Nat → Nat → Int32} {r : Nat → Nat → Option Nat} {g : Nat → Nat → Int64} {φ ts cd : Nat → Nat → Nat} {nt : Nat} (hW : WD sh r) (hA : FA 1 φ a) (hI : FI φ) (hT : TX nt ts cd sh a r) (hTI : TI nt ts cd) (hlt : φ 7 2 < nt) (hJ : FJ φ) (vp vv : Int32) : Mt YX7_told 6 0 0 [vr 0, vi vp, vi vv] (sh, a, r, g) (g_EV sh r g (vi (oTold φ ts cd vp vv)) (fun a' => chg scV a a')) := by
  refine Mt_of rfl (Nat.le_of_ble_eq_true rfl) rfl ?_
  have hhu := FI_hu hI
  have hch : chg scR a a := chg_rf
  refine Gd_aload_n (i := 0) rfl eX7_told_0 ?_
  refine Gd_iload_n (i := 1) rfl eX7_told_1 ?_
  refine Gd_callP (g_cV (x_isHunter hW hA hI _) ok_X7_isHunter lk_RX7_140 (W_s0 hW) ⟨_, _, rfl⟩ rfl rfl (Nat.le_of_ble_eq_true rfl) (Nat.le_of_ble_eq_true rfl) (Nat.le_refl _) (Nat.le_refl _) eX7_told_2) ?_
  refine Gd_if_neB eX7_told_5 (fun c5 => ?_) (fun c5 => ?_)
  · obtain ⟨p, hpn, rfl⟩ := inr_t c5 (by omega)
    have hp6 : p < 6 := by omega
    rcases sw9 vv with rfl | rfl | rfl | rfl | rfl | rfl | rfl | rfl | rfl | hout
    · refine Gd_iload_n (i := 2) rfl eX7_told_12 ?_
      refine Gd_tabIn (off := 51) (tgt := 64) eX7_told_13 (by decide) (by decide) (by decide +kernel) (by decide) ?_
      refine Gd_aload_n (i := 0) rfl eX7_told_64 ?_
      refine Gd_getR fl_RX7_10 (W_s0 hW) (W_r0_0 hW) eX7_told_65 ?_
      refine Gd_getR fl_RX7_158 (W_s1 hW) (W_r1_7 hW) eX7_told_68 ?_
      refine Gd_iload_n (i := 1) rfl eX7_told_71 ?_
      refine Gd_ialdE (v := nI (φ 3 p)) (W_s5 hW) (by first | omega | decide) (FA_ho hA (p := p) (by first | omega | decide) :) eX7_told_72 ?_
      exact Gd_ireturn eX7_told_73 rfl (Nat.le_refl _) (Nat.le_refl _) ⟨a, by rw [oTold_u hpn hhu (by decide)]; rfl, rfl, chg_rf⟩
    · refine Gd_iload_n (i := 2) rfl eX7_told_12 ?_
      refine Gd_tabIn (off := 61) (tgt := 74) eX7_told_13 (by decide) (by decide) (by decide +kernel) (by decide) ?_
      refine Gd_aload_n (i := 0) rfl eX7_told_74 ?_
      refine Gd_getR fl_RX7_10 (W_s0 hW) (W_r0_0 hW) eX7_told_75 ?_
      refine Gd_getR fl_RX7_161 (W_s1 hW) (W_r1_9 hW) eX7_told_78 ?_
      refine Gd_iload_n (i := 1) rfl eX7_told_81 ?_
      refine Gd_ialdE (v := nI (φ 5 p)) (W_s7 hW) (by first | omega | decide) (FA_ca hA (p := p) (by first | omega | decide) :) eX7_told_82 ?_
      exact Gd_ireturn eX7_told_83 rfl (Nat.le_refl _) (Nat.le_refl _) ⟨a, by rw [oTold_u hpn hhu (by decide)]; rfl, rfl, chg_rf⟩
    · refine Gd_iload_n (i := 2) rfl eX7_told_12 ?_
      refine Gd_tabIn (off := 71) (tgt := 84) eX7_told_13 (by decide) (by decide) (by decide +kernel) (by decide) ?_
      refine Gd_aload_n (i := 0) rfl eX7_told_84 ?_
      refine Gd_getR fl_RX7_10 (W_s0 hW) (W_r0_0 hW) eX7_told_85 ?_
      refine Gd_getR fl_RX7_164 (W_s1 hW) (W_r1_8 hW) eX7_told_88 ?_
      refine Gd_iload_n (i := 1) rfl eX7_told_91 ?_
      refine Gd_ialdE (v := nI (φ 4 p)) (W_s6 hW) (by first | omega | decide) (FA_me hA (p := p) (by first | omega | decide) :) eX7_told_92 ?_
      exact Gd_ireturn eX7_told_93 rfl (Nat.le_refl _) (Nat.le_refl _) ⟨a, by rw [oTold_u hpn hhu (by decide)]; rfl, rfl, chg_rf⟩
    · refine Gd_iload_n (i := 2) rfl eX7_told_12 ?_
      refine Gd_tabIn (off := 81) (tgt := 94) eX7_told_13 (by decide) (by decide) (by decide +kernel) (by decide) ?_
      refine Gd_aload_n (i := 0) rfl eX7_told_94 ?_
      refine Gd_getR fl_RX7_10 (W_s0 hW) (W_r0_0 hW) eX7_told_95 ?_
      refine Gd_getR fl_RX7_167 (W_s1 hW) (W_r1_5 hW) eX7_told_98 ?_
      refine Gd_iload_n (i := 1) rfl eX7_told_101 ?_
      refine Gd_ialdE (v := nI (φ 1 p)) (W_s3 hW) (by first | omega | decide) (FA_ki hA (p := p) (by first | omega | decide) :) eX7_told_102 ?_
      exact Gd_ireturn eX7_told_103 rfl (Nat.le_refl _) (Nat.le_refl _) ⟨a, by rw [oTold_u hpn hhu (by decide)]; rfl, rfl, chg_rf⟩
    · refine Gd_iload_n (i := 2) rfl eX7_told_12 ?_
      refine Gd_tabIn (off := 91) (tgt := 104) eX7_told_13 (by decide) (by decide) (by decide +kernel) (by decide) ?_
      refine Gd_aload_n (i := 0) rfl eX7_told_104 ?_
      refine Gd_getR fl_RX7_10 (W_s0 hW) (W_r0_0 hW) eX7_told_105 ?_
      refine Gd_getR fl_RX7_170 (W_s1 hW) (W_r1_6 hW) eX7_told_108 ?_
      refine Gd_iload_n (i := 1) rfl eX7_told_111 ?_
      refine Gd_ialdE (v := nI (φ 2 p)) (W_s4 hW) (by first | omega | decide) (FA_mo hA (p := p) (by first | omega | decide) :) eX7_told_112 ?_
      exact Gd_ireturn eX7_told_113 rfl (Nat.le_refl _) (Nat.le_refl _) ⟨a, by rw [oTold_u hpn hhu (by decide)]; rfl, rfl, chg_rf⟩
    · refine Gd_iload_n (i := 2) rfl eX7_told_12 ?_
      refine Gd_tabIn (off := 101) (tgt := 114) eX7_told_13 (by decide) (by decide) (by decide +kernel) (by decide) ?_
      refine Gd_aload_n (i := 0) rfl eX7_told_114 ?_
      refine Gd_getR fl_RX7_36 (W_s0 hW) (W_r0_5 hW) eX7_told_115 ?_
      refine Gd_aload_n (i := 0) rfl eX7_told_118 ?_
      refine Gd_getR fl_RX7_10 (W_s0 hW) (W_r0_0 hW) eX7_told_119 ?_
      refine Gd_iload_n (i := 1) rfl eX7_told_122 ?_
      refine Gd_callEV (g_cV (x_isWilling hW (W_F1 hW) (by decide) hA hI hT hTI hlt hpn) ok_X3_isWilling lk_RX7_173 (W_s31 hW) ⟨_, _, rfl⟩ rfl rfl (Nat.le_of_ble_eq_true rfl) (Nat.le_of_ble_eq_true rfl) (Nat.le_refl _) (Nat.le_refl _) eX7_told_123) (fun a hq => ?_)
      have hch := chg_tr hch hq
      refine Gd_if_eqB eX7_told_126 (fun c126 => ?_) (fun c126 => ?_)
      · refine Gd_iconst ki_0 eX7_told_133 ?_
        exact Gd_ireturn eX7_told_134 rfl (Nat.le_refl _) (Nat.le_refl _) ⟨a, by rw [oTold_u hpn hhu (by decide)]; simp [tl9, c126, bI], rfl, chg_mono2 scV_R hch⟩
      · refine Gd_iconst ki_1 eX7_told_129 ?_
        refine Gd_goto eX7_told_130 ?_
        exact Gd_ireturn eX7_told_134 rfl (Nat.le_refl _) (Nat.le_refl _) ⟨a, by rw [oTold_u hpn hhu (by decide)]; simp [tl9, c126, bI], rfl, chg_mono2 scV_R hch⟩
    · refine Gd_iload_n (i := 2) rfl eX7_told_12 ?_
      refine Gd_tabIn (off := 122) (tgt := 135) eX7_told_13 (by decide) (by decide) (by decide +kernel) (by decide) ?_
      refine Gd_aload_n (i := 0) rfl eX7_told_135 ?_
      refine Gd_getR fl_RX7_36 (W_s0 hW) (W_r0_5 hW) eX7_told_136 ?_
      refine Gd_aload_n (i := 0) rfl eX7_told_139 ?_
      refine Gd_getR fl_RX7_10 (W_s0 hW) (W_r0_0 hW) eX7_told_140 ?_
      refine Gd_iload_n (i := 1) rfl eX7_told_143 ?_
      refine Gd_callEV (g_cV (x_gainOf hW (W_F1 hW) (by decide) hA hI hT hTI hlt hpn) ok_X3_gainOf lk_RX7_177 (W_s31 hW) ⟨_, _, rfl⟩ rfl rfl (Nat.le_of_ble_eq_true rfl) (Nat.le_of_ble_eq_true rfl) (Nat.le_refl _) (Nat.le_refl _) eX7_told_144) (fun a hq => ?_)
      have hch := chg_tr hch hq
      exact Gd_ireturn eX7_told_147 rfl (Nat.le_refl _) (Nat.le_refl _) ⟨a, by rw [oTold_u hpn hhu (by decide)]; rfl, rfl, chg_mono2 scV_R hch⟩
    · refine Gd_iload_n (i := 2) rfl eX7_told_12 ?_
      refine Gd_tabIn (off := 135) (tgt := 148) eX7_told_13 (by decide) (by decide) (by decide +kernel) (by decide) ?_
      refine Gd_aload_n (i := 0) rfl eX7_told_148 ?_
      refine Gd_getR fl_RX7_10 (W_s0 hW) (W_r0_0 hW) eX7_told_149 ?_
      refine Gd_getR fl_RX7_181 (W_s1 hW) (W_r1_10 hW) eX7_told_152 ?_
      refine Gd_iload_n (i := 1) rfl eX7_told_155 ?_
      refine Gd_ialdE (v := nI (φ 6 p)) (W_s8 hW) (by first | omega | decide) (FA_by hA (p := p) (by first | omega | decide) :) eX7_told_156 ?_
      exact Gd_ireturn eX7_told_157 rfl (Nat.le_refl _) (Nat.le_refl _) ⟨a, by rw [oTold_u hpn hhu (by decide)]; rfl, rfl, chg_rf⟩
    · refine Gd_iload_n (i := 2) rfl eX7_told_12 ?_
      refine Gd_tabIn (off := 145) (tgt := 158) eX7_told_13 (by decide) (by decide) (by decide +kernel) (by decide) ?_
      refine Gd_aload_n (i := 0) rfl eX7_told_158 ?_
      refine Gd_getR fl_RX7_43 (W_s0 hW) (W_r0_6 hW) eX7_told_159 ?_
      refine Gd_aload_n (i := 0) rfl eX7_told_162 ?_
      refine Gd_getR fl_RX7_36 (W_s0 hW) (W_r0_5 hW) eX7_told_163 ?_
      refine Gd_aload_n (i := 0) rfl eX7_told_166 ?_
      refine Gd_getR fl_RX7_10 (W_s0 hW) (W_r0_0 hW) eX7_told_167 ?_
      refine Gd_iload_n (i := 1) rfl eX7_told_170 ?_
      refine Gd_callEV (g_cV (x_sponsored hW (W_F1 hW) (by decide) hA hI hT hTI hlt hJ hpn) ok_X6_sponsored lk_RX7_184 (W_s35 hW) ⟨_, _, rfl⟩ rfl rfl (Nat.le_of_ble_eq_true rfl) (Nat.le_of_ble_eq_true rfl) (Nat.le_refl _) (Nat.le_refl _) eX7_told_171) (fun a2 hq => ?_)
      exact Gd_ireturn eX7_told_174 rfl (Nat.le_refl _) (Nat.le_refl _) ⟨a2, by rw [oTold_u hpn hhu (by decide)]; rfl, rfl, hq⟩
    · refine Gd_iload_n (i := 2) rfl eX7_told_12 ?_
      refine Gd_tabOut (tgt := 175) eX7_told_13 (by assumption) (by decide) ?_
      refine Gd_sipush ks_m7000 eX7_told_175 ?_
      exact Gd_ireturn eX7_told_178 rfl (Nat.le_refl _) (Nat.le_refl _) ⟨a, by rw [oTold_o hpn hhu hout], rfl, chg_rf⟩
  · refine Gd_sipush ks_m5000 eX7_told_8 ?_
    exact Gd_ireturn eX7_told_11 rfl (Nat.le_refl _) (Nat.le_refl _) ⟨a, by rw [oTold_p c5], rfl, chg_rf⟩
