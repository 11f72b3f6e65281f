theorem m_shotOf {sh : List (Nat × Nat)} {a : Nat → Nat → Int32} {r : Nat → Nat → Option Nat} {g : Nat → Nat → Int64} {φ ts cd : Nat → Nat → Nat} {nt : Nat} (hW : WD sh r) (hM : MA φ a) (hI : FI φ) (hT : TM nt ts cd a) (hTI : TI nt ts cd) (hlt : φ 7 2 < nt) {p d : Nat} (hpn : p < φ 7 3) (hd : d < 10) : Mt YX8_shotOf 5 0 0 [vr 50, vi (nI p), vi (nI d)] (sh, a, r, g) (g_EV sh r g (vi (nI (aim φ ts cd p d))) (fun a' => MA (shot φ ts cd p d) a' ∧ chg scS a a')) := by
  refine Mt_of rfl (Nat.le_of_ble_eq_true rfl) rfl ?_
  have hch : chg scM a a := chg_rf
  have hp6 : p < 6 := by have := FI_hu hI; omega
  have hki := FI_ki hI hp6
  have hal := aim_le φ ts cd p d
  have hsh := FI_sh hI hd
  have hho := FI_ho hI hp6
  have ham := FI_al hI
  refine Gd_aload_n (i := 0) rfl eX8_shotOf_0 ?_
  refine Gd_iload_n (i := 1) rfl eX8_shotOf_1 ?_
  refine Gd_iload_n (i := 2) rfl eX8_shotOf_2 ?_
  refine Gd_callEV (g_cV (m_aimOf hW hM hI hT hTI hlt (by first | omega | decide) (by first | omega | decide)) ok_X8_aimOf lk_RX8_232 (W_s50 hW) ⟨_, _, rfl⟩ rfl rfl (Nat.le_of_ble_eq_true rfl) (Nat.le_of_ble_eq_true rfl) (Nat.le_refl _) (Nat.le_refl _) eX8_shotOf_3) (fun a hq => ?_)
  have hM := MA_sc hM hq
  have hT := TM_sc hT hq
  have hch := chg_tr hch hq
  refine Gd_istore_n3 rfl eX8_shotOf_6 ?_
  refine Gd_iload_n (i := 3) rfl eX8_shotOf_7 ?_
  refine Gd_iconst ki_1 eX8_shotOf_8 ?_
  refine Gd_icmp_neN (by first | omega | decide) (by first | omega | decide) eX8_shotOf_9 (fun c9 => ?_) (fun c9 => ?_)
  · refine Gd_iload_n (i := 3) rfl eX8_shotOf_32 ?_
    refine Gd_iconst ki_1 eX8_shotOf_33 ?_
    refine Gd_icmp_leN (by first | omega | decide) (by first | omega | decide) eX8_shotOf_34 (fun c34 => ?_) (fun c34 => ?_)
    · refine Gd_iload_n (i := 3) rfl eX8_shotOf_99 ?_
      exact Gd_ireturn eX8_shotOf_100 rfl (Nat.le_refl _) (Nat.le_refl _) ⟨_, rfl, rfl, by rw [shot, if_pos (by omega)]; exact hM, chg_mono hch (fun k j => scS_M)⟩
    · refine Gd_aload_n (i := 0) rfl eX8_shotOf_37 ?_
      refine Gd_dup rfl eX8_shotOf_38 ?_
      refine Gd_getIe (v := nI (φ 7 0)) fl_RX8_22 (W_s50 hW) (MA_al hM :) eX8_shotOf_39 ?_
      refine Gd_iconst ki_1 eX8_shotOf_42 ?_
      refine Gd_iload_n (i := 2) rfl eX8_shotOf_43 ?_
      refine Gd_ishl1 (by first | omega | decide) eX8_shotOf_44 ?_
      refine Gd_iconst ki_m1 eX8_shotOf_45 ?_
      refine Gd_ixorM eX8_shotOf_46 ?_
      refine Gd_iandN eX8_shotOf_47 ?_
      refine Gd_putI fl_RX8_22 (W_s50 hW) eX8_shotOf_48 ?_
      refine Gd_iload_n (i := 3) rfl eX8_shotOf_51 ?_
      refine Gd_iconst ki_2 eX8_shotOf_52 ?_
      refine Gd_icmp_neN (by first | omega | decide) (by first | omega | decide) eX8_shotOf_53 (fun c53 => ?_) (fun c53 => ?_)
      · refine Gd_bipush kb_m10 eX8_shotOf_70 ?_
        refine Gd_istore4 rfl eX8_shotOf_72 ?_
        refine Gd_aload_n (i := 0) rfl eX8_shotOf_74 ?_
        refine Gd_getR fl_RX8_16 (W_s50 hW) (W_r50_3 hW) eX8_shotOf_75 ?_
        refine Gd_iconst ki_4 eX8_shotOf_78 ?_
        refine Gd_iload_n (i := 1) rfl eX8_shotOf_79 ?_
        refine Gd_imulN eX8_shotOf_80 ?_
        refine Gd_aload_n (i := 0) rfl eX8_shotOf_81 ?_
        refine Gd_getR fl_RX8_16 (W_s50 hW) (W_r50_3 hW) eX8_shotOf_82 ?_
        refine Gd_iconst ki_4 eX8_shotOf_85 ?_
        refine Gd_iload_n (i := 1) rfl eX8_shotOf_86 ?_
        refine Gd_imulN eX8_shotOf_87 ?_
        refine Gd_ialdE (v := nI (φ 3 p)) (W_s53 hW) (by first | omega | decide) (MA_ho hM (p := p) (by first | omega | decide) :) eX8_shotOf_88 ?_
        refine Gd_iload (i := 4) rfl eX8_shotOf_89 ?_
        refine Gd_iadd eX8_shotOf_91 ?_
        refine Gd_iconst ki_0 eX8_shotOf_92 ?_
        refine Gd_bipush kb_99 eX8_shotOf_93 ?_
        refine Gd_callP (g_cS (m_within _ _ _) ok_X8_within lk_RX8_183 rfl rfl (Nat.le_of_ble_eq_true rfl) (Nat.le_of_ble_eq_true rfl) (Nat.le_refl _) (Nat.le_refl _) eX8_shotOf_95) ?_
        rw [wth_m10 (by omega)]
        have hM2 := MA_setho (p := p) (v := φ 3 p - 10) (MA_setal (v := clr (φ 7 0) d) hM)
        have hch2 : chg scS _ _ := chg_up (k := 53) (j := 4 * p) (v := nI (φ 3 p - 10)) (chg_up (k := 50) (j := 5) (v := nI (clr (φ 7 0) d)) (chg_mono hch (fun k j => scS_M)) rfl) rfl
        refine Gd_iastN (W_s53 hW) (by first | omega | decide) eX8_shotOf_98 ?_
        refine Gd_iload_n (i := 3) rfl eX8_shotOf_99 ?_
        exact Gd_ireturn eX8_shotOf_100 rfl (Nat.le_refl _) (Nat.le_refl _) ⟨_, rfl, rfl, by rw [shot, if_neg (by omega), if_neg c9, if_neg c53]; exact hM2, hch2⟩
      · refine Gd_iconst ki_1 eX8_shotOf_56 ?_
        refine Gd_aload_n (i := 0) rfl eX8_shotOf_57 ?_
        refine Gd_getR fl_RX8_19 (W_s50 hW) (W_r50_4 hW) eX8_shotOf_58 ?_
        refine Gd_iload_n (i := 2) rfl eX8_shotOf_61 ?_
        refine Gd_ialdE (v := nI (φ 0 d)) (W_s54 hW) (by first | omega | decide) (MA_sh hM (d := d) (by first | omega | decide) :) eX8_shotOf_62 ?_
        refine Gd_bipush kb_10 eX8_shotOf_63 ?_
        refine Gd_idivN (by first | omega | decide) (by decide) eX8_shotOf_65 ?_
        refine Gd_iaddN eX8_shotOf_66 ?_
        refine Gd_goto eX8_shotOf_67 ?_
        refine Gd_istore4 rfl eX8_shotOf_72 ?_
        refine Gd_aload_n (i := 0) rfl eX8_shotOf_74 ?_
        refine Gd_getR fl_RX8_16 (W_s50 hW) (W_r50_3 hW) eX8_shotOf_75 ?_
        refine Gd_iconst ki_4 eX8_shotOf_78 ?_
        refine Gd_iload_n (i := 1) rfl eX8_shotOf_79 ?_
        refine Gd_imulN eX8_shotOf_80 ?_
        refine Gd_aload_n (i := 0) rfl eX8_shotOf_81 ?_
        refine Gd_getR fl_RX8_16 (W_s50 hW) (W_r50_3 hW) eX8_shotOf_82 ?_
        refine Gd_iconst ki_4 eX8_shotOf_85 ?_
        refine Gd_iload_n (i := 1) rfl eX8_shotOf_86 ?_
        refine Gd_imulN eX8_shotOf_87 ?_
        refine Gd_ialdE (v := nI (φ 3 p)) (W_s53 hW) (by first | omega | decide) (MA_ho hM (p := p) (by first | omega | decide) :) eX8_shotOf_88 ?_
        refine Gd_iload (i := 4) rfl eX8_shotOf_89 ?_
        refine Gd_iaddN eX8_shotOf_91 ?_
        refine Gd_iconst ki_0 eX8_shotOf_92 ?_
        refine Gd_bipush kb_99 eX8_shotOf_93 ?_
        refine Gd_callP (g_cS (m_within _ _ _) ok_X8_within lk_RX8_183 rfl rfl (Nat.le_of_ble_eq_true rfl) (Nat.le_of_ble_eq_true rfl) (Nat.le_refl _) (Nat.le_refl _) eX8_shotOf_95) ?_
        rw [wth_pos (by omega) (by decide)]
        have hM2 := MA_setho (p := p) (v := min 99 (φ 3 p + (1 + φ 0 d / 10))) (MA_setal (v := clr (φ 7 0) d) hM)
        have hch2 : chg scS _ _ := chg_up (k := 53) (j := 4 * p) (v := nI (min 99 (φ 3 p + (1 + φ 0 d / 10)))) (chg_up (k := 50) (j := 5) (v := nI (clr (φ 7 0) d)) (chg_mono hch (fun k j => scS_M)) rfl) rfl
        refine Gd_iastN (W_s53 hW) (by first | omega | decide) eX8_shotOf_98 ?_
        refine Gd_iload_n (i := 3) rfl eX8_shotOf_99 ?_
        exact Gd_ireturn eX8_shotOf_100 rfl (Nat.le_refl _) (Nat.le_refl _) ⟨_, rfl, rfl, by rw [shot, if_neg (by omega), if_neg c9, if_pos c53]; exact hM2, hch2⟩
  · refine Gd_aload_n (i := 0) rfl eX8_shotOf_12 ?_
    refine Gd_getR fl_RX8_19 (W_s50 hW) (W_r50_4 hW) eX8_shotOf_13 ?_
    refine Gd_iload_n (i := 2) rfl eX8_shotOf_16 ?_
    refine Gd_aload_n (i := 0) rfl eX8_shotOf_17 ?_
    refine Gd_getR fl_RX8_19 (W_s50 hW) (W_r50_4 hW) eX8_shotOf_18 ?_
    refine Gd_iload_n (i := 2) rfl eX8_shotOf_21 ?_
    refine Gd_ialdE (v := nI (φ 0 d)) (W_s54 hW) (by first | omega | decide) (MA_sh hM (d := d) (by first | omega | decide) :) eX8_shotOf_22 ?_
    refine Gd_iconst ki_5 eX8_shotOf_23 ?_
    refine Gd_iaddN eX8_shotOf_24 ?_
    refine Gd_iconst ki_0 eX8_shotOf_25 ?_
    refine Gd_bipush kb_99 eX8_shotOf_26 ?_
    refine Gd_callP (g_cS (m_within _ _ _) ok_X8_within lk_RX8_183 rfl rfl (Nat.le_of_ble_eq_true rfl) (Nat.le_of_ble_eq_true rfl) (Nat.le_refl _) (Nat.le_refl _) eX8_shotOf_28) ?_
    rw [wth_pos (by omega) (by decide)]
    refine Gd_iastN (W_s54 hW) (by first | omega | decide) eX8_shotOf_31 ?_
    have hM1 := MA_setsh (d := d) (v := min 99 (φ 0 d + 5)) hM
    have hch1 : chg scS _ _ := chg_up (k := 54) (j := d) (v := nI (min 99 (φ 0 d + 5))) (chg_mono hch (fun k j => scS_M)) rfl
    refine Gd_iload_n (i := 3) rfl eX8_shotOf_32 ?_
    refine Gd_iconst ki_1 eX8_shotOf_33 ?_
    refine Gd_icmp_leN (by first | omega | decide) (by first | omega | decide) eX8_shotOf_34 (fun c34 => ?_) (fun c34 => ?_)
    · refine Gd_iload_n (i := 3) rfl eX8_shotOf_99 ?_
      exact Gd_ireturn eX8_shotOf_100 rfl (Nat.le_refl _) (Nat.le_refl _) ⟨_, rfl, rfl, by rw [shot, if_neg (by omega), if_pos c9]; exact hM1, hch1⟩
    · exact absurd c9 (by omega)
