theorem m_fHeld0 {sh : List (Nat × Nat)} {a : Nat → Nat → Int32} {r : Nat → Nat → Option Nat} {g : Nat → Nat → Int64} {φ : Nat → Nat → Nat} (hW : WD sh r) (hM : MA φ a) (hI : FI φ) (vd : Int32) : Mt YX8_forestHeld 0 0 0 [vr 50, vi (nI 0), vi vd] (sh, a, r, g) (g_P (some (vi (nI (φ 7 1)))) (sh, a, r, g)) := by
  refine Mt_of rfl (Nat.le_of_ble_eq_true rfl) rfl ?_
  have hal := FI_al hI
  refine Gd_iload_n (i := 1) rfl eX8_forestHeld_0 ?_
  refine Gd_if_ne eX8_forestHeld_1 (fun q => by first | exact absurd q (by decide) | exact absurd (by decide) q) (fun _ => ?_)
  refine Gd_aload_n (i := 0) rfl eX8_forestHeld_4 ?_
  refine Gd_getIe (v := nI (φ 7 1)) fl_RX8_96 (W_s50 hW) (MA_da hM :) eX8_forestHeld_5 ?_
  refine Gd_goto eX8_forestHeld_8 ?_
  exact Gd_ireturn eX8_forestHeld_33 rfl (Nat.le_refl _) (Nat.le_refl _) ⟨rfl, rfl⟩
theorem m_fHeld1 {sh : List (Nat × Nat)} {a : Nat → Nat → Int32} {r : Nat → Nat → Option Nat} {g : Nat → Nat → Int64} {φ : Nat → Nat → Nat} (hW : WD sh r) (hM : MA φ a) (hI : FI φ) {d : Nat} (hd : d < 10) : Mt YX8_forestHeld 0 0 0 [vr 50, vi (nI 1), vi (nI d)] (sh, a, r, g) (g_P (some (vi (nI (φ 0 d)))) (sh, a, r, g)) := by
  refine Mt_of rfl (Nat.le_of_ble_eq_true rfl) rfl ?_
  have hal := FI_al hI
  refine Gd_iload_n (i := 1) rfl eX8_forestHeld_0 ?_
  refine Gd_if_ne eX8_forestHeld_1 (fun _ => ?_) (fun q => by first | exact absurd q (by decide) | exact absurd (by decide) q)
  refine Gd_iload_n (i := 1) rfl eX8_forestHeld_11 ?_
  refine Gd_iconst ki_1 eX8_forestHeld_12 ?_
  refine Gd_icmp_ne eX8_forestHeld_13 (fun q => by first | exact absurd q (by decide) | exact absurd (by decide) q) (fun _ => ?_)
  refine Gd_aload_n (i := 0) rfl eX8_forestHeld_16 ?_
  refine Gd_getR fl_RX8_19 (W_s50 hW) (W_r50_4 hW) eX8_forestHeld_17 ?_
  refine Gd_iload_n (i := 2) rfl eX8_forestHeld_20 ?_
  refine Gd_ialdE (v := nI (φ 0 d)) (W_s54 hW) (by first | omega | decide) (MA_sh hM (d := d) (by first | omega | decide) :) eX8_forestHeld_21 ?_
  refine Gd_goto eX8_forestHeld_22 ?_
  exact Gd_ireturn eX8_forestHeld_33 rfl (Nat.le_refl _) (Nat.le_refl _) ⟨rfl, rfl⟩
theorem m_fHeld2 {sh : List (Nat × Nat)} {a : Nat → Nat → Int32} {r : Nat → Nat → Option Nat} {g : Nat → Nat → Int64} {φ : Nat → Nat → Nat} (hW : WD sh r) (hM : MA φ a) (hI : FI φ) {d : Nat} (hd : d < 10) : Mt YX8_forestHeld 0 0 0 [vr 50, vi (nI 2), vi (nI d)] (sh, a, r, g) (g_P (some (vi (bI ((φ 7 0).testBit d)))) (sh, a, r, g)) := by
  refine Mt_of rfl (Nat.le_of_ble_eq_true rfl) rfl ?_
  have hal := FI_al hI
  refine Gd_iload_n (i := 1) rfl eX8_forestHeld_0 ?_
  refine Gd_if_ne eX8_forestHeld_1 (fun _ => ?_) (fun q => by first | exact absurd q (by decide) | exact absurd (by decide) q)
  refine Gd_iload_n (i := 1) rfl eX8_forestHeld_11 ?_
  refine Gd_iconst ki_1 eX8_forestHeld_12 ?_
  refine Gd_icmp_ne eX8_forestHeld_13 (fun _ => ?_) (fun q => by first | exact absurd q (by decide) | exact absurd (by decide) q)
  refine Gd_aload_n (i := 0) rfl eX8_forestHeld_25 ?_
  refine Gd_getIe (v := nI (φ 7 0)) fl_RX8_22 (W_s50 hW) (MA_al hM :) eX8_forestHeld_26 ?_
  refine Gd_iload_n (i := 2) rfl eX8_forestHeld_29 ?_
  refine Gd_ishr eX8_forestHeld_30 ?_
  refine Gd_iconst ki_1 eX8_forestHeld_31 ?_
  refine Gd_iandB (by first | omega | decide) (by first | omega | decide) eX8_forestHeld_32 ?_
  exact Gd_ireturn eX8_forestHeld_33 rfl (Nat.le_refl _) (Nat.le_refl _) ⟨rfl, rfl⟩
theorem m_forest {sh : List (Nat × Nat)} {a : Nat → Nat → Int32} {r : Nat → Nat → Option Nat} {g : Nat → Nat → Int64} {φ : Nat → Nat → Nat} (hW : WD sh r) (hM : MA φ a) (hI : FI φ) (vw vd vv : Int32) : Mt YX8_forest 2 0 0 [vr 50, vi vw, vi vd, vi vv] (sh, a, r, g) (g_EV sh r g (vi (rForest φ vw vd vv).1) (fun a' => MA (rForest φ vw vd vv).2 a' ∧ chg scF a a')) := by
  refine Mt_of rfl (Nat.le_of_ble_eq_true rfl) rfl ?_
  refine Gd_iload_n (i := 1) rfl eX8_forest_0 ?_
  refine Gd_iconst ki_0 eX8_forest_1 ?_
  refine Gd_iconst ki_2 eX8_forest_2 ?_
  refine Gd_callP (g_cS (m_in _ _ _) ok_X8_in lk_RX8_84 rfl rfl (Nat.le_of_ble_eq_true rfl) (Nat.le_of_ble_eq_true rfl) (Nat.le_refl _) (Nat.le_refl _) eX8_forest_3) ?_
  refine Gd_if_eqB eX8_forest_6 (fun c6 => ?_) (fun c6 => ?_)
  · refine Gd_bipush kb_m5 eX8_forest_20 ?_
    exact Gd_ireturn eX8_forest_22 rfl (Nat.le_refl _) (Nat.le_refl _) (by rw [rForest_w c6]; exact ⟨a, rfl, rfl, hM, chg_rf⟩)
  · have hal := FI_al hI
    obtain ⟨k, _, hk, rfl⟩ := inb_r (by decide) (by decide) c6
    rcases (by omega : k = 0 ∨ k = 1 ∨ k = 2) with rfl | rfl | rfl
    · refine Gd_iload_n (i := 1) rfl eX8_forest_9 ?_
      refine Gd_if_le eX8_forest_10 (fun _ => ?_) (fun q => by first | exact absurd q (by decide) | exact absurd (by decide) q)
      refine Gd_iload_n (i := 3) rfl eX8_forest_23 ?_
      refine Gd_iconst ki_0 eX8_forest_24 ?_
      refine Gd_iload_n (i := 1) rfl eX8_forest_25 ?_
      refine Gd_if_ne eX8_forest_26 (fun q => by first | exact absurd q (by decide) | exact absurd (by decide) q) (fun _ => ?_)
      refine Gd_sipush ks_999 eX8_forest_29 ?_
      refine Gd_goto eX8_forest_32 ?_
      refine Gd_callP (g_cS (m_in _ _ _) ok_X8_in lk_RX8_84 rfl rfl (Nat.le_of_ble_eq_true rfl) (Nat.le_of_ble_eq_true rfl) (Nat.le_refl _) (Nat.le_refl _) eX8_forest_46) ?_
      refine Gd_if_neB eX8_forest_49 (fun c49 => ?_) (fun c49 => ?_)
      · obtain ⟨v, _, hv, rfl⟩ := inb_r (by decide) (by decide) c49
        refine Gd_aload_n (i := 0) rfl eX8_forest_55 ?_
        refine Gd_iload_n (i := 1) rfl eX8_forest_56 ?_
        refine Gd_iload_n (i := 2) rfl eX8_forest_57 ?_
        refine Gd_callP (g_cV (m_fHeld0 hW hM hI _) ok_X8_forestHeld lk_RX8_108 (W_s50 hW) ⟨_, _, rfl⟩ rfl rfl (Nat.le_of_ble_eq_true rfl) (Nat.le_of_ble_eq_true rfl) (Nat.le_refl _) (Nat.le_refl _) eX8_forest_58) ?_
        refine Gd_istore4 rfl eX8_forest_61 ?_
        refine Gd_iload_n (i := 1) rfl eX8_forest_63 ?_
        refine Gd_lookup (off := 28) (tgt := 92) eX8_forest_64 (by decide) (by decide +kernel) (by decide) ?_
        refine Gd_aload_n (i := 0) rfl eX8_forest_92 ?_
        refine Gd_iload_n (i := 3) rfl eX8_forest_93 ?_
        refine Gd_putI fl_RX8_96 (W_s50 hW) eX8_forest_94 ?_
        refine Gd_goto eX8_forest_97 ?_
        refine Gd_iload (i := 4) rfl eX8_forest_128 ?_
        exact Gd_ireturn eX8_forest_130 rfl (Nat.le_refl _) (Nat.le_refl _) (by rw [rForest_0 hv]; exact ⟨_, rfl, rfl, MA_setda hM, chg_up chg_rf rfl⟩)
      · refine Gd_bipush kb_m7 eX8_forest_52 ?_
        exact Gd_ireturn eX8_forest_54 rfl (Nat.le_refl _) (Nat.le_refl _) (by rw [rForest_v (by decide) (Or.inl rfl) (by rw [show fmost (nI 0) = nI 999 by decide]; exact c49)]; exact ⟨a, rfl, rfl, hM, chg_rf⟩)
    · refine Gd_iload_n (i := 1) rfl eX8_forest_9 ?_
      refine Gd_if_le eX8_forest_10 (fun q => by first | exact absurd q (by decide) | exact absurd (by decide) q) (fun _ => ?_)
      refine Gd_iload_n (i := 2) rfl eX8_forest_13 ?_
      refine Gd_callP (g_cS (m_isDeer _) ok_X8_isDeer lk_RX8_105 rfl rfl (Nat.le_of_ble_eq_true rfl) (Nat.le_of_ble_eq_true rfl) (Nat.le_refl _) (Nat.le_refl _) eX8_forest_14) ?_
      refine Gd_if_neB eX8_forest_17 (fun c17 => ?_) (fun c17 => ?_)
      · obtain ⟨d, hd, rfl⟩ := inr_t c17 (by decide)
        refine Gd_iload_n (i := 3) rfl eX8_forest_23 ?_
        refine Gd_iconst ki_0 eX8_forest_24 ?_
        refine Gd_iload_n (i := 1) rfl eX8_forest_25 ?_
        refine Gd_if_ne eX8_forest_26 (fun _ => ?_) (fun q => by first | exact absurd q (by decide) | exact absurd (by decide) q)
        refine Gd_iload_n (i := 1) rfl eX8_forest_35 ?_
        refine Gd_iconst ki_1 eX8_forest_36 ?_
        refine Gd_icmp_ne eX8_forest_37 (fun q => by first | exact absurd q (by decide) | exact absurd (by decide) q) (fun _ => ?_)
        refine Gd_bipush kb_99 eX8_forest_40 ?_
        refine Gd_goto eX8_forest_42 ?_
        refine Gd_callP (g_cS (m_in _ _ _) ok_X8_in lk_RX8_84 rfl rfl (Nat.le_of_ble_eq_true rfl) (Nat.le_of_ble_eq_true rfl) (Nat.le_refl _) (Nat.le_refl _) eX8_forest_46) ?_
        refine Gd_if_neB eX8_forest_49 (fun c49 => ?_) (fun c49 => ?_)
        · obtain ⟨v, _, hv, rfl⟩ := inb_r (by decide) (by decide) c49
          refine Gd_aload_n (i := 0) rfl eX8_forest_55 ?_
          refine Gd_iload_n (i := 1) rfl eX8_forest_56 ?_
          refine Gd_iload_n (i := 2) rfl eX8_forest_57 ?_
          refine Gd_callP (g_cV (m_fHeld1 hW hM hI hd) ok_X8_forestHeld lk_RX8_108 (W_s50 hW) ⟨_, _, rfl⟩ rfl rfl (Nat.le_of_ble_eq_true rfl) (Nat.le_of_ble_eq_true rfl) (Nat.le_refl _) (Nat.le_refl _) eX8_forest_58) ?_
          refine Gd_istore4 rfl eX8_forest_61 ?_
          refine Gd_iload_n (i := 1) rfl eX8_forest_63 ?_
          refine Gd_lookup (off := 36) (tgt := 100) eX8_forest_64 (by decide) (by decide +kernel) (by decide) ?_
          refine Gd_aload_n (i := 0) rfl eX8_forest_100 ?_
          refine Gd_getR fl_RX8_19 (W_s50 hW) (W_r50_4 hW) eX8_forest_101 ?_
          refine Gd_iload_n (i := 2) rfl eX8_forest_104 ?_
          refine Gd_iload_n (i := 3) rfl eX8_forest_105 ?_
          refine Gd_iastN (W_s54 hW) (by first | omega | decide) eX8_forest_106 ?_
          refine Gd_goto eX8_forest_107 ?_
          refine Gd_iload (i := 4) rfl eX8_forest_128 ?_
          exact Gd_ireturn eX8_forest_130 rfl (Nat.le_refl _) (Nat.le_refl _) (by rw [rForest_1 hd hv]; exact ⟨_, rfl, rfl, MA_setsh hM, chg_up chg_rf rfl⟩)
        · refine Gd_bipush kb_m7 eX8_forest_52 ?_
          exact Gd_ireturn eX8_forest_54 rfl (Nat.le_refl _) (Nat.le_refl _) (by rw [rForest_v (by decide) (Or.inr (inr_lt_t (by decide) hd)) (by rw [show fmost (nI 1) = nI 99 by decide]; exact c49)]; exact ⟨a, rfl, rfl, hM, chg_rf⟩)
      · refine Gd_bipush kb_m5 eX8_forest_20 ?_
        exact Gd_ireturn eX8_forest_22 rfl (Nat.le_refl _) (Nat.le_refl _) (by rw [rForest_d (by decide) (by decide) c17]; exact ⟨a, rfl, rfl, hM, chg_rf⟩)
    · refine Gd_iload_n (i := 1) rfl eX8_forest_9 ?_
      refine Gd_if_le eX8_forest_10 (fun q => by first | exact absurd q (by decide) | exact absurd (by decide) q) (fun _ => ?_)
      refine Gd_iload_n (i := 2) rfl eX8_forest_13 ?_
      refine Gd_callP (g_cS (m_isDeer _) ok_X8_isDeer lk_RX8_105 rfl rfl (Nat.le_of_ble_eq_true rfl) (Nat.le_of_ble_eq_true rfl) (Nat.le_refl _) (Nat.le_refl _) eX8_forest_14) ?_
      refine Gd_if_neB eX8_forest_17 (fun c17 => ?_) (fun c17 => ?_)
      · obtain ⟨d, hd, rfl⟩ := inr_t c17 (by decide)
        refine Gd_iload_n (i := 3) rfl eX8_forest_23 ?_
        refine Gd_iconst ki_0 eX8_forest_24 ?_
        refine Gd_iload_n (i := 1) rfl eX8_forest_25 ?_
        refine Gd_if_ne eX8_forest_26 (fun _ => ?_) (fun q => by first | exact absurd q (by decide) | exact absurd (by decide) q)
        refine Gd_iload_n (i := 1) rfl eX8_forest_35 ?_
        refine Gd_iconst ki_1 eX8_forest_36 ?_
        refine Gd_icmp_ne eX8_forest_37 (fun _ => ?_) (fun q => by first | exact absurd q (by decide) | exact absurd (by decide) q)
        refine Gd_iconst ki_1 eX8_forest_45 ?_
        refine Gd_callP (g_cS (m_in _ _ _) ok_X8_in lk_RX8_84 rfl rfl (Nat.le_of_ble_eq_true rfl) (Nat.le_of_ble_eq_true rfl) (Nat.le_refl _) (Nat.le_refl _) eX8_forest_46) ?_
        refine Gd_if_neB eX8_forest_49 (fun c49 => ?_) (fun c49 => ?_)
        · obtain ⟨v, _, hv, rfl⟩ := inb_r (by decide) (by decide) c49
          rcases (by omega : v = 0 ∨ v = 1) with rfl | rfl
          · refine Gd_aload_n (i := 0) rfl eX8_forest_55 ?_
            refine Gd_iload_n (i := 1) rfl eX8_forest_56 ?_
            refine Gd_iload_n (i := 2) rfl eX8_forest_57 ?_
            refine Gd_callP (g_cV (m_fHeld2 hW hM hI hd) ok_X8_forestHeld lk_RX8_108 (W_s50 hW) ⟨_, _, rfl⟩ rfl rfl (Nat.le_of_ble_eq_true rfl) (Nat.le_of_ble_eq_true rfl) (Nat.le_refl _) (Nat.le_refl _) eX8_forest_58) ?_
            refine Gd_istore4 rfl eX8_forest_61 ?_
            refine Gd_iload_n (i := 1) rfl eX8_forest_63 ?_
            refine Gd_lookup (off := 46) (tgt := 110) eX8_forest_64 (by decide) (by decide +kernel) (by decide) ?_
            refine Gd_aload_n (i := 0) rfl eX8_forest_110 ?_
            refine Gd_aload_n (i := 0) rfl eX8_forest_111 ?_
            refine Gd_getIe (v := nI (φ 7 0)) fl_RX8_22 (W_s50 hW) (MA_al hM :) eX8_forest_112 ?_
            refine Gd_iconst ki_1 eX8_forest_115 ?_
            refine Gd_iload_n (i := 2) rfl eX8_forest_116 ?_
            refine Gd_ishl1 (by first | omega | decide) eX8_forest_117 ?_
            refine Gd_iconst ki_m1 eX8_forest_118 ?_
            refine Gd_ixorM eX8_forest_119 ?_
            refine Gd_iandN eX8_forest_120 ?_
            refine Gd_iload_n (i := 3) rfl eX8_forest_121 ?_
            refine Gd_iload_n (i := 2) rfl eX8_forest_122 ?_
            refine Gd_ishl eX8_forest_123 ?_
            rw [shl_0 _ (by omega)]
            refine Gd_iorN eX8_forest_124 ?_
            rw [Nat.or_zero]
            refine Gd_putI fl_RX8_22 (W_s50 hW) eX8_forest_125 ?_
            refine Gd_iload (i := 4) rfl eX8_forest_128 ?_
            exact Gd_ireturn eX8_forest_130 rfl (Nat.le_refl _) (Nat.le_refl _) (by rw [rForest_2 hd hv]; exact ⟨_, rfl, rfl, MA_setal hM, chg_up chg_rf rfl⟩)
          · refine Gd_aload_n (i := 0) rfl eX8_forest_55 ?_
            refine Gd_iload_n (i := 1) rfl eX8_forest_56 ?_
            refine Gd_iload_n (i := 2) rfl eX8_forest_57 ?_
            refine Gd_callP (g_cV (m_fHeld2 hW hM hI hd) ok_X8_forestHeld lk_RX8_108 (W_s50 hW) ⟨_, _, rfl⟩ rfl rfl (Nat.le_of_ble_eq_true rfl) (Nat.le_of_ble_eq_true rfl) (Nat.le_refl _) (Nat.le_refl _) eX8_forest_58) ?_
            refine Gd_istore4 rfl eX8_forest_61 ?_
            refine Gd_iload_n (i := 1) rfl eX8_forest_63 ?_
            refine Gd_lookup (off := 46) (tgt := 110) eX8_forest_64 (by decide) (by decide +kernel) (by decide) ?_
            refine Gd_aload_n (i := 0) rfl eX8_forest_110 ?_
            refine Gd_aload_n (i := 0) rfl eX8_forest_111 ?_
            refine Gd_getIe (v := nI (φ 7 0)) fl_RX8_22 (W_s50 hW) (MA_al hM :) eX8_forest_112 ?_
            refine Gd_iconst ki_1 eX8_forest_115 ?_
            refine Gd_iload_n (i := 2) rfl eX8_forest_116 ?_
            refine Gd_ishl1 (by first | omega | decide) eX8_forest_117 ?_
            refine Gd_iconst ki_m1 eX8_forest_118 ?_
            refine Gd_ixorM eX8_forest_119 ?_
            refine Gd_iandN eX8_forest_120 ?_
            refine Gd_iload_n (i := 3) rfl eX8_forest_121 ?_
            refine Gd_iload_n (i := 2) rfl eX8_forest_122 ?_
            refine Gd_ishl1 (by first | omega | decide) eX8_forest_123 ?_
            refine Gd_iorN eX8_forest_124 ?_
            rw [clr_or d hd _ hal]
            refine Gd_putI fl_RX8_22 (W_s50 hW) eX8_forest_125 ?_
            refine Gd_iload (i := 4) rfl eX8_forest_128 ?_
            exact Gd_ireturn eX8_forest_130 rfl (Nat.le_refl _) (Nat.le_refl _) (by rw [rForest_2 hd hv]; exact ⟨_, rfl, rfl, MA_setal hM, chg_up chg_rf rfl⟩)
        · refine Gd_bipush kb_m7 eX8_forest_52 ?_
          exact Gd_ireturn eX8_forest_54 rfl (Nat.le_refl _) (Nat.le_refl _) (by rw [rForest_v (by decide) (Or.inr (inr_lt_t (by decide) hd)) (by rw [show fmost (nI 2) = nI 1 by decide]; exact c49)]; exact ⟨a, rfl, rfl, hM, chg_rf⟩)
      · refine Gd_bipush kb_m5 eX8_forest_20 ?_
        exact Gd_ireturn eX8_forest_22 rfl (Nat.le_refl _) (Nat.le_refl _) (by rw [rForest_d (by decide) (by decide) c17]; exact ⟨a, rfl, rfl, hM, chg_rf⟩)
theorem x_forest {sh : List (Nat × Nat)} {a : Nat → Nat → Int32} {r : Nat → Nat → Option Nat} {g : Nat → Nat → Int64} {φ : Nat → Nat → Nat} (hW : WD sh r) (hA : FA 1 φ a) (hI : FI φ) (vw vd vv : Int32) : Mt YX7_forest 2 0 0 [vr 0, vi vw, vi vd, vi vv] (sh, a, r, g) (g_EV sh r g (vi (rForest φ vw vd vv).1) (fun a' => FA 1 (rForest φ vw vd vv).2 a' ∧ chg scFx a a')) := by
  refine Mt_of rfl (Nat.le_of_ble_eq_true rfl) rfl ?_
  refine Gd_iload_n (i := 1) rfl eX7_forest_0 ?_
  refine Gd_if_lt eX7_forest_1 (fun c1 => ?_) (fun c1 => ?_)
  · refine Gd_bipush kb_m5 eX7_forest_20 ?_
    exact Gd_ireturn eX7_forest_22 rfl (Nat.le_refl _) (Nat.le_refl _) (by rw [rForest_w (inb_l0 c1)]; exact ⟨a, rfl, rfl, hA, chg_rf⟩)
  · refine Gd_iload_n (i := 1) rfl eX7_forest_4 ?_
    refine Gd_iconst ki_2 eX7_forest_5 ?_
    refine Gd_icmp_gt eX7_forest_6 (fun c6 => ?_) (fun c6 => ?_)
    · refine Gd_bipush kb_m5 eX7_forest_20 ?_
      exact Gd_ireturn eX7_forest_22 rfl (Nat.le_refl _) (Nat.le_refl _) (by rw [rForest_w (inb_f2 c6)]; exact ⟨a, rfl, rfl, hA, chg_rf⟩)
    · have hal := FI_al hI
      have hw0 := inb_c0 c1 c6
      obtain ⟨k, _, hk, rfl⟩ := inb_r (by decide) (by decide) hw0
      rcases (by omega : k = 0 ∨ k = 1 ∨ k = 2) with rfl | rfl | rfl
      · refine Gd_iload_n (i := 1) rfl eX7_forest_9 ?_
        refine Gd_if_eq eX7_forest_10 (fun _ => ?_) (fun q => by first | exact absurd q (by decide) | exact absurd (by decide) q)
        refine Gd_iload_n (i := 1) rfl eX7_forest_23 ?_
        refine Gd_if_ne eX7_forest_24 (fun q => by first | exact absurd q (by decide) | exact absurd (by decide) q) (fun _ => ?_)
        refine Gd_sipush ks_999 eX7_forest_27 ?_
        refine Gd_goto eX7_forest_30 ?_
        refine Gd_istore4 rfl eX7_forest_44 ?_
        refine Gd_iload_n (i := 3) rfl eX7_forest_46 ?_
        refine Gd_iconst ki_0 eX7_forest_47 ?_
        refine Gd_iload (i := 4) rfl eX7_forest_48 ?_
        refine Gd_callP (g_cS (x_isWithin _ _ _) ok_X7_isWithin lk_RX7_119 rfl rfl (Nat.le_of_ble_eq_true rfl) (Nat.le_of_ble_eq_true rfl) (Nat.le_refl _) (Nat.le_refl _) eX7_forest_50) ?_
        refine Gd_if_neB eX7_forest_53 (fun c53 => ?_) (fun c53 => ?_)
        · obtain ⟨v, _, hv, rfl⟩ := inb_r (by decide) (by decide) c53
          refine Gd_iload_n (i := 1) rfl eX7_forest_59 ?_
          refine Gd_if_ne eX7_forest_60 (fun q => by first | exact absurd q (by decide) | exact absurd (by decide) q) (fun _ => ?_)
          refine Gd_aload_n (i := 0) rfl eX7_forest_63 ?_
          refine Gd_getR fl_RX7_10 (W_s0 hW) (W_r0_0 hW) eX7_forest_64 ?_
          refine Gd_getIe (v := nI (φ 7 1)) fl_RX7_103 (W_s1 hW) (FA_da hA :) eX7_forest_67 ?_
          refine Gd_istore5 rfl eX7_forest_70 ?_
          refine Gd_aload_n (i := 0) rfl eX7_forest_72 ?_
          refine Gd_getR fl_RX7_10 (W_s0 hW) (W_r0_0 hW) eX7_forest_73 ?_
          refine Gd_iload_n (i := 3) rfl eX7_forest_76 ?_
          refine Gd_putI fl_RX7_103 (W_s1 hW) eX7_forest_77 ?_
          refine Gd_goto eX7_forest_80 ?_
          refine Gd_iload (i := 5) rfl eX7_forest_148 ?_
          exact Gd_ireturn eX7_forest_150 rfl (Nat.le_refl _) (Nat.le_refl _) (by rw [rForest_0 hv]; exact ⟨_, rfl, rfl, FA_setda hA, chg_up chg_rf rfl⟩)
        · refine Gd_bipush kb_m7 eX7_forest_56 ?_
          exact Gd_ireturn eX7_forest_58 rfl (Nat.le_refl _) (Nat.le_refl _) (by rw [rForest_v (by decide) (Or.inl rfl) (by rw [show fmost (nI 0) = nI 999 by decide]; exact c53)]; exact ⟨a, rfl, rfl, hA, chg_rf⟩)
      · refine Gd_iload_n (i := 1) rfl eX7_forest_9 ?_
        refine Gd_if_eq eX7_forest_10 (fun q => by first | exact absurd q (by decide) | exact absurd (by decide) q) (fun _ => ?_)
        refine Gd_iload_n (i := 2) rfl eX7_forest_13 ?_
        refine Gd_callP (g_cS (x_isDeer _) ok_X7_isDeer lk_RX7_115 rfl rfl (Nat.le_of_ble_eq_true rfl) (Nat.le_of_ble_eq_true rfl) (Nat.le_refl _) (Nat.le_refl _) eX7_forest_14) ?_
        refine Gd_if_neB eX7_forest_17 (fun c17 => ?_) (fun c17 => ?_)
        · obtain ⟨d, hd, rfl⟩ := inr_t c17 (by decide)
          refine Gd_iload_n (i := 1) rfl eX7_forest_23 ?_
          refine Gd_if_ne eX7_forest_24 (fun _ => ?_) (fun q => by first | exact absurd q (by decide) | exact absurd (by decide) q)
          refine Gd_iload_n (i := 1) rfl eX7_forest_33 ?_
          refine Gd_iconst ki_1 eX7_forest_34 ?_
          refine Gd_icmp_ne eX7_forest_35 (fun q => by first | exact absurd q (by decide) | exact absurd (by decide) q) (fun _ => ?_)
          refine Gd_bipush kb_99 eX7_forest_38 ?_
          refine Gd_goto eX7_forest_40 ?_
          refine Gd_istore4 rfl eX7_forest_44 ?_
          refine Gd_iload_n (i := 3) rfl eX7_forest_46 ?_
          refine Gd_iconst ki_0 eX7_forest_47 ?_
          refine Gd_iload (i := 4) rfl eX7_forest_48 ?_
          refine Gd_callP (g_cS (x_isWithin _ _ _) ok_X7_isWithin lk_RX7_119 rfl rfl (Nat.le_of_ble_eq_true rfl) (Nat.le_of_ble_eq_true rfl) (Nat.le_refl _) (Nat.le_refl _) eX7_forest_50) ?_
          refine Gd_if_neB eX7_forest_53 (fun c53 => ?_) (fun c53 => ?_)
          · obtain ⟨v, _, hv, rfl⟩ := inb_r (by decide) (by decide) c53
            refine Gd_iload_n (i := 1) rfl eX7_forest_59 ?_
            refine Gd_if_ne eX7_forest_60 (fun _ => ?_) (fun q => by first | exact absurd q (by decide) | exact absurd (by decide) q)
            refine Gd_iload_n (i := 1) rfl eX7_forest_83 ?_
            refine Gd_iconst ki_1 eX7_forest_84 ?_
            refine Gd_icmp_ne eX7_forest_85 (fun q => by first | exact absurd q (by decide) | exact absurd (by decide) q) (fun _ => ?_)
            refine Gd_aload_n (i := 0) rfl eX7_forest_88 ?_
            refine Gd_getR fl_RX7_10 (W_s0 hW) (W_r0_0 hW) eX7_forest_89 ?_
            refine Gd_getR fl_RX7_123 (W_s1 hW) (W_r1_0 hW) eX7_forest_92 ?_
            refine Gd_iload_n (i := 2) rfl eX7_forest_95 ?_
            refine Gd_ialdE (v := nI (φ 0 d)) (W_s2 hW) (by first | omega | decide) (FA_sh hA (d := d) (by first | omega | decide) :) eX7_forest_96 ?_
            refine Gd_istore5 rfl eX7_forest_97 ?_
            refine Gd_aload_n (i := 0) rfl eX7_forest_99 ?_
            refine Gd_getR fl_RX7_10 (W_s0 hW) (W_r0_0 hW) eX7_forest_100 ?_
            refine Gd_getR fl_RX7_123 (W_s1 hW) (W_r1_0 hW) eX7_forest_103 ?_
            refine Gd_iload_n (i := 2) rfl eX7_forest_106 ?_
            refine Gd_iload_n (i := 3) rfl eX7_forest_107 ?_
            refine Gd_iastN (W_s2 hW) (by first | omega | decide) eX7_forest_108 ?_
            refine Gd_goto eX7_forest_109 ?_
            refine Gd_iload (i := 5) rfl eX7_forest_148 ?_
            exact Gd_ireturn eX7_forest_150 rfl (Nat.le_refl _) (Nat.le_refl _) (by rw [rForest_1 hd hv]; exact ⟨_, rfl, rfl, FA_setsh hA, chg_up chg_rf rfl⟩)
          · refine Gd_bipush kb_m7 eX7_forest_56 ?_
            exact Gd_ireturn eX7_forest_58 rfl (Nat.le_refl _) (Nat.le_refl _) (by rw [rForest_v (by decide) (Or.inr (inr_lt_t (by decide) hd)) (by rw [show fmost (nI 1) = nI 99 by decide]; exact c53)]; exact ⟨a, rfl, rfl, hA, chg_rf⟩)
        · refine Gd_bipush kb_m5 eX7_forest_20 ?_
          exact Gd_ireturn eX7_forest_22 rfl (Nat.le_refl _) (Nat.le_refl _) (by rw [rForest_d (by decide) (by decide) c17]; exact ⟨a, rfl, rfl, hA, chg_rf⟩)
      · refine Gd_iload_n (i := 1) rfl eX7_forest_9 ?_
        refine Gd_if_eq eX7_forest_10 (fun q => by first | exact absurd q (by decide) | exact absurd (by decide) q) (fun _ => ?_)
        refine Gd_iload_n (i := 2) rfl eX7_forest_13 ?_
        refine Gd_callP (g_cS (x_isDeer _) ok_X7_isDeer lk_RX7_115 rfl rfl (Nat.le_of_ble_eq_true rfl) (Nat.le_of_ble_eq_true rfl) (Nat.le_refl _) (Nat.le_refl _) eX7_forest_14) ?_
        refine Gd_if_neB eX7_forest_17 (fun c17 => ?_) (fun c17 => ?_)
        · obtain ⟨d, hd, rfl⟩ := inr_t c17 (by decide)
          refine Gd_iload_n (i := 1) rfl eX7_forest_23 ?_
          refine Gd_if_ne eX7_forest_24 (fun _ => ?_) (fun q => by first | exact absurd q (by decide) | exact absurd (by decide) q)
          refine Gd_iload_n (i := 1) rfl eX7_forest_33 ?_
          refine Gd_iconst ki_1 eX7_forest_34 ?_
          refine Gd_icmp_ne eX7_forest_35 (fun _ => ?_) (fun q => by first | exact absurd q (by decide) | exact absurd (by decide) q)
          refine Gd_iconst ki_1 eX7_forest_43 ?_
          refine Gd_istore4 rfl eX7_forest_44 ?_
          refine Gd_iload_n (i := 3) rfl eX7_forest_46 ?_
          refine Gd_iconst ki_0 eX7_forest_47 ?_
          refine Gd_iload (i := 4) rfl eX7_forest_48 ?_
          refine Gd_callP (g_cS (x_isWithin _ _ _) ok_X7_isWithin lk_RX7_119 rfl rfl (Nat.le_of_ble_eq_true rfl) (Nat.le_of_ble_eq_true rfl) (Nat.le_refl _) (Nat.le_refl _) eX7_forest_50) ?_
          refine Gd_if_neB eX7_forest_53 (fun c53 => ?_) (fun c53 => ?_)
          · obtain ⟨v, _, hv, rfl⟩ := inb_r (by decide) (by decide) c53
            rcases (by omega : v = 0 ∨ v = 1) with rfl | rfl
            · refine Gd_iload_n (i := 1) rfl eX7_forest_59 ?_
              refine Gd_if_ne eX7_forest_60 (fun _ => ?_) (fun q => by first | exact absurd q (by decide) | exact absurd (by decide) q)
              refine Gd_iload_n (i := 1) rfl eX7_forest_83 ?_
              refine Gd_iconst ki_1 eX7_forest_84 ?_
              refine Gd_icmp_ne eX7_forest_85 (fun _ => ?_) (fun q => by first | exact absurd q (by decide) | exact absurd (by decide) q)
              refine Gd_aload_n (i := 0) rfl eX7_forest_112 ?_
              refine Gd_getR fl_RX7_10 (W_s0 hW) (W_r0_0 hW) eX7_forest_113 ?_
              refine Gd_iload_n (i := 2) rfl eX7_forest_116 ?_
              refine Gd_callP (g_cV (x_isAlive (W_F1 hW) hA hI hd) ok_X0_isAlive lk_RX7_127 (W_s1 hW) ⟨_, _, rfl⟩ rfl rfl (Nat.le_of_ble_eq_true rfl) (Nat.le_of_ble_eq_true rfl) (Nat.le_refl _) (Nat.le_refl _) eX7_forest_117) ?_
              refine Gd_if_eqB eX7_forest_120 (fun c120 => ?_) (fun c120 => ?_)
              · refine Gd_iconst ki_0 eX7_forest_127 ?_
                refine Gd_istore5 rfl eX7_forest_128 ?_
                refine Gd_aload_n (i := 0) rfl eX7_forest_130 ?_
                refine Gd_getR fl_RX7_10 (W_s0 hW) (W_r0_0 hW) eX7_forest_131 ?_
                refine Gd_iload_n (i := 2) rfl eX7_forest_134 ?_
                refine Gd_iload_n (i := 3) rfl eX7_forest_135 ?_
                refine Gd_iconst ki_1 eX7_forest_136 ?_
                refine Gd_icmp_ne eX7_forest_137 (fun _ => ?_) (fun q => by first | exact absurd q (by decide) | exact absurd (by decide) q)
                refine Gd_iconst ki_0 eX7_forest_144 ?_
                refine Gd_callP0 (g_cV (x_setAlive0 (W_F1 hW) (φ := φ) (FA_al hA) hd) ok_X0_setAlive lk_RX7_130 (W_s1 hW) ⟨_, _, rfl⟩ rfl rfl (Nat.le_of_ble_eq_true rfl) (Nat.le_of_ble_eq_true rfl) (Nat.le_refl _) (Nat.le_refl _) eX7_forest_145) rfl ?_
                refine Gd_iload (i := 5) rfl eX7_forest_148 ?_
                exact Gd_ireturn eX7_forest_150 rfl (Nat.le_refl _) (Nat.le_refl _) (by rw [rForest_2 hd hv, c120]; exact ⟨_, rfl, rfl, FA_setal hA, chg_up chg_rf rfl⟩)
              · refine Gd_iconst ki_1 eX7_forest_123 ?_
                refine Gd_goto eX7_forest_124 ?_
                refine Gd_istore5 rfl eX7_forest_128 ?_
                refine Gd_aload_n (i := 0) rfl eX7_forest_130 ?_
                refine Gd_getR fl_RX7_10 (W_s0 hW) (W_r0_0 hW) eX7_forest_131 ?_
                refine Gd_iload_n (i := 2) rfl eX7_forest_134 ?_
                refine Gd_iload_n (i := 3) rfl eX7_forest_135 ?_
                refine Gd_iconst ki_1 eX7_forest_136 ?_
                refine Gd_icmp_ne eX7_forest_137 (fun _ => ?_) (fun q => by first | exact absurd q (by decide) | exact absurd (by decide) q)
                refine Gd_iconst ki_0 eX7_forest_144 ?_
                refine Gd_callP0 (g_cV (x_setAlive0 (W_F1 hW) (φ := φ) (FA_al hA) hd) ok_X0_setAlive lk_RX7_130 (W_s1 hW) ⟨_, _, rfl⟩ rfl rfl (Nat.le_of_ble_eq_true rfl) (Nat.le_of_ble_eq_true rfl) (Nat.le_refl _) (Nat.le_refl _) eX7_forest_145) rfl ?_
                refine Gd_iload (i := 5) rfl eX7_forest_148 ?_
                exact Gd_ireturn eX7_forest_150 rfl (Nat.le_refl _) (Nat.le_refl _) (by rw [rForest_2 hd hv, c120]; exact ⟨_, rfl, rfl, FA_setal hA, chg_up chg_rf rfl⟩)
            · refine Gd_iload_n (i := 1) rfl eX7_forest_59 ?_
              refine Gd_if_ne eX7_forest_60 (fun _ => ?_) (fun q => by first | exact absurd q (by decide) | exact absurd (by decide) q)
              refine Gd_iload_n (i := 1) rfl eX7_forest_83 ?_
              refine Gd_iconst ki_1 eX7_forest_84 ?_
              refine Gd_icmp_ne eX7_forest_85 (fun _ => ?_) (fun q => by first | exact absurd q (by decide) | exact absurd (by decide) q)
              refine Gd_aload_n (i := 0) rfl eX7_forest_112 ?_
              refine Gd_getR fl_RX7_10 (W_s0 hW) (W_r0_0 hW) eX7_forest_113 ?_
              refine Gd_iload_n (i := 2) rfl eX7_forest_116 ?_
              refine Gd_callP (g_cV (x_isAlive (W_F1 hW) hA hI hd) ok_X0_isAlive lk_RX7_127 (W_s1 hW) ⟨_, _, rfl⟩ rfl rfl (Nat.le_of_ble_eq_true rfl) (Nat.le_of_ble_eq_true rfl) (Nat.le_refl _) (Nat.le_refl _) eX7_forest_117) ?_
              refine Gd_if_eqB eX7_forest_120 (fun c120 => ?_) (fun c120 => ?_)
              · refine Gd_iconst ki_0 eX7_forest_127 ?_
                refine Gd_istore5 rfl eX7_forest_128 ?_
                refine Gd_aload_n (i := 0) rfl eX7_forest_130 ?_
                refine Gd_getR fl_RX7_10 (W_s0 hW) (W_r0_0 hW) eX7_forest_131 ?_
                refine Gd_iload_n (i := 2) rfl eX7_forest_134 ?_
                refine Gd_iload_n (i := 3) rfl eX7_forest_135 ?_
                refine Gd_iconst ki_1 eX7_forest_136 ?_
                refine Gd_icmp_ne eX7_forest_137 (fun q => by first | exact absurd q (by decide) | exact absurd (by decide) q) (fun _ => ?_)
                refine Gd_iconst ki_1 eX7_forest_140 ?_
                refine Gd_goto eX7_forest_141 ?_
                refine Gd_callP0 (g_cV (x_setAlive1 (W_F1 hW) (φ := φ) (FA_al hA) hd) ok_X0_setAlive lk_RX7_130 (W_s1 hW) ⟨_, _, rfl⟩ rfl rfl (Nat.le_of_ble_eq_true rfl) (Nat.le_of_ble_eq_true rfl) (Nat.le_refl _) (Nat.le_refl _) eX7_forest_145) rfl ?_
                refine Gd_iload (i := 5) rfl eX7_forest_148 ?_
                exact Gd_ireturn eX7_forest_150 rfl (Nat.le_refl _) (Nat.le_refl _) (by rw [rForest_2 hd hv, c120]; exact ⟨_, rfl, rfl, FA_setal hA, chg_up chg_rf rfl⟩)
              · refine Gd_iconst ki_1 eX7_forest_123 ?_
                refine Gd_goto eX7_forest_124 ?_
                refine Gd_istore5 rfl eX7_forest_128 ?_
                refine Gd_aload_n (i := 0) rfl eX7_forest_130 ?_
                refine Gd_getR fl_RX7_10 (W_s0 hW) (W_r0_0 hW) eX7_forest_131 ?_
                refine Gd_iload_n (i := 2) rfl eX7_forest_134 ?_
                refine Gd_iload_n (i := 3) rfl eX7_forest_135 ?_
                refine Gd_iconst ki_1 eX7_forest_136 ?_
                refine Gd_icmp_ne eX7_forest_137 (fun q => by first | exact absurd q (by decide) | exact absurd (by decide) q) (fun _ => ?_)
                refine Gd_iconst ki_1 eX7_forest_140 ?_
                refine Gd_goto eX7_forest_141 ?_
                refine Gd_callP0 (g_cV (x_setAlive1 (W_F1 hW) (φ := φ) (FA_al hA) hd) ok_X0_setAlive lk_RX7_130 (W_s1 hW) ⟨_, _, rfl⟩ rfl rfl (Nat.le_of_ble_eq_true rfl) (Nat.le_of_ble_eq_true rfl) (Nat.le_refl _) (Nat.le_refl _) eX7_forest_145) rfl ?_
                refine Gd_iload (i := 5) rfl eX7_forest_148 ?_
                exact Gd_ireturn eX7_forest_150 rfl (Nat.le_refl _) (Nat.le_refl _) (by rw [rForest_2 hd hv, c120]; exact ⟨_, rfl, rfl, FA_setal hA, chg_up chg_rf rfl⟩)
          · refine Gd_bipush kb_m7 eX7_forest_56 ?_
            exact Gd_ireturn eX7_forest_58 rfl (Nat.le_refl _) (Nat.le_refl _) (by rw [rForest_v (by decide) (Or.inr (inr_lt_t (by decide) hd)) (by rw [show fmost (nI 2) = nI 1 by decide]; exact c53)]; exact ⟨a, rfl, rfl, hA, chg_rf⟩)
        · refine Gd_bipush kb_m5 eX7_forest_20 ?_
          exact Gd_ireturn eX7_forest_22 rfl (Nat.le_refl _) (Nat.le_refl _) (by rw [rForest_d (by decide) (by decide) c17]; exact ⟨a, rfl, rfl, hA, chg_rf⟩)
theorem m_asks {sh : List (Nat × Nat)} {a : Nat → Nat → Int32} {r : Nat → Nat → Option Nat} {g : Nat → Nat → Int64} {φ ts cd : Nat → Nat → Nat} {nt : Nat} (hW : WD sh r) (hM : MA φ a) (hI : FI φ) (hT : TM nt ts cd a) (hTI : TI nt ts cd) (hlt : φ 7 2 < nt) (vw vp vd : Int32) : Mt YX8_asks 3 0 0 [vr 50, vi vw, vi vp, vi vd] (sh, a, r, g) (g_EV sh r g (vi (oAsks φ ts cd vw vp vd)) (fun a' => chg scM a a')) := by
  refine Mt_of rfl (Nat.le_of_ble_eq_true rfl) rfl ?_
  have hhu := FI_hu hI
  have hch : chg scM a a := chg_rf
  refine Gd_iload_n (i := 1) rfl eX8_asks_0 ?_
  refine Gd_iconst ki_0 eX8_asks_1 ?_
  refine Gd_iconst ki_2 eX8_asks_2 ?_
  refine Gd_callP (g_cS (m_in _ _ _) ok_X8_in lk_RX8_84 rfl rfl (Nat.le_of_ble_eq_true rfl) (Nat.le_of_ble_eq_true rfl) (Nat.le_refl _) (Nat.le_refl _) eX8_asks_3) ?_
  refine Gd_if_eqB eX8_asks_6 (fun c6 => ?_) (fun c6 => ?_)
  · refine Gd_sipush ks_m1000 eX8_asks_37 ?_
    exact Gd_ireturn eX8_asks_40 rfl (Nat.le_refl _) (Nat.le_refl _) ⟨a, by rw [oAsks_n (Or.inl c6)], rfl, chg_rf⟩
  · refine Gd_aload_n (i := 0) rfl eX8_asks_9 ?_
    refine Gd_iload_n (i := 2) rfl eX8_asks_10 ?_
    refine Gd_callP (g_cV (m_isOne hW hM hI _) ok_X8_isOne lk_RX8_88 (W_s50 hW) ⟨_, _, rfl⟩ rfl rfl (Nat.le_of_ble_eq_true rfl) (Nat.le_of_ble_eq_true rfl) (Nat.le_refl _) (Nat.le_refl _) eX8_asks_11) ?_
    refine Gd_if_eqB eX8_asks_14 (fun c14 => ?_) (fun c14 => ?_)
    · refine Gd_sipush ks_m1000 eX8_asks_37 ?_
      exact Gd_ireturn eX8_asks_40 rfl (Nat.le_refl _) (Nat.le_refl _) ⟨a, by rw [oAsks_n (Or.inr (Or.inl c14))], rfl, chg_rf⟩
    · refine Gd_iload_n (i := 3) rfl eX8_asks_17 ?_
      refine Gd_iconst ki_m1 eX8_asks_18 ?_
      refine Gd_bipush kb_9 eX8_asks_19 ?_
      refine Gd_callP (g_cS (m_in _ _ _) ok_X8_in lk_RX8_84 rfl rfl (Nat.le_of_ble_eq_true rfl) (Nat.le_of_ble_eq_true rfl) (Nat.le_refl _) (Nat.le_refl _) eX8_asks_21) ?_
      refine Gd_if_eqB eX8_asks_24 (fun c24 => ?_) (fun c24 => ?_)
      · refine Gd_sipush ks_m1000 eX8_asks_37 ?_
        exact Gd_ireturn eX8_asks_40 rfl (Nat.le_refl _) (Nat.le_refl _) ⟨a, by rw [oAsks_n (Or.inr (Or.inr c24))], rfl, chg_rf⟩
      · obtain ⟨k, _, hk, rfl⟩ := inb_r (by decide) (by decide) c6
        obtain ⟨p, hpn, rfl⟩ := inr_t c14 (by omega)
        rcases inb_m1 c24 with rfl | ⟨d, hd, rfl⟩
        · refine Gd_aload_n (i := 0) rfl eX8_asks_27 ?_
          refine Gd_iload_n (i := 1) rfl eX8_asks_28 ?_
          refine Gd_iload_n (i := 2) rfl eX8_asks_29 ?_
          refine Gd_iload_n (i := 3) rfl eX8_asks_30 ?_
          refine Gd_callEV (g_cV (m_ask0 hW hM hI hT hTI hlt (by first | omega | decide) (by first | omega | decide)) ok_X8_asksOf lk_RX8_186 (W_s50 hW) ⟨_, _, rfl⟩ rfl rfl (Nat.le_of_ble_eq_true rfl) (Nat.le_of_ble_eq_true rfl) (Nat.le_refl _) (Nat.le_refl _) eX8_asks_31) (fun a hq => ?_)
          have hM := MA_sc hM hq
          have hT := TM_sc hT hq
          have hch := chg_tr hch hq
          refine Gd_goto eX8_asks_34 ?_
          exact Gd_ireturn eX8_asks_40 rfl (Nat.le_refl _) (Nat.le_refl _) ⟨a, by rw [oAsks_0 hk hpn hhu], rfl, hch⟩
        · refine Gd_aload_n (i := 0) rfl eX8_asks_27 ?_
          refine Gd_iload_n (i := 1) rfl eX8_asks_28 ?_
          refine Gd_iload_n (i := 2) rfl eX8_asks_29 ?_
          refine Gd_iload_n (i := 3) rfl eX8_asks_30 ?_
          refine Gd_callEV (g_cV (m_ask1 hW hM hI hT hTI hlt (by first | omega | decide) (by first | omega | decide) (by first | omega | decide)) ok_X8_asksOf lk_RX8_186 (W_s50 hW) ⟨_, _, rfl⟩ rfl rfl (Nat.le_of_ble_eq_true rfl) (Nat.le_of_ble_eq_true rfl) (Nat.le_refl _) (Nat.le_refl _) eX8_asks_31) (fun a hq => ?_)
          have hM := MA_sc hM hq
          have hT := TM_sc hT hq
          have hch := chg_tr hch hq
          refine Gd_goto eX8_asks_34 ?_
          exact Gd_ireturn eX8_asks_40 rfl (Nat.le_refl _) (Nat.le_refl _) ⟨a, by rw [oAsks_1 hk hpn hhu hd], rfl, hch⟩
theorem x_asks {sh : List (Nat × Nat)} {a : Nat → Nat → Int32} {r : Nat → Nat → Option Nat} {g : Nat → Nat → Int64} {φ ts cd : Nat → Nat → Nat} {nt : Nat} (hW : WD sh r) (hA : FA 1 φ a) (hI : FI φ) (hT : TX nt ts cd sh a r) (hTI : TI nt ts cd) (hlt : φ 7 2 < nt) (vw vp vd : Int32) : Mt YX7_asks 3 0 0 [vr 0, vi vw, vi vp, vi vd] (sh, a, r, g) (g_EV sh r g (vi (oAsks φ ts cd vw vp vd)) (fun a' => chg scR a a')) := by
  refine Mt_of rfl (Nat.le_of_ble_eq_true rfl) rfl ?_
  have hhu := FI_hu hI
  have hch : chg scR a a := chg_rf
  refine Gd_iload_n (i := 1) rfl eX7_asks_0 ?_
  refine Gd_iconst ki_0 eX7_asks_1 ?_
  refine Gd_iconst ki_2 eX7_asks_2 ?_
  refine Gd_callP (g_cS (x_isWithin _ _ _) ok_X7_isWithin lk_RX7_119 rfl rfl (Nat.le_of_ble_eq_true rfl) (Nat.le_of_ble_eq_true rfl) (Nat.le_refl _) (Nat.le_refl _) eX7_asks_3) ?_
  refine Gd_if_eqB eX7_asks_6 (fun c6 => ?_) (fun c6 => ?_)
  · refine Gd_sipush ks_m1000 eX7_asks_27 ?_
    exact Gd_ireturn eX7_asks_30 rfl (Nat.le_refl _) (Nat.le_refl _) ⟨a, by rw [oAsks_n (Or.inl c6)], rfl, chg_rf⟩
  · refine Gd_aload_n (i := 0) rfl eX7_asks_9 ?_
    refine Gd_iload_n (i := 2) rfl eX7_asks_10 ?_
    refine Gd_callP (g_cV (x_isHunter hW hA hI _) ok_X7_isHunter lk_RX7_140 (W_s0 hW) ⟨_, _, rfl⟩ rfl rfl (Nat.le_of_ble_eq_true rfl) (Nat.le_of_ble_eq_true rfl) (Nat.le_refl _) (Nat.le_refl _) eX7_asks_11) ?_
    refine Gd_if_eqB eX7_asks_14 (fun c14 => ?_) (fun c14 => ?_)
    · refine Gd_sipush ks_m1000 eX7_asks_27 ?_
      exact Gd_ireturn eX7_asks_30 rfl (Nat.le_refl _) (Nat.le_refl _) ⟨a, by rw [oAsks_n (Or.inr (Or.inl c14))], rfl, chg_rf⟩
    · refine Gd_iload_n (i := 3) rfl eX7_asks_17 ?_
      refine Gd_iconst ki_m1 eX7_asks_18 ?_
      refine Gd_bipush kb_9 eX7_asks_19 ?_
      refine Gd_callP (g_cS (x_isWithin _ _ _) ok_X7_isWithin lk_RX7_119 rfl rfl (Nat.le_of_ble_eq_true rfl) (Nat.le_of_ble_eq_true rfl) (Nat.le_refl _) (Nat.le_refl _) eX7_asks_21) ?_
      refine Gd_if_neB eX7_asks_24 (fun c24 => ?_) (fun c24 => ?_)
      · obtain ⟨k, _, hk, rfl⟩ := inb_r (by decide) (by decide) c6
        obtain ⟨p, hpn, rfl⟩ := inr_t c14 (by omega)
        rcases inb_m1 c24 with rfl | ⟨d, hd, rfl⟩
        · refine Gd_aload_n (i := 0) rfl eX7_asks_31 ?_
          refine Gd_getR fl_RX7_36 (W_s0 hW) (W_r0_5 hW) eX7_asks_32 ?_
          refine Gd_aload_n (i := 0) rfl eX7_asks_35 ?_
          refine Gd_getR fl_RX7_10 (W_s0 hW) (W_r0_0 hW) eX7_asks_36 ?_
          refine Gd_iload_n (i := 1) rfl eX7_asks_39 ?_
          refine Gd_iload_n (i := 2) rfl eX7_asks_40 ?_
          refine Gd_iload_n (i := 3) rfl eX7_asks_41 ?_
          refine Gd_callEV (g_cV (x_ask0 hW (W_F1 hW) (by decide) hA hI hT hTI hlt (by first | omega | decide) (by first | omega | decide)) ok_X3_says lk_RX7_143 (W_s31 hW) ⟨_, _, rfl⟩ rfl rfl (Nat.le_of_ble_eq_true rfl) (Nat.le_of_ble_eq_true rfl) (Nat.le_refl _) (Nat.le_refl _) eX7_asks_42) (fun a hq => ?_)
          have hch := chg_tr hch hq
          exact Gd_ireturn eX7_asks_45 rfl (Nat.le_refl _) (Nat.le_refl _) ⟨a, by rw [oAsks_0 hk hpn hhu], rfl, hch⟩
        · refine Gd_aload_n (i := 0) rfl eX7_asks_31 ?_
          refine Gd_getR fl_RX7_36 (W_s0 hW) (W_r0_5 hW) eX7_asks_32 ?_
          refine Gd_aload_n (i := 0) rfl eX7_asks_35 ?_
          refine Gd_getR fl_RX7_10 (W_s0 hW) (W_r0_0 hW) eX7_asks_36 ?_
          refine Gd_iload_n (i := 1) rfl eX7_asks_39 ?_
          refine Gd_iload_n (i := 2) rfl eX7_asks_40 ?_
          refine Gd_iload_n (i := 3) rfl eX7_asks_41 ?_
          refine Gd_callEV (g_cV (x_ask1 hW (W_F1 hW) (by decide) hA hI hT hTI hlt (by first | omega | decide) (by first | omega | decide) (by first | omega | decide)) ok_X3_says lk_RX7_143 (W_s31 hW) ⟨_, _, rfl⟩ rfl rfl (Nat.le_of_ble_eq_true rfl) (Nat.le_of_ble_eq_true rfl) (Nat.le_refl _) (Nat.le_refl _) eX7_asks_42) (fun a hq => ?_)
          have hch := chg_tr hch hq
          exact Gd_ireturn eX7_asks_45 rfl (Nat.le_refl _) (Nat.le_refl _) ⟨a, by rw [oAsks_1 hk hpn hhu hd], rfl, hch⟩
      · refine Gd_sipush ks_m1000 eX7_asks_27 ?_
        exact Gd_ireturn eX7_asks_30 rfl (Nat.le_refl _) (Nat.le_refl _) ⟨a, by rw [oAsks_n (Or.inr (Or.inr c24))], rfl, chg_rf⟩
