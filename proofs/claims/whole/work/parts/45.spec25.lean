theorem m_deer {sh : List (Nat × Nat)} {a : Nat → Nat → Int32} {r : Nat → Nat → Option Nat} {g : Nat → Nat → Int64} {φ : Nat → Nat → Nat} (hW : WD sh r) (hM : MA φ a) (hI : FI φ) (vd vv : Int32) : Mt YX8_deer 2 0 0 [vr 50, vi vd, vi vv] (sh, a, r, g) (g_P (some (vi (oDeer φ vd vv))) (sh, a, r, g)) := by
  refine Mt_of rfl (Nat.le_of_ble_eq_true rfl) rfl ?_
  refine Gd_iload_n (i := 1) rfl eX8_deer_0 ?_
  refine Gd_callP (g_cS (m_isDeer _) ok_X8_isDeer lk_RX8_105 rfl rfl (Nat.le_of_ble_eq_true rfl) (Nat.le_of_ble_eq_true rfl) (Nat.le_refl _) (Nat.le_refl _) eX8_deer_1) ?_
  refine Gd_if_neB eX8_deer_4 (fun c4 => ?_) (fun c4 => ?_)
  · obtain ⟨d, hd, rfl⟩ := inr_t c4 (by decide)
    have hal := FI_al hI
    rcases sw3 vv with rfl | rfl | rfl | hout
    · refine Gd_iload_n (i := 2) rfl eX8_deer_10 ?_
      refine Gd_tabIn (off := 25) (tgt := 36) eX8_deer_11 (by decide) (by decide) (by decide +kernel) (by decide) ?_
      refine Gd_aload_n (i := 0) rfl eX8_deer_36 ?_
      refine Gd_getR fl_RX8_19 (W_s50 hW) (W_r50_4 hW) eX8_deer_37 ?_
      refine Gd_iload_n (i := 1) rfl eX8_deer_40 ?_
      refine Gd_ialdE (v := nI (φ 0 d)) (W_s54 hW) (by first | omega | decide) (MA_sh hM (d := d) (by first | omega | decide) :) eX8_deer_41 ?_
      exact Gd_ireturn eX8_deer_42 rfl (Nat.le_refl _) (Nat.le_refl _) ⟨by rw [oDeer_0 hd], rfl⟩
    · refine Gd_iload_n (i := 2) rfl eX8_deer_10 ?_
      refine Gd_tabIn (off := 32) (tgt := 43) eX8_deer_11 (by decide) (by decide) (by decide +kernel) (by decide) ?_
      refine Gd_aload_n (i := 0) rfl eX8_deer_43 ?_
      refine Gd_getIe (v := nI (φ 7 0)) fl_RX8_22 (W_s50 hW) (MA_al hM :) eX8_deer_44 ?_
      refine Gd_iload_n (i := 1) rfl eX8_deer_47 ?_
      refine Gd_ishr eX8_deer_48 ?_
      refine Gd_iconst ki_1 eX8_deer_49 ?_
      refine Gd_iandB (by first | omega | decide) (by first | omega | decide) eX8_deer_50 ?_
      exact Gd_ireturn eX8_deer_51 rfl (Nat.le_refl _) (Nat.le_refl _) ⟨by rw [oDeer_1 hd], rfl⟩
    · refine Gd_iload_n (i := 2) rfl eX8_deer_10 ?_
      refine Gd_tabIn (off := 41) (tgt := 52) eX8_deer_11 (by decide) (by decide) (by decide +kernel) (by decide) ?_
      refine Gd_aload_n (i := 0) rfl eX8_deer_52 ?_
      refine Gd_iload_n (i := 1) rfl eX8_deer_53 ?_
      refine Gd_callP (g_cV (m_cardsWith hW hM hI hd) ok_X8_cardsWith lk_RX8_116 (W_s50 hW) ⟨_, _, rfl⟩ rfl rfl (Nat.le_of_ble_eq_true rfl) (Nat.le_of_ble_eq_true rfl) (Nat.le_refl _) (Nat.le_refl _) eX8_deer_54) ?_
      exact Gd_ireturn eX8_deer_57 rfl (Nat.le_refl _) (Nat.le_refl _) ⟨by rw [oDeer_2 hd], rfl⟩
    · refine Gd_iload_n (i := 2) rfl eX8_deer_10 ?_
      refine Gd_tabOut (tgt := 58) eX8_deer_11 (by assumption) (by decide) ?_
      refine Gd_bipush kb_m7 eX8_deer_58 ?_
      exact Gd_ireturn eX8_deer_60 rfl (Nat.le_refl _) (Nat.le_refl _) ⟨by rw [oDeer_o hd hout], rfl⟩
  · refine Gd_bipush kb_m5 eX8_deer_7 ?_
    exact Gd_ireturn eX8_deer_9 rfl (Nat.le_refl _) (Nat.le_refl _) ⟨by rw [oDeer, if_pos c4], rfl⟩
theorem x_deer {sh : List (Nat × Nat)} {a : Nat → Nat → Int32} {r : Nat → Nat → Option Nat} {g : Nat → Nat → Int64} {φ : Nat → Nat → Nat} (hW : WD sh r) (hA : FA 1 φ a) (hI : FI φ) (vd vv : Int32) : Mt YX7_deer 2 0 0 [vr 0, vi vd, vi vv] (sh, a, r, g) (g_P (some (vi (oDeer φ vd vv))) (sh, a, r, g)) := by
  refine Mt_of rfl (Nat.le_of_ble_eq_true rfl) rfl ?_
  refine Gd_iload_n (i := 1) rfl eX7_deer_0 ?_
  refine Gd_callP (g_cS (x_isDeer _) ok_X7_isDeer lk_RX7_115 rfl rfl (Nat.le_of_ble_eq_true rfl) (Nat.le_of_ble_eq_true rfl) (Nat.le_refl _) (Nat.le_refl _) eX7_deer_1) ?_
  refine Gd_if_neB eX7_deer_4 (fun c4 => ?_) (fun c4 => ?_)
  · obtain ⟨d, hd, rfl⟩ := inr_t c4 (by decide)
    have hal := FI_al hI
    rcases sw3 vv with rfl | rfl | rfl | hout
    · refine Gd_iload_n (i := 2) rfl eX7_deer_10 ?_
      refine Gd_tabIn (off := 25) (tgt := 36) eX7_deer_11 (by decide) (by decide) (by decide +kernel) (by decide) ?_
      refine Gd_aload_n (i := 0) rfl eX7_deer_36 ?_
      refine Gd_getR fl_RX7_10 (W_s0 hW) (W_r0_0 hW) eX7_deer_37 ?_
      refine Gd_getR fl_RX7_123 (W_s1 hW) (W_r1_0 hW) eX7_deer_40 ?_
      refine Gd_iload_n (i := 1) rfl eX7_deer_43 ?_
      refine Gd_ialdE (v := nI (φ 0 d)) (W_s2 hW) (by first | omega | decide) (FA_sh hA (d := d) hd :) eX7_deer_44 ?_
      exact Gd_ireturn eX7_deer_45 rfl (Nat.le_refl _) (Nat.le_refl _) ⟨by rw [oDeer_0 hd], rfl⟩
    · refine Gd_iload_n (i := 2) rfl eX7_deer_10 ?_
      refine Gd_tabIn (off := 35) (tgt := 46) eX7_deer_11 (by decide) (by decide) (by decide +kernel) (by decide) ?_
      refine Gd_aload_n (i := 0) rfl eX7_deer_46 ?_
      refine Gd_getR fl_RX7_10 (W_s0 hW) (W_r0_0 hW) eX7_deer_47 ?_
      refine Gd_iload_n (i := 1) rfl eX7_deer_50 ?_
      refine Gd_callP (g_cV (x_isAlive (W_F1 hW) hA hI hd) ok_X0_isAlive lk_RX7_127 (W_s1 hW) ⟨_, _, rfl⟩ rfl rfl (Nat.le_of_ble_eq_true rfl) (Nat.le_of_ble_eq_true rfl) (Nat.le_refl _) (Nat.le_refl _) eX7_deer_51) ?_
      refine Gd_if_eqB eX7_deer_54 (fun c54 => ?_) (fun c54 => ?_)
      · refine Gd_iconst ki_0 eX7_deer_61 ?_
        exact Gd_ireturn eX7_deer_62 rfl (Nat.le_refl _) (Nat.le_refl _) ⟨by rw [oDeer_1 hd, c54]; rfl, rfl⟩
      · refine Gd_iconst ki_1 eX7_deer_57 ?_
        refine Gd_goto eX7_deer_58 ?_
        exact Gd_ireturn eX7_deer_62 rfl (Nat.le_refl _) (Nat.le_refl _) ⟨by rw [oDeer_1 hd, c54]; rfl, rfl⟩
    · refine Gd_iload_n (i := 2) rfl eX7_deer_10 ?_
      refine Gd_tabIn (off := 52) (tgt := 63) eX7_deer_11 (by decide) (by decide) (by decide +kernel) (by decide) ?_
      refine Gd_aload_n (i := 0) rfl eX7_deer_63 ?_
      refine Gd_getR fl_RX7_10 (W_s0 hW) (W_r0_0 hW) eX7_deer_64 ?_
      refine Gd_iload_n (i := 1) rfl eX7_deer_67 ?_
      refine Gd_callP (g_cV (x_holders (W_F1 hW) hA hI hd) ok_X0_holders lk_RX7_134 (W_s1 hW) ⟨_, _, rfl⟩ rfl rfl (Nat.le_of_ble_eq_true rfl) (Nat.le_of_ble_eq_true rfl) (Nat.le_refl _) (Nat.le_refl _) eX7_deer_68) ?_
      exact Gd_ireturn eX7_deer_71 rfl (Nat.le_refl _) (Nat.le_refl _) ⟨by rw [oDeer_2 hd], rfl⟩
    · refine Gd_iload_n (i := 2) rfl eX7_deer_10 ?_
      refine Gd_tabOut (tgt := 72) eX7_deer_11 (by assumption) (by decide) ?_
      refine Gd_bipush kb_m7 eX7_deer_72 ?_
      exact Gd_ireturn eX7_deer_74 rfl (Nat.le_refl _) (Nat.le_refl _) ⟨by rw [oDeer_o hd hout], rfl⟩
  · refine Gd_bipush kb_m5 eX7_deer_7 ?_
    exact Gd_ireturn eX7_deer_9 rfl (Nat.le_refl _) (Nat.le_refl _) ⟨by rw [oDeer, if_pos c4], rfl⟩
