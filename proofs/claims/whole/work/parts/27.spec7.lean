theorem m_meets0 {sh : List (Nat × Nat)} {a : Nat → Nat → Int32} {r : Nat → Nat → Option Nat} {g : Nat → Nat → Int64} {φ : Nat → Nat → Nat} (hW : WD sh r) (hM : MA φ a) (hI : FI φ) {p q : Nat} (hp : p < 6) (hq : q < 6) (hne : p ≠ q) : Mt YX8_meets 0 0 0 [vr 50, vi (nI p), vi (nI q), vi (nI 0)] (sh, a, r, g) (g_E0 sh r g (fun a' => MA (mee0 φ p q) a' ∧ chg s53 a a')) := by
  refine Mt_of rfl (Nat.le_of_ble_eq_true rfl) rfl ?_
  have hm1 := FI_me hI hp
  have hm2 := FI_me hI hq
  refine Gd_aload_n (i := 0) rfl eX8_meets_0 ?_
  refine Gd_getR fl_RX8_16 (W_s50 hW) (W_r50_3 hW) eX8_meets_1 ?_
  refine Gd_iconst ki_4 eX8_meets_4 ?_
  refine Gd_iload_n (i := 1) rfl eX8_meets_5 ?_
  refine Gd_imulN eX8_meets_6 ?_
  refine Gd_iconst ki_2 eX8_meets_7 ?_
  refine Gd_iaddN eX8_meets_8 ?_
  refine Gd_aload_n (i := 0) rfl eX8_meets_9 ?_
  refine Gd_getR fl_RX8_16 (W_s50 hW) (W_r50_3 hW) eX8_meets_10 ?_
  refine Gd_iconst ki_4 eX8_meets_13 ?_
  refine Gd_iload_n (i := 1) rfl eX8_meets_14 ?_
  refine Gd_imulN eX8_meets_15 ?_
  refine Gd_iconst ki_2 eX8_meets_16 ?_
  refine Gd_iaddN eX8_meets_17 ?_
  refine Gd_ialdE (v := nI (φ 4 p)) (W_s53 hW) (by first | omega | decide) (MA_me hM (p := p) (by first | omega | decide) :) eX8_meets_18 ?_
  refine Gd_iconst ki_1 eX8_meets_19 ?_
  refine Gd_iload_n (i := 2) rfl eX8_meets_20 ?_
  refine Gd_ishl1 (by first | omega | decide) eX8_meets_21 ?_
  refine Gd_iconst ki_m1 eX8_meets_22 ?_
  refine Gd_ixorM eX8_meets_23 ?_
  refine Gd_iandN eX8_meets_24 ?_
  refine Gd_iload_n (i := 3) rfl eX8_meets_25 ?_
  refine Gd_iload_n (i := 2) rfl eX8_meets_26 ?_
  refine Gd_ishl eX8_meets_27 ?_
  rw [shl_0 _ (by omega)]
  refine Gd_iorN eX8_meets_28 ?_
  refine Gd_iastN (W_s53 hW) (by first | omega | decide) eX8_meets_29 ?_
  rw [Nat.or_zero]
  refine Gd_aload_n (i := 0) rfl eX8_meets_30 ?_
  refine Gd_getR fl_RX8_16 (W_s50 hW) (W_r50_3 hW) eX8_meets_31 ?_
  refine Gd_iconst ki_4 eX8_meets_34 ?_
  refine Gd_iload_n (i := 2) rfl eX8_meets_35 ?_
  refine Gd_imulN eX8_meets_36 ?_
  refine Gd_iconst ki_2 eX8_meets_37 ?_
  refine Gd_iaddN eX8_meets_38 ?_
  refine Gd_aload_n (i := 0) rfl eX8_meets_39 ?_
  refine Gd_getR fl_RX8_16 (W_s50 hW) (W_r50_3 hW) eX8_meets_40 ?_
  refine Gd_iconst ki_4 eX8_meets_43 ?_
  refine Gd_iload_n (i := 2) rfl eX8_meets_44 ?_
  refine Gd_imulN eX8_meets_45 ?_
  refine Gd_iconst ki_2 eX8_meets_46 ?_
  refine Gd_iaddN eX8_meets_47 ?_
  refine Gd_ialdE (v := nI (φ 4 q)) (W_s53 hW) (by first | omega | decide) (by rw [up2_j _ _ (by omega)]; exact MA_me hM hq) eX8_meets_48 ?_
  refine Gd_iconst ki_1 eX8_meets_49 ?_
  refine Gd_iload_n (i := 1) rfl eX8_meets_50 ?_
  refine Gd_ishl1 (by first | omega | decide) eX8_meets_51 ?_
  refine Gd_iconst ki_m1 eX8_meets_52 ?_
  refine Gd_ixorM eX8_meets_53 ?_
  refine Gd_iandN eX8_meets_54 ?_
  refine Gd_iload_n (i := 3) rfl eX8_meets_55 ?_
  refine Gd_iload_n (i := 1) rfl eX8_meets_56 ?_
  refine Gd_ishl eX8_meets_57 ?_
  rw [shl_0 _ (by omega)]
  refine Gd_iorN eX8_meets_58 ?_
  refine Gd_iastN (W_s53 hW) (by first | omega | decide) eX8_meets_59 ?_
  rw [Nat.or_zero]
  exact Gd_return eX8_meets_60 rfl (Nat.le_refl _) (Nat.le_refl _) ⟨_, rfl, rfl, MA_setme (v := clr (φ 4 q) p) (MA_setme (v := clr (φ 4 p) q) hM), chg_up (chg_up chg_rf rfl) rfl⟩
theorem m_meets1 {sh : List (Nat × Nat)} {a : Nat → Nat → Int32} {r : Nat → Nat → Option Nat} {g : Nat → Nat → Int64} {φ : Nat → Nat → Nat} (hW : WD sh r) (hM : MA φ a) (hI : FI φ) {p q : Nat} (hp : p < 6) (hq : q < 6) (hne : p ≠ q) : Mt YX8_meets 0 0 0 [vr 50, vi (nI p), vi (nI q), vi (nI 1)] (sh, a, r, g) (g_E0 sh r g (fun a' => MA (mee1 φ p q) a' ∧ chg s53 a a')) := by
  refine Mt_of rfl (Nat.le_of_ble_eq_true rfl) rfl ?_
  have hm1 := FI_me hI hp
  have hm2 := FI_me hI hq
  refine Gd_aload_n (i := 0) rfl eX8_meets_0 ?_
  refine Gd_getR fl_RX8_16 (W_s50 hW) (W_r50_3 hW) eX8_meets_1 ?_
  refine Gd_iconst ki_4 eX8_meets_4 ?_
  refine Gd_iload_n (i := 1) rfl eX8_meets_5 ?_
  refine Gd_imulN eX8_meets_6 ?_
  refine Gd_iconst ki_2 eX8_meets_7 ?_
  refine Gd_iaddN eX8_meets_8 ?_
  refine Gd_aload_n (i := 0) rfl eX8_meets_9 ?_
  refine Gd_getR fl_RX8_16 (W_s50 hW) (W_r50_3 hW) eX8_meets_10 ?_
  refine Gd_iconst ki_4 eX8_meets_13 ?_
  refine Gd_iload_n (i := 1) rfl eX8_meets_14 ?_
  refine Gd_imulN eX8_meets_15 ?_
  refine Gd_iconst ki_2 eX8_meets_16 ?_
  refine Gd_iaddN eX8_meets_17 ?_
  refine Gd_ialdE (v := nI (φ 4 p)) (W_s53 hW) (by first | omega | decide) (MA_me hM (p := p) (by first | omega | decide) :) eX8_meets_18 ?_
  refine Gd_iconst ki_1 eX8_meets_19 ?_
  refine Gd_iload_n (i := 2) rfl eX8_meets_20 ?_
  refine Gd_ishl1 (by first | omega | decide) eX8_meets_21 ?_
  refine Gd_iconst ki_m1 eX8_meets_22 ?_
  refine Gd_ixorM eX8_meets_23 ?_
  refine Gd_iandN eX8_meets_24 ?_
  refine Gd_iload_n (i := 3) rfl eX8_meets_25 ?_
  refine Gd_iload_n (i := 2) rfl eX8_meets_26 ?_
  refine Gd_ishl1 (by first | omega | decide) eX8_meets_27 ?_
  refine Gd_iorN eX8_meets_28 ?_
  refine Gd_iastN (W_s53 hW) (by first | omega | decide) eX8_meets_29 ?_
  rw [clr_or _ (by omega) _ (by omega)]
  refine Gd_aload_n (i := 0) rfl eX8_meets_30 ?_
  refine Gd_getR fl_RX8_16 (W_s50 hW) (W_r50_3 hW) eX8_meets_31 ?_
  refine Gd_iconst ki_4 eX8_meets_34 ?_
  refine Gd_iload_n (i := 2) rfl eX8_meets_35 ?_
  refine Gd_imulN eX8_meets_36 ?_
  refine Gd_iconst ki_2 eX8_meets_37 ?_
  refine Gd_iaddN eX8_meets_38 ?_
  refine Gd_aload_n (i := 0) rfl eX8_meets_39 ?_
  refine Gd_getR fl_RX8_16 (W_s50 hW) (W_r50_3 hW) eX8_meets_40 ?_
  refine Gd_iconst ki_4 eX8_meets_43 ?_
  refine Gd_iload_n (i := 2) rfl eX8_meets_44 ?_
  refine Gd_imulN eX8_meets_45 ?_
  refine Gd_iconst ki_2 eX8_meets_46 ?_
  refine Gd_iaddN eX8_meets_47 ?_
  refine Gd_ialdE (v := nI (φ 4 q)) (W_s53 hW) (by first | omega | decide) (by rw [up2_j _ _ (by omega)]; exact MA_me hM hq) eX8_meets_48 ?_
  refine Gd_iconst ki_1 eX8_meets_49 ?_
  refine Gd_iload_n (i := 1) rfl eX8_meets_50 ?_
  refine Gd_ishl1 (by first | omega | decide) eX8_meets_51 ?_
  refine Gd_iconst ki_m1 eX8_meets_52 ?_
  refine Gd_ixorM eX8_meets_53 ?_
  refine Gd_iandN eX8_meets_54 ?_
  refine Gd_iload_n (i := 3) rfl eX8_meets_55 ?_
  refine Gd_iload_n (i := 1) rfl eX8_meets_56 ?_
  refine Gd_ishl1 (by first | omega | decide) eX8_meets_57 ?_
  refine Gd_iorN eX8_meets_58 ?_
  refine Gd_iastN (W_s53 hW) (by first | omega | decide) eX8_meets_59 ?_
  rw [clr_or _ (by omega) _ (by omega)]
  exact Gd_return eX8_meets_60 rfl (Nat.le_refl _) (Nat.le_refl _) ⟨_, rfl, rfl, MA_setme (MA_setme hM), chg_up (chg_up chg_rf rfl) rfl⟩
theorem m_oneWrong {sh : List (Nat × Nat)} {a : Nat → Nat → Int32} {r : Nat → Nat → Option Nat} {g : Nat → Nat → Int64} {φ : Nat → Nat → Nat} {so sz : Nat → Nat} {cl : Nat → Nat → Int32} (hW : WD sh r) (hM : MA φ a) (hI : FI φ) (hS : MS so sz cl a) (hSI : SI so sz) (s p : Int32) : Mt YX8_oneWrong 3 0 0 [vr 50, vi s, vi p] (sh, a, r, g) (g_P (some (vi (owr so sz cl (φ 7 3) s p))) (sh, a, r, g)) := by
  refine Mt_of rfl (Nat.le_of_ble_eq_true rfl) rfl ?_
  refine Gd_aload_n (i := 0) rfl eX8_oneWrong_0 ?_
  refine Gd_iload_n (i := 1) rfl eX8_oneWrong_1 ?_
  refine Gd_callP (g_cV (m_seasonWrong hW hS hSI _) ok_X8_seasonWrong lk_RX8_238 (W_s50 hW) ⟨_, _, rfl⟩ rfl rfl (Nat.le_of_ble_eq_true rfl) (Nat.le_of_ble_eq_true rfl) (Nat.le_refl _) (Nat.le_refl _) eX8_oneWrong_2) ?_
  refine Gd_istore_n3 rfl eX8_oneWrong_5 ?_
  refine Gd_iload_n (i := 3) rfl eX8_oneWrong_6 ?_
  refine Gd_if_eq eX8_oneWrong_7 (fun c7 => ?_) (fun c7 => ?_)
  · refine Gd_aload_n (i := 0) rfl eX8_oneWrong_14 ?_
    refine Gd_iload_n (i := 2) rfl eX8_oneWrong_15 ?_
    refine Gd_callP (g_cV (m_isOne hW hM hI _) ok_X8_isOne lk_RX8_88 (W_s50 hW) ⟨_, _, rfl⟩ rfl rfl (Nat.le_of_ble_eq_true rfl) (Nat.le_of_ble_eq_true rfl) (Nat.le_refl _) (Nat.le_refl _) eX8_oneWrong_16) ?_
    refine Gd_if_eqB eX8_oneWrong_19 (fun c19 => ?_) (fun c19 => ?_)
    · refine Gd_bipush kb_m5 eX8_oneWrong_26 ?_
      exact Gd_ireturn eX8_oneWrong_28 rfl (Nat.le_refl _) (Nat.le_refl _) ⟨by rw [owr, if_pos c7, if_neg (by rw [c19]; decide)], rfl⟩
    · refine Gd_iconst ki_0 eX8_oneWrong_22 ?_
      refine Gd_goto eX8_oneWrong_23 ?_
      exact Gd_ireturn eX8_oneWrong_28 rfl (Nat.le_refl _) (Nat.le_refl _) ⟨by rw [owr, if_pos c7, if_pos c19], rfl⟩
  · refine Gd_iload_n (i := 3) rfl eX8_oneWrong_10 ?_
    refine Gd_goto eX8_oneWrong_11 ?_
    exact Gd_ireturn eX8_oneWrong_28 rfl (Nat.le_refl _) (Nat.le_refl _) ⟨by rw [owr, if_neg c7], rfl⟩
theorem m_twoWrong {sh : List (Nat × Nat)} {a : Nat → Nat → Int32} {r : Nat → Nat → Option Nat} {g : Nat → Nat → Int64} {so sz : Nat → Nat} {cl : Nat → Nat → Int32} (hW : WD sh r) (hS : MS so sz cl a) (hSI : SI so sz) (s t : Int32) : Mt YX8_twoWrong 3 0 0 [vr 50, vi s, vi t] (sh, a, r, g) (g_P (some (vi (twr so sz cl s t))) (sh, a, r, g)) := by
  refine Mt_of rfl (Nat.le_of_ble_eq_true rfl) rfl ?_
  refine Gd_iload_n (i := 2) rfl eX8_twoWrong_0 ?_
  refine Gd_iconst ki_0 eX8_twoWrong_1 ?_
  refine Gd_iconst ki_3 eX8_twoWrong_2 ?_
  refine Gd_callP (g_cS (m_in _ _ _) ok_X8_in lk_RX8_84 rfl rfl (Nat.le_of_ble_eq_true rfl) (Nat.le_of_ble_eq_true rfl) (Nat.le_refl _) (Nat.le_refl _) eX8_twoWrong_3) ?_
  refine Gd_if_neB eX8_twoWrong_6 (fun c6 => ?_) (fun c6 => ?_)
  · have h6 : inr t 4 = true := by rw [inb0 (by decide)] at c6; exact c6
    obtain ⟨j, hj, rfl⟩ := inr_t h6 (by decide)
    have hsoj := hSI.1 j hj
    have hszj := hSI.2 j hj
    refine Gd_aload_n (i := 0) rfl eX8_twoWrong_12 ?_
    refine Gd_iload_n (i := 1) rfl eX8_twoWrong_13 ?_
    refine Gd_callP (g_cV (m_seasonWrong hW hS hSI _) ok_X8_seasonWrong lk_RX8_238 (W_s50 hW) ⟨_, _, rfl⟩ rfl rfl (Nat.le_of_ble_eq_true rfl) (Nat.le_of_ble_eq_true rfl) (Nat.le_refl _) (Nat.le_refl _) eX8_twoWrong_14) ?_
    refine Gd_istore_n3 rfl eX8_twoWrong_17 ?_
    refine Gd_iload_n (i := 3) rfl eX8_twoWrong_18 ?_
    refine Gd_if_eq eX8_twoWrong_19 (fun c19 => ?_) (fun c19 => ?_)
    · obtain ⟨i, hi, rfl⟩ := swr_in c19
      have hszi := hSI.2 i hi
      refine Gd_aload_n (i := 0) rfl eX8_twoWrong_24 ?_
      refine Gd_getR fl_RX8_41 (W_s50 hW) (W_r50_16 hW) eX8_twoWrong_25 ?_
      refine Gd_iload_n (i := 2) rfl eX8_twoWrong_28 ?_
      refine Gd_ialdE (W_s60 hW) (by first | omega | decide) (hS.1 j (by first | omega | decide) :) eX8_twoWrong_29 ?_
      refine Gd_iconst ki_m1 eX8_twoWrong_30 ?_
      refine Gd_icmp_ne eX8_twoWrong_31 (fun c31 => ?_) (fun c31 => ?_)
      · refine Gd_aload_n (i := 0) rfl eX8_twoWrong_37 ?_
        refine Gd_getR fl_RX8_44 (W_s50 hW) (W_r50_17 hW) eX8_twoWrong_38 ?_
        refine Gd_iload_n (i := 2) rfl eX8_twoWrong_41 ?_
        refine Gd_ialdE (v := nI (sz j)) (W_s61 hW) (by first | omega | decide) (hS.2.1 j (by first | omega | decide) :) eX8_twoWrong_42 ?_
        refine Gd_aload_n (i := 0) rfl eX8_twoWrong_43 ?_
        refine Gd_getR fl_RX8_44 (W_s50 hW) (W_r50_17 hW) eX8_twoWrong_44 ?_
        refine Gd_iload_n (i := 1) rfl eX8_twoWrong_47 ?_
        refine Gd_ialdE (v := nI (sz i)) (W_s61 hW) (by first | omega | decide) (hS.2.1 i (by first | omega | decide) :) eX8_twoWrong_48 ?_
        refine Gd_icmp_leN (by first | omega | decide) (by first | omega | decide) eX8_twoWrong_49 (fun c49 => ?_) (fun c49 => ?_)
        · refine Gd_iconst ki_0 eX8_twoWrong_57 ?_
          exact Gd_ireturn eX8_twoWrong_58 rfl (Nat.le_refl _) (Nat.le_refl _) ⟨by rw [twr, if_neg (by rw [h6]; decide), if_pos c19, nI_clamp (by omega), nI_clamp (by omega), if_neg (fun q => c31 (by rw [q]; decide)), if_pos c49], rfl⟩
        · refine Gd_bipush kb_m2 eX8_twoWrong_52 ?_
          refine Gd_goto eX8_twoWrong_54 ?_
          exact Gd_ireturn eX8_twoWrong_58 rfl (Nat.le_refl _) (Nat.le_refl _) ⟨by rw [twr, if_neg (by rw [h6]; decide), if_pos c19, nI_clamp (by omega), nI_clamp (by omega), if_neg (fun q => c31 (by rw [q]; decide)), if_neg (by omega)], rfl⟩
      · refine Gd_bipush kb_m11 eX8_twoWrong_34 ?_
        exact Gd_ireturn eX8_twoWrong_36 rfl (Nat.le_refl _) (Nat.le_refl _) ⟨by rw [twr, if_neg (by rw [h6]; decide), if_pos c19, nI_clamp (by omega), if_pos ((nI_m1_iff (by omega)).mp c31)], rfl⟩
    · refine Gd_iload_n (i := 3) rfl eX8_twoWrong_22 ?_
      exact Gd_ireturn eX8_twoWrong_23 rfl (Nat.le_refl _) (Nat.le_refl _) ⟨by rw [twr, if_neg (by rw [h6]; decide), if_neg c19], rfl⟩
  · refine Gd_bipush kb_m2 eX8_twoWrong_9 ?_
    exact Gd_ireturn eX8_twoWrong_11 rfl (Nat.le_refl _) (Nat.le_refl _) ⟨by rw [twr, if_pos (by rw [← inb0 (by decide)]; exact c6)], rfl⟩
theorem m_toldWrong {sh : List (Nat × Nat)} {a : Nat → Nat → Int32} {r : Nat → Nat → Option Nat} {g : Nat → Nat → Int64} {φ : Nat → Nat → Nat} {so sz : Nat → Nat} {cl : Nat → Nat → Int32} (hW : WD sh r) (hM : MA φ a) (hI : FI φ) (hS : MS so sz cl a) (hSI : SI so sz) (s t p : Int32) : Mt YX8_toldWrong 4 0 0 [vr 50, vi s, vi t, vi p] (sh, a, r, g) (g_P (some (vi (tlw so sz cl (φ 7 3) s t p))) (sh, a, r, g)) := by
  refine Mt_of rfl (Nat.le_of_ble_eq_true rfl) rfl ?_
  refine Gd_aload_n (i := 0) rfl eX8_toldWrong_0 ?_
  refine Gd_iload_n (i := 1) rfl eX8_toldWrong_1 ?_
  refine Gd_iload_n (i := 2) rfl eX8_toldWrong_2 ?_
  refine Gd_callP (g_cV (m_twoWrong hW hS hSI _ _) ok_X8_twoWrong lk_RX8_263 (W_s50 hW) ⟨_, _, rfl⟩ rfl rfl (Nat.le_of_ble_eq_true rfl) (Nat.le_of_ble_eq_true rfl) (Nat.le_refl _) (Nat.le_refl _) eX8_toldWrong_3) ?_
  refine Gd_istore4 rfl eX8_toldWrong_6 ?_
  refine Gd_iload (i := 4) rfl eX8_toldWrong_8 ?_
  refine Gd_if_eq eX8_toldWrong_10 (fun c10 => ?_) (fun c10 => ?_)
  · refine Gd_aload_n (i := 0) rfl eX8_toldWrong_18 ?_
    refine Gd_iload_n (i := 3) rfl eX8_toldWrong_19 ?_
    refine Gd_callP (g_cV (m_isOne hW hM hI _) ok_X8_isOne lk_RX8_88 (W_s50 hW) ⟨_, _, rfl⟩ rfl rfl (Nat.le_of_ble_eq_true rfl) (Nat.le_of_ble_eq_true rfl) (Nat.le_refl _) (Nat.le_refl _) eX8_toldWrong_20) ?_
    refine Gd_if_eqB eX8_toldWrong_23 (fun c23 => ?_) (fun c23 => ?_)
    · refine Gd_bipush kb_m5 eX8_toldWrong_30 ?_
      exact Gd_ireturn eX8_toldWrong_32 rfl (Nat.le_refl _) (Nat.le_refl _) ⟨by rw [tlw, if_pos c10, if_neg (by rw [c23]; decide)], rfl⟩
    · refine Gd_iconst ki_0 eX8_toldWrong_26 ?_
      refine Gd_goto eX8_toldWrong_27 ?_
      exact Gd_ireturn eX8_toldWrong_32 rfl (Nat.le_refl _) (Nat.le_refl _) ⟨by rw [tlw, if_pos c10, if_pos c23], rfl⟩
  · refine Gd_iload (i := 4) rfl eX8_toldWrong_13 ?_
    refine Gd_goto eX8_toldWrong_15 ?_
    exact Gd_ireturn eX8_toldWrong_32 rfl (Nat.le_refl _) (Nat.le_refl _) ⟨by rw [tlw, if_neg c10], rfl⟩
