theorem m_society0_L {sh : List (Nat × Nat)} {a : Nat → Nat → Int32} {r : Nat → Nat → Option Nat} {g : Nat → Nat → Int64} {φ : Nat → Nat → Nat} (hW : WD sh r) (hM : MA φ a) (hI : FI φ) (h2 : 2 ≤ φ 7 3) {Q : Option g_V → g_H → Prop} {N0 : Nat} : ∀ (n k b : Nat), k + n = φ 7 3 → b = metS φ k → Q (some (vl (lN (lowt (metS φ (φ 7 3) / 2) (φ 7 3 * (φ 7 3 - 1) / 2) 0)))) (sh, a, r, g) → Gd YX8_society (z0 1 N0 Q) 0 0 25 [some (vr 50), some (vi (nI 0)), some (vi (nI b)), some (vi (nI k))] [] (sh, a, r, g)
  | 0, k, b, hn, hb, kq => by
    subst hb
    have hhu := FI_hu hI
    have hms := metS_le φ k
    have hmt := metS_le φ (φ 7 3)
    refine Gd_iload_n (i := 3) rfl eX8_society_25 ?_
    refine Gd_aload_n (i := 0) rfl eX8_society_26 ?_
    refine Gd_getIe (v := nI (φ 7 3)) fl_RX8_81 (W_s50 hW) (MA_hu hM :) eX8_society_27 ?_
    refine Gd_icmp_geN (by first | omega | decide) (by first | omega | decide) eX8_society_30 (fun c30 => ?_) (fun c30 => ?_)
    · obtain rfl : k = φ 7 3 := by omega
      have hmul : φ 7 3 * (φ 7 3 - 1) ≤ 30 := Nat.mul_le_mul hhu (show φ 7 3 - 1 ≤ 5 by omega)
      have hmul2 : 2 * 1 ≤ φ 7 3 * (φ 7 3 - 1) := Nat.mul_le_mul h2 (show 1 ≤ φ 7 3 - 1 by omega)
      refine Gd_iload_n (i := 2) rfl eX8_society_55 ?_
      refine Gd_iconst ki_2 eX8_society_56 ?_
      refine Gd_idivN (by first | omega | decide) (by decide) eX8_society_57 ?_
      refine Gd_i2l eX8_society_58 ?_
      rw [nI_l (by omega)]
      refine Gd_aload_n (i := 0) rfl eX8_society_59 ?_
      refine Gd_getIe (v := nI (φ 7 3)) fl_RX8_81 (W_s50 hW) (MA_hu hM :) eX8_society_60 ?_
      refine Gd_aload_n (i := 0) rfl eX8_society_63 ?_
      refine Gd_getIe (v := nI (φ 7 3)) fl_RX8_81 (W_s50 hW) (MA_hu hM :) eX8_society_64 ?_
      refine Gd_iconst ki_1 eX8_society_67 ?_
      refine Gd_isubN (by first | omega | decide) eX8_society_68 ?_
      refine Gd_imulN eX8_society_69 ?_
      refine Gd_iconst ki_2 eX8_society_70 ?_
      refine Gd_idivN (by first | omega | decide) (by decide) eX8_society_71 ?_
      refine Gd_i2l eX8_society_72 ?_
      rw [nI_l (by omega)]
      refine Gd_iload_n (i := 1) rfl eX8_society_73 ?_
      refine Gd_callP (g_cS (m_low0 (n := metS φ (φ 7 3) / 2) (d := φ 7 3 * (φ 7 3 - 1) / 2) (by omega) (by omega) (by omega)) ok_X8_lowest lk_RX8_259 rfl rfl (Nat.le_of_ble_eq_true rfl) (Nat.le_of_ble_eq_true rfl) (Nat.le_refl _) (Nat.le_refl _) eX8_society_74) ?_
      exact Gd_lreturn eX8_society_77 rfl (Nat.le_refl _) (Nat.le_refl _) kq
    · exact absurd c30 (by omega)
  | n + 1, k, b, hn, hb, kq => by
    subst hb
    have hhu := FI_hu hI
    have hms := metS_le φ k
    have hmt := metS_le φ (φ 7 3)
    refine Gd_iload_n (i := 3) rfl eX8_society_25 ?_
    refine Gd_aload_n (i := 0) rfl eX8_society_26 ?_
    refine Gd_getIe (v := nI (φ 7 3)) fl_RX8_81 (W_s50 hW) (MA_hu hM :) eX8_society_27 ?_
    refine Gd_icmp_geN (by first | omega | decide) (by first | omega | decide) eX8_society_30 (fun c30 => ?_) (fun c30 => ?_)
    · exact absurd c30 (by omega)
    · have hme := FI_me hI (p := k) (by omega)
      refine Gd_iload_n (i := 2) rfl eX8_society_33 ?_
      refine Gd_aload_n (i := 0) rfl eX8_society_34 ?_
      refine Gd_getR fl_RX8_16 (W_s50 hW) (W_r50_3 hW) eX8_society_35 ?_
      refine Gd_iconst ki_4 eX8_society_38 ?_
      refine Gd_iload_n (i := 3) rfl eX8_society_39 ?_
      refine Gd_imulN eX8_society_40 ?_
      refine Gd_iconst ki_2 eX8_society_41 ?_
      refine Gd_iaddN eX8_society_42 ?_
      refine Gd_ialdE (v := nI (φ 4 k)) (W_s53 hW) (by first | omega | decide) (MA_me hM (p := k) (by first | omega | decide) :) eX8_society_43 ?_
      refine Gd_callP (g_cS (m_bitsOf (n := φ 4 k) (by omega)) ok_X8_bitsOf lk_RX8_92 rfl rfl (Nat.le_of_ble_eq_true rfl) (Nat.le_of_ble_eq_true rfl) (Nat.le_refl _) (Nat.le_refl _) eX8_society_44) ?_
      refine Gd_iaddN eX8_society_47 ?_
      refine Gd_istore_n2 rfl eX8_society_48 ?_
      refine Gd_iinc3 (ho := rfl) (he := nI_inc _) eX8_society_49 ?_
      refine Gd_goto eX8_society_52 ?_
      exact m_society0_L hW hM hI h2 n (k + 1) _ (by omega) rfl kq
theorem m_society1_L {sh : List (Nat × Nat)} {a : Nat → Nat → Int32} {r : Nat → Nat → Option Nat} {g : Nat → Nat → Int64} {φ : Nat → Nat → Nat} (hW : WD sh r) (hM : MA φ a) (hI : FI φ) (h2 : 2 ≤ φ 7 3) {Q : Option g_V → g_H → Prop} {N0 : Nat} : ∀ (n k b : Nat), k + n = φ 7 3 → b = metS φ k → Q (some (vl (lN (lowt (metS φ (φ 7 3) / 2) (φ 7 3 * (φ 7 3 - 1) / 2) 1)))) (sh, a, r, g) → Gd YX8_society (z0 1 N0 Q) 0 0 25 [some (vr 50), some (vi (nI 1)), some (vi (nI b)), some (vi (nI k))] [] (sh, a, r, g)
  | 0, k, b, hn, hb, kq => by
    subst hb
    have hhu := FI_hu hI
    have hms := metS_le φ k
    have hmt := metS_le φ (φ 7 3)
    refine Gd_iload_n (i := 3) rfl eX8_society_25 ?_
    refine Gd_aload_n (i := 0) rfl eX8_society_26 ?_
    refine Gd_getIe (v := nI (φ 7 3)) fl_RX8_81 (W_s50 hW) (MA_hu hM :) eX8_society_27 ?_
    refine Gd_icmp_geN (by first | omega | decide) (by first | omega | decide) eX8_society_30 (fun c30 => ?_) (fun c30 => ?_)
    · obtain rfl : k = φ 7 3 := by omega
      have hmul : φ 7 3 * (φ 7 3 - 1) ≤ 30 := Nat.mul_le_mul hhu (show φ 7 3 - 1 ≤ 5 by omega)
      have hmul2 : 2 * 1 ≤ φ 7 3 * (φ 7 3 - 1) := Nat.mul_le_mul h2 (show 1 ≤ φ 7 3 - 1 by omega)
      refine Gd_iload_n (i := 2) rfl eX8_society_55 ?_
      refine Gd_iconst ki_2 eX8_society_56 ?_
      refine Gd_idivN (by first | omega | decide) (by decide) eX8_society_57 ?_
      refine Gd_i2l eX8_society_58 ?_
      rw [nI_l (by omega)]
      refine Gd_aload_n (i := 0) rfl eX8_society_59 ?_
      refine Gd_getIe (v := nI (φ 7 3)) fl_RX8_81 (W_s50 hW) (MA_hu hM :) eX8_society_60 ?_
      refine Gd_aload_n (i := 0) rfl eX8_society_63 ?_
      refine Gd_getIe (v := nI (φ 7 3)) fl_RX8_81 (W_s50 hW) (MA_hu hM :) eX8_society_64 ?_
      refine Gd_iconst ki_1 eX8_society_67 ?_
      refine Gd_isubN (by first | omega | decide) eX8_society_68 ?_
      refine Gd_imulN eX8_society_69 ?_
      refine Gd_iconst ki_2 eX8_society_70 ?_
      refine Gd_idivN (by first | omega | decide) (by decide) eX8_society_71 ?_
      refine Gd_i2l eX8_society_72 ?_
      rw [nI_l (by omega)]
      refine Gd_iload_n (i := 1) rfl eX8_society_73 ?_
      refine Gd_callP (g_cS (m_low1 (n := metS φ (φ 7 3) / 2) (d := φ 7 3 * (φ 7 3 - 1) / 2) (by omega) (by omega) (by omega)) ok_X8_lowest lk_RX8_259 rfl rfl (Nat.le_of_ble_eq_true rfl) (Nat.le_of_ble_eq_true rfl) (Nat.le_refl _) (Nat.le_refl _) eX8_society_74) ?_
      exact Gd_lreturn eX8_society_77 rfl (Nat.le_refl _) (Nat.le_refl _) kq
    · exact absurd c30 (by omega)
  | n + 1, k, b, hn, hb, kq => by
    subst hb
    have hhu := FI_hu hI
    have hms := metS_le φ k
    have hmt := metS_le φ (φ 7 3)
    refine Gd_iload_n (i := 3) rfl eX8_society_25 ?_
    refine Gd_aload_n (i := 0) rfl eX8_society_26 ?_
    refine Gd_getIe (v := nI (φ 7 3)) fl_RX8_81 (W_s50 hW) (MA_hu hM :) eX8_society_27 ?_
    refine Gd_icmp_geN (by first | omega | decide) (by first | omega | decide) eX8_society_30 (fun c30 => ?_) (fun c30 => ?_)
    · exact absurd c30 (by omega)
    · have hme := FI_me hI (p := k) (by omega)
      refine Gd_iload_n (i := 2) rfl eX8_society_33 ?_
      refine Gd_aload_n (i := 0) rfl eX8_society_34 ?_
      refine Gd_getR fl_RX8_16 (W_s50 hW) (W_r50_3 hW) eX8_society_35 ?_
      refine Gd_iconst ki_4 eX8_society_38 ?_
      refine Gd_iload_n (i := 3) rfl eX8_society_39 ?_
      refine Gd_imulN eX8_society_40 ?_
      refine Gd_iconst ki_2 eX8_society_41 ?_
      refine Gd_iaddN eX8_society_42 ?_
      refine Gd_ialdE (v := nI (φ 4 k)) (W_s53 hW) (by first | omega | decide) (MA_me hM (p := k) (by first | omega | decide) :) eX8_society_43 ?_
      refine Gd_callP (g_cS (m_bitsOf (n := φ 4 k) (by omega)) ok_X8_bitsOf lk_RX8_92 rfl rfl (Nat.le_of_ble_eq_true rfl) (Nat.le_of_ble_eq_true rfl) (Nat.le_refl _) (Nat.le_refl _) eX8_society_44) ?_
      refine Gd_iaddN eX8_society_47 ?_
      refine Gd_istore_n2 rfl eX8_society_48 ?_
      refine Gd_iinc3 (ho := rfl) (he := nI_inc _) eX8_society_49 ?_
      refine Gd_goto eX8_society_52 ?_
      exact m_society1_L hW hM hI h2 n (k + 1) _ (by omega) rfl kq
theorem m_society {sh : List (Nat × Nat)} {a : Nat → Nat → Int32} {r : Nat → Nat → Option Nat} {g : Nat → Nat → Int64} {φ : Nat → Nat → Nat} (hW : WD sh r) (hM : MA φ a) (hI : FI φ) (vw : Int32) : Mt YX8_society 1 0 0 [vr 50, vi vw] (sh, a, r, g) (g_P (some (vl (oSociety φ vw))) (sh, a, r, g)) := by
  refine Mt_of rfl (Nat.le_of_ble_eq_true rfl) rfl ?_
  have hhu := FI_hu hI
  refine Gd_iload_n (i := 1) rfl eX8_society_0 ?_
  refine Gd_iconst ki_0 eX8_society_1 ?_
  refine Gd_iconst ki_1 eX8_society_2 ?_
  refine Gd_callP (g_cS (m_in _ _ _) ok_X8_in lk_RX8_84 rfl rfl (Nat.le_of_ble_eq_true rfl) (Nat.le_of_ble_eq_true rfl) (Nat.le_refl _) (Nat.le_refl _) eX8_society_3) ?_
  refine Gd_if_eqB eX8_society_6 (fun c6 => ?_) (fun c6 => ?_)
  · refine Gd_ldc2 ct_RX8_257 eX8_society_17 ?_
    exact Gd_lreturn eX8_society_20 rfl (Nat.le_refl _) (Nat.le_refl _) ⟨by rw [oSociety_n (Or.inl c6)]; rfl, rfl⟩
  · obtain ⟨k, _, hk, rfl⟩ := inb_r (by decide) (by decide) c6
    rcases (by omega : k = 0 ∨ k = 1) with rfl | rfl
    · refine Gd_aload_n (i := 0) rfl eX8_society_9 ?_
      refine Gd_getIe (v := nI (φ 7 3)) fl_RX8_81 (W_s50 hW) (MA_hu hM :) eX8_society_10 ?_
      refine Gd_iconst ki_2 eX8_society_13 ?_
      refine Gd_icmp_geN (by first | omega | decide) (by first | omega | decide) eX8_society_14 (fun c14 => ?_) (fun c14 => ?_)
      · refine Gd_iconst ki_0 eX8_society_21 ?_
        refine Gd_istore_n2 rfl eX8_society_22 ?_
        refine Gd_iconst ki_0 eX8_society_23 ?_
        refine Gd_istore_n3 rfl eX8_society_24 ?_
        exact m_society0_L hW hM hI (by omega) (φ 7 3) 0 0 (by omega) rfl ⟨by rw [oSociety_u (by decide) (by omega)], rfl⟩
      · refine Gd_ldc2 ct_RX8_257 eX8_society_17 ?_
        exact Gd_lreturn eX8_society_20 rfl (Nat.le_refl _) (Nat.le_refl _) ⟨by rw [oSociety_n (Or.inr (by omega))]; rfl, rfl⟩
    · refine Gd_aload_n (i := 0) rfl eX8_society_9 ?_
      refine Gd_getIe (v := nI (φ 7 3)) fl_RX8_81 (W_s50 hW) (MA_hu hM :) eX8_society_10 ?_
      refine Gd_iconst ki_2 eX8_society_13 ?_
      refine Gd_icmp_geN (by first | omega | decide) (by first | omega | decide) eX8_society_14 (fun c14 => ?_) (fun c14 => ?_)
      · refine Gd_iconst ki_0 eX8_society_21 ?_
        refine Gd_istore_n2 rfl eX8_society_22 ?_
        refine Gd_iconst ki_0 eX8_society_23 ?_
        refine Gd_istore_n3 rfl eX8_society_24 ?_
        exact m_society1_L hW hM hI (by omega) (φ 7 3) 0 0 (by omega) rfl ⟨by rw [oSociety_u (by decide) (by omega)], rfl⟩
      · refine Gd_ldc2 ct_RX8_257 eX8_society_17 ?_
        exact Gd_lreturn eX8_society_20 rfl (Nat.le_refl _) (Nat.le_refl _) ⟨by rw [oSociety_n (Or.inr (by omega))]; rfl, rfl⟩
theorem x_society0_L {sh : List (Nat × Nat)} {a : Nat → Nat → Int32} {r : Nat → Nat → Option Nat} {g : Nat → Nat → Int64} {φ : Nat → Nat → Nat} (hW : WD sh r) (hA : FA 1 φ a) (hI : FI φ) (h2 : 2 ≤ φ 7 3) {Q : Option g_V → g_H → Prop} {N0 : Nat} : ∀ (n k b : Nat), k + n = φ 7 3 → b = metS φ k → Q (some (vl (lN (lowt (metS φ (φ 7 3) / 2) (φ 7 3 * (φ 7 3 - 1) / 2) 0)))) (sh, a, r, g) → Gd YX7_society (z0 1 N0 Q) 0 0 28 [some (vr 0), some (vi (nI 0)), some (vi (nI b)), some (vi (nI k))] [] (sh, a, r, g)
  | 0, k, b, hn, hb, kq => by
    subst hb
    have hhu := FI_hu hI
    have hms := metS_le φ k
    have hmt := metS_le φ (φ 7 3)
    refine Gd_iload_n (i := 3) rfl eX7_society_28 ?_
    refine Gd_aload_n (i := 0) rfl eX7_society_29 ?_
    refine Gd_getR fl_RX7_10 (W_s0 hW) (W_r0_0 hW) eX7_society_30 ?_
    refine Gd_getIe (v := nI (φ 7 3)) fl_RX7_90 (W_s1 hW) (FA_hu hA :) eX7_society_33 ?_
    refine Gd_icmp_geN (by first | omega | decide) (by first | omega | decide) eX7_society_36 (fun c36 => ?_) (fun c36 => ?_)
    · obtain rfl : k = φ 7 3 := by omega
      have hmul : φ 7 3 * (φ 7 3 - 1) ≤ 30 := Nat.mul_le_mul hhu (show φ 7 3 - 1 ≤ 5 by omega)
      have hmul2 : 2 * 1 ≤ φ 7 3 * (φ 7 3 - 1) := Nat.mul_le_mul h2 (show 1 ≤ φ 7 3 - 1 by omega)
      refine Gd_iload_n (i := 2) rfl eX7_society_60 ?_
      refine Gd_iconst ki_2 eX7_society_61 ?_
      refine Gd_idivN (by first | omega | decide) (by decide) eX7_society_62 ?_
      refine Gd_i2l eX7_society_63 ?_
      rw [nI_l (by omega)]
      refine Gd_aload_n (i := 0) rfl eX7_society_64 ?_
      refine Gd_getR fl_RX7_10 (W_s0 hW) (W_r0_0 hW) eX7_society_65 ?_
      refine Gd_getIe (v := nI (φ 7 3)) fl_RX7_90 (W_s1 hW) (FA_hu hA :) eX7_society_68 ?_
      refine Gd_aload_n (i := 0) rfl eX7_society_71 ?_
      refine Gd_getR fl_RX7_10 (W_s0 hW) (W_r0_0 hW) eX7_society_72 ?_
      refine Gd_getIe (v := nI (φ 7 3)) fl_RX7_90 (W_s1 hW) (FA_hu hA :) eX7_society_75 ?_
      refine Gd_iconst ki_1 eX7_society_78 ?_
      refine Gd_isubN (by first | omega | decide) eX7_society_79 ?_
      refine Gd_imulN eX7_society_80 ?_
      refine Gd_iconst ki_2 eX7_society_81 ?_
      refine Gd_idivN (by first | omega | decide) (by decide) eX7_society_82 ?_
      refine Gd_i2l eX7_society_83 ?_
      rw [nI_l (by omega)]
      refine Gd_iload_n (i := 1) rfl eX7_society_84 ?_
      refine Gd_callP (g_cS (x_low0 (n := metS φ (φ 7 3) / 2) (d := φ 7 3 * (φ 7 3 - 1) / 2) (by omega) (by omega) (by omega)) ok_X7_lowestTerms lk_RX7_249 rfl rfl (Nat.le_of_ble_eq_true rfl) (Nat.le_of_ble_eq_true rfl) (Nat.le_refl _) (Nat.le_refl _) eX7_society_85) ?_
      exact Gd_lreturn eX7_society_88 rfl (Nat.le_refl _) (Nat.le_refl _) kq
    · exact absurd c36 (by omega)
  | n + 1, k, b, hn, hb, kq => by
    subst hb
    have hhu := FI_hu hI
    have hms := metS_le φ k
    have hmt := metS_le φ (φ 7 3)
    refine Gd_iload_n (i := 3) rfl eX7_society_28 ?_
    refine Gd_aload_n (i := 0) rfl eX7_society_29 ?_
    refine Gd_getR fl_RX7_10 (W_s0 hW) (W_r0_0 hW) eX7_society_30 ?_
    refine Gd_getIe (v := nI (φ 7 3)) fl_RX7_90 (W_s1 hW) (FA_hu hA :) eX7_society_33 ?_
    refine Gd_icmp_geN (by first | omega | decide) (by first | omega | decide) eX7_society_36 (fun c36 => ?_) (fun c36 => ?_)
    · exact absurd c36 (by omega)
    · have hme := FI_me hI (p := k) (by omega)
      refine Gd_iload_n (i := 2) rfl eX7_society_39 ?_
      refine Gd_aload_n (i := 0) rfl eX7_society_40 ?_
      refine Gd_getR fl_RX7_10 (W_s0 hW) (W_r0_0 hW) eX7_society_41 ?_
      refine Gd_getR fl_RX7_164 (W_s1 hW) (W_r1_8 hW) eX7_society_44 ?_
      refine Gd_iload_n (i := 3) rfl eX7_society_47 ?_
      refine Gd_ialdE (v := nI (φ 4 k)) (W_s6 hW) (by first | omega | decide) (FA_me hA (p := k) (by first | omega | decide) :) eX7_society_48 ?_
      refine Gd_callP (g_cS (x_bitCount (n := φ 4 k) (by omega)) ok_J6_bitCount_0f7a4 lk_RX7_97 rfl rfl (Nat.le_of_ble_eq_true rfl) (Nat.le_of_ble_eq_true rfl) (Nat.le_refl _) (Nat.le_refl _) eX7_society_49) ?_
      refine Gd_iaddN eX7_society_52 ?_
      refine Gd_istore_n2 rfl eX7_society_53 ?_
      refine Gd_iinc3 (ho := rfl) (he := nI_inc _) eX7_society_54 ?_
      refine Gd_goto eX7_society_57 ?_
      exact x_society0_L hW hA hI h2 n (k + 1) _ (by omega) rfl kq
theorem x_society1_L {sh : List (Nat × Nat)} {a : Nat → Nat → Int32} {r : Nat → Nat → Option Nat} {g : Nat → Nat → Int64} {φ : Nat → Nat → Nat} (hW : WD sh r) (hA : FA 1 φ a) (hI : FI φ) (h2 : 2 ≤ φ 7 3) {Q : Option g_V → g_H → Prop} {N0 : Nat} : ∀ (n k b : Nat), k + n = φ 7 3 → b = metS φ k → Q (some (vl (lN (lowt (metS φ (φ 7 3) / 2) (φ 7 3 * (φ 7 3 - 1) / 2) 1)))) (sh, a, r, g) → Gd YX7_society (z0 1 N0 Q) 0 0 28 [some (vr 0), some (vi (nI 1)), some (vi (nI b)), some (vi (nI k))] [] (sh, a, r, g)
  | 0, k, b, hn, hb, kq => by
    subst hb
    have hhu := FI_hu hI
    have hms := metS_le φ k
    have hmt := metS_le φ (φ 7 3)
    refine Gd_iload_n (i := 3) rfl eX7_society_28 ?_
    refine Gd_aload_n (i := 0) rfl eX7_society_29 ?_
    refine Gd_getR fl_RX7_10 (W_s0 hW) (W_r0_0 hW) eX7_society_30 ?_
    refine Gd_getIe (v := nI (φ 7 3)) fl_RX7_90 (W_s1 hW) (FA_hu hA :) eX7_society_33 ?_
    refine Gd_icmp_geN (by first | omega | decide) (by first | omega | decide) eX7_society_36 (fun c36 => ?_) (fun c36 => ?_)
    · obtain rfl : k = φ 7 3 := by omega
      have hmul : φ 7 3 * (φ 7 3 - 1) ≤ 30 := Nat.mul_le_mul hhu (show φ 7 3 - 1 ≤ 5 by omega)
      have hmul2 : 2 * 1 ≤ φ 7 3 * (φ 7 3 - 1) := Nat.mul_le_mul h2 (show 1 ≤ φ 7 3 - 1 by omega)
      refine Gd_iload_n (i := 2) rfl eX7_society_60 ?_
      refine Gd_iconst ki_2 eX7_society_61 ?_
      refine Gd_idivN (by first | omega | decide) (by decide) eX7_society_62 ?_
      refine Gd_i2l eX7_society_63 ?_
      rw [nI_l (by omega)]
      refine Gd_aload_n (i := 0) rfl eX7_society_64 ?_
      refine Gd_getR fl_RX7_10 (W_s0 hW) (W_r0_0 hW) eX7_society_65 ?_
      refine Gd_getIe (v := nI (φ 7 3)) fl_RX7_90 (W_s1 hW) (FA_hu hA :) eX7_society_68 ?_
      refine Gd_aload_n (i := 0) rfl eX7_society_71 ?_
      refine Gd_getR fl_RX7_10 (W_s0 hW) (W_r0_0 hW) eX7_society_72 ?_
      refine Gd_getIe (v := nI (φ 7 3)) fl_RX7_90 (W_s1 hW) (FA_hu hA :) eX7_society_75 ?_
      refine Gd_iconst ki_1 eX7_society_78 ?_
      refine Gd_isubN (by first | omega | decide) eX7_society_79 ?_
      refine Gd_imulN eX7_society_80 ?_
      refine Gd_iconst ki_2 eX7_society_81 ?_
      refine Gd_idivN (by first | omega | decide) (by decide) eX7_society_82 ?_
      refine Gd_i2l eX7_society_83 ?_
      rw [nI_l (by omega)]
      refine Gd_iload_n (i := 1) rfl eX7_society_84 ?_
      refine Gd_callP (g_cS (x_low1 (n := metS φ (φ 7 3) / 2) (d := φ 7 3 * (φ 7 3 - 1) / 2) (by omega) (by omega) (by omega)) ok_X7_lowestTerms lk_RX7_249 rfl rfl (Nat.le_of_ble_eq_true rfl) (Nat.le_of_ble_eq_true rfl) (Nat.le_refl _) (Nat.le_refl _) eX7_society_85) ?_
      exact Gd_lreturn eX7_society_88 rfl (Nat.le_refl _) (Nat.le_refl _) kq
    · exact absurd c36 (by omega)
  | n + 1, k, b, hn, hb, kq => by
    subst hb
    have hhu := FI_hu hI
    have hms := metS_le φ k
    have hmt := metS_le φ (φ 7 3)
    refine Gd_iload_n (i := 3) rfl eX7_society_28 ?_
    refine Gd_aload_n (i := 0) rfl eX7_society_29 ?_
    refine Gd_getR fl_RX7_10 (W_s0 hW) (W_r0_0 hW) eX7_society_30 ?_
    refine Gd_getIe (v := nI (φ 7 3)) fl_RX7_90 (W_s1 hW) (FA_hu hA :) eX7_society_33 ?_
    refine Gd_icmp_geN (by first | omega | decide) (by first | omega | decide) eX7_society_36 (fun c36 => ?_) (fun c36 => ?_)
    · exact absurd c36 (by omega)
    · have hme := FI_me hI (p := k) (by omega)
      refine Gd_iload_n (i := 2) rfl eX7_society_39 ?_
      refine Gd_aload_n (i := 0) rfl eX7_society_40 ?_
      refine Gd_getR fl_RX7_10 (W_s0 hW) (W_r0_0 hW) eX7_society_41 ?_
      refine Gd_getR fl_RX7_164 (W_s1 hW) (W_r1_8 hW) eX7_society_44 ?_
      refine Gd_iload_n (i := 3) rfl eX7_society_47 ?_
      refine Gd_ialdE (v := nI (φ 4 k)) (W_s6 hW) (by first | omega | decide) (FA_me hA (p := k) (by first | omega | decide) :) eX7_society_48 ?_
      refine Gd_callP (g_cS (x_bitCount (n := φ 4 k) (by omega)) ok_J6_bitCount_0f7a4 lk_RX7_97 rfl rfl (Nat.le_of_ble_eq_true rfl) (Nat.le_of_ble_eq_true rfl) (Nat.le_refl _) (Nat.le_refl _) eX7_society_49) ?_
      refine Gd_iaddN eX7_society_52 ?_
      refine Gd_istore_n2 rfl eX7_society_53 ?_
      refine Gd_iinc3 (ho := rfl) (he := nI_inc _) eX7_society_54 ?_
      refine Gd_goto eX7_society_57 ?_
      exact x_society1_L hW hA hI h2 n (k + 1) _ (by omega) rfl kq
theorem x_society {sh : List (Nat × Nat)} {a : Nat → Nat → Int32} {r : Nat → Nat → Option Nat} {g : Nat → Nat → Int64} {φ : Nat → Nat → Nat} (hW : WD sh r) (hA : FA 1 φ a) (hI : FI φ) (vw : Int32) : Mt YX7_society 1 0 0 [vr 0, vi vw] (sh, a, r, g) (g_P (some (vl (oSociety φ vw))) (sh, a, r, g)) := by
  refine Mt_of rfl (Nat.le_of_ble_eq_true rfl) rfl ?_
  have hhu := FI_hu hI
  refine Gd_iload_n (i := 1) rfl eX7_society_0 ?_
  refine Gd_iconst ki_0 eX7_society_1 ?_
  refine Gd_iconst ki_1 eX7_society_2 ?_
  refine Gd_callP (g_cS (x_isWithin _ _ _) ok_X7_isWithin lk_RX7_119 rfl rfl (Nat.le_of_ble_eq_true rfl) (Nat.le_of_ble_eq_true rfl) (Nat.le_refl _) (Nat.le_refl _) eX7_society_3) ?_
  refine Gd_if_eqB eX7_society_6 (fun c6 => ?_) (fun c6 => ?_)
  · refine Gd_ldc2 ct_RX7_247 eX7_society_20 ?_
    exact Gd_lreturn eX7_society_23 rfl (Nat.le_refl _) (Nat.le_refl _) ⟨by rw [oSociety_n (Or.inl c6)]; rfl, rfl⟩
  · obtain ⟨k, _, hk, rfl⟩ := inb_r (by decide) (by decide) c6
    rcases (by omega : k = 0 ∨ k = 1) with rfl | rfl
    · refine Gd_aload_n (i := 0) rfl eX7_society_9 ?_
      refine Gd_getR fl_RX7_10 (W_s0 hW) (W_r0_0 hW) eX7_society_10 ?_
      refine Gd_getIe (v := nI (φ 7 3)) fl_RX7_90 (W_s1 hW) (FA_hu hA :) eX7_society_13 ?_
      refine Gd_iconst ki_2 eX7_society_16 ?_
      refine Gd_icmp_geN (by first | omega | decide) (by first | omega | decide) eX7_society_17 (fun c17 => ?_) (fun c17 => ?_)
      · refine Gd_iconst ki_0 eX7_society_24 ?_
        refine Gd_istore_n2 rfl eX7_society_25 ?_
        refine Gd_iconst ki_0 eX7_society_26 ?_
        refine Gd_istore_n3 rfl eX7_society_27 ?_
        exact x_society0_L hW hA hI (by omega) (φ 7 3) 0 0 (by omega) rfl ⟨by rw [oSociety_u (by decide) (by omega)], rfl⟩
      · refine Gd_ldc2 ct_RX7_247 eX7_society_20 ?_
        exact Gd_lreturn eX7_society_23 rfl (Nat.le_refl _) (Nat.le_refl _) ⟨by rw [oSociety_n (Or.inr (by omega))]; rfl, rfl⟩
    · refine Gd_aload_n (i := 0) rfl eX7_society_9 ?_
      refine Gd_getR fl_RX7_10 (W_s0 hW) (W_r0_0 hW) eX7_society_10 ?_
      refine Gd_getIe (v := nI (φ 7 3)) fl_RX7_90 (W_s1 hW) (FA_hu hA :) eX7_society_13 ?_
      refine Gd_iconst ki_2 eX7_society_16 ?_
      refine Gd_icmp_geN (by first | omega | decide) (by first | omega | decide) eX7_society_17 (fun c17 => ?_) (fun c17 => ?_)
      · refine Gd_iconst ki_0 eX7_society_24 ?_
        refine Gd_istore_n2 rfl eX7_society_25 ?_
        refine Gd_iconst ki_0 eX7_society_26 ?_
        refine Gd_istore_n3 rfl eX7_society_27 ?_
        exact x_society1_L hW hA hI (by omega) (φ 7 3) 0 0 (by omega) rfl ⟨by rw [oSociety_u (by decide) (by omega)], rfl⟩
      · refine Gd_ldc2 ct_RX7_247 eX7_society_20 ?_
        exact Gd_lreturn eX7_society_23 rfl (Nat.le_refl _) (Nat.le_refl _) ⟨by rw [oSociety_n (Or.inr (by omega))]; rfl, rfl⟩
