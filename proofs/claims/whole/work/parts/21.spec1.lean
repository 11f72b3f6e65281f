theorem m_in {h : g_H} (v lo hi : Int32) : Mt YX8_in 0 0 0 [vi v, vi lo, vi hi] h (g_P (some (vi (bI (inb v lo hi)))) h) := by
  refine Mt_of rfl (Nat.le_of_ble_eq_true rfl) rfl ?_
  refine Gd_iload_n (i := 0) rfl eX8_in_0 ?_
  refine Gd_iload_n (i := 1) rfl eX8_in_1 ?_
  refine Gd_icmp_lt eX8_in_2 (fun c2 => ?_) (fun c2 => ?_)
  · refine Gd_iconst ki_0 eX8_in_14 ?_
    exact Gd_zreturn eX8_in_15 rfl (by decide) (Nat.le_refl _) (Nat.le_refl _) ⟨by rw [inb_f1 c2]; rfl, rfl⟩
  · refine Gd_iload_n (i := 0) rfl eX8_in_5 ?_
    refine Gd_iload_n (i := 2) rfl eX8_in_6 ?_
    refine Gd_icmp_gt eX8_in_7 (fun c7 => ?_) (fun c7 => ?_)
    · refine Gd_iconst ki_0 eX8_in_14 ?_
      exact Gd_zreturn eX8_in_15 rfl (by decide) (Nat.le_refl _) (Nat.le_refl _) ⟨by rw [inb_f2 c7]; rfl, rfl⟩
    · refine Gd_iconst ki_1 eX8_in_10 ?_
      refine Gd_goto eX8_in_11 ?_
      exact Gd_zreturn eX8_in_15 rfl (by decide) (Nat.le_refl _) (Nat.le_refl _) ⟨by rw [inb_tt c2 c7]; rfl, rfl⟩
theorem x_isWithin {h : g_H} (v lo hi : Int32) : Mt YX7_isWithin 0 0 0 [vi v, vi lo, vi hi] h (g_P (some (vi (bI (inb v lo hi)))) h) := by
  refine Mt_of rfl (Nat.le_of_ble_eq_true rfl) rfl ?_
  refine Gd_iload_n (i := 0) rfl eX7_isWithin_0 ?_
  refine Gd_iload_n (i := 1) rfl eX7_isWithin_1 ?_
  refine Gd_icmp_lt eX7_isWithin_2 (fun c2 => ?_) (fun c2 => ?_)
  · refine Gd_iconst ki_0 eX7_isWithin_14 ?_
    exact Gd_zreturn eX7_isWithin_15 rfl (by decide) (Nat.le_refl _) (Nat.le_refl _) ⟨by rw [inb_f1 c2]; rfl, rfl⟩
  · refine Gd_iload_n (i := 0) rfl eX7_isWithin_5 ?_
    refine Gd_iload_n (i := 2) rfl eX7_isWithin_6 ?_
    refine Gd_icmp_gt eX7_isWithin_7 (fun c7 => ?_) (fun c7 => ?_)
    · refine Gd_iconst ki_0 eX7_isWithin_14 ?_
      exact Gd_zreturn eX7_isWithin_15 rfl (by decide) (Nat.le_refl _) (Nat.le_refl _) ⟨by rw [inb_f2 c7]; rfl, rfl⟩
    · refine Gd_iconst ki_1 eX7_isWithin_10 ?_
      refine Gd_goto eX7_isWithin_11 ?_
      exact Gd_zreturn eX7_isWithin_15 rfl (by decide) (Nat.le_refl _) (Nat.le_refl _) ⟨by rw [inb_tt c2 c7]; rfl, rfl⟩
theorem m_within {h : g_H} (v lo hi : Int32) : Mt YX8_within 0 0 0 [vi v, vi lo, vi hi] h (g_P (some (vi (wth v lo hi))) h) := by
  refine Mt_of rfl (Nat.le_of_ble_eq_true rfl) rfl ?_
  refine Gd_iload_n (i := 0) rfl eX8_within_0 ?_
  refine Gd_iload_n (i := 1) rfl eX8_within_1 ?_
  refine Gd_icmp_ge eX8_within_2 (fun c2 => ?_) (fun c2 => ?_)
  · refine Gd_iload_n (i := 0) rfl eX8_within_9 ?_
    refine Gd_iload_n (i := 2) rfl eX8_within_10 ?_
    refine Gd_icmp_le eX8_within_11 (fun c11 => ?_) (fun c11 => ?_)
    · refine Gd_iload_n (i := 0) rfl eX8_within_18 ?_
      exact Gd_ireturn eX8_within_19 rfl (Nat.le_refl _) (Nat.le_refl _) ⟨by rw [wth, if_neg (Int32.not_lt.mpr c2), if_neg (Int32.not_lt.mpr c11)], rfl⟩
    · refine Gd_iload_n (i := 2) rfl eX8_within_14 ?_
      refine Gd_goto eX8_within_15 ?_
      exact Gd_ireturn eX8_within_19 rfl (Nat.le_refl _) (Nat.le_refl _) ⟨by rw [wth, if_neg (Int32.not_lt.mpr c2), if_pos (Int32.not_le.mp c11)], rfl⟩
  · refine Gd_iload_n (i := 1) rfl eX8_within_5 ?_
    refine Gd_goto eX8_within_6 ?_
    exact Gd_ireturn eX8_within_19 rfl (Nat.le_refl _) (Nat.le_refl _) ⟨by rw [wth, if_pos (Int32.not_le.mp c2)], rfl⟩
theorem x_isDeer {h : g_H} (v : Int32) : Mt YX7_isDeer 0 0 0 [vi v] h (g_P (some (vi (bI (inr v 10)))) h) := by
  refine Mt_of rfl (Nat.le_of_ble_eq_true rfl) rfl ?_
  refine Gd_iload_n (i := 0) rfl eX7_isDeer_0 ?_
  refine Gd_if_lt eX7_isDeer_1 (fun c1 => ?_) (fun c1 => ?_)
  · refine Gd_iconst ki_0 eX7_isDeer_14 ?_
    exact Gd_zreturn eX7_isDeer_15 rfl (by decide) (Nat.le_refl _) (Nat.le_refl _) ⟨by rw [inr_lt c1]; rfl, rfl⟩
  · refine Gd_iload_n (i := 0) rfl eX7_isDeer_4 ?_
    refine Gd_bipush kb_10 eX7_isDeer_5 ?_
    refine Gd_icmp_ge eX7_isDeer_7 (fun c7 => ?_) (fun c7 => ?_)
    · refine Gd_iconst ki_0 eX7_isDeer_14 ?_
      exact Gd_zreturn eX7_isDeer_15 rfl (by decide) (Nat.le_refl _) (Nat.le_refl _) ⟨by rw [inr_ge (by decide) c7]; rfl, rfl⟩
    · refine Gd_iconst ki_1 eX7_isDeer_10 ?_
      refine Gd_goto eX7_isDeer_11 ?_
      exact Gd_zreturn eX7_isDeer_15 rfl (by decide) (Nat.le_refl _) (Nat.le_refl _) ⟨by rw [inr_ok (by decide) c1 c7]; rfl, rfl⟩
theorem x_isSheet {h : g_H} (v : Int32) : Mt YX7_isSheet 0 0 0 [vi v] h (g_P (some (vi (bI (inr v 4)))) h) := by
  refine Mt_of rfl (Nat.le_of_ble_eq_true rfl) rfl ?_
  refine Gd_iload_n (i := 0) rfl eX7_isSheet_0 ?_
  refine Gd_if_lt eX7_isSheet_1 (fun c1 => ?_) (fun c1 => ?_)
  · refine Gd_iconst ki_0 eX7_isSheet_13 ?_
    exact Gd_zreturn eX7_isSheet_14 rfl (by decide) (Nat.le_refl _) (Nat.le_refl _) ⟨by rw [inr_lt c1]; rfl, rfl⟩
  · refine Gd_iload_n (i := 0) rfl eX7_isSheet_4 ?_
    refine Gd_iconst ki_4 eX7_isSheet_5 ?_
    refine Gd_icmp_ge eX7_isSheet_6 (fun c6 => ?_) (fun c6 => ?_)
    · refine Gd_iconst ki_0 eX7_isSheet_13 ?_
      exact Gd_zreturn eX7_isSheet_14 rfl (by decide) (Nat.le_refl _) (Nat.le_refl _) ⟨by rw [inr_ge (by decide) c6]; rfl, rfl⟩
    · refine Gd_iconst ki_1 eX7_isSheet_9 ?_
      refine Gd_goto eX7_isSheet_10 ?_
      exact Gd_zreturn eX7_isSheet_14 rfl (by decide) (Nat.le_refl _) (Nat.le_refl _) ⟨by rw [inr_ok (by decide) c1 c6]; rfl, rfl⟩
theorem m_isDeer {h : g_H} (v : Int32) : Mt YX8_isDeer 1 0 0 [vi v] h (g_P (some (vi (bI (inr v 10)))) h) := by
  refine Mt_of rfl (Nat.le_of_ble_eq_true rfl) rfl ?_
  refine Gd_iload_n (i := 0) rfl eX8_isDeer_0 ?_
  refine Gd_iconst ki_0 eX8_isDeer_1 ?_
  refine Gd_bipush kb_9 eX8_isDeer_2 ?_
  refine Gd_callP (g_cS (m_in _ _ _) ok_X8_in lk_RX8_84 rfl rfl (Nat.le_of_ble_eq_true rfl) (Nat.le_of_ble_eq_true rfl) (Nat.le_refl _) (Nat.le_refl _) eX8_isDeer_4) ?_
  exact Gd_zreturn eX8_isDeer_7 rfl (bI_01 _) (Nat.le_refl _) (Nat.le_refl _) ⟨by rw [inb0 (k := 9) (by decide)], rfl⟩
theorem m_isByte {h : g_H} (v : Int32) : Mt YX8_isByte 1 0 0 [vi v] h (g_P (some (vi (bI (inr v 256)))) h) := by
  refine Mt_of rfl (Nat.le_of_ble_eq_true rfl) rfl ?_
  refine Gd_iload_n (i := 0) rfl eX8_isByte_0 ?_
  refine Gd_iconst ki_0 eX8_isByte_1 ?_
  refine Gd_sipush ks_255 eX8_isByte_2 ?_
  refine Gd_callP (g_cS (m_in _ _ _) ok_X8_in lk_RX8_84 rfl rfl (Nat.le_of_ble_eq_true rfl) (Nat.le_of_ble_eq_true rfl) (Nat.le_refl _) (Nat.le_refl _) eX8_isByte_5) ?_
  exact Gd_zreturn eX8_isByte_8 rfl (bI_01 _) (Nat.le_refl _) (Nat.le_refl _) ⟨by rw [inb0 (k := 255) (by decide)], rfl⟩
theorem m_isOne {sh : List (Nat × Nat)} {a : Nat → Nat → Int32} {r : Nat → Nat → Option Nat} {g : Nat → Nat → Int64} {φ : Nat → Nat → Nat} (hW : WD sh r) (hM : MA φ a) (hI : FI φ) (p : Int32) : Mt YX8_isOne 1 0 0 [vr 50, vi p] (sh, a, r, g) (g_P (some (vi (bI (inr p (φ 7 3))))) (sh, a, r, g)) := by
  refine Mt_of rfl (Nat.le_of_ble_eq_true rfl) rfl ?_
  refine Gd_iload_n (i := 1) rfl eX8_isOne_0 ?_
  refine Gd_iconst ki_0 eX8_isOne_1 ?_
  refine Gd_aload_n (i := 0) rfl eX8_isOne_2 ?_
  refine Gd_getIe (v := nI (φ 7 3)) fl_RX8_81 (W_s50 hW) (MA_hu hM :) eX8_isOne_3 ?_
  refine Gd_iconst ki_1 eX8_isOne_6 ?_
  refine Gd_isub eX8_isOne_7 ?_
  refine Gd_callP (g_cS (m_in _ _ _) ok_X8_in lk_RX8_84 rfl rfl (Nat.le_of_ble_eq_true rfl) (Nat.le_of_ble_eq_true rfl) (Nat.le_refl _) (Nat.le_refl _) eX8_isOne_8) ?_
  exact Gd_zreturn eX8_isOne_11 rfl (bI_01 _) (Nat.le_refl _) (Nat.le_refl _) ⟨by rw [inbN (by have := FI_hu hI; omega)], rfl⟩
theorem m_areTwo {sh : List (Nat × Nat)} {a : Nat → Nat → Int32} {r : Nat → Nat → Option Nat} {g : Nat → Nat → Int64} {φ : Nat → Nat → Nat} (hW : WD sh r) (hM : MA φ a) (hI : FI φ) (p q : Int32) : Mt YX8_areTwo 2 0 0 [vr 50, vi p, vi q] (sh, a, r, g) (g_P (some (vi (bI (inr p (φ 7 3) && inr q (φ 7 3) && !(decide (p = q)))))) (sh, a, r, g)) := by
  refine Mt_of rfl (Nat.le_of_ble_eq_true rfl) rfl ?_
  refine Gd_aload_n (i := 0) rfl eX8_areTwo_0 ?_
  refine Gd_iload_n (i := 1) rfl eX8_areTwo_1 ?_
  refine Gd_callP (g_cV (m_isOne hW hM hI _) ok_X8_isOne lk_RX8_88 (W_s50 hW) ⟨_, _, rfl⟩ rfl rfl (Nat.le_of_ble_eq_true rfl) (Nat.le_of_ble_eq_true rfl) (Nat.le_refl _) (Nat.le_refl _) eX8_areTwo_2) ?_
  refine Gd_if_eqB eX8_areTwo_5 (fun c5 => ?_) (fun c5 => ?_)
  · refine Gd_iconst ki_0 eX8_areTwo_25 ?_
    exact Gd_zreturn eX8_areTwo_26 rfl (by decide) (Nat.le_refl _) (Nat.le_refl _) ⟨by simp [*, bI], rfl⟩
  · refine Gd_aload_n (i := 0) rfl eX8_areTwo_8 ?_
    refine Gd_iload_n (i := 2) rfl eX8_areTwo_9 ?_
    refine Gd_callP (g_cV (m_isOne hW hM hI _) ok_X8_isOne lk_RX8_88 (W_s50 hW) ⟨_, _, rfl⟩ rfl rfl (Nat.le_of_ble_eq_true rfl) (Nat.le_of_ble_eq_true rfl) (Nat.le_refl _) (Nat.le_refl _) eX8_areTwo_10) ?_
    refine Gd_if_eqB eX8_areTwo_13 (fun c13 => ?_) (fun c13 => ?_)
    · refine Gd_iconst ki_0 eX8_areTwo_25 ?_
      exact Gd_zreturn eX8_areTwo_26 rfl (by decide) (Nat.le_refl _) (Nat.le_refl _) ⟨by simp [*, bI], rfl⟩
    · refine Gd_iload_n (i := 1) rfl eX8_areTwo_16 ?_
      refine Gd_iload_n (i := 2) rfl eX8_areTwo_17 ?_
      refine Gd_icmp_eq eX8_areTwo_18 (fun c18 => ?_) (fun c18 => ?_)
      · refine Gd_iconst ki_0 eX8_areTwo_25 ?_
        exact Gd_zreturn eX8_areTwo_26 rfl (by decide) (Nat.le_refl _) (Nat.le_refl _) ⟨by simp [*, bI], rfl⟩
      · refine Gd_iconst ki_1 eX8_areTwo_21 ?_
        refine Gd_goto eX8_areTwo_22 ?_
        exact Gd_zreturn eX8_areTwo_26 rfl (by decide) (Nat.le_refl _) (Nat.le_refl _) ⟨by simp [*, bI], rfl⟩
theorem m_isAlive {sh : List (Nat × Nat)} {a : Nat → Nat → Int32} {r : Nat → Nat → Option Nat} {g : Nat → Nat → Int64} {φ : Nat → Nat → Nat} (hW : WD sh r) (hM : MA φ a) (hI : FI φ) {d : Nat} (hd : d < 10) : Mt YX8_isAlive 0 0 0 [vr 50, vi (nI d)] (sh, a, r, g) (g_P (some (vi (bI ((φ 7 0).testBit d)))) (sh, a, r, g)) := by
  refine Mt_of rfl (Nat.le_of_ble_eq_true rfl) rfl ?_
  have hb := FI_al hI
  refine Gd_aload_n (i := 0) rfl eX8_isAlive_0 ?_
  refine Gd_getIe (v := nI (φ 7 0)) fl_RX8_22 (W_s50 hW) (MA_al hM :) eX8_isAlive_1 ?_
  refine Gd_iload_n (i := 1) rfl eX8_isAlive_4 ?_
  refine Gd_ishr eX8_isAlive_5 ?_
  refine Gd_iconst ki_1 eX8_isAlive_6 ?_
  refine Gd_iandB (by first | omega | decide) (by first | omega | decide) eX8_isAlive_7 ?_
  refine Gd_iconst ki_1 eX8_isAlive_8 ?_
  refine Gd_icmp_neB1 eX8_isAlive_9 (fun c9 => ?_) (fun c9 => ?_)
  · refine Gd_iconst ki_0 eX8_isAlive_16 ?_
    exact Gd_zreturn eX8_isAlive_17 rfl (by decide) (Nat.le_refl _) (Nat.le_refl _) ⟨by rw [c9]; rfl, rfl⟩
  · refine Gd_iconst ki_1 eX8_isAlive_12 ?_
    refine Gd_goto eX8_isAlive_13 ?_
    exact Gd_zreturn eX8_isAlive_17 rfl (by decide) (Nat.le_refl _) (Nat.le_refl _) ⟨by rw [c9]; rfl, rfl⟩
theorem m_isCard {sh : List (Nat × Nat)} {a : Nat → Nat → Int32} {r : Nat → Nat → Option Nat} {g : Nat → Nat → Int64} {φ : Nat → Nat → Nat} (hW : WD sh r) (hM : MA φ a) (hI : FI φ) {p d : Nat} (hp : p < 6) (hd : d < 10) : Mt YX8_isCard 0 0 0 [vr 50, vi (nI p), vi (nI d)] (sh, a, r, g) (g_P (some (vi (bI ((φ 5 p).testBit d)))) (sh, a, r, g)) := by
  refine Mt_of rfl (Nat.le_of_ble_eq_true rfl) rfl ?_
  have hb := FI_ca hI hp
  refine Gd_aload_n (i := 0) rfl eX8_isCard_0 ?_
  refine Gd_getR fl_RX8_16 (W_s50 hW) (W_r50_3 hW) eX8_isCard_1 ?_
  refine Gd_iconst ki_4 eX8_isCard_4 ?_
  refine Gd_iload_n (i := 1) rfl eX8_isCard_5 ?_
  refine Gd_imulN eX8_isCard_6 ?_
  refine Gd_iconst ki_1 eX8_isCard_7 ?_
  refine Gd_iaddN eX8_isCard_8 ?_
  refine Gd_ialdE (v := nI (φ 5 p)) (W_s53 hW) (by first | omega | decide) (MA_ca hM (p := p) (by first | omega | decide) :) eX8_isCard_9 ?_
  refine Gd_iload_n (i := 2) rfl eX8_isCard_10 ?_
  refine Gd_ishr eX8_isCard_11 ?_
  refine Gd_iconst ki_1 eX8_isCard_12 ?_
  refine Gd_iandB (by first | omega | decide) (by first | omega | decide) eX8_isCard_13 ?_
  refine Gd_iconst ki_1 eX8_isCard_14 ?_
  refine Gd_icmp_neB1 eX8_isCard_15 (fun c15 => ?_) (fun c15 => ?_)
  · refine Gd_iconst ki_0 eX8_isCard_22 ?_
    exact Gd_zreturn eX8_isCard_23 rfl (by decide) (Nat.le_refl _) (Nat.le_refl _) ⟨by rw [c15]; rfl, rfl⟩
  · refine Gd_iconst ki_1 eX8_isCard_18 ?_
    refine Gd_goto eX8_isCard_19 ?_
    exact Gd_zreturn eX8_isCard_23 rfl (by decide) (Nat.le_refl _) (Nat.le_refl _) ⟨by rw [c15]; rfl, rfl⟩
theorem m_haveMet {sh : List (Nat × Nat)} {a : Nat → Nat → Int32} {r : Nat → Nat → Option Nat} {g : Nat → Nat → Int64} {φ : Nat → Nat → Nat} (hW : WD sh r) (hM : MA φ a) (hI : FI φ) {p q : Nat} (hp : p < 6) (hq : q < 6) : Mt YX8_haveMet 0 0 0 [vr 50, vi (nI p), vi (nI q)] (sh, a, r, g) (g_P (some (vi (bI ((φ 4 p).testBit q)))) (sh, a, r, g)) := by
  refine Mt_of rfl (Nat.le_of_ble_eq_true rfl) rfl ?_
  have hb := FI_me hI hp
  refine Gd_aload_n (i := 0) rfl eX8_haveMet_0 ?_
  refine Gd_getR fl_RX8_16 (W_s50 hW) (W_r50_3 hW) eX8_haveMet_1 ?_
  refine Gd_iconst ki_4 eX8_haveMet_4 ?_
  refine Gd_iload_n (i := 1) rfl eX8_haveMet_5 ?_
  refine Gd_imulN eX8_haveMet_6 ?_
  refine Gd_iconst ki_2 eX8_haveMet_7 ?_
  refine Gd_iaddN eX8_haveMet_8 ?_
  refine Gd_ialdE (v := nI (φ 4 p)) (W_s53 hW) (by first | omega | decide) (MA_me hM (p := p) (by first | omega | decide) :) eX8_haveMet_9 ?_
  refine Gd_iload_n (i := 2) rfl eX8_haveMet_10 ?_
  refine Gd_ishr eX8_haveMet_11 ?_
  refine Gd_iconst ki_1 eX8_haveMet_12 ?_
  refine Gd_iandB (by first | omega | decide) (by first | omega | decide) eX8_haveMet_13 ?_
  refine Gd_iconst ki_1 eX8_haveMet_14 ?_
  refine Gd_icmp_neB1 eX8_haveMet_15 (fun c15 => ?_) (fun c15 => ?_)
  · refine Gd_iconst ki_0 eX8_haveMet_22 ?_
    exact Gd_zreturn eX8_haveMet_23 rfl (by decide) (Nat.le_refl _) (Nat.le_refl _) ⟨by rw [c15]; rfl, rfl⟩
  · refine Gd_iconst ki_1 eX8_haveMet_18 ?_
    refine Gd_goto eX8_haveMet_19 ?_
    exact Gd_zreturn eX8_haveMet_23 rfl (by decide) (Nat.le_refl _) (Nat.le_refl _) ⟨by rw [c15]; rfl, rfl⟩
theorem x_isAlive {sh : List (Nat × Nat)} {a : Nat → Nat → Int32} {r : Nat → Nat → Option Nat} {g : Nat → Nat → Int64} {φ : Nat → Nat → Nat} {f : Nat} (hF : isF sh r f) (hA : FA f φ a) (hI : FI φ) {d : Nat} (hd : d < 10) : Mt YX0_isAlive 0 0 0 [vr f, vi (nI d)] (sh, a, r, g) (g_P (some (vi (bI ((φ 7 0).testBit d)))) (sh, a, r, g)) := by
  refine Mt_of rfl (Nat.le_of_ble_eq_true rfl) rfl ?_
  have hb := FI_al hI
  refine Gd_aload_n (i := 0) rfl eX0_isAlive_0 ?_
  refine Gd_getIe (v := nI (φ 7 0)) fl_RX0_15 (F_s0 hF) (FA_al hA :) eX0_isAlive_1 ?_
  refine Gd_iload_n (i := 1) rfl eX0_isAlive_4 ?_
  refine Gd_ishr eX0_isAlive_5 ?_
  refine Gd_iconst ki_1 eX0_isAlive_6 ?_
  refine Gd_iandB (by first | omega | decide) (by first | omega | decide) eX0_isAlive_7 ?_
  refine Gd_if_eqB eX0_isAlive_8 (fun c8 => ?_) (fun c8 => ?_)
  · refine Gd_iconst ki_0 eX0_isAlive_15 ?_
    exact Gd_zreturn eX0_isAlive_16 rfl (by decide) (Nat.le_refl _) (Nat.le_refl _) ⟨by rw [c8]; rfl, rfl⟩
  · refine Gd_iconst ki_1 eX0_isAlive_11 ?_
    refine Gd_goto eX0_isAlive_12 ?_
    exact Gd_zreturn eX0_isAlive_16 rfl (by decide) (Nat.le_refl _) (Nat.le_refl _) ⟨by rw [c8]; rfl, rfl⟩
theorem x_hasCard {sh : List (Nat × Nat)} {a : Nat → Nat → Int32} {r : Nat → Nat → Option Nat} {g : Nat → Nat → Int64} {φ : Nat → Nat → Nat} {f : Nat} (hF : isF sh r f) (hA : FA f φ a) (hI : FI φ) {p d : Nat} (hp : p < 6) (hd : d < 10) : Mt YX0_hasCard 0 0 0 [vr f, vi (nI p), vi (nI d)] (sh, a, r, g) (g_P (some (vi (bI ((φ 5 p).testBit d)))) (sh, a, r, g)) := by
  refine Mt_of rfl (Nat.le_of_ble_eq_true rfl) rfl ?_
  have hb := FI_ca hI hp
  refine Gd_aload_n (i := 0) rfl eX0_hasCard_0 ?_
  refine Gd_getR fl_RX0_40 (F_s0 hF) (F_r9 hF) eX0_hasCard_1 ?_
  refine Gd_iload_n (i := 1) rfl eX0_hasCard_4 ?_
  refine Gd_ialdE (v := nI (φ 5 p)) (F_s6 hF) (by first | omega | decide) (FA_ca hA (p := p) (by first | omega | decide) :) eX0_hasCard_5 ?_
  refine Gd_iload_n (i := 2) rfl eX0_hasCard_6 ?_
  refine Gd_ishr eX0_hasCard_7 ?_
  refine Gd_iconst ki_1 eX0_hasCard_8 ?_
  refine Gd_iandB (by first | omega | decide) (by first | omega | decide) eX0_hasCard_9 ?_
  refine Gd_if_eqB eX0_hasCard_10 (fun c10 => ?_) (fun c10 => ?_)
  · refine Gd_iconst ki_0 eX0_hasCard_17 ?_
    exact Gd_zreturn eX0_hasCard_18 rfl (by decide) (Nat.le_refl _) (Nat.le_refl _) ⟨by rw [c10]; rfl, rfl⟩
  · refine Gd_iconst ki_1 eX0_hasCard_13 ?_
    refine Gd_goto eX0_hasCard_14 ?_
    exact Gd_zreturn eX0_hasCard_18 rfl (by decide) (Nat.le_refl _) (Nat.le_refl _) ⟨by rw [c10]; rfl, rfl⟩
theorem x_haveMet {sh : List (Nat × Nat)} {a : Nat → Nat → Int32} {r : Nat → Nat → Option Nat} {g : Nat → Nat → Int64} {φ : Nat → Nat → Nat} {f : Nat} (hF : isF sh r f) (hA : FA f φ a) (hI : FI φ) {p q : Nat} (hp : p < 6) (hq : q < 6) : Mt YX0_haveMet 0 0 0 [vr f, vi (nI p), vi (nI q)] (sh, a, r, g) (g_P (some (vi (bI ((φ 4 p).testBit q)))) (sh, a, r, g)) := by
  refine Mt_of rfl (Nat.le_of_ble_eq_true rfl) rfl ?_
  have hb := FI_me hI hp
  refine Gd_aload_n (i := 0) rfl eX0_haveMet_0 ?_
  refine Gd_getR fl_RX0_37 (F_s0 hF) (F_r8 hF) eX0_haveMet_1 ?_
  refine Gd_iload_n (i := 1) rfl eX0_haveMet_4 ?_
  refine Gd_ialdE (v := nI (φ 4 p)) (F_s5 hF) (by first | omega | decide) (FA_me hA (p := p) (by first | omega | decide) :) eX0_haveMet_5 ?_
  refine Gd_iload_n (i := 2) rfl eX0_haveMet_6 ?_
  refine Gd_ishr eX0_haveMet_7 ?_
  refine Gd_iconst ki_1 eX0_haveMet_8 ?_
  refine Gd_iandB (by first | omega | decide) (by first | omega | decide) eX0_haveMet_9 ?_
  refine Gd_if_eqB eX0_haveMet_10 (fun c10 => ?_) (fun c10 => ?_)
  · refine Gd_iconst ki_0 eX0_haveMet_17 ?_
    exact Gd_zreturn eX0_haveMet_18 rfl (by decide) (Nat.le_refl _) (Nat.le_refl _) ⟨by rw [c10]; rfl, rfl⟩
  · refine Gd_iconst ki_1 eX0_haveMet_13 ?_
    refine Gd_goto eX0_haveMet_14 ?_
    exact Gd_zreturn eX0_haveMet_18 rfl (by decide) (Nat.le_refl _) (Nat.le_refl _) ⟨by rw [c10]; rfl, rfl⟩
theorem x_isHunter {sh : List (Nat × Nat)} {a : Nat → Nat → Int32} {r : Nat → Nat → Option Nat} {g : Nat → Nat → Int64} {φ : Nat → Nat → Nat} (hW : WD sh r) (hA : FA 1 φ a) (hI : FI φ) (p : Int32) : Mt YX7_isHunter 0 0 0 [vr 0, vi p] (sh, a, r, g) (g_P (some (vi (bI (inr p (φ 7 3))))) (sh, a, r, g)) := by
  refine Mt_of rfl (Nat.le_of_ble_eq_true rfl) rfl ?_
  have hb : φ 7 3 < 2147483648 := by have := FI_hu hI; omega
  refine Gd_iload_n (i := 1) rfl eX7_isHunter_0 ?_
  refine Gd_if_lt eX7_isHunter_1 (fun c1 => ?_) (fun c1 => ?_)
  · refine Gd_iconst ki_0 eX7_isHunter_19 ?_
    exact Gd_zreturn eX7_isHunter_20 rfl (by decide) (Nat.le_refl _) (Nat.le_refl _) ⟨by rw [inr_lt c1]; rfl, rfl⟩
  · refine Gd_iload_n (i := 1) rfl eX7_isHunter_4 ?_
    refine Gd_aload_n (i := 0) rfl eX7_isHunter_5 ?_
    refine Gd_getR fl_RX7_10 (W_s0 hW) (W_r0_0 hW) eX7_isHunter_6 ?_
    refine Gd_getIe (v := nI (φ 7 3)) fl_RX7_90 (W_s1 hW) (FA_hu hA) eX7_isHunter_9 ?_
    refine Gd_icmp_ge eX7_isHunter_12 (fun c12 => ?_) (fun c12 => ?_)
    · refine Gd_iconst ki_0 eX7_isHunter_19 ?_
      exact Gd_zreturn eX7_isHunter_20 rfl (by decide) (Nat.le_refl _) (Nat.le_refl _) ⟨by rw [inr_ge hb c12]; rfl, rfl⟩
    · refine Gd_iconst ki_1 eX7_isHunter_15 ?_
      refine Gd_goto eX7_isHunter_16 ?_
      exact Gd_zreturn eX7_isHunter_20 rfl (by decide) (Nat.le_refl _) (Nat.le_refl _) ⟨by rw [inr_ok hb c1 c12]; rfl, rfl⟩
theorem m_bitsOf_L {h : g_H} {Q : Option g_V → g_H → Prop} {N0 : Nat} {n : Nat} (hn : n < 2147483648) (hq : Q (some (vi (nI (pops n 10)))) h) : ∀ (fu d : Nat), 10 < fu + d → d ≤ 10 → Gd YX8_bitsOf (z0 0 N0 Q) 0 0 4 [some (vi (nI n)), some (vi (nI (pops n d))), some (vi (nI d))] [] h
  | 0, d, h1, h2 => absurd h1 (by omega)
  | fu + 1, d, h1, h2 => by
    refine Gd_iload_n (i := 2) rfl eX8_bitsOf_4 ?_
    refine Gd_bipush kb_10 eX8_bitsOf_5 ?_
    refine Gd_icmp_geN (by first | omega | decide) (by first | omega | decide) eX8_bitsOf_7 (fun c7 => ?_) (fun c7 => ?_)
    · refine Gd_iload_n (i := 1) rfl eX8_bitsOf_24 ?_
      exact Gd_ireturn eX8_bitsOf_25 rfl (Nat.le_refl _) (Nat.le_refl _) (by have e : d = 10 := (by omega); subst e; exact hq)
    · refine Gd_iload_n (i := 1) rfl eX8_bitsOf_10 ?_
      refine Gd_iload_n (i := 0) rfl eX8_bitsOf_11 ?_
      refine Gd_iload_n (i := 2) rfl eX8_bitsOf_12 ?_
      refine Gd_ishr eX8_bitsOf_13 ?_
      refine Gd_iconst ki_1 eX8_bitsOf_14 ?_
      refine Gd_iandB (by first | omega | decide) (by first | omega | decide) eX8_bitsOf_15 ?_
      refine Gd_iaddB eX8_bitsOf_16 ?_
      refine Gd_istore_n1 rfl eX8_bitsOf_17 ?_
      refine Gd_iinc2 (ho := rfl) (he := nI_inc _) eX8_bitsOf_18 ?_
      refine Gd_goto eX8_bitsOf_21 ?_
      exact m_bitsOf_L hn hq fu (d + 1) (by omega) (by omega)
theorem m_bitsOf {h : g_H} {n : Nat} (hn : n < 2147483648) : Mt YX8_bitsOf 0 0 0 [vi (nI n)] h (g_P (some (vi (nI (pops n 10)))) h) := by
  refine Mt_of rfl (Nat.le_of_ble_eq_true rfl) rfl ?_
  refine Gd_iconst ki_0 eX8_bitsOf_0 ?_
  refine Gd_istore_n1 rfl eX8_bitsOf_1 ?_
  refine Gd_iconst ki_0 eX8_bitsOf_2 ?_
  refine Gd_istore_n2 rfl eX8_bitsOf_3 ?_
  exact m_bitsOf_L hn ⟨rfl, rfl⟩ 11 0 (by omega) (by omega)
theorem m_two {h : g_H} {c : Nat} (hc : c = 11 ∨ c = 12 ∨ c = 14 ∨ c = 15 ∨ c = 16 ∨ c = 17 ∨ c = 18) (x y : Int32) : Mt YX8_two 0 0 0 [vi (nI c), vi x, vi y] h (g_P (some (vi (two c x y))) h) := by
  rcases hc with rfl | rfl | rfl | rfl | rfl | rfl | rfl
  · refine Mt_of rfl (Nat.le_of_ble_eq_true rfl) rfl ?_
    refine Gd_iload_n (i := 0) rfl eX8_two_0 ?_
    refine Gd_tabIn (off := 43) (tgt := 44) eX8_two_1 (by decide) (by decide) (by decide +kernel) (by decide) ?_
    refine Gd_iload_n (i := 1) rfl eX8_two_44 ?_
    refine Gd_if_ne eX8_two_45 (fun c45 => ?_) (fun c45 => ?_)
    · refine Gd_iconst ki_1 eX8_two_52 ?_
      refine Gd_goto eX8_two_53 ?_
      exact Gd_ireturn eX8_two_57 rfl (Nat.le_refl _) (Nat.le_refl _) ⟨by simp [two, *], rfl⟩
    · refine Gd_iload_n (i := 2) rfl eX8_two_48 ?_
      refine Gd_if_eq eX8_two_49 (fun c49 => ?_) (fun c49 => ?_)
      · refine Gd_iconst ki_0 eX8_two_56 ?_
        exact Gd_ireturn eX8_two_57 rfl (Nat.le_refl _) (Nat.le_refl _) ⟨by simp [two, *], rfl⟩
      · refine Gd_iconst ki_1 eX8_two_52 ?_
        refine Gd_goto eX8_two_53 ?_
        exact Gd_ireturn eX8_two_57 rfl (Nat.le_refl _) (Nat.le_refl _) ⟨by simp [two, *], rfl⟩
  · refine Mt_of rfl (Nat.le_of_ble_eq_true rfl) rfl ?_
    refine Gd_iload_n (i := 0) rfl eX8_two_0 ?_
    refine Gd_tabIn (off := 57) (tgt := 58) eX8_two_1 (by decide) (by decide) (by decide +kernel) (by decide) ?_
    refine Gd_iload_n (i := 1) rfl eX8_two_58 ?_
    refine Gd_if_eq eX8_two_59 (fun c59 => ?_) (fun c59 => ?_)
    · refine Gd_iconst ki_0 eX8_two_70 ?_
      exact Gd_ireturn eX8_two_71 rfl (Nat.le_refl _) (Nat.le_refl _) ⟨by simp [two, *], rfl⟩
    · refine Gd_iload_n (i := 2) rfl eX8_two_62 ?_
      refine Gd_if_eq eX8_two_63 (fun c63 => ?_) (fun c63 => ?_)
      · refine Gd_iconst ki_0 eX8_two_70 ?_
        exact Gd_ireturn eX8_two_71 rfl (Nat.le_refl _) (Nat.le_refl _) ⟨by simp [two, *], rfl⟩
      · refine Gd_iconst ki_1 eX8_two_66 ?_
        refine Gd_goto eX8_two_67 ?_
        exact Gd_ireturn eX8_two_71 rfl (Nat.le_refl _) (Nat.le_refl _) ⟨by simp [two, *], rfl⟩
  · refine Mt_of rfl (Nat.le_of_ble_eq_true rfl) rfl ?_
    refine Gd_iload_n (i := 0) rfl eX8_two_0 ?_
    refine Gd_tabIn (off := 71) (tgt := 72) eX8_two_1 (by decide) (by decide) (by decide +kernel) (by decide) ?_
    refine Gd_iload_n (i := 1) rfl eX8_two_72 ?_
    refine Gd_iload_n (i := 2) rfl eX8_two_73 ?_
    refine Gd_icmp_ge eX8_two_74 (fun c74 => ?_) (fun c74 => ?_)
    · refine Gd_iconst ki_0 eX8_two_81 ?_
      exact Gd_ireturn eX8_two_82 rfl (Nat.le_refl _) (Nat.le_refl _) ⟨by simp [two, Int32.not_lt.mpr c74], rfl⟩
    · refine Gd_iconst ki_1 eX8_two_77 ?_
      refine Gd_goto eX8_two_78 ?_
      exact Gd_ireturn eX8_two_82 rfl (Nat.le_refl _) (Nat.le_refl _) ⟨by simp [two, Int32.not_le.mp c74], rfl⟩
  · refine Mt_of rfl (Nat.le_of_ble_eq_true rfl) rfl ?_
    refine Gd_iload_n (i := 0) rfl eX8_two_0 ?_
    refine Gd_tabIn (off := 82) (tgt := 83) eX8_two_1 (by decide) (by decide) (by decide +kernel) (by decide) ?_
    refine Gd_iload_n (i := 1) rfl eX8_two_83 ?_
    refine Gd_iload_n (i := 2) rfl eX8_two_84 ?_
    refine Gd_icmp_ne eX8_two_85 (fun c85 => ?_) (fun c85 => ?_)
    · refine Gd_iconst ki_0 eX8_two_92 ?_
      exact Gd_ireturn eX8_two_93 rfl (Nat.le_refl _) (Nat.le_refl _) ⟨by simp [two, *], rfl⟩
    · refine Gd_iconst ki_1 eX8_two_88 ?_
      refine Gd_goto eX8_two_89 ?_
      exact Gd_ireturn eX8_two_93 rfl (Nat.le_refl _) (Nat.le_refl _) ⟨by simp [two, *], rfl⟩
  · refine Mt_of rfl (Nat.le_of_ble_eq_true rfl) rfl ?_
    refine Gd_iload_n (i := 0) rfl eX8_two_0 ?_
    refine Gd_tabIn (off := 93) (tgt := 94) eX8_two_1 (by decide) (by decide) (by decide +kernel) (by decide) ?_
    refine Gd_iload_n (i := 1) rfl eX8_two_94 ?_
    refine Gd_iload_n (i := 2) rfl eX8_two_95 ?_
    refine Gd_iadd eX8_two_96 ?_
    exact Gd_ireturn eX8_two_97 rfl (Nat.le_refl _) (Nat.le_refl _) ⟨by simp [two, *], rfl⟩
  · refine Mt_of rfl (Nat.le_of_ble_eq_true rfl) rfl ?_
    refine Gd_iload_n (i := 0) rfl eX8_two_0 ?_
    refine Gd_tabIn (off := 97) (tgt := 98) eX8_two_1 (by decide) (by decide) (by decide +kernel) (by decide) ?_
    refine Gd_iload_n (i := 1) rfl eX8_two_98 ?_
    refine Gd_iload_n (i := 2) rfl eX8_two_99 ?_
    refine Gd_isub eX8_two_100 ?_
    exact Gd_ireturn eX8_two_101 rfl (Nat.le_refl _) (Nat.le_refl _) ⟨by simp [two, *], rfl⟩
  · refine Mt_of rfl (Nat.le_of_ble_eq_true rfl) rfl ?_
    refine Gd_iload_n (i := 0) rfl eX8_two_0 ?_
    refine Gd_tabOut (tgt := 102) eX8_two_1 (by decide) (by decide) ?_
    refine Gd_iload_n (i := 1) rfl eX8_two_102 ?_
    refine Gd_iload_n (i := 2) rfl eX8_two_103 ?_
    refine Gd_imul eX8_two_104 ?_
    exact Gd_ireturn eX8_two_105 rfl (Nat.le_refl _) (Nat.le_refl _) ⟨by simp [two, *], rfl⟩
def s66 (k j : Nat) : Bool := decide (k = 66)
theorem m_says_L {sh : List (Nat × Nat)} {a : Nat → Nat → Int32} {r : Nat → Nat → Option Nat} {g : Nat → Nat → Int64} {Q : Option g_V → g_H → Prop} {N0 : Nat} (hW : WD sh r) {t part f e : Nat} {c : Nat → Nat} (hr : a 50 12 = nI t) (ht : t < 6) (hp : part < 3) (h1 : a 57 (4 * t + part) = nI f) (h2 : a 57 (4 * t + part + 1) = nI e) (h3 : ∀ k, k < e → a 56 (200 * t + k) = nI (c k)) (hfe : f ≤ e ∧ e ≤ 160) (hwf : wfc c f (e - f)) (hq : ∀ a', a' 66 = rsk (a 67) c f (a 66) (e - f) → chg s66 a a' → Q (some (vi (a' 66 0))) (sh, a', r, g)) : ∀ (fu k n i : Nat) (a' : Nat → Nat → Int32) (o : Option g_V), e < fu + i → i ≤ e → i = f + k → n = dpn c f k → a' 66 = rsk (a 67) c f (a 66) k → chg s66 a a' → Gd YX8_says (z0 1 N0 Q) 0 0 16 [some (vr 50), some (vi (nI part)), some (vi (nI n)), some (vi (nI i)), o] [] (sh, a', r, g)
  | 0, k, n, i, a', o, h5, h6, hi, hn, ha, hc => absurd h5 (by omega)
  | fu + 1, k, n, i, a', o, h5, h6, hi, hn, ha, hc => by
    have hr' : a' 50 12 = nI t := (hc _ _ rfl).trans hr
    have h1' : a' 57 (4 * t + part) = nI f := (hc _ _ rfl).trans h1
    have h2' : a' 57 (4 * t + part + 1) = nI e := (hc _ _ rfl).trans h2
    have h3' : ∀ k, k < e → a' 56 (200 * t + k) = nI (c k) := fun k hk => (hc _ _ rfl).trans (h3 k hk)
    have h67 : a' 67 = a 67 := funext fun j => hc 67 j rfl
    have hdk := dpn_le c f k
    have hne : n ≤ k := by omega
    refine Gd_iload_n (i := 3) rfl eX8_says_16 ?_
    refine Gd_aload_n (i := 0) rfl eX8_says_17 ?_
    refine Gd_getR fl_RX8_32 (W_s50 hW) (W_r50_10 hW) eX8_says_18 ?_
    refine Gd_iconst ki_4 eX8_says_21 ?_
    refine Gd_aload_n (i := 0) rfl eX8_says_22 ?_
    refine Gd_getIe (v := nI (t)) fl_RX8_102 (W_s50 hW) hr' eX8_says_23 ?_
    refine Gd_imulN eX8_says_26 ?_
    refine Gd_iload_n (i := 1) rfl eX8_says_27 ?_
    refine Gd_iaddN eX8_says_28 ?_
    refine Gd_iconst ki_1 eX8_says_29 ?_
    refine Gd_iaddN eX8_says_30 ?_
    refine Gd_ialdE (v := nI (e)) (W_s57 hW) (by first | omega | decide) h2' eX8_says_31 ?_
    refine Gd_icmp_geN (by first | omega | decide) (by first | omega | decide) eX8_says_32 (fun c32 => ?_) (fun c32 => ?_)
    · refine Gd_aload_n (i := 0) rfl eX8_says_197 ?_
      refine Gd_getR fl_RX8_59 (W_s50 hW) (W_r50_29 hW) eX8_says_198 ?_
      refine Gd_iconst ki_0 eX8_says_201 ?_
      refine Gd_ialdN (W_s66 hW) (by first | omega | decide) eX8_says_202 ?_
      exact Gd_ireturn eX8_says_203 rfl (Nat.le_refl _) (Nat.le_refl _) (hq _ (by rw [ha, show e - f = k by omega]) hc)
    · refine Gd_aload_n (i := 0) rfl eX8_says_35 ?_
      refine Gd_getR fl_RX8_29 (W_s50 hW) (W_r50_9 hW) eX8_says_36 ?_
      refine Gd_sipush ks_200 eX8_says_39 ?_
      refine Gd_aload_n (i := 0) rfl eX8_says_42 ?_
      refine Gd_getIe (v := nI (t)) fl_RX8_102 (W_s50 hW) hr' eX8_says_43 ?_
      refine Gd_imulN eX8_says_46 ?_
      refine Gd_iload_n (i := 3) rfl eX8_says_47 ?_
      refine Gd_iaddN eX8_says_48 ?_
      refine Gd_ialdE (v := nI (c i)) (W_s56 hW) (by first | omega | decide) (h3' _ (by omega)) eX8_says_49 ?_
      refine Gd_istore4 rfl eX8_says_50 ?_
      obtain ⟨cc, hcc⟩ : ∃ cc, cc = c i := ⟨_, rfl⟩
      rw [← hcc]
      have hok : okc cc n := by rw [hcc, hi, hn]; exact hwf.1 k (by omega)
      obtain ⟨o1, o2, o3, o4⟩ := hok
      have e1 : dpn c f (k + 1) = dp1 cc n := by rw [dpn, hcc, hi, hn]
      have e2 : rsk (a 67) c f (a 66) (k + 1) = st1 (a 67) cc n (rsk (a 67) c f (a 66) k) := by rw [rsk, hcc, hi, hn]
      refine Gd_iload (i := 4) rfl eX8_says_52 ?_
      refine Gd_ldc (v := nI 100000) ct_RX8_162 eX8_says_54 ?_
      refine Gd_icmp_geN (by first | omega | decide) (by first | omega | decide) eX8_says_56 (fun c56 => ?_) (fun c56 => ?_)
      · refine Gd_aload_n (i := 0) rfl eX8_says_66 ?_
        refine Gd_getR fl_RX8_59 (W_s50 hW) (W_r50_29 hW) eX8_says_67 ?_
        refine Gd_iload_n (i := 2) rfl eX8_says_70 ?_
        refine Gd_iload (i := 4) rfl eX8_says_71 ?_
        refine Gd_bipush kb_11 eX8_says_73 ?_
        refine Gd_icmp_geN (by first | omega | decide) (by first | omega | decide) eX8_says_75 (fun c75 => ?_) (fun c75 => ?_)
        · refine Gd_iload (i := 4) rfl eX8_says_88 ?_
          refine Gd_ldc (v := nI 100000) ct_RX8_162 eX8_says_90 ?_
          refine Gd_isubN (by first | omega | decide) eX8_says_92 ?_
          refine Gd_iastN (W_s66 hW) (by first | omega | decide) eX8_says_93 ?_
          refine Gd_iinc2 (ho := rfl) (he := nI_inc _) eX8_says_94 ?_
          refine Gd_goto eX8_says_97 ?_
          refine Gd_iinc3 (ho := rfl) (he := nI_inc _) eX8_says_191 ?_
          refine Gd_goto eX8_says_194 ?_
          exact m_says_L hW hr ht hp h1 h2 h3 hfe hwf hq fu (k + 1) _ _ _ _ (by omega) (by omega) (by omega) (by rw [e1]; simp only [dp1]; split <;> first | rfl | omega | (split <;> first | rfl | omega)) (by rw [e2, ← ha, up2_row]; simp only [st1]; rw [if_neg (by omega), if_pos (by omega)]) (chg_up hc rfl)
        · refine Gd_aload_n (i := 0) rfl eX8_says_78 ?_
          refine Gd_getR fl_RX8_62 (W_s50 hW) (W_r50_30 hW) eX8_says_79 ?_
          refine Gd_iload (i := 4) rfl eX8_says_82 ?_
          refine Gd_ialdN (W_s67 hW) (by first | omega | decide) eX8_says_84 ?_
          refine Gd_goto eX8_says_85 ?_
          refine Gd_iastN (W_s66 hW) (by first | omega | decide) eX8_says_93 ?_
          refine Gd_iinc2 (ho := rfl) (he := nI_inc _) eX8_says_94 ?_
          refine Gd_goto eX8_says_97 ?_
          refine Gd_iinc3 (ho := rfl) (he := nI_inc _) eX8_says_191 ?_
          refine Gd_goto eX8_says_194 ?_
          exact m_says_L hW hr ht hp h1 h2 h3 hfe hwf hq fu (k + 1) _ _ _ _ (by omega) (by omega) (by omega) (by rw [e1]; simp only [dp1]; split <;> first | rfl | omega | (split <;> first | rfl | omega)) (by rw [e2, ← ha, up2_row]; simp only [st1]; rw [if_pos (by omega), h67]) (chg_up hc rfl)
      · refine Gd_iload (i := 4) rfl eX8_says_59 ?_
        refine Gd_bipush kb_11 eX8_says_61 ?_
        refine Gd_icmp_geN (by first | omega | decide) (by first | omega | decide) eX8_says_63 (fun c63 => ?_) (fun c63 => ?_)
        · refine Gd_iload (i := 4) rfl eX8_says_100 ?_
          refine Gd_bipush kb_13 eX8_says_102 ?_
          refine Gd_icmp_neN (by first | omega | decide) (by first | omega | decide) eX8_says_104 (fun c104 => ?_) (fun c104 => ?_)
          · refine Gd_iload (i := 4) rfl eX8_says_134 ?_
            refine Gd_bipush kb_19 eX8_says_136 ?_
            refine Gd_icmp_neN (by first | omega | decide) (by first | omega | decide) eX8_says_138 (fun c138 => ?_) (fun c138 => ?_)
            · refine Gd_iinc2 (ho := rfl) (he := nI_dec (by omega)) eX8_says_161 ?_
              refine Gd_aload_n (i := 0) rfl eX8_says_164 ?_
              refine Gd_getR fl_RX8_59 (W_s50 hW) (W_r50_29 hW) eX8_says_165 ?_
              refine Gd_iload_n (i := 2) rfl eX8_says_168 ?_
              refine Gd_iconst ki_1 eX8_says_169 ?_
              refine Gd_isubN (by first | omega | decide) eX8_says_170 ?_
              refine Gd_iload (i := 4) rfl eX8_says_171 ?_
              refine Gd_aload_n (i := 0) rfl eX8_says_173 ?_
              refine Gd_getR fl_RX8_59 (W_s50 hW) (W_r50_29 hW) eX8_says_174 ?_
              refine Gd_iload_n (i := 2) rfl eX8_says_177 ?_
              refine Gd_iconst ki_1 eX8_says_178 ?_
              refine Gd_isubN (by first | omega | decide) eX8_says_179 ?_
              refine Gd_ialdN (W_s66 hW) (by first | omega | decide) eX8_says_180 ?_
              refine Gd_aload_n (i := 0) rfl eX8_says_181 ?_
              refine Gd_getR fl_RX8_59 (W_s50 hW) (W_r50_29 hW) eX8_says_182 ?_
              refine Gd_iload_n (i := 2) rfl eX8_says_185 ?_
              refine Gd_ialdN (W_s66 hW) (by first | omega | decide) eX8_says_186 ?_
              refine Gd_callP (g_cS (m_two (by first | omega | decide) _ _) ok_X8_two lk_RX8_176 rfl rfl (Nat.le_of_ble_eq_true rfl) (Nat.le_of_ble_eq_true rfl) (Nat.le_refl _) (Nat.le_refl _) eX8_says_187) ?_
              refine Gd_iastN (W_s66 hW) (by first | omega | decide) eX8_says_190 ?_
              refine Gd_iinc3 (ho := rfl) (he := nI_inc _) eX8_says_191 ?_
              refine Gd_goto eX8_says_194 ?_
              exact m_says_L hW hr ht hp h1 h2 h3 hfe hwf hq fu (k + 1) _ _ _ _ (by omega) (by omega) (by omega) (by rw [e1]; simp only [dp1]; split <;> first | rfl | omega | (split <;> first | rfl | omega)) (by rw [e2, ← ha, up2_row]; simp only [st1]; rw [if_neg (by omega), if_neg (by omega), if_neg c104, if_neg c138]; rfl) (chg_up hc rfl)
            · refine Gd_aload_n (i := 0) rfl eX8_says_141 ?_
              refine Gd_getR fl_RX8_59 (W_s50 hW) (W_r50_29 hW) eX8_says_142 ?_
              refine Gd_iload_n (i := 2) rfl eX8_says_145 ?_
              refine Gd_iconst ki_1 eX8_says_146 ?_
              refine Gd_isubN (by first | omega | decide) eX8_says_147 ?_
              refine Gd_aload_n (i := 0) rfl eX8_says_148 ?_
              refine Gd_getR fl_RX8_59 (W_s50 hW) (W_r50_29 hW) eX8_says_149 ?_
              refine Gd_iload_n (i := 2) rfl eX8_says_152 ?_
              refine Gd_iconst ki_1 eX8_says_153 ?_
              refine Gd_isubN (by first | omega | decide) eX8_says_154 ?_
              refine Gd_ialdN (W_s66 hW) (by first | omega | decide) eX8_says_155 ?_
              refine Gd_ineg eX8_says_156 ?_
              refine Gd_iastN (W_s66 hW) (by first | omega | decide) eX8_says_157 ?_
              refine Gd_goto eX8_says_158 ?_
              refine Gd_iinc3 (ho := rfl) (he := nI_inc _) eX8_says_191 ?_
              refine Gd_goto eX8_says_194 ?_
              exact m_says_L hW hr ht hp h1 h2 h3 hfe hwf hq fu (k + 1) _ _ _ _ (by omega) (by omega) (by omega) (by rw [e1]; simp only [dp1]; split <;> first | rfl | omega | (split <;> first | rfl | omega)) (by rw [e2, ← ha, up2_row]; simp only [st1]; rw [if_neg (by omega), if_neg (by omega), if_neg c104, if_pos c138]) (chg_up hc rfl)
          · refine Gd_aload_n (i := 0) rfl eX8_says_107 ?_
            refine Gd_getR fl_RX8_59 (W_s50 hW) (W_r50_29 hW) eX8_says_108 ?_
            refine Gd_iload_n (i := 2) rfl eX8_says_111 ?_
            refine Gd_iconst ki_1 eX8_says_112 ?_
            refine Gd_isubN (by first | omega | decide) eX8_says_113 ?_
            refine Gd_aload_n (i := 0) rfl eX8_says_114 ?_
            refine Gd_getR fl_RX8_59 (W_s50 hW) (W_r50_29 hW) eX8_says_115 ?_
            refine Gd_iload_n (i := 2) rfl eX8_says_118 ?_
            refine Gd_iconst ki_1 eX8_says_119 ?_
            refine Gd_isubN (by first | omega | decide) eX8_says_120 ?_
            refine Gd_ialdN (W_s66 hW) (by first | omega | decide) eX8_says_121 ?_
            refine Gd_if_ne eX8_says_122 (fun c122 => ?_) (fun c122 => ?_)
            · refine Gd_iconst ki_0 eX8_says_129 ?_
              refine Gd_iastN (W_s66 hW) (by first | omega | decide) eX8_says_130 ?_
              refine Gd_goto eX8_says_131 ?_
              refine Gd_iinc3 (ho := rfl) (he := nI_inc _) eX8_says_191 ?_
              refine Gd_goto eX8_says_194 ?_
              exact m_says_L hW hr ht hp h1 h2 h3 hfe hwf hq fu (k + 1) _ _ _ _ (by omega) (by omega) (by omega) (by rw [e1]; simp only [dp1]; split <;> first | rfl | omega | (split <;> first | rfl | omega)) (by rw [e2, ← ha, up2_row]; simp only [st1]; rw [if_neg (by omega), if_neg (by omega), if_pos c104, if_neg c122]) (chg_up hc rfl)
            · refine Gd_iconst ki_1 eX8_says_125 ?_
              refine Gd_goto eX8_says_126 ?_
              refine Gd_iastN (W_s66 hW) (by first | omega | decide) eX8_says_130 ?_
              refine Gd_goto eX8_says_131 ?_
              refine Gd_iinc3 (ho := rfl) (he := nI_inc _) eX8_says_191 ?_
              refine Gd_goto eX8_says_194 ?_
              exact m_says_L hW hr ht hp h1 h2 h3 hfe hwf hq fu (k + 1) _ _ _ _ (by omega) (by omega) (by omega) (by rw [e1]; simp only [dp1]; split <;> first | rfl | omega | (split <;> first | rfl | omega)) (by rw [e2, ← ha, up2_row]; simp only [st1]; rw [if_neg (by omega), if_neg (by omega), if_pos c104, if_pos c122]) (chg_up hc rfl)
        · refine Gd_aload_n (i := 0) rfl eX8_says_66 ?_
          refine Gd_getR fl_RX8_59 (W_s50 hW) (W_r50_29 hW) eX8_says_67 ?_
          refine Gd_iload_n (i := 2) rfl eX8_says_70 ?_
          refine Gd_iload (i := 4) rfl eX8_says_71 ?_
          refine Gd_bipush kb_11 eX8_says_73 ?_
          refine Gd_icmp_geN (by first | omega | decide) (by first | omega | decide) eX8_says_75 (fun c75 => ?_) (fun c75 => ?_)
          · refine Gd_iload (i := 4) rfl eX8_says_88 ?_
            refine Gd_ldc (v := nI 100000) ct_RX8_162 eX8_says_90 ?_
            refine Gd_isubN (by first | omega | decide) eX8_says_92 ?_
            refine Gd_iastN (W_s66 hW) (by first | omega | decide) eX8_says_93 ?_
            refine Gd_iinc2 (ho := rfl) (he := nI_inc _) eX8_says_94 ?_
            refine Gd_goto eX8_says_97 ?_
            refine Gd_iinc3 (ho := rfl) (he := nI_inc _) eX8_says_191 ?_
            refine Gd_goto eX8_says_194 ?_
            exact m_says_L hW hr ht hp h1 h2 h3 hfe hwf hq fu (k + 1) _ _ _ _ (by omega) (by omega) (by omega) (by rw [e1]; simp only [dp1]; split <;> first | rfl | omega | (split <;> first | rfl | omega)) (by rw [e2, ← ha, up2_row]; simp only [st1]; rw [if_neg (by omega), if_pos (by omega)]) (chg_up hc rfl)
          · refine Gd_aload_n (i := 0) rfl eX8_says_78 ?_
            refine Gd_getR fl_RX8_62 (W_s50 hW) (W_r50_30 hW) eX8_says_79 ?_
            refine Gd_iload (i := 4) rfl eX8_says_82 ?_
            refine Gd_ialdN (W_s67 hW) (by first | omega | decide) eX8_says_84 ?_
            refine Gd_goto eX8_says_85 ?_
            refine Gd_iastN (W_s66 hW) (by first | omega | decide) eX8_says_93 ?_
            refine Gd_iinc2 (ho := rfl) (he := nI_inc _) eX8_says_94 ?_
            refine Gd_goto eX8_says_97 ?_
            refine Gd_iinc3 (ho := rfl) (he := nI_inc _) eX8_says_191 ?_
            refine Gd_goto eX8_says_194 ?_
            exact m_says_L hW hr ht hp h1 h2 h3 hfe hwf hq fu (k + 1) _ _ _ _ (by omega) (by omega) (by omega) (by rw [e1]; simp only [dp1]; split <;> first | rfl | omega | (split <;> first | rfl | omega)) (by rw [e2, ← ha, up2_row]; simp only [st1]; rw [if_pos (by omega), h67]) (chg_up hc rfl)
theorem m_says {sh : List (Nat × Nat)} {a : Nat → Nat → Int32} {r : Nat → Nat → Option Nat} {g : Nat → Nat → Int64} (hW : WD sh r) {t part f e : Nat} {c : Nat → Nat} (hr : a 50 12 = nI t) (ht : t < 6) (hp : part < 3) (h1 : a 57 (4 * t + part) = nI f) (h2 : a 57 (4 * t + part + 1) = nI e) (h3 : ∀ k, k < e → a 56 (200 * t + k) = nI (c k)) (hfe : f ≤ e ∧ e ≤ 160) (hwf : wfc c f (e - f)) : Mt YX8_says 1 0 0 [vr 50, vi (nI part)] (sh, a, r, g) (g_EV sh r g (vi (rv (a 67) c f (e - f))) (fun a' => chg s66 a a')) := by
  refine Mt_of rfl (Nat.le_of_ble_eq_true rfl) rfl ?_
  refine Gd_iconst ki_0 eX8_says_0 ?_
  refine Gd_istore_n2 rfl eX8_says_1 ?_
  refine Gd_aload_n (i := 0) rfl eX8_says_2 ?_
  refine Gd_getR fl_RX8_32 (W_s50 hW) (W_r50_10 hW) eX8_says_3 ?_
  refine Gd_iconst ki_4 eX8_says_6 ?_
  refine Gd_aload_n (i := 0) rfl eX8_says_7 ?_
  refine Gd_getIe (v := nI (t)) fl_RX8_102 (W_s50 hW) hr eX8_says_8 ?_
  refine Gd_imulN eX8_says_11 ?_
  refine Gd_iload_n (i := 1) rfl eX8_says_12 ?_
  refine Gd_iaddN eX8_says_13 ?_
  refine Gd_ialdE (v := nI (f)) (W_s57 hW) (by first | omega | decide) h1 eX8_says_14 ?_
  refine Gd_istore_n3 rfl eX8_says_15 ?_
  exact m_says_L hW hr ht hp h1 h2 h3 hfe hwf (fun a' q1 q2 => ⟨a', by rw [q1]; exact congrArg (fun z => some (vi z)) (rsk_cong hwf.1 0 (by rw [hwf.2]; decide)), rfl, q2⟩) (e - f + 1) 0 0 f a _ (by omega) (by omega) (by omega) rfl rfl chg_rf
theorem m_ask0 {sh : List (Nat × Nat)} {a : Nat → Nat → Int32} {r : Nat → Nat → Option Nat} {g : Nat → Nat → Int64} {φ ts cd : Nat → Nat → Nat} {nt : Nat} (hW : WD sh r) (hM : MA φ a) (hI : FI φ) (hT : TM nt ts cd a) (hTI : TI nt ts cd) (hlt : φ 7 2 < nt) {part p : Nat} (hp : part < 3) (hpn : p < φ 7 3) : Mt YX8_asksOf 2 0 0 [vr 50, vi (nI part), vi (nI p), vi (-1)] (sh, a, r, g) (g_EV sh r g (vi (ask φ ts cd part p 0)) (fun a' => chg scM a a')) := by
  refine Mt_of rfl (Nat.le_of_ble_eq_true rfl) rfl ?_
  obtain ⟨hq1, hq2, hq3⟩ := TI_q hTI hlt hp
  have hnt := hTI.2.1
  have hp6 : p < 6 := by have := FI_hu hI; omega
  have hb1 := FI_me hI hp6
  have hb2 := FI_ca hI hp6
  have hv : rv ((up2 (up2 (up2 (up2 (up2 (up2 a 67 0 (nI (φ 3 p))) 67 1 (nI 0)) 67 2 (nI (pops (φ 4 p) 10))) 67 3 (nI (pops (φ 5 p) 10))) 67 4 (nI (φ 7 1))) 67 5 (nI (φ 2 p))) 67) (cd (φ 7 2)) (ts (φ 7 2) part) (ts (φ 7 2) (part + 1) - ts (φ 7 2) part) = rv (nmf φ p (0)) (cd (φ 7 2)) (ts (φ 7 2) part) (ts (φ 7 2) (part + 1) - ts (φ 7 2) part) := rv_nm (fun i hi => by rcases (by omega : i = 0 ∨ i = 1 ∨ i = 2 ∨ i = 3 ∨ i = 4 ∨ i = 5) with rfl | rfl | rfl | rfl | rfl | rfl <;> rfl) ((hTI.2.2 _ hlt).2 part hp)
  have hc1 : chg scM a (up2 (up2 (up2 (up2 (up2 (up2 a 67 0 (nI (φ 3 p))) 67 1 (nI 0)) 67 2 (nI (pops (φ 4 p) 10))) 67 3 (nI (pops (φ 5 p) 10))) 67 4 (nI (φ 7 1))) 67 5 (nI (φ 2 p))) := chg_up (chg_up (chg_up (chg_up (chg_up (chg_up (chg_rf) rfl) rfl) rfl) rfl) rfl) rfl
  have fin : ∀ {a2 : Nat → Nat → Int32}, chg s66 (up2 (up2 (up2 (up2 (up2 (up2 a 67 0 (nI (φ 3 p))) 67 1 (nI 0)) 67 2 (nI (pops (φ 4 p) 10))) 67 3 (nI (pops (φ 5 p) 10))) 67 4 (nI (φ 7 1))) 67 5 (nI (φ 2 p))) a2 → chg scM a a2 := fun q => chg_tr hc1 (chg_mono q (fun k j hk => by cases e : decide (k = 66) with | false => exact e | true => have e1 : k = 66 := of_decide_eq_true e; subst e1; cases hk))
  refine Gd_aload_n (i := 0) rfl eX8_asksOf_0 ?_
  refine Gd_getR fl_RX8_62 (W_s50 hW) (W_r50_30 hW) eX8_asksOf_1 ?_
  refine Gd_iconst ki_0 eX8_asksOf_4 ?_
  refine Gd_aload_n (i := 0) rfl eX8_asksOf_5 ?_
  refine Gd_getR fl_RX8_16 (W_s50 hW) (W_r50_3 hW) eX8_asksOf_6 ?_
  refine Gd_iconst ki_4 eX8_asksOf_9 ?_
  refine Gd_iload_n (i := 2) rfl eX8_asksOf_10 ?_
  refine Gd_imulN eX8_asksOf_11 ?_
  refine Gd_ialdE (v := nI (φ 3 p)) (W_s53 hW) (by first | omega | decide) (MA_ho hM (p := p) (by first | omega | decide) :) eX8_asksOf_12 ?_
  refine Gd_iastN (W_s67 hW) (by first | omega | decide) eX8_asksOf_13 ?_
  refine Gd_aload_n (i := 0) rfl eX8_asksOf_14 ?_
  refine Gd_getR fl_RX8_62 (W_s50 hW) (W_r50_30 hW) eX8_asksOf_15 ?_
  refine Gd_iconst ki_1 eX8_asksOf_18 ?_
  refine Gd_iconst ki_0 eX8_asksOf_19 ?_
  refine Gd_iastN (W_s67 hW) (by first | omega | decide) eX8_asksOf_20 ?_
  refine Gd_iload_n (i := 3) rfl eX8_asksOf_21 ?_
  refine Gd_iconst ki_m1 eX8_asksOf_22 ?_
  refine Gd_icmp_eq eX8_asksOf_23 (fun _ => ?_) (fun q => by first | exact absurd q (by decide) | exact absurd (by decide) q)
  refine Gd_aload_n (i := 0) rfl eX8_asksOf_38 ?_
  refine Gd_getR fl_RX8_62 (W_s50 hW) (W_r50_30 hW) eX8_asksOf_39 ?_
  refine Gd_iconst ki_2 eX8_asksOf_42 ?_
  refine Gd_aload_n (i := 0) rfl eX8_asksOf_43 ?_
  refine Gd_getR fl_RX8_16 (W_s50 hW) (W_r50_3 hW) eX8_asksOf_44 ?_
  refine Gd_iconst ki_4 eX8_asksOf_47 ?_
  refine Gd_iload_n (i := 2) rfl eX8_asksOf_48 ?_
  refine Gd_imulN eX8_asksOf_49 ?_
  refine Gd_iconst ki_2 eX8_asksOf_50 ?_
  refine Gd_iaddN eX8_asksOf_51 ?_
  refine Gd_ialdE (v := nI (φ 4 p)) (W_s53 hW) (by first | omega | decide) (MA_me hM (p := p) (by first | omega | decide) :) eX8_asksOf_52 ?_
  refine Gd_callP (g_cS (m_bitsOf (by first | omega | decide)) ok_X8_bitsOf lk_RX8_92 rfl rfl (Nat.le_of_ble_eq_true rfl) (Nat.le_of_ble_eq_true rfl) (Nat.le_refl _) (Nat.le_refl _) eX8_asksOf_53) ?_
  refine Gd_iastN (W_s67 hW) (by first | omega | decide) eX8_asksOf_56 ?_
  refine Gd_aload_n (i := 0) rfl eX8_asksOf_57 ?_
  refine Gd_getR fl_RX8_62 (W_s50 hW) (W_r50_30 hW) eX8_asksOf_58 ?_
  refine Gd_iconst ki_3 eX8_asksOf_61 ?_
  refine Gd_aload_n (i := 0) rfl eX8_asksOf_62 ?_
  refine Gd_getR fl_RX8_16 (W_s50 hW) (W_r50_3 hW) eX8_asksOf_63 ?_
  refine Gd_iconst ki_4 eX8_asksOf_66 ?_
  refine Gd_iload_n (i := 2) rfl eX8_asksOf_67 ?_
  refine Gd_imulN eX8_asksOf_68 ?_
  refine Gd_iconst ki_1 eX8_asksOf_69 ?_
  refine Gd_iaddN eX8_asksOf_70 ?_
  refine Gd_ialdE (v := nI (φ 5 p)) (W_s53 hW) (by first | omega | decide) (MA_ca hM (p := p) (by first | omega | decide) :) eX8_asksOf_71 ?_
  refine Gd_callP (g_cS (m_bitsOf (by first | omega | decide)) ok_X8_bitsOf lk_RX8_92 rfl rfl (Nat.le_of_ble_eq_true rfl) (Nat.le_of_ble_eq_true rfl) (Nat.le_refl _) (Nat.le_refl _) eX8_asksOf_72) ?_
  refine Gd_iastN (W_s67 hW) (by first | omega | decide) eX8_asksOf_75 ?_
  refine Gd_aload_n (i := 0) rfl eX8_asksOf_76 ?_
  refine Gd_getR fl_RX8_62 (W_s50 hW) (W_r50_30 hW) eX8_asksOf_77 ?_
  refine Gd_iconst ki_4 eX8_asksOf_80 ?_
  refine Gd_aload_n (i := 0) rfl eX8_asksOf_81 ?_
  refine Gd_getIe (v := nI (φ 7 1)) fl_RX8_96 (W_s50 hW) (MA_da hM :) eX8_asksOf_82 ?_
  refine Gd_iastN (W_s67 hW) (by first | omega | decide) eX8_asksOf_85 ?_
  refine Gd_aload_n (i := 0) rfl eX8_asksOf_86 ?_
  refine Gd_getR fl_RX8_62 (W_s50 hW) (W_r50_30 hW) eX8_asksOf_87 ?_
  refine Gd_iconst ki_5 eX8_asksOf_90 ?_
  refine Gd_aload_n (i := 0) rfl eX8_asksOf_91 ?_
  refine Gd_getR fl_RX8_13 (W_s50 hW) (W_r50_2 hW) eX8_asksOf_92 ?_
  refine Gd_iload_n (i := 2) rfl eX8_asksOf_95 ?_
  refine Gd_ialdE (v := nI (φ 2 p)) (W_s52 hW) (by first | omega | decide) (MA_mo hM (p := p) (by first | omega | decide) :) eX8_asksOf_96 ?_
  refine Gd_iastN (W_s67 hW) (by first | omega | decide) eX8_asksOf_97 ?_
  refine Gd_aload_n (i := 0) rfl eX8_asksOf_98 ?_
  refine Gd_iload_n (i := 1) rfl eX8_asksOf_99 ?_
  refine Gd_callEV (g_cV (m_says hW (t := φ 7 2) (part := part) (f := ts (φ 7 2) part) (e := ts (φ 7 2) (part + 1)) (c := cd (φ 7 2)) (MA_la hM) (by omega) hp (hT.2.1 _ hlt _ (by omega)) (hT.2.1 _ hlt (part + 1) (by omega)) (fun k hk => hT.2.2 _ hlt k (by omega)) ⟨hq1, hq3⟩ ((hTI.2.2 _ hlt).2 part hp)) ok_X8_says lk_RX8_180 (W_s50 hW) ⟨_, _, rfl⟩ rfl rfl (Nat.le_of_ble_eq_true rfl) (Nat.le_of_ble_eq_true rfl) (Nat.le_refl _) (Nat.le_refl _) eX8_asksOf_100) (fun a2 hq => ?_)
  refine Gd_istore4 rfl eX8_asksOf_103 ?_
  refine Gd_iload_n (i := 1) rfl eX8_asksOf_105 ?_
  refine Gd_iconst ki_2 eX8_asksOf_106 ?_
  refine Gd_icmp_neN (by first | omega | decide) (by first | omega | decide) eX8_asksOf_107 (fun c107 => ?_) (fun c107 => ?_)
  · refine Gd_iload (i := 4) rfl eX8_asksOf_123 ?_
    refine Gd_bipush kb_m99 eX8_asksOf_125 ?_
    refine Gd_bipush kb_99 eX8_asksOf_127 ?_
    refine Gd_callP (g_cS (m_within _ _ _) ok_X8_within lk_RX8_183 rfl rfl (Nat.le_of_ble_eq_true rfl) (Nat.le_of_ble_eq_true rfl) (Nat.le_refl _) (Nat.le_refl _) eX8_asksOf_129) ?_
    exact Gd_ireturn eX8_asksOf_132 rfl (Nat.le_refl _) (Nat.le_refl _) ⟨a2, by rw [ask, ask3, if_neg c107, ← hv], rfl, fin hq⟩
  · refine Gd_iload (i := 4) rfl eX8_asksOf_110 ?_
    refine Gd_if_ne eX8_asksOf_112 (fun c112 => ?_) (fun c112 => ?_)
    · refine Gd_iconst ki_1 eX8_asksOf_119 ?_
      refine Gd_goto eX8_asksOf_120 ?_
      exact Gd_ireturn eX8_asksOf_132 rfl (Nat.le_refl _) (Nat.le_refl _) ⟨a2, by rw [ask, ask3, if_pos c107, ← hv, if_neg c112], rfl, fin hq⟩
    · refine Gd_iconst ki_0 eX8_asksOf_115 ?_
      refine Gd_goto eX8_asksOf_116 ?_
      exact Gd_ireturn eX8_asksOf_132 rfl (Nat.le_refl _) (Nat.le_refl _) ⟨a2, by rw [ask, ask3, if_pos c107, ← hv, if_pos (by simpa using c112)], rfl, fin hq⟩
theorem m_ask1 {sh : List (Nat × Nat)} {a : Nat → Nat → Int32} {r : Nat → Nat → Option Nat} {g : Nat → Nat → Int64} {φ ts cd : Nat → Nat → Nat} {nt : Nat} (hW : WD sh r) (hM : MA φ a) (hI : FI φ) (hT : TM nt ts cd a) (hTI : TI nt ts cd) (hlt : φ 7 2 < nt) {part p d : Nat} (hp : part < 3) (hpn : p < φ 7 3) (hd : d < 10) : Mt YX8_asksOf 2 0 0 [vr 50, vi (nI part), vi (nI p), vi (nI d)] (sh, a, r, g) (g_EV sh r g (vi (ask φ ts cd part p (φ 0 d))) (fun a' => chg scM a a')) := by
  refine Mt_of rfl (Nat.le_of_ble_eq_true rfl) rfl ?_
  obtain ⟨hq1, hq2, hq3⟩ := TI_q hTI hlt hp
  have hnt := hTI.2.1
  have hp6 : p < 6 := by have := FI_hu hI; omega
  have hb1 := FI_me hI hp6
  have hb2 := FI_ca hI hp6
  have hv : rv ((up2 (up2 (up2 (up2 (up2 (up2 (up2 a 67 0 (nI (φ 3 p))) 67 1 (nI 0)) 67 1 (nI (φ 0 d))) 67 2 (nI (pops (φ 4 p) 10))) 67 3 (nI (pops (φ 5 p) 10))) 67 4 (nI (φ 7 1))) 67 5 (nI (φ 2 p))) 67) (cd (φ 7 2)) (ts (φ 7 2) part) (ts (φ 7 2) (part + 1) - ts (φ 7 2) part) = rv (nmf φ p (φ 0 d)) (cd (φ 7 2)) (ts (φ 7 2) part) (ts (φ 7 2) (part + 1) - ts (φ 7 2) part) := rv_nm (fun i hi => by rcases (by omega : i = 0 ∨ i = 1 ∨ i = 2 ∨ i = 3 ∨ i = 4 ∨ i = 5) with rfl | rfl | rfl | rfl | rfl | rfl <;> rfl) ((hTI.2.2 _ hlt).2 part hp)
  have hc1 : chg scM a (up2 (up2 (up2 (up2 (up2 (up2 (up2 a 67 0 (nI (φ 3 p))) 67 1 (nI 0)) 67 1 (nI (φ 0 d))) 67 2 (nI (pops (φ 4 p) 10))) 67 3 (nI (pops (φ 5 p) 10))) 67 4 (nI (φ 7 1))) 67 5 (nI (φ 2 p))) := chg_up (chg_up (chg_up (chg_up (chg_up (chg_up (chg_up (chg_rf) rfl) rfl) rfl) rfl) rfl) rfl) rfl
  have fin : ∀ {a2 : Nat → Nat → Int32}, chg s66 (up2 (up2 (up2 (up2 (up2 (up2 (up2 a 67 0 (nI (φ 3 p))) 67 1 (nI 0)) 67 1 (nI (φ 0 d))) 67 2 (nI (pops (φ 4 p) 10))) 67 3 (nI (pops (φ 5 p) 10))) 67 4 (nI (φ 7 1))) 67 5 (nI (φ 2 p))) a2 → chg scM a a2 := fun q => chg_tr hc1 (chg_mono q (fun k j hk => by cases e : decide (k = 66) with | false => exact e | true => have e1 : k = 66 := of_decide_eq_true e; subst e1; cases hk))
  refine Gd_aload_n (i := 0) rfl eX8_asksOf_0 ?_
  refine Gd_getR fl_RX8_62 (W_s50 hW) (W_r50_30 hW) eX8_asksOf_1 ?_
  refine Gd_iconst ki_0 eX8_asksOf_4 ?_
  refine Gd_aload_n (i := 0) rfl eX8_asksOf_5 ?_
  refine Gd_getR fl_RX8_16 (W_s50 hW) (W_r50_3 hW) eX8_asksOf_6 ?_
  refine Gd_iconst ki_4 eX8_asksOf_9 ?_
  refine Gd_iload_n (i := 2) rfl eX8_asksOf_10 ?_
  refine Gd_imulN eX8_asksOf_11 ?_
  refine Gd_ialdE (v := nI (φ 3 p)) (W_s53 hW) (by first | omega | decide) (MA_ho hM (p := p) (by first | omega | decide) :) eX8_asksOf_12 ?_
  refine Gd_iastN (W_s67 hW) (by first | omega | decide) eX8_asksOf_13 ?_
  refine Gd_aload_n (i := 0) rfl eX8_asksOf_14 ?_
  refine Gd_getR fl_RX8_62 (W_s50 hW) (W_r50_30 hW) eX8_asksOf_15 ?_
  refine Gd_iconst ki_1 eX8_asksOf_18 ?_
  refine Gd_iconst ki_0 eX8_asksOf_19 ?_
  refine Gd_iastN (W_s67 hW) (by first | omega | decide) eX8_asksOf_20 ?_
  refine Gd_iload_n (i := 3) rfl eX8_asksOf_21 ?_
  refine Gd_iconst ki_m1 eX8_asksOf_22 ?_
  refine Gd_icmp_eqM0 (by first | omega | decide) eX8_asksOf_23 ?_
  refine Gd_aload_n (i := 0) rfl eX8_asksOf_26 ?_
  refine Gd_getR fl_RX8_62 (W_s50 hW) (W_r50_30 hW) eX8_asksOf_27 ?_
  refine Gd_iconst ki_1 eX8_asksOf_30 ?_
  refine Gd_aload_n (i := 0) rfl eX8_asksOf_31 ?_
  refine Gd_getR fl_RX8_19 (W_s50 hW) (W_r50_4 hW) eX8_asksOf_32 ?_
  refine Gd_iload_n (i := 3) rfl eX8_asksOf_35 ?_
  refine Gd_ialdE (v := nI (φ 0 d)) (W_s54 hW) (by first | omega | decide) (MA_sh hM (d := d) (by first | omega | decide) :) eX8_asksOf_36 ?_
  refine Gd_iastN (W_s67 hW) (by first | omega | decide) eX8_asksOf_37 ?_
  refine Gd_aload_n (i := 0) rfl eX8_asksOf_38 ?_
  refine Gd_getR fl_RX8_62 (W_s50 hW) (W_r50_30 hW) eX8_asksOf_39 ?_
  refine Gd_iconst ki_2 eX8_asksOf_42 ?_
  refine Gd_aload_n (i := 0) rfl eX8_asksOf_43 ?_
  refine Gd_getR fl_RX8_16 (W_s50 hW) (W_r50_3 hW) eX8_asksOf_44 ?_
  refine Gd_iconst ki_4 eX8_asksOf_47 ?_
  refine Gd_iload_n (i := 2) rfl eX8_asksOf_48 ?_
  refine Gd_imulN eX8_asksOf_49 ?_
  refine Gd_iconst ki_2 eX8_asksOf_50 ?_
  refine Gd_iaddN eX8_asksOf_51 ?_
  refine Gd_ialdE (v := nI (φ 4 p)) (W_s53 hW) (by first | omega | decide) (MA_me hM (p := p) (by first | omega | decide) :) eX8_asksOf_52 ?_
  refine Gd_callP (g_cS (m_bitsOf (by first | omega | decide)) ok_X8_bitsOf lk_RX8_92 rfl rfl (Nat.le_of_ble_eq_true rfl) (Nat.le_of_ble_eq_true rfl) (Nat.le_refl _) (Nat.le_refl _) eX8_asksOf_53) ?_
  refine Gd_iastN (W_s67 hW) (by first | omega | decide) eX8_asksOf_56 ?_
  refine Gd_aload_n (i := 0) rfl eX8_asksOf_57 ?_
  refine Gd_getR fl_RX8_62 (W_s50 hW) (W_r50_30 hW) eX8_asksOf_58 ?_
  refine Gd_iconst ki_3 eX8_asksOf_61 ?_
  refine Gd_aload_n (i := 0) rfl eX8_asksOf_62 ?_
  refine Gd_getR fl_RX8_16 (W_s50 hW) (W_r50_3 hW) eX8_asksOf_63 ?_
  refine Gd_iconst ki_4 eX8_asksOf_66 ?_
  refine Gd_iload_n (i := 2) rfl eX8_asksOf_67 ?_
  refine Gd_imulN eX8_asksOf_68 ?_
  refine Gd_iconst ki_1 eX8_asksOf_69 ?_
  refine Gd_iaddN eX8_asksOf_70 ?_
  refine Gd_ialdE (v := nI (φ 5 p)) (W_s53 hW) (by first | omega | decide) (MA_ca hM (p := p) (by first | omega | decide) :) eX8_asksOf_71 ?_
  refine Gd_callP (g_cS (m_bitsOf (by first | omega | decide)) ok_X8_bitsOf lk_RX8_92 rfl rfl (Nat.le_of_ble_eq_true rfl) (Nat.le_of_ble_eq_true rfl) (Nat.le_refl _) (Nat.le_refl _) eX8_asksOf_72) ?_
  refine Gd_iastN (W_s67 hW) (by first | omega | decide) eX8_asksOf_75 ?_
  refine Gd_aload_n (i := 0) rfl eX8_asksOf_76 ?_
  refine Gd_getR fl_RX8_62 (W_s50 hW) (W_r50_30 hW) eX8_asksOf_77 ?_
  refine Gd_iconst ki_4 eX8_asksOf_80 ?_
  refine Gd_aload_n (i := 0) rfl eX8_asksOf_81 ?_
  refine Gd_getIe (v := nI (φ 7 1)) fl_RX8_96 (W_s50 hW) (MA_da hM :) eX8_asksOf_82 ?_
  refine Gd_iastN (W_s67 hW) (by first | omega | decide) eX8_asksOf_85 ?_
  refine Gd_aload_n (i := 0) rfl eX8_asksOf_86 ?_
  refine Gd_getR fl_RX8_62 (W_s50 hW) (W_r50_30 hW) eX8_asksOf_87 ?_
  refine Gd_iconst ki_5 eX8_asksOf_90 ?_
  refine Gd_aload_n (i := 0) rfl eX8_asksOf_91 ?_
  refine Gd_getR fl_RX8_13 (W_s50 hW) (W_r50_2 hW) eX8_asksOf_92 ?_
  refine Gd_iload_n (i := 2) rfl eX8_asksOf_95 ?_
  refine Gd_ialdE (v := nI (φ 2 p)) (W_s52 hW) (by first | omega | decide) (MA_mo hM (p := p) (by first | omega | decide) :) eX8_asksOf_96 ?_
  refine Gd_iastN (W_s67 hW) (by first | omega | decide) eX8_asksOf_97 ?_
  refine Gd_aload_n (i := 0) rfl eX8_asksOf_98 ?_
  refine Gd_iload_n (i := 1) rfl eX8_asksOf_99 ?_
  refine Gd_callEV (g_cV (m_says hW (t := φ 7 2) (part := part) (f := ts (φ 7 2) part) (e := ts (φ 7 2) (part + 1)) (c := cd (φ 7 2)) (MA_la hM) (by omega) hp (hT.2.1 _ hlt _ (by omega)) (hT.2.1 _ hlt (part + 1) (by omega)) (fun k hk => hT.2.2 _ hlt k (by omega)) ⟨hq1, hq3⟩ ((hTI.2.2 _ hlt).2 part hp)) ok_X8_says lk_RX8_180 (W_s50 hW) ⟨_, _, rfl⟩ rfl rfl (Nat.le_of_ble_eq_true rfl) (Nat.le_of_ble_eq_true rfl) (Nat.le_refl _) (Nat.le_refl _) eX8_asksOf_100) (fun a2 hq => ?_)
  refine Gd_istore4 rfl eX8_asksOf_103 ?_
  refine Gd_iload_n (i := 1) rfl eX8_asksOf_105 ?_
  refine Gd_iconst ki_2 eX8_asksOf_106 ?_
  refine Gd_icmp_neN (by first | omega | decide) (by first | omega | decide) eX8_asksOf_107 (fun c107 => ?_) (fun c107 => ?_)
  · refine Gd_iload (i := 4) rfl eX8_asksOf_123 ?_
    refine Gd_bipush kb_m99 eX8_asksOf_125 ?_
    refine Gd_bipush kb_99 eX8_asksOf_127 ?_
    refine Gd_callP (g_cS (m_within _ _ _) ok_X8_within lk_RX8_183 rfl rfl (Nat.le_of_ble_eq_true rfl) (Nat.le_of_ble_eq_true rfl) (Nat.le_refl _) (Nat.le_refl _) eX8_asksOf_129) ?_
    exact Gd_ireturn eX8_asksOf_132 rfl (Nat.le_refl _) (Nat.le_refl _) ⟨a2, by rw [ask, ask3, if_neg c107, ← hv], rfl, fin hq⟩
  · refine Gd_iload (i := 4) rfl eX8_asksOf_110 ?_
    refine Gd_if_ne eX8_asksOf_112 (fun c112 => ?_) (fun c112 => ?_)
    · refine Gd_iconst ki_1 eX8_asksOf_119 ?_
      refine Gd_goto eX8_asksOf_120 ?_
      exact Gd_ireturn eX8_asksOf_132 rfl (Nat.le_refl _) (Nat.le_refl _) ⟨a2, by rw [ask, ask3, if_pos c107, ← hv, if_neg c112], rfl, fin hq⟩
    · refine Gd_iconst ki_0 eX8_asksOf_115 ?_
      refine Gd_goto eX8_asksOf_116 ?_
      exact Gd_ireturn eX8_asksOf_132 rfl (Nat.le_refl _) (Nat.le_refl _) ⟨a2, by rw [ask, ask3, if_pos c107, ← hv, if_pos (by simpa using c112)], rfl, fin hq⟩
theorem m_gainsOf {sh : List (Nat × Nat)} {a : Nat → Nat → Int32} {r : Nat → Nat → Option Nat} {g : Nat → Nat → Int64} {φ ts cd : Nat → Nat → Nat} {nt : Nat} (hW : WD sh r) (hM : MA φ a) (hI : FI φ) (hT : TM nt ts cd a) (hTI : TI nt ts cd) (hlt : φ 7 2 < nt) {p : Nat} (hpn : p < φ 7 3) : Mt YX8_gainsOf 3 0 0 [vr 50, vi (nI p)] (sh, a, r, g) (g_EV sh r g (vi (gains φ ts cd p)) (fun a' => chg scM a a')) := by
  refine Mt_of rfl (Nat.le_of_ble_eq_true rfl) rfl ?_
  have hch : chg scM a a := chg_rf
  have hp6 : p < 6 := by have := FI_hu hI; omega
  have hki := FI_ki hI hp6
  refine Gd_aload_n (i := 0) rfl eX8_gainsOf_0 ?_
  refine Gd_iconst ki_0 eX8_gainsOf_1 ?_
  refine Gd_iload_n (i := 1) rfl eX8_gainsOf_2 ?_
  refine Gd_iconst ki_m1 eX8_gainsOf_3 ?_
  refine Gd_callEV (g_cV (m_ask0 hW hM hI hT hTI hlt (by first | omega | decide) (by first | omega | decide)) ok_X8_asksOf lk_RX8_186 (W_s50 hW) ⟨_, _, rfl⟩ rfl rfl (Nat.le_of_ble_eq_true rfl) (Nat.le_of_ble_eq_true rfl) (Nat.le_refl _) (Nat.le_refl _) eX8_gainsOf_4) (fun a hq => ?_)
  have hM := MA_sc hM hq
  have hT := TM_sc hT hq
  have hch := chg_tr hch hq
  refine Gd_istore_n2 rfl eX8_gainsOf_7 ?_
  refine Gd_aload_n (i := 0) rfl eX8_gainsOf_8 ?_
  refine Gd_getR fl_RX8_7 (W_s50 hW) (W_r50_1 hW) eX8_gainsOf_9 ?_
  refine Gd_iload_n (i := 1) rfl eX8_gainsOf_12 ?_
  refine Gd_ialdE (v := nI (φ 1 p)) (W_s51 hW) (by first | omega | decide) (MA_ki hM (p := p) (by first | omega | decide) :) eX8_gainsOf_13 ?_
  rcases ((by have := FI_ki hI (p := p) (by omega); omega) : φ 1 p = 0 ∨ φ 1 p = 1 ∨ φ 1 p = 2 ∨ φ 1 p = 3 ∨ φ 1 p = 4 ∨ φ 1 p = 5) with hk | hk | hk | hk | hk | hk
  · rw [hk]
    refine Gd_tabOut (tgt := 67) eX8_gainsOf_14 (by decide) (by decide) ?_
    refine Gd_iload_n (i := 2) rfl eX8_gainsOf_67 ?_
    exact Gd_ireturn eX8_gainsOf_68 rfl (Nat.le_refl _) (Nat.le_refl _) ⟨a, by simp [gains, hk], rfl, hch⟩
  · rw [hk]
    refine Gd_tabIn (off := 30) (tgt := 44) eX8_gainsOf_14 (by decide) (by decide) (by decide +kernel) (by decide) ?_
    refine Gd_iload_n (i := 2) rfl eX8_gainsOf_44 ?_
    refine Gd_aload_n (i := 0) rfl eX8_gainsOf_45 ?_
    refine Gd_getR fl_RX8_13 (W_s50 hW) (W_r50_2 hW) eX8_gainsOf_46 ?_
    refine Gd_iload_n (i := 1) rfl eX8_gainsOf_49 ?_
    refine Gd_ialdE (v := nI (φ 2 p)) (W_s52 hW) (by first | omega | decide) (MA_mo hM (p := p) (by first | omega | decide) :) eX8_gainsOf_50 ?_
    refine Gd_iadd eX8_gainsOf_51 ?_
    exact Gd_ireturn eX8_gainsOf_52 rfl (Nat.le_refl _) (Nat.le_refl _) ⟨a, by simp [gains, hk], rfl, hch⟩
  · rw [hk]
    refine Gd_tabIn (off := 53) (tgt := 67) eX8_gainsOf_14 (by decide) (by decide) (by decide +kernel) (by decide) ?_
    refine Gd_iload_n (i := 2) rfl eX8_gainsOf_67 ?_
    exact Gd_ireturn eX8_gainsOf_68 rfl (Nat.le_refl _) (Nat.le_refl _) ⟨a, by simp [gains, hk], rfl, hch⟩
  · rw [hk]
    refine Gd_tabIn (off := 39) (tgt := 53) eX8_gainsOf_14 (by decide) (by decide) (by decide +kernel) (by decide) ?_
    refine Gd_iconst ki_2 eX8_gainsOf_53 ?_
    refine Gd_iload_n (i := 2) rfl eX8_gainsOf_54 ?_
    refine Gd_aload_n (i := 0) rfl eX8_gainsOf_55 ?_
    refine Gd_getR fl_RX8_13 (W_s50 hW) (W_r50_2 hW) eX8_gainsOf_56 ?_
    refine Gd_iload_n (i := 1) rfl eX8_gainsOf_59 ?_
    refine Gd_ialdE (v := nI (φ 2 p)) (W_s52 hW) (by first | omega | decide) (MA_mo hM (p := p) (by first | omega | decide) :) eX8_gainsOf_60 ?_
    refine Gd_iadd eX8_gainsOf_61 ?_
    refine Gd_imul eX8_gainsOf_62 ?_
    exact Gd_ireturn eX8_gainsOf_63 rfl (Nat.le_refl _) (Nat.le_refl _) ⟨a, by simp [gains, hk], rfl, hch⟩
  · rw [hk]
    refine Gd_tabIn (off := 50) (tgt := 64) eX8_gainsOf_14 (by decide) (by decide) (by decide +kernel) (by decide) ?_
    refine Gd_iload_n (i := 2) rfl eX8_gainsOf_64 ?_
    refine Gd_ineg eX8_gainsOf_65 ?_
    exact Gd_ireturn eX8_gainsOf_66 rfl (Nat.le_refl _) (Nat.le_refl _) ⟨a, by simp [gains, hk], rfl, hch⟩
  · rw [hk]
    refine Gd_tabOut (tgt := 67) eX8_gainsOf_14 (by decide) (by decide) ?_
    refine Gd_iload_n (i := 2) rfl eX8_gainsOf_67 ?_
    exact Gd_ireturn eX8_gainsOf_68 rfl (Nat.le_refl _) (Nat.le_refl _) ⟨a, by simp [gains, hk], rfl, hch⟩
theorem m_hitsOf {sh : List (Nat × Nat)} {a : Nat → Nat → Int32} {r : Nat → Nat → Option Nat} {g : Nat → Nat → Int64} {φ ts cd : Nat → Nat → Nat} {nt : Nat} (hW : WD sh r) (hM : MA φ a) (hI : FI φ) (hT : TM nt ts cd a) (hTI : TI nt ts cd) (hlt : φ 7 2 < nt) {p d : Nat} (hpn : p < φ 7 3) (hd : d < 10) : Mt YX8_hitsOf 3 0 0 [vr 50, vi (nI p), vi (nI d)] (sh, a, r, g) (g_EV sh r g (vi (hitv φ ts cd p d)) (fun a' => chg scM a a')) := by
  refine Mt_of rfl (Nat.le_of_ble_eq_true rfl) rfl ?_
  have hch : chg scM a a := chg_rf
  have hp6 : p < 6 := by have := FI_hu hI; omega
  have hki := FI_ki hI hp6
  refine Gd_aload_n (i := 0) rfl eX8_hitsOf_0 ?_
  refine Gd_iconst ki_1 eX8_hitsOf_1 ?_
  refine Gd_iload_n (i := 1) rfl eX8_hitsOf_2 ?_
  refine Gd_iload_n (i := 2) rfl eX8_hitsOf_3 ?_
  refine Gd_callEV (g_cV (m_ask1 hW hM hI hT hTI hlt (by first | omega | decide) (by first | omega | decide) (by first | omega | decide)) ok_X8_asksOf lk_RX8_186 (W_s50 hW) ⟨_, _, rfl⟩ rfl rfl (Nat.le_of_ble_eq_true rfl) (Nat.le_of_ble_eq_true rfl) (Nat.le_refl _) (Nat.le_refl _) eX8_hitsOf_4) (fun a hq => ?_)
  have hM := MA_sc hM hq
  have hT := TM_sc hT hq
  have hch := chg_tr hch hq
  refine Gd_istore_n3 rfl eX8_hitsOf_7 ?_
  refine Gd_aload_n (i := 0) rfl eX8_hitsOf_8 ?_
  refine Gd_iload_n (i := 1) rfl eX8_hitsOf_9 ?_
  refine Gd_iload_n (i := 2) rfl eX8_hitsOf_10 ?_
  refine Gd_callP (g_cV (m_isCard hW hM hI (by first | omega | decide) (by first | omega | decide)) ok_X8_isCard lk_RX8_112 (W_s50 hW) ⟨_, _, rfl⟩ rfl rfl (Nat.le_of_ble_eq_true rfl) (Nat.le_of_ble_eq_true rfl) (Nat.le_refl _) (Nat.le_refl _) eX8_hitsOf_11) ?_
  refine Gd_istore4 rfl eX8_hitsOf_14 ?_
  refine Gd_iload (i := 4) rfl eX8_hitsOf_16 ?_
  refine Gd_if_eqB eX8_hitsOf_18 (fun c18 => ?_) (fun c18 => ?_)
  · refine Gd_iload_n (i := 3) rfl eX8_hitsOf_25 ?_
    refine Gd_iconst ki_2 eX8_hitsOf_26 ?_
    refine Gd_idiv (by decide) eX8_hitsOf_27 ?_
    refine Gd_istore5 rfl eX8_hitsOf_28 ?_
    refine Gd_iload (i := 4) rfl eX8_hitsOf_30 ?_
    refine Gd_if_eqB eX8_hitsOf_32 (fun _ => ?_) (fun q => absurd (q.symm.trans c18) (by decide))
    refine Gd_iconst ki_0 eX8_hitsOf_46 ?_
    refine Gd_istore6 rfl eX8_hitsOf_47 ?_
    refine Gd_aload_n (i := 0) rfl eX8_hitsOf_49 ?_
    refine Gd_getR fl_RX8_7 (W_s50 hW) (W_r50_1 hW) eX8_hitsOf_50 ?_
    refine Gd_iload_n (i := 1) rfl eX8_hitsOf_53 ?_
    refine Gd_ialdE (v := nI (φ 1 p)) (W_s51 hW) (by first | omega | decide) (MA_ki hM (p := p) (by first | omega | decide) :) eX8_hitsOf_54 ?_
    rcases ((by have := FI_ki hI (p := p) (by omega); omega) : φ 1 p = 0 ∨ φ 1 p = 1 ∨ φ 1 p = 2 ∨ φ 1 p = 3 ∨ φ 1 p = 4 ∨ φ 1 p = 5) with hk | hk | hk | hk | hk | hk
    · rw [hk]
      refine Gd_tabOut (tgt := 114) eX8_hitsOf_55 (by decide) (by decide) ?_
      refine Gd_iload (i := 5) rfl eX8_hitsOf_114 ?_
      exact Gd_ireturn eX8_hitsOf_116 rfl (Nat.le_refl _) (Nat.le_refl _) ⟨a, by simp [hitv, hitH, hitS, hk, nI_0, c18], rfl, hch⟩
    · rw [hk]
      refine Gd_tabOut (tgt := 114) eX8_hitsOf_55 (by decide) (by decide) ?_
      refine Gd_iload (i := 5) rfl eX8_hitsOf_114 ?_
      exact Gd_ireturn eX8_hitsOf_116 rfl (Nat.le_refl _) (Nat.le_refl _) ⟨a, by simp [hitv, hitH, hitS, hk, nI_0, c18], rfl, hch⟩
    · rw [hk]
      refine Gd_tabIn (off := 29) (tgt := 84) eX8_hitsOf_55 (by decide) (by decide) (by decide +kernel) (by decide) ?_
      refine Gd_iload (i := 6) rfl eX8_hitsOf_84 ?_
      exact Gd_ireturn eX8_hitsOf_86 rfl (Nat.le_refl _) (Nat.le_refl _) ⟨a, by simp [hitv, hitH, hitS, hk, nI_0, c18], rfl, hch⟩
    · rw [hk]
      refine Gd_tabIn (off := 32) (tgt := 87) eX8_hitsOf_55 (by decide) (by decide) (by decide +kernel) (by decide) ?_
      refine Gd_iload (i := 5) rfl eX8_hitsOf_87 ?_
      refine Gd_iconst ki_3 eX8_hitsOf_89 ?_
      refine Gd_idiv (by decide) eX8_hitsOf_90 ?_
      exact Gd_ireturn eX8_hitsOf_91 rfl (Nat.le_refl _) (Nat.le_refl _) ⟨a, by simp [hitv, hitH, hitS, hk, nI_0, c18], rfl, hch⟩
    · rw [hk]
      refine Gd_tabIn (off := 37) (tgt := 92) eX8_hitsOf_55 (by decide) (by decide) (by decide +kernel) (by decide) ?_
      refine Gd_iload (i := 6) rfl eX8_hitsOf_92 ?_
      refine Gd_bipush kb_20 eX8_hitsOf_94 ?_
      refine Gd_iaddN eX8_hitsOf_96 ?_
      exact Gd_ireturn eX8_hitsOf_97 rfl (Nat.le_refl _) (Nat.le_refl _) ⟨a, by simp [hitv, hitH, hitS, hk, nI_0, c18], rfl, hch⟩
    · rw [hk]
      refine Gd_tabIn (off := 43) (tgt := 98) eX8_hitsOf_55 (by decide) (by decide) (by decide +kernel) (by decide) ?_
      refine Gd_iload (i := 4) rfl eX8_hitsOf_98 ?_
      refine Gd_if_eqB eX8_hitsOf_100 (fun _ => ?_) (fun q => absurd (q.symm.trans c18) (by decide))
      refine Gd_iload_n (i := 3) rfl eX8_hitsOf_112 ?_
      exact Gd_ireturn eX8_hitsOf_113 rfl (Nat.le_refl _) (Nat.le_refl _) ⟨a, by simp [hitv, hitH, hitS, hk, nI_0, c18], rfl, hch⟩
  · refine Gd_iload_n (i := 3) rfl eX8_hitsOf_21 ?_
    refine Gd_goto eX8_hitsOf_22 ?_
    refine Gd_istore5 rfl eX8_hitsOf_28 ?_
    refine Gd_iload (i := 4) rfl eX8_hitsOf_30 ?_
    refine Gd_if_eqB eX8_hitsOf_32 (fun q => absurd (q.symm.trans c18) (by decide)) (fun _ => ?_)
    refine Gd_iload_n (i := 3) rfl eX8_hitsOf_35 ?_
    refine Gd_aload_n (i := 0) rfl eX8_hitsOf_36 ?_
    refine Gd_getR fl_RX8_13 (W_s50 hW) (W_r50_2 hW) eX8_hitsOf_37 ?_
    refine Gd_iload_n (i := 1) rfl eX8_hitsOf_40 ?_
    refine Gd_ialdE (v := nI (φ 2 p)) (W_s52 hW) (by first | omega | decide) (MA_mo hM (p := p) (by first | omega | decide) :) eX8_hitsOf_41 ?_
    refine Gd_iadd eX8_hitsOf_42 ?_
    refine Gd_goto eX8_hitsOf_43 ?_
    refine Gd_istore6 rfl eX8_hitsOf_47 ?_
    refine Gd_aload_n (i := 0) rfl eX8_hitsOf_49 ?_
    refine Gd_getR fl_RX8_7 (W_s50 hW) (W_r50_1 hW) eX8_hitsOf_50 ?_
    refine Gd_iload_n (i := 1) rfl eX8_hitsOf_53 ?_
    refine Gd_ialdE (v := nI (φ 1 p)) (W_s51 hW) (by first | omega | decide) (MA_ki hM (p := p) (by first | omega | decide) :) eX8_hitsOf_54 ?_
    rcases ((by have := FI_ki hI (p := p) (by omega); omega) : φ 1 p = 0 ∨ φ 1 p = 1 ∨ φ 1 p = 2 ∨ φ 1 p = 3 ∨ φ 1 p = 4 ∨ φ 1 p = 5) with hk | hk | hk | hk | hk | hk
    · rw [hk]
      refine Gd_tabOut (tgt := 114) eX8_hitsOf_55 (by decide) (by decide) ?_
      refine Gd_iload (i := 5) rfl eX8_hitsOf_114 ?_
      exact Gd_ireturn eX8_hitsOf_116 rfl (Nat.le_refl _) (Nat.le_refl _) ⟨a, by simp [hitv, hitH, hitS, hk, nI_0, c18], rfl, hch⟩
    · rw [hk]
      refine Gd_tabOut (tgt := 114) eX8_hitsOf_55 (by decide) (by decide) ?_
      refine Gd_iload (i := 5) rfl eX8_hitsOf_114 ?_
      exact Gd_ireturn eX8_hitsOf_116 rfl (Nat.le_refl _) (Nat.le_refl _) ⟨a, by simp [hitv, hitH, hitS, hk, nI_0, c18], rfl, hch⟩
    · rw [hk]
      refine Gd_tabIn (off := 29) (tgt := 84) eX8_hitsOf_55 (by decide) (by decide) (by decide +kernel) (by decide) ?_
      refine Gd_iload (i := 6) rfl eX8_hitsOf_84 ?_
      exact Gd_ireturn eX8_hitsOf_86 rfl (Nat.le_refl _) (Nat.le_refl _) ⟨a, by simp [hitv, hitH, hitS, hk, nI_0, c18], rfl, hch⟩
    · rw [hk]
      refine Gd_tabIn (off := 32) (tgt := 87) eX8_hitsOf_55 (by decide) (by decide) (by decide +kernel) (by decide) ?_
      refine Gd_iload (i := 5) rfl eX8_hitsOf_87 ?_
      refine Gd_iconst ki_3 eX8_hitsOf_89 ?_
      refine Gd_idiv (by decide) eX8_hitsOf_90 ?_
      exact Gd_ireturn eX8_hitsOf_91 rfl (Nat.le_refl _) (Nat.le_refl _) ⟨a, by simp [hitv, hitH, hitS, hk, nI_0, c18], rfl, hch⟩
    · rw [hk]
      refine Gd_tabIn (off := 37) (tgt := 92) eX8_hitsOf_55 (by decide) (by decide) (by decide +kernel) (by decide) ?_
      refine Gd_iload (i := 6) rfl eX8_hitsOf_92 ?_
      refine Gd_bipush kb_20 eX8_hitsOf_94 ?_
      refine Gd_iadd eX8_hitsOf_96 ?_
      exact Gd_ireturn eX8_hitsOf_97 rfl (Nat.le_refl _) (Nat.le_refl _) ⟨a, by simp [hitv, hitH, hitS, hk, nI_0, c18], rfl, hch⟩
    · rw [hk]
      refine Gd_tabIn (off := 43) (tgt := 98) eX8_hitsOf_55 (by decide) (by decide) (by decide +kernel) (by decide) ?_
      refine Gd_iload (i := 4) rfl eX8_hitsOf_98 ?_
      refine Gd_if_eqB eX8_hitsOf_100 (fun q => absurd (q.symm.trans c18) (by decide)) (fun _ => ?_)
      refine Gd_aload_n (i := 0) rfl eX8_hitsOf_103 ?_
      refine Gd_getR fl_RX8_13 (W_s50 hW) (W_r50_2 hW) eX8_hitsOf_104 ?_
      refine Gd_iload_n (i := 1) rfl eX8_hitsOf_107 ?_
      refine Gd_ialdE (v := nI (φ 2 p)) (W_s52 hW) (by first | omega | decide) (MA_mo hM (p := p) (by first | omega | decide) :) eX8_hitsOf_108 ?_
      refine Gd_goto eX8_hitsOf_109 ?_
      exact Gd_ireturn eX8_hitsOf_113 rfl (Nat.le_refl _) (Nat.le_refl _) ⟨a, by simp [hitv, hitH, hitS, hk, nI_0, c18], rfl, hch⟩
theorem m_doesWill {sh : List (Nat × Nat)} {a : Nat → Nat → Int32} {r : Nat → Nat → Option Nat} {g : Nat → Nat → Int64} {φ ts cd : Nat → Nat → Nat} {nt : Nat} (hW : WD sh r) (hM : MA φ a) (hI : FI φ) (hT : TM nt ts cd a) (hTI : TI nt ts cd) (hlt : φ 7 2 < nt) {p : Nat} (hpn : p < φ 7 3) : Mt YX8_doesWill 3 0 0 [vr 50, vi (nI p)] (sh, a, r, g) (g_EV sh r g (vi (bI (will φ ts cd p))) (fun a' => chg scM a a')) := by
  refine Mt_of rfl (Nat.le_of_ble_eq_true rfl) rfl ?_
  have hch : chg scM a a := chg_rf
  have hp6 : p < 6 := by have := FI_hu hI; omega
  have hki := FI_ki hI hp6
  have hda := FI_da hI
  refine Gd_aload_n (i := 0) rfl eX8_doesWill_0 ?_
  refine Gd_getR fl_RX8_7 (W_s50 hW) (W_r50_1 hW) eX8_doesWill_1 ?_
  refine Gd_iload_n (i := 1) rfl eX8_doesWill_4 ?_
  refine Gd_ialdE (v := nI (φ 1 p)) (W_s51 hW) (by first | omega | decide) (MA_ki hM (p := p) (by first | omega | decide) :) eX8_doesWill_5 ?_
  refine Gd_iconst ki_1 eX8_doesWill_6 ?_
  refine Gd_icmp_eqN (by first | omega | decide) (by first | omega | decide) eX8_doesWill_7 (fun c7 => ?_) (fun c7 => ?_)
  · refine Gd_iconst ki_1 eX8_doesWill_20 ?_
    exact Gd_zreturn eX8_doesWill_21 rfl (by decide) (Nat.le_refl _) (Nat.le_refl _) ⟨a, by simp [will, c7, bI], rfl, hch⟩
  · refine Gd_aload_n (i := 0) rfl eX8_doesWill_10 ?_
    refine Gd_getR fl_RX8_7 (W_s50 hW) (W_r50_1 hW) eX8_doesWill_11 ?_
    refine Gd_iload_n (i := 1) rfl eX8_doesWill_14 ?_
    refine Gd_ialdE (v := nI (φ 1 p)) (W_s51 hW) (by first | omega | decide) (MA_ki hM (p := p) (by first | omega | decide) :) eX8_doesWill_15 ?_
    refine Gd_iconst ki_3 eX8_doesWill_16 ?_
    refine Gd_icmp_neN (by first | omega | decide) (by first | omega | decide) eX8_doesWill_17 (fun c17 => ?_) (fun c17 => ?_)
    · refine Gd_aload_n (i := 0) rfl eX8_doesWill_22 ?_
      refine Gd_iconst ki_2 eX8_doesWill_23 ?_
      refine Gd_iload_n (i := 1) rfl eX8_doesWill_24 ?_
      refine Gd_iconst ki_m1 eX8_doesWill_25 ?_
      refine Gd_callEV (g_cV (m_ask0 hW hM hI hT hTI hlt (by first | omega | decide) (by first | omega | decide)) ok_X8_asksOf lk_RX8_186 (W_s50 hW) ⟨_, _, rfl⟩ rfl rfl (Nat.le_of_ble_eq_true rfl) (Nat.le_of_ble_eq_true rfl) (Nat.le_refl _) (Nat.le_refl _) eX8_doesWill_26) (fun a hq => ?_)
      have hM := MA_sc hM hq
      have hT := TM_sc hT hq
      have hch := chg_tr hch hq
      refine Gd_iconst ki_1 eX8_doesWill_29 ?_
      refine Gd_icmp_ne eX8_doesWill_30 (fun c30 => ?_) (fun c30 => ?_)
      · refine Gd_iconst ki_0 eX8_doesWill_37 ?_
        refine Gd_istore_n2 rfl eX8_doesWill_38 ?_
        refine Gd_aload_n (i := 0) rfl eX8_doesWill_39 ?_
        refine Gd_getR fl_RX8_7 (W_s50 hW) (W_r50_1 hW) eX8_doesWill_40 ?_
        refine Gd_iload_n (i := 1) rfl eX8_doesWill_43 ?_
        refine Gd_ialdE (v := nI (φ 1 p)) (W_s51 hW) (by first | omega | decide) (MA_ki hM (p := p) (by first | omega | decide) :) eX8_doesWill_44 ?_
        refine Gd_iconst ki_5 eX8_doesWill_45 ?_
        refine Gd_icmp_neN (by first | omega | decide) (by first | omega | decide) eX8_doesWill_46 (fun c46 => ?_) (fun c46 => ?_)
        · refine Gd_aload_n (i := 0) rfl eX8_doesWill_61 ?_
          refine Gd_getR fl_RX8_7 (W_s50 hW) (W_r50_1 hW) eX8_doesWill_62 ?_
          refine Gd_iload_n (i := 1) rfl eX8_doesWill_65 ?_
          refine Gd_ialdE (v := nI (φ 1 p)) (W_s51 hW) (by first | omega | decide) (MA_ki hM (p := p) (by first | omega | decide) :) eX8_doesWill_66 ?_
          refine Gd_if_neN (by first | omega | decide) eX8_doesWill_67 (fun c67 => ?_) (fun c67 => ?_)
          · refine Gd_iload_n (i := 2) rfl eX8_doesWill_74 ?_
            refine Gd_if_eq eX8_doesWill_75 (fun _ => ?_) (fun q => by first | exact absurd q (by decide) | exact absurd (by decide) q)
            refine Gd_iconst ki_0 eX8_doesWill_91 ?_
            exact Gd_zreturn eX8_doesWill_92 rfl (by decide) (Nat.le_refl _) (Nat.le_refl _) ⟨a, by simp [will, willso, bI, nI_0, c7, c17, c46, c30, c67] <;> simp_all, rfl, hch⟩
          · refine Gd_iload_n (i := 2) rfl eX8_doesWill_70 ?_
            refine Gd_goto eX8_doesWill_71 ?_
            exact Gd_zreturn eX8_doesWill_92 rfl (by decide) (Nat.le_refl _) (Nat.le_refl _) ⟨a, by simp [will, willso, bI, nI_0, c7, c17, c46, c30, c67] <;> simp_all, rfl, hch⟩
        · refine Gd_iload_n (i := 2) rfl eX8_doesWill_49 ?_
          refine Gd_if_ne eX8_doesWill_50 (fun q => by first | exact absurd q (by decide) | exact absurd (by decide) q) (fun _ => ?_)
          refine Gd_iconst ki_1 eX8_doesWill_53 ?_
          refine Gd_goto eX8_doesWill_54 ?_
          exact Gd_zreturn eX8_doesWill_92 rfl (by decide) (Nat.le_refl _) (Nat.le_refl _) ⟨a, by simp [will, willso, bI, nI_0, c7, c17, c46, c30] <;> simp_all, rfl, hch⟩
      · refine Gd_iconst ki_1 eX8_doesWill_33 ?_
        refine Gd_goto eX8_doesWill_34 ?_
        refine Gd_istore_n2 rfl eX8_doesWill_38 ?_
        refine Gd_aload_n (i := 0) rfl eX8_doesWill_39 ?_
        refine Gd_getR fl_RX8_7 (W_s50 hW) (W_r50_1 hW) eX8_doesWill_40 ?_
        refine Gd_iload_n (i := 1) rfl eX8_doesWill_43 ?_
        refine Gd_ialdE (v := nI (φ 1 p)) (W_s51 hW) (by first | omega | decide) (MA_ki hM (p := p) (by first | omega | decide) :) eX8_doesWill_44 ?_
        refine Gd_iconst ki_5 eX8_doesWill_45 ?_
        refine Gd_icmp_neN (by first | omega | decide) (by first | omega | decide) eX8_doesWill_46 (fun c46 => ?_) (fun c46 => ?_)
        · refine Gd_aload_n (i := 0) rfl eX8_doesWill_61 ?_
          refine Gd_getR fl_RX8_7 (W_s50 hW) (W_r50_1 hW) eX8_doesWill_62 ?_
          refine Gd_iload_n (i := 1) rfl eX8_doesWill_65 ?_
          refine Gd_ialdE (v := nI (φ 1 p)) (W_s51 hW) (by first | omega | decide) (MA_ki hM (p := p) (by first | omega | decide) :) eX8_doesWill_66 ?_
          refine Gd_if_neN (by first | omega | decide) eX8_doesWill_67 (fun c67 => ?_) (fun c67 => ?_)
          · refine Gd_iload_n (i := 2) rfl eX8_doesWill_74 ?_
            refine Gd_if_eq eX8_doesWill_75 (fun q => by first | exact absurd q (by decide) | exact absurd (by decide) q) (fun _ => ?_)
            refine Gd_aload_n (i := 0) rfl eX8_doesWill_78 ?_
            refine Gd_getIe (v := nI (φ 7 1)) fl_RX8_96 (W_s50 hW) (MA_da hM :) eX8_doesWill_79 ?_
            refine Gd_iconst ki_2 eX8_doesWill_82 ?_
            refine Gd_iremN (by first | omega | decide) (by decide) eX8_doesWill_83 ?_
            refine Gd_if_neN (by first | omega | decide) eX8_doesWill_84 (fun c84 => ?_) (fun c84 => ?_)
            · refine Gd_iconst ki_0 eX8_doesWill_91 ?_
              exact Gd_zreturn eX8_doesWill_92 rfl (by decide) (Nat.le_refl _) (Nat.le_refl _) ⟨a, by simp [will, willso, bI, nI_0, c7, c17, c46, c30, c67, c84] <;> simp_all, rfl, hch⟩
            · refine Gd_iconst ki_1 eX8_doesWill_87 ?_
              refine Gd_goto eX8_doesWill_88 ?_
              exact Gd_zreturn eX8_doesWill_92 rfl (by decide) (Nat.le_refl _) (Nat.le_refl _) ⟨a, by simp [will, willso, bI, nI_0, c7, c17, c46, c30, c67, c84] <;> simp_all, rfl, hch⟩
          · refine Gd_iload_n (i := 2) rfl eX8_doesWill_70 ?_
            refine Gd_goto eX8_doesWill_71 ?_
            exact Gd_zreturn eX8_doesWill_92 rfl (by decide) (Nat.le_refl _) (Nat.le_refl _) ⟨a, by simp [will, willso, bI, nI_0, c7, c17, c46, c30, c67] <;> simp_all, rfl, hch⟩
        · refine Gd_iload_n (i := 2) rfl eX8_doesWill_49 ?_
          refine Gd_if_ne eX8_doesWill_50 (fun _ => ?_) (fun q => by first | exact absurd q (by decide) | exact absurd (by decide) q)
          refine Gd_iconst ki_0 eX8_doesWill_57 ?_
          refine Gd_goto eX8_doesWill_58 ?_
          exact Gd_zreturn eX8_doesWill_92 rfl (by decide) (Nat.le_refl _) (Nat.le_refl _) ⟨a, by simp [will, willso, bI, nI_0, c7, c17, c46, c30] <;> simp_all, rfl, hch⟩
    · refine Gd_iconst ki_1 eX8_doesWill_20 ?_
      exact Gd_zreturn eX8_doesWill_21 rfl (by decide) (Nat.le_refl _) (Nat.le_refl _) ⟨a, by simp [will, c17, bI], rfl, hch⟩
theorem m_aimOf {sh : List (Nat × Nat)} {a : Nat → Nat → Int32} {r : Nat → Nat → Option Nat} {g : Nat → Nat → Int64} {φ ts cd : Nat → Nat → Nat} {nt : Nat} (hW : WD sh r) (hM : MA φ a) (hI : FI φ) (hT : TM nt ts cd a) (hTI : TI nt ts cd) (hlt : φ 7 2 < nt) {p d : Nat} (hpn : p < φ 7 3) (hd : d < 10) : Mt YX8_aimOf 4 0 0 [vr 50, vi (nI p), vi (nI d)] (sh, a, r, g) (g_EV sh r g (vi (nI (aim φ ts cd p d))) (fun a' => chg scM a a')) := by
  refine Mt_of rfl (Nat.le_of_ble_eq_true rfl) rfl ?_
  have hch : chg scM a a := chg_rf
  have hp6 : p < 6 := by have := FI_hu hI; omega
  have hki := FI_ki hI hp6
  refine Gd_aload_n (i := 0) rfl eX8_aimOf_0 ?_
  refine Gd_iload_n (i := 2) rfl eX8_aimOf_1 ?_
  refine Gd_callP (g_cV (m_isAlive hW hM hI (by first | omega | decide)) ok_X8_isAlive lk_RX8_208 (W_s50 hW) ⟨_, _, rfl⟩ rfl rfl (Nat.le_of_ble_eq_true rfl) (Nat.le_of_ble_eq_true rfl) (Nat.le_refl _) (Nat.le_refl _) eX8_aimOf_2) ?_
  refine Gd_if_neB eX8_aimOf_5 (fun c5 => ?_) (fun c5 => ?_)
  · refine Gd_aload_n (i := 0) rfl eX8_aimOf_10 ?_
    refine Gd_iload_n (i := 1) rfl eX8_aimOf_11 ?_
    refine Gd_iload_n (i := 2) rfl eX8_aimOf_12 ?_
    refine Gd_callEV (g_cV (m_hitsOf hW hM hI hT hTI hlt (by first | omega | decide) (by first | omega | decide)) ok_X8_hitsOf lk_RX8_199 (W_s50 hW) ⟨_, _, rfl⟩ rfl rfl (Nat.le_of_ble_eq_true rfl) (Nat.le_of_ble_eq_true rfl) (Nat.le_refl _) (Nat.le_refl _) eX8_aimOf_13) (fun a hq => ?_)
    have hM := MA_sc hM hq
    have hT := TM_sc hT hq
    have hch := chg_tr hch hq
    refine Gd_aload_n (i := 0) rfl eX8_aimOf_16 ?_
    refine Gd_getR fl_RX8_19 (W_s50 hW) (W_r50_4 hW) eX8_aimOf_17 ?_
    refine Gd_iload_n (i := 2) rfl eX8_aimOf_20 ?_
    refine Gd_ialdE (v := nI (φ 0 d)) (W_s54 hW) (by first | omega | decide) (MA_sh hM (d := d) (by first | omega | decide) :) eX8_aimOf_21 ?_
    refine Gd_icmp_ge eX8_aimOf_22 (fun c22 => ?_) (fun c22 => ?_)
    · refine Gd_aload_n (i := 0) rfl eX8_aimOf_29 ?_
      refine Gd_iload_n (i := 1) rfl eX8_aimOf_30 ?_
      refine Gd_iload_n (i := 2) rfl eX8_aimOf_31 ?_
      refine Gd_callP (g_cV (m_isCard hW hM hI (by first | omega | decide) (by first | omega | decide)) ok_X8_isCard lk_RX8_112 (W_s50 hW) ⟨_, _, rfl⟩ rfl rfl (Nat.le_of_ble_eq_true rfl) (Nat.le_of_ble_eq_true rfl) (Nat.le_refl _) (Nat.le_refl _) eX8_aimOf_32) ?_
      refine Gd_if_eqB eX8_aimOf_35 (fun c35 => ?_) (fun c35 => ?_)
      · refine Gd_iconst ki_3 eX8_aimOf_42 ?_
        exact Gd_ireturn eX8_aimOf_43 rfl (Nat.le_refl _) (Nat.le_refl _) ⟨a, by simp [aim, c5, Int32.not_lt.mpr c22, c35], rfl, hch⟩
      · refine Gd_iconst ki_2 eX8_aimOf_38 ?_
        refine Gd_goto eX8_aimOf_39 ?_
        exact Gd_ireturn eX8_aimOf_43 rfl (Nat.le_refl _) (Nat.le_refl _) ⟨a, by simp [aim, c5, Int32.not_lt.mpr c22, c35], rfl, hch⟩
    · refine Gd_iconst ki_1 eX8_aimOf_25 ?_
      refine Gd_goto eX8_aimOf_26 ?_
      exact Gd_ireturn eX8_aimOf_43 rfl (Nat.le_refl _) (Nat.le_refl _) ⟨a, by simp [aim, c5, Int32.not_le.mp c22], rfl, hch⟩
  · refine Gd_iconst ki_0 eX8_aimOf_8 ?_
    exact Gd_ireturn eX8_aimOf_9 rfl (Nat.le_refl _) (Nat.le_refl _) ⟨a, by simp [aim, c5], rfl, hch⟩
