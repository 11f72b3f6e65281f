theorem m_drawn {sh : List (Nat × Nat)} {a : Nat → Nat → Int32} {r : Nat → Nat → Option Nat} {g : Nat → Nat → Int64} {φ ts cd : Nat → Nat → Nat} {nt : Nat} (hW : WD sh r) (hM : MA φ a) (hI : FI φ) (hT : TM nt ts cd a) (hTI : TI nt ts cd) (hlt : φ 7 2 < nt) (vs vn vw : Int32) : Mt YX8_drawn 7 0 0 [vr 50, vi vs, vi vn, vi vw] (sh, a, r, g) (g_EV sh r g (vi (oDrawn φ ts cd vs vn vw)) (fun a' => MA φ a' ∧ chg scZ a a')) := by
  refine Mt_of rfl (Nat.le_of_ble_eq_true rfl) rfl ?_
  refine Gd_iload_n (i := 1) rfl eX8_drawn_0 ?_
  refine Gd_iconst ki_0 eX8_drawn_1 ?_
  refine Gd_ldcw (v := nI 99999) ct_RX8_283 eX8_drawn_2 ?_
  refine Gd_callP (g_cS (m_in _ _ _) ok_X8_in lk_RX8_84 rfl rfl (Nat.le_of_ble_eq_true rfl) (Nat.le_of_ble_eq_true rfl) (Nat.le_refl _) (Nat.le_refl _) eX8_drawn_5) ?_
  refine Gd_if_eqB eX8_drawn_8 (fun c8 => ?_) (fun c8 => ?_)
  · refine Gd_bipush kb_m2 eX8_drawn_30 ?_
    exact Gd_ireturn eX8_drawn_32 rfl (Nat.le_refl _) (Nat.le_refl _) ⟨a, by rw [oDrawn_n (Or.inl c8)], rfl, hM, chg_rf⟩
  · refine Gd_iload_n (i := 2) rfl eX8_drawn_11 ?_
    refine Gd_iconst ki_0 eX8_drawn_12 ?_
    refine Gd_bipush kb_60 eX8_drawn_13 ?_
    refine Gd_callP (g_cS (m_in _ _ _) ok_X8_in lk_RX8_84 rfl rfl (Nat.le_of_ble_eq_true rfl) (Nat.le_of_ble_eq_true rfl) (Nat.le_refl _) (Nat.le_refl _) eX8_drawn_15) ?_
    refine Gd_if_eqB eX8_drawn_18 (fun c18 => ?_) (fun c18 => ?_)
    · refine Gd_bipush kb_m2 eX8_drawn_30 ?_
      exact Gd_ireturn eX8_drawn_32 rfl (Nat.le_refl _) (Nat.le_refl _) ⟨a, by rw [oDrawn_n (Or.inr (Or.inl c18))], rfl, hM, chg_rf⟩
    · refine Gd_iload_n (i := 3) rfl eX8_drawn_21 ?_
      refine Gd_iconst ki_0 eX8_drawn_22 ?_
      refine Gd_iconst ki_1 eX8_drawn_23 ?_
      refine Gd_callP (g_cS (m_in _ _ _) ok_X8_in lk_RX8_84 rfl rfl (Nat.le_of_ble_eq_true rfl) (Nat.le_of_ble_eq_true rfl) (Nat.le_refl _) (Nat.le_refl _) eX8_drawn_24) ?_
      refine Gd_if_neB eX8_drawn_27 (fun c27 => ?_) (fun c27 => ?_)
      · obtain ⟨s, _, hs, rfl⟩ := inb_r (by decide) (by decide) c8
        obtain ⟨n, _, hn, rfl⟩ := inb_r (by decide) (by decide) c18
        obtain ⟨k, _, hk, rfl⟩ := inb_r (by decide) (by decide) c27
        rcases (by omega : k = 0 ∨ k = 1) with rfl | rfl
        · refine Gd_aload_n (i := 0) rfl eX8_drawn_33 ?_
          refine Gd_iload_n (i := 1) rfl eX8_drawn_34 ?_
          refine Gd_iload_n (i := 2) rfl eX8_drawn_35 ?_
          refine Gd_callEV (g_cV (m_lotSeasons hW hM hI hT hTI hlt (s := s) (n := n) (by omega) hn) ok_X8_lotSeasons lk_RX8_284 (W_s50 hW) ⟨_, _, rfl⟩ rfl rfl (Nat.le_of_ble_eq_true rfl) (Nat.le_of_ble_eq_true rfl) (Nat.le_refl _) (Nat.le_refl _) eX8_drawn_36) (fun a2 hq => ?_)
          obtain ⟨hM2, h35, hq⟩ := hq
          refine Gd_istore4 rfl eX8_drawn_39 ?_
          refine Gd_iload_n (i := 3) rfl eX8_drawn_41 ?_
          refine Gd_if_ne eX8_drawn_42 (fun q => by first | exact absurd q (by decide) | exact absurd (by decide) q) (fun _ => ?_)
          refine Gd_iload (i := 4) rfl eX8_drawn_45 ?_
          refine Gd_goto eX8_drawn_47 ?_
          exact Gd_ireturn eX8_drawn_54 rfl (Nat.le_refl _) (Nat.le_refl _) ⟨a2, by rw [oDrawn_0 hs hn], rfl, hM2, hq⟩
        · refine Gd_aload_n (i := 0) rfl eX8_drawn_33 ?_
          refine Gd_iload_n (i := 1) rfl eX8_drawn_34 ?_
          refine Gd_iload_n (i := 2) rfl eX8_drawn_35 ?_
          refine Gd_callEV (g_cV (m_lotSeasons hW hM hI hT hTI hlt (s := s) (n := n) (by omega) hn) ok_X8_lotSeasons lk_RX8_284 (W_s50 hW) ⟨_, _, rfl⟩ rfl rfl (Nat.le_of_ble_eq_true rfl) (Nat.le_of_ble_eq_true rfl) (Nat.le_refl _) (Nat.le_refl _) eX8_drawn_36) (fun a2 hq => ?_)
          obtain ⟨hM2, h35, hq⟩ := hq
          refine Gd_istore4 rfl eX8_drawn_39 ?_
          refine Gd_iload_n (i := 3) rfl eX8_drawn_41 ?_
          refine Gd_if_ne eX8_drawn_42 (fun _ => ?_) (fun q => by first | exact absurd q (by decide) | exact absurd (by decide) q)
          refine Gd_aload_n (i := 0) rfl eX8_drawn_50 ?_
          refine Gd_getIe (v := nI (lsH ts cd n (s + 1) φ)) fl_RX8_272 (W_s50 hW) (h35 :) eX8_drawn_51 ?_
          exact Gd_ireturn eX8_drawn_54 rfl (Nat.le_refl _) (Nat.le_refl _) ⟨a2, by rw [oDrawn_1 hs hn], rfl, hM2, hq⟩
      · refine Gd_bipush kb_m2 eX8_drawn_30 ?_
        exact Gd_ireturn eX8_drawn_32 rfl (Nat.le_refl _) (Nat.le_refl _) ⟨a, by rw [oDrawn_n (Or.inr (Or.inr (c27)))], rfl, hM, chg_rf⟩
theorem x_drawn {sh : List (Nat × Nat)} {a : Nat → Nat → Int32} {r : Nat → Nat → Option Nat} {g : Nat → Nat → Int64} {φ ts cd : Nat → Nat → Nat} {nt : Nat} (hW : WD sh r) (hA : FA 1 φ a) (hI : FI φ) (hT : TX nt ts cd sh a r) (hTI : TI nt ts cd) (hlt : φ 7 2 < nt) (vs vn vw : Int32) : Mt YX7_drawn 7 0 0 [vr 0, vi vs, vi vn, vi vw] (sh, a, r, g) (g_EG sh r (vi (oDrawn φ ts cd vs vn vw)) (fun a' => chg scX a a')) := by
  refine Mt_of rfl (Nat.le_of_ble_eq_true rfl) rfl ?_
  refine Gd_iload_n (i := 1) rfl eX7_drawn_0 ?_
  refine Gd_iconst ki_0 eX7_drawn_1 ?_
  refine Gd_ldcw (v := nI 99999) ct_RX7_276 eX7_drawn_2 ?_
  refine Gd_callP (g_cS (x_isWithin _ _ _) ok_X7_isWithin lk_RX7_119 rfl rfl (Nat.le_of_ble_eq_true rfl) (Nat.le_of_ble_eq_true rfl) (Nat.le_refl _) (Nat.le_refl _) eX7_drawn_5) ?_
  refine Gd_if_eqB eX7_drawn_8 (fun c8 => ?_) (fun c8 => ?_)
  · refine Gd_bipush kb_m2 eX7_drawn_30 ?_
    exact Gd_ireturn eX7_drawn_32 rfl (Nat.le_refl _) (Nat.le_refl _) ⟨a, g, by rw [oDrawn_n (Or.inl c8)], rfl, chg_rf⟩
  · refine Gd_iload_n (i := 2) rfl eX7_drawn_11 ?_
    refine Gd_iconst ki_0 eX7_drawn_12 ?_
    refine Gd_bipush kb_60 eX7_drawn_13 ?_
    refine Gd_callP (g_cS (x_isWithin _ _ _) ok_X7_isWithin lk_RX7_119 rfl rfl (Nat.le_of_ble_eq_true rfl) (Nat.le_of_ble_eq_true rfl) (Nat.le_refl _) (Nat.le_refl _) eX7_drawn_15) ?_
    refine Gd_if_eqB eX7_drawn_18 (fun c18 => ?_) (fun c18 => ?_)
    · refine Gd_bipush kb_m2 eX7_drawn_30 ?_
      exact Gd_ireturn eX7_drawn_32 rfl (Nat.le_refl _) (Nat.le_refl _) ⟨a, g, by rw [oDrawn_n (Or.inr (Or.inl c18))], rfl, chg_rf⟩
    · refine Gd_iload_n (i := 3) rfl eX7_drawn_21 ?_
      refine Gd_iconst ki_0 eX7_drawn_22 ?_
      refine Gd_iconst ki_1 eX7_drawn_23 ?_
      refine Gd_callP (g_cS (x_isWithin _ _ _) ok_X7_isWithin lk_RX7_119 rfl rfl (Nat.le_of_ble_eq_true rfl) (Nat.le_of_ble_eq_true rfl) (Nat.le_refl _) (Nat.le_refl _) eX7_drawn_24) ?_
      refine Gd_if_neB eX7_drawn_27 (fun c27 => ?_) (fun c27 => ?_)
      · obtain ⟨s, _, hs, rfl⟩ := inb_r (by decide) (by decide) c8
        obtain ⟨n, _, hn, rfl⟩ := inb_r (by decide) (by decide) c18
        obtain ⟨k, _, hk, rfl⟩ := inb_r (by decide) (by decide) c27
        rcases (by omega : k = 0 ∨ k = 1) with rfl | rfl
        · refine Gd_aload_n (i := 0) rfl eX7_drawn_33 ?_
          refine Gd_iload_n (i := 1) rfl eX7_drawn_34 ?_
          refine Gd_iload_n (i := 2) rfl eX7_drawn_35 ?_
          refine Gd_callEG (g_cV (x_shootByLots hW hA hI hT hTI hlt (s := s) (n := n) (by omega) hn) ok_X7_shootByLots lk_RX7_277 (W_s0 hW) ⟨_, _, rfl⟩ rfl rfl (Nat.le_of_ble_eq_true rfl) (Nat.le_of_ble_eq_true rfl) (Nat.le_refl _) (Nat.le_refl _) eX7_drawn_36) (fun a2 g2 hq => ?_)
          obtain ⟨hA2, hq⟩ := hq
          refine Gd_istore4 rfl eX7_drawn_39 ?_
          refine Gd_iload_n (i := 3) rfl eX7_drawn_41 ?_
          refine Gd_if_ne eX7_drawn_42 (fun q => by first | exact absurd q (by decide) | exact absurd (by decide) q) (fun _ => ?_)
          refine Gd_aload_n (i := 0) rfl eX7_drawn_45 ?_
          refine Gd_getR fl_RX7_16 (W_s0 hW) (W_r0_1 hW) eX7_drawn_46 ?_
          refine Gd_getIe (v := nI (lsF ts cd n (s + 1) φ 7 0)) fl_RX7_94 (W_s9 hW) (FA_al hA2 :) eX7_drawn_49 ?_
          refine Gd_goto eX7_drawn_52 ?_
          exact Gd_ireturn eX7_drawn_57 rfl (Nat.le_refl _) (Nat.le_refl _) ⟨a2, g2, by rw [oDrawn_0 hs hn], rfl, hq⟩
        · refine Gd_aload_n (i := 0) rfl eX7_drawn_33 ?_
          refine Gd_iload_n (i := 1) rfl eX7_drawn_34 ?_
          refine Gd_iload_n (i := 2) rfl eX7_drawn_35 ?_
          refine Gd_callEG (g_cV (x_shootByLots hW hA hI hT hTI hlt (s := s) (n := n) (by omega) hn) ok_X7_shootByLots lk_RX7_277 (W_s0 hW) ⟨_, _, rfl⟩ rfl rfl (Nat.le_of_ble_eq_true rfl) (Nat.le_of_ble_eq_true rfl) (Nat.le_refl _) (Nat.le_refl _) eX7_drawn_36) (fun a2 g2 hq => ?_)
          obtain ⟨hA2, hq⟩ := hq
          refine Gd_istore4 rfl eX7_drawn_39 ?_
          refine Gd_iload_n (i := 3) rfl eX7_drawn_41 ?_
          refine Gd_if_ne eX7_drawn_42 (fun _ => ?_) (fun q => by first | exact absurd q (by decide) | exact absurd (by decide) q)
          refine Gd_iload (i := 4) rfl eX7_drawn_55 ?_
          exact Gd_ireturn eX7_drawn_57 rfl (Nat.le_refl _) (Nat.le_refl _) ⟨a2, g2, by rw [oDrawn_1 hs hn], rfl, hq⟩
      · refine Gd_bipush kb_m2 eX7_drawn_30 ?_
        exact Gd_ireturn eX7_drawn_32 rfl (Nat.le_refl _) (Nat.le_refl _) ⟨a, g, by rw [oDrawn_n (Or.inr (Or.inr (c27)))], rfl, chg_rf⟩
