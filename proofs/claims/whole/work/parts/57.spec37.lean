theorem m_safest0_L {sh : List (Nat × Nat)} {a : Nat → Nat → Int32} {r : Nat → Nat → Option Nat} {g : Nat → Nat → Int64} {φ : Nat → Nat → Nat} (hW : WD sh r) (hM : MA φ a) (hI : FI φ) {x5 x6 : Option g_V} {Q : Option g_V → g_H → Prop} {N0 : Nat} : ∀ (n k : Nat) (l2 l3 : Int32), k + n = 10 → l2 = spi (sfb φ k).1 → l3 = fsi (sfb φ k).1 (sfb φ k).2 → Q (some (vi (spi (sfb φ 10).1))) (sh, a, r, g) → Gd YX8_safest (z0 2 N0 Q) 0 0 19 [some (vr 50), some (vi (nI 0)), some (vi l2), some (vi l3), some (vi (nI k)), x5, x6] [] (sh, a, r, g)
  | 0, k, l2, l3, hn, h2, h3, kq => by
    subst h2
    subst h3
    obtain ⟨hb1, hb2⟩ := sfb_le φ k
    have hhu := FI_hu hI
    have hnk : pops (hol φ k (φ 7 3)) 10 ≤ 10 := hnm_le φ k
    have hh64 := hol64 (φ := φ) (d := k) hhu
    refine Gd_iload (i := 4) rfl eX8_safest_19 ?_
    refine Gd_bipush kb_10 eX8_safest_21 ?_
    refine Gd_icmp_geN (by first | omega | decide) (by first | omega | decide) eX8_safest_23 (fun c23 => ?_) (fun c23 => ?_)
    · refine Gd_iload_n (i := 1) rfl eX8_safest_134 ?_
      refine Gd_if_ne eX8_safest_135 (fun q => by first | exact absurd q (by decide) | exact absurd (by decide) q) (fun _ => ?_)
      refine Gd_iload_n (i := 2) rfl eX8_safest_138 ?_
      refine Gd_goto eX8_safest_139 ?_
      exact Gd_ireturn eX8_safest_143 rfl (Nat.le_refl _) (Nat.le_refl _) (by rw [show k = 10 by omega] at *; exact kq)
    · exact absurd c23 (by omega)
  | n + 1, k, l2, l3, hn, h2, h3, kq => by
    subst h2
    subst h3
    obtain ⟨hb1, hb2⟩ := sfb_le φ k
    have hhu := FI_hu hI
    have hnk : pops (hol φ k (φ 7 3)) 10 ≤ 10 := hnm_le φ k
    have hh64 := hol64 (φ := φ) (d := k) hhu
    refine Gd_iload (i := 4) rfl eX8_safest_19 ?_
    refine Gd_bipush kb_10 eX8_safest_21 ?_
    refine Gd_icmp_geN (by first | omega | decide) (by first | omega | decide) eX8_safest_23 (fun c23 => ?_) (fun c23 => ?_)
    · exact absurd c23 (by omega)
    · have hsh := FI_sh hI (d := k) (by omega)
      have hsb : ∀ b, b < k → φ 0 b ≤ 99 := fun b hb => FI_sh hI (by omega)
      rcases (show (sfb φ k).1 = 0 ∨ ∃ b, (sfb φ k).1 = b + 1 from by cases h : (sfb φ k).1 with | zero => exact Or.inl rfl | succ b => exact Or.inr ⟨b, rfl⟩) with h0 | ⟨b, h0⟩
      · rw [h0]
        rw [show spi 0 = -1 from rfl, show fsi 0 (sfb φ k).2 = -1 from rfl]
        refine Gd_aload_n (i := 0) rfl eX8_safest_26 ?_
        refine Gd_iload (i := 4) rfl eX8_safest_27 ?_
        refine Gd_callP (g_cV (m_isAlive hW hM hI (d := k) (by omega)) ok_X8_isAlive lk_RX8_208 (W_s50 hW) ⟨_, _, rfl⟩ rfl rfl (Nat.le_of_ble_eq_true rfl) (Nat.le_of_ble_eq_true rfl) (Nat.le_refl _) (Nat.le_refl _) eX8_safest_29) ?_
        refine Gd_if_eqB eX8_safest_32 (fun c32 => ?_) (fun c32 => ?_)
        · refine Gd_iinc4 (ho := rfl) (he := nI_inc _) eX8_safest_128 ?_
          refine Gd_goto eX8_safest_131 ?_
          exact m_safest0_L hW hM hI n (k + 1) _ _ (by omega) (by rw [sfb_d c32, h0]; rfl) (by rw [sfb_d c32, h0]; rfl) kq
        · refine Gd_aload_n (i := 0) rfl eX8_safest_35 ?_
          refine Gd_iload (i := 4) rfl eX8_safest_36 ?_
          refine Gd_callP (g_cV (m_cardsWith hW hM hI (d := k) (by omega)) ok_X8_cardsWith lk_RX8_116 (W_s50 hW) ⟨_, _, rfl⟩ rfl rfl (Nat.le_of_ble_eq_true rfl) (Nat.le_of_ble_eq_true rfl) (Nat.le_refl _) (Nat.le_refl _) eX8_safest_38) ?_
          refine Gd_callP (g_cS (m_bitsOf (n := hol φ k (φ 7 3)) (by omega)) ok_X8_bitsOf lk_RX8_92 rfl rfl (Nat.le_of_ble_eq_true rfl) (Nat.le_of_ble_eq_true rfl) (Nat.le_refl _) (Nat.le_refl _) eX8_safest_41) ?_
          refine Gd_istore5 rfl eX8_safest_44 ?_
          refine Gd_iload_n (i := 2) rfl eX8_safest_46 ?_
          refine Gd_iconst ki_m1 eX8_safest_47 ?_
          refine Gd_icmp_eq eX8_safest_48 (fun _ => ?_) (fun q => by first | exact absurd q (by decide) | exact absurd (by decide) q)
          refine Gd_iconst ki_1 eX8_safest_57 ?_
          refine Gd_goto eX8_safest_58 ?_
          refine Gd_istore6 rfl eX8_safest_62 ?_
          refine Gd_iload (i := 6) rfl eX8_safest_64 ?_
          refine Gd_if_ne eX8_safest_66 (fun _ => ?_) (fun q => by first | exact absurd q (by decide) | exact absurd (by decide) q)
          refine Gd_iload (i := 6) rfl eX8_safest_104 ?_
          refine Gd_if_eq eX8_safest_106 (fun q => by first | exact absurd q (by decide) | exact absurd (by decide) q) (fun _ => ?_)
          refine Gd_iload (i := 4) rfl eX8_safest_109 ?_
          refine Gd_goto eX8_safest_111 ?_
          refine Gd_istore_n2 rfl eX8_safest_115 ?_
          refine Gd_iload (i := 6) rfl eX8_safest_116 ?_
          refine Gd_if_eq eX8_safest_118 (fun q => by first | exact absurd q (by decide) | exact absurd (by decide) q) (fun _ => ?_)
          refine Gd_iload (i := 5) rfl eX8_safest_121 ?_
          refine Gd_goto eX8_safest_123 ?_
          refine Gd_istore_n3 rfl eX8_safest_127 ?_
          refine Gd_iinc4 (ho := rfl) (he := nI_inc _) eX8_safest_128 ?_
          refine Gd_goto eX8_safest_131 ?_
          have hs := sfb_y c32 (Or.inl h0)
          exact m_safest0_L hW hM hI n (k + 1) _ _ (by omega) (by rw [hs, spi_s]) (by rw [hs, fsi_s]; rfl) kq
      · rw [h0, spi_s, fsi_s]
        have hbk := hsb b (by omega)
        refine Gd_aload_n (i := 0) rfl eX8_safest_26 ?_
        refine Gd_iload (i := 4) rfl eX8_safest_27 ?_
        refine Gd_callP (g_cV (m_isAlive hW hM hI (d := k) (by omega)) ok_X8_isAlive lk_RX8_208 (W_s50 hW) ⟨_, _, rfl⟩ rfl rfl (Nat.le_of_ble_eq_true rfl) (Nat.le_of_ble_eq_true rfl) (Nat.le_refl _) (Nat.le_refl _) eX8_safest_29) ?_
        refine Gd_if_eqB eX8_safest_32 (fun c32 => ?_) (fun c32 => ?_)
        · refine Gd_iinc4 (ho := rfl) (he := nI_inc _) eX8_safest_128 ?_
          refine Gd_goto eX8_safest_131 ?_
          exact m_safest0_L hW hM hI n (k + 1) _ _ (by omega) (by rw [sfb_d c32, h0, spi_s]) (by rw [sfb_d c32, h0, fsi_s]) kq
        · refine Gd_aload_n (i := 0) rfl eX8_safest_35 ?_
          refine Gd_iload (i := 4) rfl eX8_safest_36 ?_
          refine Gd_callP (g_cV (m_cardsWith hW hM hI (d := k) (by omega)) ok_X8_cardsWith lk_RX8_116 (W_s50 hW) ⟨_, _, rfl⟩ rfl rfl (Nat.le_of_ble_eq_true rfl) (Nat.le_of_ble_eq_true rfl) (Nat.le_refl _) (Nat.le_refl _) eX8_safest_38) ?_
          refine Gd_callP (g_cS (m_bitsOf (n := hol φ k (φ 7 3)) (by omega)) ok_X8_bitsOf lk_RX8_92 rfl rfl (Nat.le_of_ble_eq_true rfl) (Nat.le_of_ble_eq_true rfl) (Nat.le_refl _) (Nat.le_refl _) eX8_safest_41) ?_
          refine Gd_istore5 rfl eX8_safest_44 ?_
          refine Gd_iload_n (i := 2) rfl eX8_safest_46 ?_
          refine Gd_iconst ki_m1 eX8_safest_47 ?_
          refine Gd_icmp_eqM0 (by first | omega | decide) eX8_safest_48 ?_
          refine Gd_iload (i := 5) rfl eX8_safest_51 ?_
          refine Gd_iload_n (i := 3) rfl eX8_safest_53 ?_
          refine Gd_icmp_geN (by first | omega | decide) (by first | omega | decide) eX8_safest_54 (fun c54 => ?_) (fun c54 => ?_)
          · refine Gd_iconst ki_0 eX8_safest_61 ?_
            refine Gd_istore6 rfl eX8_safest_62 ?_
            refine Gd_iload (i := 6) rfl eX8_safest_64 ?_
            refine Gd_if_ne eX8_safest_66 (fun q => by first | exact absurd q (by decide) | exact absurd (by decide) q) (fun _ => ?_)
            refine Gd_iload (i := 5) rfl eX8_safest_69 ?_
            refine Gd_iload_n (i := 3) rfl eX8_safest_71 ?_
            refine Gd_icmp_neN (by first | omega | decide) (by first | omega | decide) eX8_safest_72 (fun c72 => ?_) (fun c72 => ?_)
            · refine Gd_iload (i := 6) rfl eX8_safest_104 ?_
              refine Gd_if_eq eX8_safest_106 (fun _ => ?_) (fun q => by first | exact absurd q (by decide) | exact absurd (by decide) q)
              refine Gd_iload_n (i := 2) rfl eX8_safest_114 ?_
              refine Gd_istore_n2 rfl eX8_safest_115 ?_
              refine Gd_iload (i := 6) rfl eX8_safest_116 ?_
              refine Gd_if_eq eX8_safest_118 (fun _ => ?_) (fun q => by first | exact absurd q (by decide) | exact absurd (by decide) q)
              refine Gd_iload_n (i := 3) rfl eX8_safest_126 ?_
              refine Gd_istore_n3 rfl eX8_safest_127 ?_
              refine Gd_iinc4 (ho := rfl) (he := nI_inc _) eX8_safest_128 ?_
              refine Gd_goto eX8_safest_131 ?_
              have hs := sfb_n (φ := φ) c32 (fun z => by rw [h0, Nat.add_sub_cancel] at z; have h9 : hnm φ k = pops (hol φ k (φ 7 3)) 10 := rfl; rcases z with z | z | z <;> omega)
              exact m_safest0_L hW hM hI n (k + 1) _ _ (by omega) (by rw [hs, h0, spi_s]) (by rw [hs, h0, fsi_s]) kq
            · refine Gd_aload_n (i := 0) rfl eX8_safest_75 ?_
              refine Gd_getR fl_RX8_19 (W_s50 hW) (W_r50_4 hW) eX8_safest_76 ?_
              refine Gd_iload (i := 4) rfl eX8_safest_79 ?_
              refine Gd_ialdE (v := nI (φ 0 k)) (W_s54 hW) (by first | omega | decide) (MA_sh hM (d := k) (by first | omega | decide) :) eX8_safest_81 ?_
              refine Gd_aload_n (i := 0) rfl eX8_safest_82 ?_
              refine Gd_getR fl_RX8_19 (W_s50 hW) (W_r50_4 hW) eX8_safest_83 ?_
              refine Gd_iload_n (i := 2) rfl eX8_safest_86 ?_
              refine Gd_iconst ki_0 eX8_safest_87 ?_
              refine Gd_bipush kb_9 eX8_safest_88 ?_
              refine Gd_callP (g_cS (m_within _ _ _) ok_X8_within lk_RX8_183 rfl rfl (Nat.le_of_ble_eq_true rfl) (Nat.le_of_ble_eq_true rfl) (Nat.le_refl _) (Nat.le_refl _) eX8_safest_90) ?_
              rw [wth_d (by omega)]
              refine Gd_ialdE (v := nI (φ 0 b)) (W_s54 hW) (by first | omega | decide) (MA_sh hM (d := b) (by first | omega | decide) :) eX8_safest_93 ?_
              refine Gd_icmp_leN (by first | omega | decide) (by first | omega | decide) eX8_safest_94 (fun c94 => ?_) (fun c94 => ?_)
              · refine Gd_iconst ki_0 eX8_safest_101 ?_
                refine Gd_istore6 rfl eX8_safest_102 ?_
                refine Gd_iload (i := 6) rfl eX8_safest_104 ?_
                refine Gd_if_eq eX8_safest_106 (fun _ => ?_) (fun q => by first | exact absurd q (by decide) | exact absurd (by decide) q)
                refine Gd_iload_n (i := 2) rfl eX8_safest_114 ?_
                refine Gd_istore_n2 rfl eX8_safest_115 ?_
                refine Gd_iload (i := 6) rfl eX8_safest_116 ?_
                refine Gd_if_eq eX8_safest_118 (fun _ => ?_) (fun q => by first | exact absurd q (by decide) | exact absurd (by decide) q)
                refine Gd_iload_n (i := 3) rfl eX8_safest_126 ?_
                refine Gd_istore_n3 rfl eX8_safest_127 ?_
                refine Gd_iinc4 (ho := rfl) (he := nI_inc _) eX8_safest_128 ?_
                refine Gd_goto eX8_safest_131 ?_
                have hs := sfb_n (φ := φ) c32 (fun z => by rw [h0, Nat.add_sub_cancel] at z; have h9 : hnm φ k = pops (hol φ k (φ 7 3)) 10 := rfl; rcases z with z | z | z <;> omega)
                exact m_safest0_L hW hM hI n (k + 1) _ _ (by omega) (by rw [hs, h0, spi_s]) (by rw [hs, h0, fsi_s]) kq
              · refine Gd_iconst ki_1 eX8_safest_97 ?_
                refine Gd_goto eX8_safest_98 ?_
                refine Gd_istore6 rfl eX8_safest_102 ?_
                refine Gd_iload (i := 6) rfl eX8_safest_104 ?_
                refine Gd_if_eq eX8_safest_106 (fun q => by first | exact absurd q (by decide) | exact absurd (by decide) q) (fun _ => ?_)
                refine Gd_iload (i := 4) rfl eX8_safest_109 ?_
                refine Gd_goto eX8_safest_111 ?_
                refine Gd_istore_n2 rfl eX8_safest_115 ?_
                refine Gd_iload (i := 6) rfl eX8_safest_116 ?_
                refine Gd_if_eq eX8_safest_118 (fun q => by first | exact absurd q (by decide) | exact absurd (by decide) q) (fun _ => ?_)
                refine Gd_iload (i := 5) rfl eX8_safest_121 ?_
                refine Gd_goto eX8_safest_123 ?_
                refine Gd_istore_n3 rfl eX8_safest_127 ?_
                refine Gd_iinc4 (ho := rfl) (he := nI_inc _) eX8_safest_128 ?_
                refine Gd_goto eX8_safest_131 ?_
                have hs := sfb_y c32 (Or.inr (Or.inr ⟨(show hnm φ k = (sfb φ k).2 from by have h9 : hnm φ k = pops (hol φ k (φ 7 3)) 10 := rfl; omega), by rw [h0, Nat.add_sub_cancel]; omega⟩))
                exact m_safest0_L hW hM hI n (k + 1) _ _ (by omega) (by rw [hs, spi_s]) (by rw [hs, fsi_s]; rfl) kq
          · refine Gd_iconst ki_1 eX8_safest_57 ?_
            refine Gd_goto eX8_safest_58 ?_
            refine Gd_istore6 rfl eX8_safest_62 ?_
            refine Gd_iload (i := 6) rfl eX8_safest_64 ?_
            refine Gd_if_ne eX8_safest_66 (fun _ => ?_) (fun q => by first | exact absurd q (by decide) | exact absurd (by decide) q)
            refine Gd_iload (i := 6) rfl eX8_safest_104 ?_
            refine Gd_if_eq eX8_safest_106 (fun q => by first | exact absurd q (by decide) | exact absurd (by decide) q) (fun _ => ?_)
            refine Gd_iload (i := 4) rfl eX8_safest_109 ?_
            refine Gd_goto eX8_safest_111 ?_
            refine Gd_istore_n2 rfl eX8_safest_115 ?_
            refine Gd_iload (i := 6) rfl eX8_safest_116 ?_
            refine Gd_if_eq eX8_safest_118 (fun q => by first | exact absurd q (by decide) | exact absurd (by decide) q) (fun _ => ?_)
            refine Gd_iload (i := 5) rfl eX8_safest_121 ?_
            refine Gd_goto eX8_safest_123 ?_
            refine Gd_istore_n3 rfl eX8_safest_127 ?_
            refine Gd_iinc4 (ho := rfl) (he := nI_inc _) eX8_safest_128 ?_
            refine Gd_goto eX8_safest_131 ?_
            have hs := sfb_y c32 (Or.inr (Or.inl (show hnm φ k < (sfb φ k).2 from by have h9 : hnm φ k = pops (hol φ k (φ 7 3)) 10 := rfl; omega)))
            exact m_safest0_L hW hM hI n (k + 1) _ _ (by omega) (by rw [hs, spi_s]) (by rw [hs, fsi_s]; rfl) kq
theorem m_safest1_L {sh : List (Nat × Nat)} {a : Nat → Nat → Int32} {r : Nat → Nat → Option Nat} {g : Nat → Nat → Int64} {φ : Nat → Nat → Nat} (hW : WD sh r) (hM : MA φ a) (hI : FI φ) {x5 x6 : Option g_V} {Q : Option g_V → g_H → Prop} {N0 : Nat} : ∀ (n k : Nat) (l2 l3 : Int32), k + n = 10 → l2 = spi (sfb φ k).1 → l3 = fsi (sfb φ k).1 (sfb φ k).2 → Q (some (vi (fsi (sfb φ 10).1 (sfb φ 10).2))) (sh, a, r, g) → Gd YX8_safest (z0 2 N0 Q) 0 0 19 [some (vr 50), some (vi (nI 1)), some (vi l2), some (vi l3), some (vi (nI k)), x5, x6] [] (sh, a, r, g)
  | 0, k, l2, l3, hn, h2, h3, kq => by
    subst h2
    subst h3
    obtain ⟨hb1, hb2⟩ := sfb_le φ k
    have hhu := FI_hu hI
    have hnk : pops (hol φ k (φ 7 3)) 10 ≤ 10 := hnm_le φ k
    have hh64 := hol64 (φ := φ) (d := k) hhu
    refine Gd_iload (i := 4) rfl eX8_safest_19 ?_
    refine Gd_bipush kb_10 eX8_safest_21 ?_
    refine Gd_icmp_geN (by first | omega | decide) (by first | omega | decide) eX8_safest_23 (fun c23 => ?_) (fun c23 => ?_)
    · refine Gd_iload_n (i := 1) rfl eX8_safest_134 ?_
      refine Gd_if_ne eX8_safest_135 (fun _ => ?_) (fun q => by first | exact absurd q (by decide) | exact absurd (by decide) q)
      refine Gd_iload_n (i := 3) rfl eX8_safest_142 ?_
      exact Gd_ireturn eX8_safest_143 rfl (Nat.le_refl _) (Nat.le_refl _) (by rw [show k = 10 by omega] at *; exact kq)
    · exact absurd c23 (by omega)
  | n + 1, k, l2, l3, hn, h2, h3, kq => by
    subst h2
    subst h3
    obtain ⟨hb1, hb2⟩ := sfb_le φ k
    have hhu := FI_hu hI
    have hnk : pops (hol φ k (φ 7 3)) 10 ≤ 10 := hnm_le φ k
    have hh64 := hol64 (φ := φ) (d := k) hhu
    refine Gd_iload (i := 4) rfl eX8_safest_19 ?_
    refine Gd_bipush kb_10 eX8_safest_21 ?_
    refine Gd_icmp_geN (by first | omega | decide) (by first | omega | decide) eX8_safest_23 (fun c23 => ?_) (fun c23 => ?_)
    · exact absurd c23 (by omega)
    · have hsh := FI_sh hI (d := k) (by omega)
      have hsb : ∀ b, b < k → φ 0 b ≤ 99 := fun b hb => FI_sh hI (by omega)
      rcases (show (sfb φ k).1 = 0 ∨ ∃ b, (sfb φ k).1 = b + 1 from by cases h : (sfb φ k).1 with | zero => exact Or.inl rfl | succ b => exact Or.inr ⟨b, rfl⟩) with h0 | ⟨b, h0⟩
      · rw [h0]
        rw [show spi 0 = -1 from rfl, show fsi 0 (sfb φ k).2 = -1 from rfl]
        refine Gd_aload_n (i := 0) rfl eX8_safest_26 ?_
        refine Gd_iload (i := 4) rfl eX8_safest_27 ?_
        refine Gd_callP (g_cV (m_isAlive hW hM hI (d := k) (by omega)) ok_X8_isAlive lk_RX8_208 (W_s50 hW) ⟨_, _, rfl⟩ rfl rfl (Nat.le_of_ble_eq_true rfl) (Nat.le_of_ble_eq_true rfl) (Nat.le_refl _) (Nat.le_refl _) eX8_safest_29) ?_
        refine Gd_if_eqB eX8_safest_32 (fun c32 => ?_) (fun c32 => ?_)
        · refine Gd_iinc4 (ho := rfl) (he := nI_inc _) eX8_safest_128 ?_
          refine Gd_goto eX8_safest_131 ?_
          exact m_safest1_L hW hM hI n (k + 1) _ _ (by omega) (by rw [sfb_d c32, h0]; rfl) (by rw [sfb_d c32, h0]; rfl) kq
        · refine Gd_aload_n (i := 0) rfl eX8_safest_35 ?_
          refine Gd_iload (i := 4) rfl eX8_safest_36 ?_
          refine Gd_callP (g_cV (m_cardsWith hW hM hI (d := k) (by omega)) ok_X8_cardsWith lk_RX8_116 (W_s50 hW) ⟨_, _, rfl⟩ rfl rfl (Nat.le_of_ble_eq_true rfl) (Nat.le_of_ble_eq_true rfl) (Nat.le_refl _) (Nat.le_refl _) eX8_safest_38) ?_
          refine Gd_callP (g_cS (m_bitsOf (n := hol φ k (φ 7 3)) (by omega)) ok_X8_bitsOf lk_RX8_92 rfl rfl (Nat.le_of_ble_eq_true rfl) (Nat.le_of_ble_eq_true rfl) (Nat.le_refl _) (Nat.le_refl _) eX8_safest_41) ?_
          refine Gd_istore5 rfl eX8_safest_44 ?_
          refine Gd_iload_n (i := 2) rfl eX8_safest_46 ?_
          refine Gd_iconst ki_m1 eX8_safest_47 ?_
          refine Gd_icmp_eq eX8_safest_48 (fun _ => ?_) (fun q => by first | exact absurd q (by decide) | exact absurd (by decide) q)
          refine Gd_iconst ki_1 eX8_safest_57 ?_
          refine Gd_goto eX8_safest_58 ?_
          refine Gd_istore6 rfl eX8_safest_62 ?_
          refine Gd_iload (i := 6) rfl eX8_safest_64 ?_
          refine Gd_if_ne eX8_safest_66 (fun _ => ?_) (fun q => by first | exact absurd q (by decide) | exact absurd (by decide) q)
          refine Gd_iload (i := 6) rfl eX8_safest_104 ?_
          refine Gd_if_eq eX8_safest_106 (fun q => by first | exact absurd q (by decide) | exact absurd (by decide) q) (fun _ => ?_)
          refine Gd_iload (i := 4) rfl eX8_safest_109 ?_
          refine Gd_goto eX8_safest_111 ?_
          refine Gd_istore_n2 rfl eX8_safest_115 ?_
          refine Gd_iload (i := 6) rfl eX8_safest_116 ?_
          refine Gd_if_eq eX8_safest_118 (fun q => by first | exact absurd q (by decide) | exact absurd (by decide) q) (fun _ => ?_)
          refine Gd_iload (i := 5) rfl eX8_safest_121 ?_
          refine Gd_goto eX8_safest_123 ?_
          refine Gd_istore_n3 rfl eX8_safest_127 ?_
          refine Gd_iinc4 (ho := rfl) (he := nI_inc _) eX8_safest_128 ?_
          refine Gd_goto eX8_safest_131 ?_
          have hs := sfb_y c32 (Or.inl h0)
          exact m_safest1_L hW hM hI n (k + 1) _ _ (by omega) (by rw [hs, spi_s]) (by rw [hs, fsi_s]; rfl) kq
      · rw [h0, spi_s, fsi_s]
        have hbk := hsb b (by omega)
        refine Gd_aload_n (i := 0) rfl eX8_safest_26 ?_
        refine Gd_iload (i := 4) rfl eX8_safest_27 ?_
        refine Gd_callP (g_cV (m_isAlive hW hM hI (d := k) (by omega)) ok_X8_isAlive lk_RX8_208 (W_s50 hW) ⟨_, _, rfl⟩ rfl rfl (Nat.le_of_ble_eq_true rfl) (Nat.le_of_ble_eq_true rfl) (Nat.le_refl _) (Nat.le_refl _) eX8_safest_29) ?_
        refine Gd_if_eqB eX8_safest_32 (fun c32 => ?_) (fun c32 => ?_)
        · refine Gd_iinc4 (ho := rfl) (he := nI_inc _) eX8_safest_128 ?_
          refine Gd_goto eX8_safest_131 ?_
          exact m_safest1_L hW hM hI n (k + 1) _ _ (by omega) (by rw [sfb_d c32, h0, spi_s]) (by rw [sfb_d c32, h0, fsi_s]) kq
        · refine Gd_aload_n (i := 0) rfl eX8_safest_35 ?_
          refine Gd_iload (i := 4) rfl eX8_safest_36 ?_
          refine Gd_callP (g_cV (m_cardsWith hW hM hI (d := k) (by omega)) ok_X8_cardsWith lk_RX8_116 (W_s50 hW) ⟨_, _, rfl⟩ rfl rfl (Nat.le_of_ble_eq_true rfl) (Nat.le_of_ble_eq_true rfl) (Nat.le_refl _) (Nat.le_refl _) eX8_safest_38) ?_
          refine Gd_callP (g_cS (m_bitsOf (n := hol φ k (φ 7 3)) (by omega)) ok_X8_bitsOf lk_RX8_92 rfl rfl (Nat.le_of_ble_eq_true rfl) (Nat.le_of_ble_eq_true rfl) (Nat.le_refl _) (Nat.le_refl _) eX8_safest_41) ?_
          refine Gd_istore5 rfl eX8_safest_44 ?_
          refine Gd_iload_n (i := 2) rfl eX8_safest_46 ?_
          refine Gd_iconst ki_m1 eX8_safest_47 ?_
          refine Gd_icmp_eqM0 (by first | omega | decide) eX8_safest_48 ?_
          refine Gd_iload (i := 5) rfl eX8_safest_51 ?_
          refine Gd_iload_n (i := 3) rfl eX8_safest_53 ?_
          refine Gd_icmp_geN (by first | omega | decide) (by first | omega | decide) eX8_safest_54 (fun c54 => ?_) (fun c54 => ?_)
          · refine Gd_iconst ki_0 eX8_safest_61 ?_
            refine Gd_istore6 rfl eX8_safest_62 ?_
            refine Gd_iload (i := 6) rfl eX8_safest_64 ?_
            refine Gd_if_ne eX8_safest_66 (fun q => by first | exact absurd q (by decide) | exact absurd (by decide) q) (fun _ => ?_)
            refine Gd_iload (i := 5) rfl eX8_safest_69 ?_
            refine Gd_iload_n (i := 3) rfl eX8_safest_71 ?_
            refine Gd_icmp_neN (by first | omega | decide) (by first | omega | decide) eX8_safest_72 (fun c72 => ?_) (fun c72 => ?_)
            · refine Gd_iload (i := 6) rfl eX8_safest_104 ?_
              refine Gd_if_eq eX8_safest_106 (fun _ => ?_) (fun q => by first | exact absurd q (by decide) | exact absurd (by decide) q)
              refine Gd_iload_n (i := 2) rfl eX8_safest_114 ?_
              refine Gd_istore_n2 rfl eX8_safest_115 ?_
              refine Gd_iload (i := 6) rfl eX8_safest_116 ?_
              refine Gd_if_eq eX8_safest_118 (fun _ => ?_) (fun q => by first | exact absurd q (by decide) | exact absurd (by decide) q)
              refine Gd_iload_n (i := 3) rfl eX8_safest_126 ?_
              refine Gd_istore_n3 rfl eX8_safest_127 ?_
              refine Gd_iinc4 (ho := rfl) (he := nI_inc _) eX8_safest_128 ?_
              refine Gd_goto eX8_safest_131 ?_
              have hs := sfb_n (φ := φ) c32 (fun z => by rw [h0, Nat.add_sub_cancel] at z; have h9 : hnm φ k = pops (hol φ k (φ 7 3)) 10 := rfl; rcases z with z | z | z <;> omega)
              exact m_safest1_L hW hM hI n (k + 1) _ _ (by omega) (by rw [hs, h0, spi_s]) (by rw [hs, h0, fsi_s]) kq
            · refine Gd_aload_n (i := 0) rfl eX8_safest_75 ?_
              refine Gd_getR fl_RX8_19 (W_s50 hW) (W_r50_4 hW) eX8_safest_76 ?_
              refine Gd_iload (i := 4) rfl eX8_safest_79 ?_
              refine Gd_ialdE (v := nI (φ 0 k)) (W_s54 hW) (by first | omega | decide) (MA_sh hM (d := k) (by first | omega | decide) :) eX8_safest_81 ?_
              refine Gd_aload_n (i := 0) rfl eX8_safest_82 ?_
              refine Gd_getR fl_RX8_19 (W_s50 hW) (W_r50_4 hW) eX8_safest_83 ?_
              refine Gd_iload_n (i := 2) rfl eX8_safest_86 ?_
              refine Gd_iconst ki_0 eX8_safest_87 ?_
              refine Gd_bipush kb_9 eX8_safest_88 ?_
              refine Gd_callP (g_cS (m_within _ _ _) ok_X8_within lk_RX8_183 rfl rfl (Nat.le_of_ble_eq_true rfl) (Nat.le_of_ble_eq_true rfl) (Nat.le_refl _) (Nat.le_refl _) eX8_safest_90) ?_
              rw [wth_d (by omega)]
              refine Gd_ialdE (v := nI (φ 0 b)) (W_s54 hW) (by first | omega | decide) (MA_sh hM (d := b) (by first | omega | decide) :) eX8_safest_93 ?_
              refine Gd_icmp_leN (by first | omega | decide) (by first | omega | decide) eX8_safest_94 (fun c94 => ?_) (fun c94 => ?_)
              · refine Gd_iconst ki_0 eX8_safest_101 ?_
                refine Gd_istore6 rfl eX8_safest_102 ?_
                refine Gd_iload (i := 6) rfl eX8_safest_104 ?_
                refine Gd_if_eq eX8_safest_106 (fun _ => ?_) (fun q => by first | exact absurd q (by decide) | exact absurd (by decide) q)
                refine Gd_iload_n (i := 2) rfl eX8_safest_114 ?_
                refine Gd_istore_n2 rfl eX8_safest_115 ?_
                refine Gd_iload (i := 6) rfl eX8_safest_116 ?_
                refine Gd_if_eq eX8_safest_118 (fun _ => ?_) (fun q => by first | exact absurd q (by decide) | exact absurd (by decide) q)
                refine Gd_iload_n (i := 3) rfl eX8_safest_126 ?_
                refine Gd_istore_n3 rfl eX8_safest_127 ?_
                refine Gd_iinc4 (ho := rfl) (he := nI_inc _) eX8_safest_128 ?_
                refine Gd_goto eX8_safest_131 ?_
                have hs := sfb_n (φ := φ) c32 (fun z => by rw [h0, Nat.add_sub_cancel] at z; have h9 : hnm φ k = pops (hol φ k (φ 7 3)) 10 := rfl; rcases z with z | z | z <;> omega)
                exact m_safest1_L hW hM hI n (k + 1) _ _ (by omega) (by rw [hs, h0, spi_s]) (by rw [hs, h0, fsi_s]) kq
              · refine Gd_iconst ki_1 eX8_safest_97 ?_
                refine Gd_goto eX8_safest_98 ?_
                refine Gd_istore6 rfl eX8_safest_102 ?_
                refine Gd_iload (i := 6) rfl eX8_safest_104 ?_
                refine Gd_if_eq eX8_safest_106 (fun q => by first | exact absurd q (by decide) | exact absurd (by decide) q) (fun _ => ?_)
                refine Gd_iload (i := 4) rfl eX8_safest_109 ?_
                refine Gd_goto eX8_safest_111 ?_
                refine Gd_istore_n2 rfl eX8_safest_115 ?_
                refine Gd_iload (i := 6) rfl eX8_safest_116 ?_
                refine Gd_if_eq eX8_safest_118 (fun q => by first | exact absurd q (by decide) | exact absurd (by decide) q) (fun _ => ?_)
                refine Gd_iload (i := 5) rfl eX8_safest_121 ?_
                refine Gd_goto eX8_safest_123 ?_
                refine Gd_istore_n3 rfl eX8_safest_127 ?_
                refine Gd_iinc4 (ho := rfl) (he := nI_inc _) eX8_safest_128 ?_
                refine Gd_goto eX8_safest_131 ?_
                have hs := sfb_y c32 (Or.inr (Or.inr ⟨(show hnm φ k = (sfb φ k).2 from by have h9 : hnm φ k = pops (hol φ k (φ 7 3)) 10 := rfl; omega), by rw [h0, Nat.add_sub_cancel]; omega⟩))
                exact m_safest1_L hW hM hI n (k + 1) _ _ (by omega) (by rw [hs, spi_s]) (by rw [hs, fsi_s]; rfl) kq
          · refine Gd_iconst ki_1 eX8_safest_57 ?_
            refine Gd_goto eX8_safest_58 ?_
            refine Gd_istore6 rfl eX8_safest_62 ?_
            refine Gd_iload (i := 6) rfl eX8_safest_64 ?_
            refine Gd_if_ne eX8_safest_66 (fun _ => ?_) (fun q => by first | exact absurd q (by decide) | exact absurd (by decide) q)
            refine Gd_iload (i := 6) rfl eX8_safest_104 ?_
            refine Gd_if_eq eX8_safest_106 (fun q => by first | exact absurd q (by decide) | exact absurd (by decide) q) (fun _ => ?_)
            refine Gd_iload (i := 4) rfl eX8_safest_109 ?_
            refine Gd_goto eX8_safest_111 ?_
            refine Gd_istore_n2 rfl eX8_safest_115 ?_
            refine Gd_iload (i := 6) rfl eX8_safest_116 ?_
            refine Gd_if_eq eX8_safest_118 (fun q => by first | exact absurd q (by decide) | exact absurd (by decide) q) (fun _ => ?_)
            refine Gd_iload (i := 5) rfl eX8_safest_121 ?_
            refine Gd_goto eX8_safest_123 ?_
            refine Gd_istore_n3 rfl eX8_safest_127 ?_
            refine Gd_iinc4 (ho := rfl) (he := nI_inc _) eX8_safest_128 ?_
            refine Gd_goto eX8_safest_131 ?_
            have hs := sfb_y c32 (Or.inr (Or.inl (show hnm φ k < (sfb φ k).2 from by have h9 : hnm φ k = pops (hol φ k (φ 7 3)) 10 := rfl; omega)))
            exact m_safest1_L hW hM hI n (k + 1) _ _ (by omega) (by rw [hs, spi_s]) (by rw [hs, fsi_s]; rfl) kq
theorem m_safest {sh : List (Nat × Nat)} {a : Nat → Nat → Int32} {r : Nat → Nat → Option Nat} {g : Nat → Nat → Int64} {φ : Nat → Nat → Nat} (hW : WD sh r) (hM : MA φ a) (hI : FI φ) (vw : Int32) : Mt YX8_safest 2 0 0 [vr 50, vi vw] (sh, a, r, g) (g_P (some (vi (oSafest φ vw))) (sh, a, r, g)) := by
  refine Mt_of rfl (Nat.le_of_ble_eq_true rfl) rfl ?_
  refine Gd_iload_n (i := 1) rfl eX8_safest_0 ?_
  refine Gd_iconst ki_0 eX8_safest_1 ?_
  refine Gd_iconst ki_1 eX8_safest_2 ?_
  refine Gd_callP (g_cS (m_in _ _ _) ok_X8_in lk_RX8_84 rfl rfl (Nat.le_of_ble_eq_true rfl) (Nat.le_of_ble_eq_true rfl) (Nat.le_refl _) (Nat.le_refl _) eX8_safest_3) ?_
  refine Gd_if_neB eX8_safest_6 (fun c6 => ?_) (fun c6 => ?_)
  · obtain ⟨k, _, hk, rfl⟩ := inb_r (by decide) (by decide) c6
    rcases (by omega : k = 0 ∨ k = 1) with rfl | rfl
    · refine Gd_iconst ki_m1 eX8_safest_12 ?_
      refine Gd_istore_n2 rfl eX8_safest_13 ?_
      refine Gd_iconst ki_m1 eX8_safest_14 ?_
      refine Gd_istore_n3 rfl eX8_safest_15 ?_
      refine Gd_iconst ki_0 eX8_safest_16 ?_
      refine Gd_istore4 rfl eX8_safest_17 ?_
      exact m_safest0_L hW hM hI 10 0 (-1) (-1) (by omega) rfl rfl ⟨by rw [oSafest_0], rfl⟩
    · refine Gd_iconst ki_m1 eX8_safest_12 ?_
      refine Gd_istore_n2 rfl eX8_safest_13 ?_
      refine Gd_iconst ki_m1 eX8_safest_14 ?_
      refine Gd_istore_n3 rfl eX8_safest_15 ?_
      refine Gd_iconst ki_0 eX8_safest_16 ?_
      refine Gd_istore4 rfl eX8_safest_17 ?_
      exact m_safest1_L hW hM hI 10 0 (-1) (-1) (by omega) rfl rfl ⟨by rw [oSafest_1], rfl⟩
  · refine Gd_bipush kb_m2 eX8_safest_9 ?_
    exact Gd_ireturn eX8_safest_11 rfl (Nat.le_refl _) (Nat.le_refl _) ⟨by rw [oSafest_w c6], rfl⟩
theorem x_safest0_L {sh : List (Nat × Nat)} {a : Nat → Nat → Int32} {r : Nat → Nat → Option Nat} {g : Nat → Nat → Int64} {φ : Nat → Nat → Nat} (hW : WD sh r) (hA : FA 1 φ a) (hI : FI φ) {x5 x6 : Option g_V} {Q : Option g_V → g_H → Prop} {N0 : Nat} : ∀ (n k : Nat) (l2 l3 : Int32), k + n = 10 → l2 = spi (sfb φ k).1 → l3 = fsi (sfb φ k).1 (sfb φ k).2 → Q (some (vi (spi (sfb φ 10).1))) (sh, a, r, g) → Gd YX7_safest (z0 2 N0 Q) 0 0 19 [some (vr 0), some (vi (nI 0)), some (vi l2), some (vi l3), some (vi (nI k)), x5, x6] [] (sh, a, r, g)
  | 0, k, l2, l3, hn, h2, h3, kq => by
    subst h2
    subst h3
    obtain ⟨hb1, hb2⟩ := sfb_le φ k
    have hhu := FI_hu hI
    have hnk : pops (hol φ k (φ 7 3)) 10 ≤ 10 := hnm_le φ k
    have hh64 := hol64 (φ := φ) (d := k) hhu
    refine Gd_iload (i := 4) rfl eX7_safest_19 ?_
    refine Gd_bipush kb_10 eX7_safest_21 ?_
    refine Gd_icmp_geN (by first | omega | decide) (by first | omega | decide) eX7_safest_23 (fun c23 => ?_) (fun c23 => ?_)
    · refine Gd_iload_n (i := 1) rfl eX7_safest_115 ?_
      refine Gd_if_ne eX7_safest_116 (fun q => by first | exact absurd q (by decide) | exact absurd (by decide) q) (fun _ => ?_)
      refine Gd_iload_n (i := 2) rfl eX7_safest_119 ?_
      refine Gd_goto eX7_safest_120 ?_
      exact Gd_ireturn eX7_safest_124 rfl (Nat.le_refl _) (Nat.le_refl _) (by rw [show k = 10 by omega] at *; exact kq)
    · exact absurd c23 (by omega)
  | n + 1, k, l2, l3, hn, h2, h3, kq => by
    subst h2
    subst h3
    obtain ⟨hb1, hb2⟩ := sfb_le φ k
    have hhu := FI_hu hI
    have hnk : pops (hol φ k (φ 7 3)) 10 ≤ 10 := hnm_le φ k
    have hh64 := hol64 (φ := φ) (d := k) hhu
    refine Gd_iload (i := 4) rfl eX7_safest_19 ?_
    refine Gd_bipush kb_10 eX7_safest_21 ?_
    refine Gd_icmp_geN (by first | omega | decide) (by first | omega | decide) eX7_safest_23 (fun c23 => ?_) (fun c23 => ?_)
    · exact absurd c23 (by omega)
    · have hsh := FI_sh hI (d := k) (by omega)
      have hsb : ∀ b, b < k → φ 0 b ≤ 99 := fun b hb => FI_sh hI (by omega)
      rcases (show (sfb φ k).1 = 0 ∨ ∃ b, (sfb φ k).1 = b + 1 from by cases h : (sfb φ k).1 with | zero => exact Or.inl rfl | succ b => exact Or.inr ⟨b, rfl⟩) with h0 | ⟨b, h0⟩
      · rw [h0]
        rw [show spi 0 = -1 from rfl, show fsi 0 (sfb φ k).2 = -1 from rfl]
        refine Gd_aload_n (i := 0) rfl eX7_safest_26 ?_
        refine Gd_getR fl_RX7_10 (W_s0 hW) (W_r0_0 hW) eX7_safest_27 ?_
        refine Gd_iload (i := 4) rfl eX7_safest_30 ?_
        refine Gd_callP (g_cV (x_holders (W_F1 hW) hA hI (d := k) (by omega)) ok_X0_holders lk_RX7_134 (W_s1 hW) ⟨_, _, rfl⟩ rfl rfl (Nat.le_of_ble_eq_true rfl) (Nat.le_of_ble_eq_true rfl) (Nat.le_refl _) (Nat.le_refl _) eX7_safest_32) ?_
        refine Gd_callP (g_cS (x_bitCount (n := hol φ k (φ 7 3)) (by omega)) ok_J6_bitCount_0f7a4 lk_RX7_97 rfl rfl (Nat.le_of_ble_eq_true rfl) (Nat.le_of_ble_eq_true rfl) (Nat.le_refl _) (Nat.le_refl _) eX7_safest_35) ?_
        refine Gd_istore5 rfl eX7_safest_38 ?_
        refine Gd_iload_n (i := 2) rfl eX7_safest_40 ?_
        refine Gd_iconst ki_m1 eX7_safest_41 ?_
        refine Gd_icmp_ne eX7_safest_42 (fun q => by first | exact absurd q (by decide) | exact absurd (by decide) q) (fun _ => ?_)
        refine Gd_iconst ki_1 eX7_safest_45 ?_
        refine Gd_goto eX7_safest_46 ?_
        refine Gd_istore6 rfl eX7_safest_50 ?_
        refine Gd_aload_n (i := 0) rfl eX7_safest_52 ?_
        refine Gd_getR fl_RX7_10 (W_s0 hW) (W_r0_0 hW) eX7_safest_53 ?_
        refine Gd_iload (i := 4) rfl eX7_safest_56 ?_
        refine Gd_callP (g_cV (x_isAlive (W_F1 hW) hA hI (d := k) (by omega)) ok_X0_isAlive lk_RX7_127 (W_s1 hW) ⟨_, _, rfl⟩ rfl rfl (Nat.le_of_ble_eq_true rfl) (Nat.le_of_ble_eq_true rfl) (Nat.le_refl _) (Nat.le_refl _) eX7_safest_58) ?_
        refine Gd_if_eqB eX7_safest_61 (fun c61 => ?_) (fun c61 => ?_)
        · refine Gd_iinc4 (ho := rfl) (he := nI_inc _) eX7_safest_109 ?_
          refine Gd_goto eX7_safest_112 ?_
          exact x_safest0_L hW hA hI n (k + 1) _ _ (by omega) (by rw [sfb_d c61, h0]; rfl) (by rw [sfb_d c61, h0]; rfl) kq
        · refine Gd_iload (i := 6) rfl eX7_safest_64 ?_
          refine Gd_if_ne eX7_safest_66 (fun _ => ?_) (fun q => by first | exact absurd q (by decide) | exact absurd (by decide) q)
          refine Gd_iload (i := 4) rfl eX7_safest_103 ?_
          refine Gd_istore_n2 rfl eX7_safest_105 ?_
          refine Gd_iload (i := 5) rfl eX7_safest_106 ?_
          refine Gd_istore_n3 rfl eX7_safest_108 ?_
          refine Gd_iinc4 (ho := rfl) (he := nI_inc _) eX7_safest_109 ?_
          refine Gd_goto eX7_safest_112 ?_
          have hs := sfb_y c61 (Or.inl h0)
          exact x_safest0_L hW hA hI n (k + 1) _ _ (by omega) (by rw [hs, spi_s]) (by rw [hs, fsi_s]; rfl) kq
      · rw [h0, spi_s, fsi_s]
        have hbk := hsb b (by omega)
        refine Gd_aload_n (i := 0) rfl eX7_safest_26 ?_
        refine Gd_getR fl_RX7_10 (W_s0 hW) (W_r0_0 hW) eX7_safest_27 ?_
        refine Gd_iload (i := 4) rfl eX7_safest_30 ?_
        refine Gd_callP (g_cV (x_holders (W_F1 hW) hA hI (d := k) (by omega)) ok_X0_holders lk_RX7_134 (W_s1 hW) ⟨_, _, rfl⟩ rfl rfl (Nat.le_of_ble_eq_true rfl) (Nat.le_of_ble_eq_true rfl) (Nat.le_refl _) (Nat.le_refl _) eX7_safest_32) ?_
        refine Gd_callP (g_cS (x_bitCount (n := hol φ k (φ 7 3)) (by omega)) ok_J6_bitCount_0f7a4 lk_RX7_97 rfl rfl (Nat.le_of_ble_eq_true rfl) (Nat.le_of_ble_eq_true rfl) (Nat.le_refl _) (Nat.le_refl _) eX7_safest_35) ?_
        refine Gd_istore5 rfl eX7_safest_38 ?_
        refine Gd_iload_n (i := 2) rfl eX7_safest_40 ?_
        refine Gd_iconst ki_m1 eX7_safest_41 ?_
        refine Gd_icmp_neM0 (by first | omega | decide) eX7_safest_42 ?_
        refine Gd_iconst ki_0 eX7_safest_49 ?_
        refine Gd_istore6 rfl eX7_safest_50 ?_
        refine Gd_aload_n (i := 0) rfl eX7_safest_52 ?_
        refine Gd_getR fl_RX7_10 (W_s0 hW) (W_r0_0 hW) eX7_safest_53 ?_
        refine Gd_iload (i := 4) rfl eX7_safest_56 ?_
        refine Gd_callP (g_cV (x_isAlive (W_F1 hW) hA hI (d := k) (by omega)) ok_X0_isAlive lk_RX7_127 (W_s1 hW) ⟨_, _, rfl⟩ rfl rfl (Nat.le_of_ble_eq_true rfl) (Nat.le_of_ble_eq_true rfl) (Nat.le_refl _) (Nat.le_refl _) eX7_safest_58) ?_
        refine Gd_if_eqB eX7_safest_61 (fun c61 => ?_) (fun c61 => ?_)
        · refine Gd_iinc4 (ho := rfl) (he := nI_inc _) eX7_safest_109 ?_
          refine Gd_goto eX7_safest_112 ?_
          exact x_safest0_L hW hA hI n (k + 1) _ _ (by omega) (by rw [sfb_d c61, h0, spi_s]) (by rw [sfb_d c61, h0, fsi_s]) kq
        · refine Gd_iload (i := 6) rfl eX7_safest_64 ?_
          refine Gd_if_ne eX7_safest_66 (fun q => by first | exact absurd q (by decide) | exact absurd (by decide) q) (fun _ => ?_)
          refine Gd_iload (i := 5) rfl eX7_safest_69 ?_
          refine Gd_iload_n (i := 3) rfl eX7_safest_71 ?_
          refine Gd_icmp_ltN (by first | omega | decide) (by first | omega | decide) eX7_safest_72 (fun c72 => ?_) (fun c72 => ?_)
          · refine Gd_iload (i := 4) rfl eX7_safest_103 ?_
            refine Gd_istore_n2 rfl eX7_safest_105 ?_
            refine Gd_iload (i := 5) rfl eX7_safest_106 ?_
            refine Gd_istore_n3 rfl eX7_safest_108 ?_
            refine Gd_iinc4 (ho := rfl) (he := nI_inc _) eX7_safest_109 ?_
            refine Gd_goto eX7_safest_112 ?_
            have hs := sfb_y c61 (Or.inr (Or.inl (show hnm φ k < (sfb φ k).2 from by have h9 : hnm φ k = pops (hol φ k (φ 7 3)) 10 := rfl; omega)))
            exact x_safest0_L hW hA hI n (k + 1) _ _ (by omega) (by rw [hs, spi_s]) (by rw [hs, fsi_s]; rfl) kq
          · refine Gd_iload (i := 5) rfl eX7_safest_75 ?_
            refine Gd_iload_n (i := 3) rfl eX7_safest_77 ?_
            refine Gd_icmp_neN (by first | omega | decide) (by first | omega | decide) eX7_safest_78 (fun c78 => ?_) (fun c78 => ?_)
            · refine Gd_iinc4 (ho := rfl) (he := nI_inc _) eX7_safest_109 ?_
              refine Gd_goto eX7_safest_112 ?_
              have hs := sfb_n (φ := φ) c61 (fun z => by rw [h0, Nat.add_sub_cancel] at z; have h9 : hnm φ k = pops (hol φ k (φ 7 3)) 10 := rfl; rcases z with z | z | z <;> omega)
              exact x_safest0_L hW hA hI n (k + 1) _ _ (by omega) (by rw [hs, h0, spi_s]) (by rw [hs, h0, fsi_s]) kq
            · refine Gd_aload_n (i := 0) rfl eX7_safest_81 ?_
              refine Gd_getR fl_RX7_10 (W_s0 hW) (W_r0_0 hW) eX7_safest_82 ?_
              refine Gd_getR fl_RX7_123 (W_s1 hW) (W_r1_0 hW) eX7_safest_85 ?_
              refine Gd_iload (i := 4) rfl eX7_safest_88 ?_
              refine Gd_ialdE (v := nI (φ 0 k)) (W_s2 hW) (by first | omega | decide) (FA_sh hA (d := k) (by first | omega | decide) :) eX7_safest_90 ?_
              refine Gd_aload_n (i := 0) rfl eX7_safest_91 ?_
              refine Gd_getR fl_RX7_10 (W_s0 hW) (W_r0_0 hW) eX7_safest_92 ?_
              refine Gd_getR fl_RX7_123 (W_s1 hW) (W_r1_0 hW) eX7_safest_95 ?_
              refine Gd_iload_n (i := 2) rfl eX7_safest_98 ?_
              refine Gd_ialdE (v := nI (φ 0 b)) (W_s2 hW) (by first | omega | decide) (FA_sh hA (d := b) (by first | omega | decide) :) eX7_safest_99 ?_
              refine Gd_icmp_leN (by first | omega | decide) (by first | omega | decide) eX7_safest_100 (fun c100 => ?_) (fun c100 => ?_)
              · refine Gd_iinc4 (ho := rfl) (he := nI_inc _) eX7_safest_109 ?_
                refine Gd_goto eX7_safest_112 ?_
                have hs := sfb_n (φ := φ) c61 (fun z => by rw [h0, Nat.add_sub_cancel] at z; have h9 : hnm φ k = pops (hol φ k (φ 7 3)) 10 := rfl; rcases z with z | z | z <;> omega)
                exact x_safest0_L hW hA hI n (k + 1) _ _ (by omega) (by rw [hs, h0, spi_s]) (by rw [hs, h0, fsi_s]) kq
              · refine Gd_iload (i := 4) rfl eX7_safest_103 ?_
                refine Gd_istore_n2 rfl eX7_safest_105 ?_
                refine Gd_iload (i := 5) rfl eX7_safest_106 ?_
                refine Gd_istore_n3 rfl eX7_safest_108 ?_
                refine Gd_iinc4 (ho := rfl) (he := nI_inc _) eX7_safest_109 ?_
                refine Gd_goto eX7_safest_112 ?_
                have hs := sfb_y c61 (Or.inr (Or.inr ⟨(show hnm φ k = (sfb φ k).2 from by have h9 : hnm φ k = pops (hol φ k (φ 7 3)) 10 := rfl; omega), by rw [h0, Nat.add_sub_cancel]; omega⟩))
                exact x_safest0_L hW hA hI n (k + 1) _ _ (by omega) (by rw [hs, spi_s]) (by rw [hs, fsi_s]; rfl) kq
theorem x_safest1_L {sh : List (Nat × Nat)} {a : Nat → Nat → Int32} {r : Nat → Nat → Option Nat} {g : Nat → Nat → Int64} {φ : Nat → Nat → Nat} (hW : WD sh r) (hA : FA 1 φ a) (hI : FI φ) {x5 x6 : Option g_V} {Q : Option g_V → g_H → Prop} {N0 : Nat} : ∀ (n k : Nat) (l2 l3 : Int32), k + n = 10 → l2 = spi (sfb φ k).1 → l3 = fsi (sfb φ k).1 (sfb φ k).2 → Q (some (vi (fsi (sfb φ 10).1 (sfb φ 10).2))) (sh, a, r, g) → Gd YX7_safest (z0 2 N0 Q) 0 0 19 [some (vr 0), some (vi (nI 1)), some (vi l2), some (vi l3), some (vi (nI k)), x5, x6] [] (sh, a, r, g)
  | 0, k, l2, l3, hn, h2, h3, kq => by
    subst h2
    subst h3
    obtain ⟨hb1, hb2⟩ := sfb_le φ k
    have hhu := FI_hu hI
    have hnk : pops (hol φ k (φ 7 3)) 10 ≤ 10 := hnm_le φ k
    have hh64 := hol64 (φ := φ) (d := k) hhu
    refine Gd_iload (i := 4) rfl eX7_safest_19 ?_
    refine Gd_bipush kb_10 eX7_safest_21 ?_
    refine Gd_icmp_geN (by first | omega | decide) (by first | omega | decide) eX7_safest_23 (fun c23 => ?_) (fun c23 => ?_)
    · refine Gd_iload_n (i := 1) rfl eX7_safest_115 ?_
      refine Gd_if_ne eX7_safest_116 (fun _ => ?_) (fun q => by first | exact absurd q (by decide) | exact absurd (by decide) q)
      refine Gd_iload_n (i := 3) rfl eX7_safest_123 ?_
      exact Gd_ireturn eX7_safest_124 rfl (Nat.le_refl _) (Nat.le_refl _) (by rw [show k = 10 by omega] at *; exact kq)
    · exact absurd c23 (by omega)
  | n + 1, k, l2, l3, hn, h2, h3, kq => by
    subst h2
    subst h3
    obtain ⟨hb1, hb2⟩ := sfb_le φ k
    have hhu := FI_hu hI
    have hnk : pops (hol φ k (φ 7 3)) 10 ≤ 10 := hnm_le φ k
    have hh64 := hol64 (φ := φ) (d := k) hhu
    refine Gd_iload (i := 4) rfl eX7_safest_19 ?_
    refine Gd_bipush kb_10 eX7_safest_21 ?_
    refine Gd_icmp_geN (by first | omega | decide) (by first | omega | decide) eX7_safest_23 (fun c23 => ?_) (fun c23 => ?_)
    · exact absurd c23 (by omega)
    · have hsh := FI_sh hI (d := k) (by omega)
      have hsb : ∀ b, b < k → φ 0 b ≤ 99 := fun b hb => FI_sh hI (by omega)
      rcases (show (sfb φ k).1 = 0 ∨ ∃ b, (sfb φ k).1 = b + 1 from by cases h : (sfb φ k).1 with | zero => exact Or.inl rfl | succ b => exact Or.inr ⟨b, rfl⟩) with h0 | ⟨b, h0⟩
      · rw [h0]
        rw [show spi 0 = -1 from rfl, show fsi 0 (sfb φ k).2 = -1 from rfl]
        refine Gd_aload_n (i := 0) rfl eX7_safest_26 ?_
        refine Gd_getR fl_RX7_10 (W_s0 hW) (W_r0_0 hW) eX7_safest_27 ?_
        refine Gd_iload (i := 4) rfl eX7_safest_30 ?_
        refine Gd_callP (g_cV (x_holders (W_F1 hW) hA hI (d := k) (by omega)) ok_X0_holders lk_RX7_134 (W_s1 hW) ⟨_, _, rfl⟩ rfl rfl (Nat.le_of_ble_eq_true rfl) (Nat.le_of_ble_eq_true rfl) (Nat.le_refl _) (Nat.le_refl _) eX7_safest_32) ?_
        refine Gd_callP (g_cS (x_bitCount (n := hol φ k (φ 7 3)) (by omega)) ok_J6_bitCount_0f7a4 lk_RX7_97 rfl rfl (Nat.le_of_ble_eq_true rfl) (Nat.le_of_ble_eq_true rfl) (Nat.le_refl _) (Nat.le_refl _) eX7_safest_35) ?_
        refine Gd_istore5 rfl eX7_safest_38 ?_
        refine Gd_iload_n (i := 2) rfl eX7_safest_40 ?_
        refine Gd_iconst ki_m1 eX7_safest_41 ?_
        refine Gd_icmp_ne eX7_safest_42 (fun q => by first | exact absurd q (by decide) | exact absurd (by decide) q) (fun _ => ?_)
        refine Gd_iconst ki_1 eX7_safest_45 ?_
        refine Gd_goto eX7_safest_46 ?_
        refine Gd_istore6 rfl eX7_safest_50 ?_
        refine Gd_aload_n (i := 0) rfl eX7_safest_52 ?_
        refine Gd_getR fl_RX7_10 (W_s0 hW) (W_r0_0 hW) eX7_safest_53 ?_
        refine Gd_iload (i := 4) rfl eX7_safest_56 ?_
        refine Gd_callP (g_cV (x_isAlive (W_F1 hW) hA hI (d := k) (by omega)) ok_X0_isAlive lk_RX7_127 (W_s1 hW) ⟨_, _, rfl⟩ rfl rfl (Nat.le_of_ble_eq_true rfl) (Nat.le_of_ble_eq_true rfl) (Nat.le_refl _) (Nat.le_refl _) eX7_safest_58) ?_
        refine Gd_if_eqB eX7_safest_61 (fun c61 => ?_) (fun c61 => ?_)
        · refine Gd_iinc4 (ho := rfl) (he := nI_inc _) eX7_safest_109 ?_
          refine Gd_goto eX7_safest_112 ?_
          exact x_safest1_L hW hA hI n (k + 1) _ _ (by omega) (by rw [sfb_d c61, h0]; rfl) (by rw [sfb_d c61, h0]; rfl) kq
        · refine Gd_iload (i := 6) rfl eX7_safest_64 ?_
          refine Gd_if_ne eX7_safest_66 (fun _ => ?_) (fun q => by first | exact absurd q (by decide) | exact absurd (by decide) q)
          refine Gd_iload (i := 4) rfl eX7_safest_103 ?_
          refine Gd_istore_n2 rfl eX7_safest_105 ?_
          refine Gd_iload (i := 5) rfl eX7_safest_106 ?_
          refine Gd_istore_n3 rfl eX7_safest_108 ?_
          refine Gd_iinc4 (ho := rfl) (he := nI_inc _) eX7_safest_109 ?_
          refine Gd_goto eX7_safest_112 ?_
          have hs := sfb_y c61 (Or.inl h0)
          exact x_safest1_L hW hA hI n (k + 1) _ _ (by omega) (by rw [hs, spi_s]) (by rw [hs, fsi_s]; rfl) kq
      · rw [h0, spi_s, fsi_s]
        have hbk := hsb b (by omega)
        refine Gd_aload_n (i := 0) rfl eX7_safest_26 ?_
        refine Gd_getR fl_RX7_10 (W_s0 hW) (W_r0_0 hW) eX7_safest_27 ?_
        refine Gd_iload (i := 4) rfl eX7_safest_30 ?_
        refine Gd_callP (g_cV (x_holders (W_F1 hW) hA hI (d := k) (by omega)) ok_X0_holders lk_RX7_134 (W_s1 hW) ⟨_, _, rfl⟩ rfl rfl (Nat.le_of_ble_eq_true rfl) (Nat.le_of_ble_eq_true rfl) (Nat.le_refl _) (Nat.le_refl _) eX7_safest_32) ?_
        refine Gd_callP (g_cS (x_bitCount (n := hol φ k (φ 7 3)) (by omega)) ok_J6_bitCount_0f7a4 lk_RX7_97 rfl rfl (Nat.le_of_ble_eq_true rfl) (Nat.le_of_ble_eq_true rfl) (Nat.le_refl _) (Nat.le_refl _) eX7_safest_35) ?_
        refine Gd_istore5 rfl eX7_safest_38 ?_
        refine Gd_iload_n (i := 2) rfl eX7_safest_40 ?_
        refine Gd_iconst ki_m1 eX7_safest_41 ?_
        refine Gd_icmp_neM0 (by first | omega | decide) eX7_safest_42 ?_
        refine Gd_iconst ki_0 eX7_safest_49 ?_
        refine Gd_istore6 rfl eX7_safest_50 ?_
        refine Gd_aload_n (i := 0) rfl eX7_safest_52 ?_
        refine Gd_getR fl_RX7_10 (W_s0 hW) (W_r0_0 hW) eX7_safest_53 ?_
        refine Gd_iload (i := 4) rfl eX7_safest_56 ?_
        refine Gd_callP (g_cV (x_isAlive (W_F1 hW) hA hI (d := k) (by omega)) ok_X0_isAlive lk_RX7_127 (W_s1 hW) ⟨_, _, rfl⟩ rfl rfl (Nat.le_of_ble_eq_true rfl) (Nat.le_of_ble_eq_true rfl) (Nat.le_refl _) (Nat.le_refl _) eX7_safest_58) ?_
        refine Gd_if_eqB eX7_safest_61 (fun c61 => ?_) (fun c61 => ?_)
        · refine Gd_iinc4 (ho := rfl) (he := nI_inc _) eX7_safest_109 ?_
          refine Gd_goto eX7_safest_112 ?_
          exact x_safest1_L hW hA hI n (k + 1) _ _ (by omega) (by rw [sfb_d c61, h0, spi_s]) (by rw [sfb_d c61, h0, fsi_s]) kq
        · refine Gd_iload (i := 6) rfl eX7_safest_64 ?_
          refine Gd_if_ne eX7_safest_66 (fun q => by first | exact absurd q (by decide) | exact absurd (by decide) q) (fun _ => ?_)
          refine Gd_iload (i := 5) rfl eX7_safest_69 ?_
          refine Gd_iload_n (i := 3) rfl eX7_safest_71 ?_
          refine Gd_icmp_ltN (by first | omega | decide) (by first | omega | decide) eX7_safest_72 (fun c72 => ?_) (fun c72 => ?_)
          · refine Gd_iload (i := 4) rfl eX7_safest_103 ?_
            refine Gd_istore_n2 rfl eX7_safest_105 ?_
            refine Gd_iload (i := 5) rfl eX7_safest_106 ?_
            refine Gd_istore_n3 rfl eX7_safest_108 ?_
            refine Gd_iinc4 (ho := rfl) (he := nI_inc _) eX7_safest_109 ?_
            refine Gd_goto eX7_safest_112 ?_
            have hs := sfb_y c61 (Or.inr (Or.inl (show hnm φ k < (sfb φ k).2 from by have h9 : hnm φ k = pops (hol φ k (φ 7 3)) 10 := rfl; omega)))
            exact x_safest1_L hW hA hI n (k + 1) _ _ (by omega) (by rw [hs, spi_s]) (by rw [hs, fsi_s]; rfl) kq
          · refine Gd_iload (i := 5) rfl eX7_safest_75 ?_
            refine Gd_iload_n (i := 3) rfl eX7_safest_77 ?_
            refine Gd_icmp_neN (by first | omega | decide) (by first | omega | decide) eX7_safest_78 (fun c78 => ?_) (fun c78 => ?_)
            · refine Gd_iinc4 (ho := rfl) (he := nI_inc _) eX7_safest_109 ?_
              refine Gd_goto eX7_safest_112 ?_
              have hs := sfb_n (φ := φ) c61 (fun z => by rw [h0, Nat.add_sub_cancel] at z; have h9 : hnm φ k = pops (hol φ k (φ 7 3)) 10 := rfl; rcases z with z | z | z <;> omega)
              exact x_safest1_L hW hA hI n (k + 1) _ _ (by omega) (by rw [hs, h0, spi_s]) (by rw [hs, h0, fsi_s]) kq
            · refine Gd_aload_n (i := 0) rfl eX7_safest_81 ?_
              refine Gd_getR fl_RX7_10 (W_s0 hW) (W_r0_0 hW) eX7_safest_82 ?_
              refine Gd_getR fl_RX7_123 (W_s1 hW) (W_r1_0 hW) eX7_safest_85 ?_
              refine Gd_iload (i := 4) rfl eX7_safest_88 ?_
              refine Gd_ialdE (v := nI (φ 0 k)) (W_s2 hW) (by first | omega | decide) (FA_sh hA (d := k) (by first | omega | decide) :) eX7_safest_90 ?_
              refine Gd_aload_n (i := 0) rfl eX7_safest_91 ?_
              refine Gd_getR fl_RX7_10 (W_s0 hW) (W_r0_0 hW) eX7_safest_92 ?_
              refine Gd_getR fl_RX7_123 (W_s1 hW) (W_r1_0 hW) eX7_safest_95 ?_
              refine Gd_iload_n (i := 2) rfl eX7_safest_98 ?_
              refine Gd_ialdE (v := nI (φ 0 b)) (W_s2 hW) (by first | omega | decide) (FA_sh hA (d := b) (by first | omega | decide) :) eX7_safest_99 ?_
              refine Gd_icmp_leN (by first | omega | decide) (by first | omega | decide) eX7_safest_100 (fun c100 => ?_) (fun c100 => ?_)
              · refine Gd_iinc4 (ho := rfl) (he := nI_inc _) eX7_safest_109 ?_
                refine Gd_goto eX7_safest_112 ?_
                have hs := sfb_n (φ := φ) c61 (fun z => by rw [h0, Nat.add_sub_cancel] at z; have h9 : hnm φ k = pops (hol φ k (φ 7 3)) 10 := rfl; rcases z with z | z | z <;> omega)
                exact x_safest1_L hW hA hI n (k + 1) _ _ (by omega) (by rw [hs, h0, spi_s]) (by rw [hs, h0, fsi_s]) kq
              · refine Gd_iload (i := 4) rfl eX7_safest_103 ?_
                refine Gd_istore_n2 rfl eX7_safest_105 ?_
                refine Gd_iload (i := 5) rfl eX7_safest_106 ?_
                refine Gd_istore_n3 rfl eX7_safest_108 ?_
                refine Gd_iinc4 (ho := rfl) (he := nI_inc _) eX7_safest_109 ?_
                refine Gd_goto eX7_safest_112 ?_
                have hs := sfb_y c61 (Or.inr (Or.inr ⟨(show hnm φ k = (sfb φ k).2 from by have h9 : hnm φ k = pops (hol φ k (φ 7 3)) 10 := rfl; omega), by rw [h0, Nat.add_sub_cancel]; omega⟩))
                exact x_safest1_L hW hA hI n (k + 1) _ _ (by omega) (by rw [hs, spi_s]) (by rw [hs, fsi_s]; rfl) kq
theorem x_safest {sh : List (Nat × Nat)} {a : Nat → Nat → Int32} {r : Nat → Nat → Option Nat} {g : Nat → Nat → Int64} {φ : Nat → Nat → Nat} (hW : WD sh r) (hA : FA 1 φ a) (hI : FI φ) (vw : Int32) : Mt YX7_safest 2 0 0 [vr 0, vi vw] (sh, a, r, g) (g_P (some (vi (oSafest φ vw))) (sh, a, r, g)) := by
  refine Mt_of rfl (Nat.le_of_ble_eq_true rfl) rfl ?_
  refine Gd_iload_n (i := 1) rfl eX7_safest_0 ?_
  refine Gd_iconst ki_0 eX7_safest_1 ?_
  refine Gd_iconst ki_1 eX7_safest_2 ?_
  refine Gd_callP (g_cS (x_isWithin _ _ _) ok_X7_isWithin lk_RX7_119 rfl rfl (Nat.le_of_ble_eq_true rfl) (Nat.le_of_ble_eq_true rfl) (Nat.le_refl _) (Nat.le_refl _) eX7_safest_3) ?_
  refine Gd_if_neB eX7_safest_6 (fun c6 => ?_) (fun c6 => ?_)
  · obtain ⟨k, _, hk, rfl⟩ := inb_r (by decide) (by decide) c6
    rcases (by omega : k = 0 ∨ k = 1) with rfl | rfl
    · refine Gd_iconst ki_m1 eX7_safest_12 ?_
      refine Gd_istore_n2 rfl eX7_safest_13 ?_
      refine Gd_iconst ki_m1 eX7_safest_14 ?_
      refine Gd_istore_n3 rfl eX7_safest_15 ?_
      refine Gd_iconst ki_0 eX7_safest_16 ?_
      refine Gd_istore4 rfl eX7_safest_17 ?_
      exact x_safest0_L hW hA hI 10 0 (-1) (-1) (by omega) rfl rfl ⟨by rw [oSafest_0], rfl⟩
    · refine Gd_iconst ki_m1 eX7_safest_12 ?_
      refine Gd_istore_n2 rfl eX7_safest_13 ?_
      refine Gd_iconst ki_m1 eX7_safest_14 ?_
      refine Gd_istore_n3 rfl eX7_safest_15 ?_
      refine Gd_iconst ki_0 eX7_safest_16 ?_
      refine Gd_istore4 rfl eX7_safest_17 ?_
      exact x_safest1_L hW hA hI 10 0 (-1) (-1) (by omega) rfl rfl ⟨by rw [oSafest_1], rfl⟩
  · refine Gd_bipush kb_m2 eX7_safest_9 ?_
    exact Gd_ireturn eX7_safest_11 rfl (Nat.le_refl _) (Nat.le_refl _) ⟨by rw [oSafest_w c6], rfl⟩
