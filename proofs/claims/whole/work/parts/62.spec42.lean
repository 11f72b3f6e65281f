theorem blv60 {φ ts cd : g_Fo} {p q : Nat} (h : φ 7 3 ≤ 6) : blv φ ts cd p q ≤ 60 := alls60 h
theorem bls_le {φ ts cd : g_Fo} {p q : Nat} {s : Nat × Nat} (h : φ 7 3 ≤ 6) (hs : s.2 ≤ 60) : (bls φ ts cd p q s).2 ≤ 60 := by
  have := blv60 (φ := φ) (ts := ts) (cd := cd) (p := p) (q := q) h
  simp only [bls]
  split
  · exact hs
  · split
    · exact this
    · exact hs
theorem bls_m {φ ts cd : g_Fo} {p q : Nat} {s : Nat × Nat} (h : (φ 4 p).testBit q = true) : bls φ ts cd p q s = s := if_pos h
theorem bls_y {φ ts cd : g_Fo} {p q : Nat} {s : Nat × Nat} (h : (φ 4 p).testBit q = false) (h2 : s.2 < blv φ ts cd p q) : bls φ ts cd p q s = (10 * p + q + 1, blv φ ts cd p q) := by rw [bls, if_neg (by rw [h]; decide), if_pos h2]
theorem bls_n {φ ts cd : g_Fo} {p q : Nat} {s : Nat × Nat} (h : (φ 4 p).testBit q = false) (h2 : ¬ s.2 < blv φ ts cd p q) : bls φ ts cd p q s = s := by rw [bls, if_neg (by rw [h]; decide), if_neg h2]
theorem m_ball0_I {sh : List (Nat × Nat)} {r : Nat → Nat → Option Nat} {g : Nat → Nat → Int64} {φ ts cd : Nat → Nat → Nat} {nt : Nat} (hW : WD sh r) (hI : FI φ) (hTI : TI nt ts cd) (hlt : φ 7 2 < nt) (hJ : FJ φ) (hY : FY φ) {p : Nat} (hp : p < φ 7 3) {Q : Option g_V → g_H → Prop} {N0 : Nat} {a0 : Nat → Nat → Int32} : ∀ (n q : Nat) (s : Nat × Nat) (l2 : Int32) (m : Nat) (a : Nat → Nat → Int32) (x6 : Option g_V), q + n = φ 7 3 → p < q → l2 = spi s.1 → m = s.2 → s.2 ≤ 60 → MA φ a → TM nt ts cd a → chg scZ a0 a → (∀ (a' : Nat → Nat → Int32) (x6 : Option g_V), MA φ a' → TM nt ts cd a' → (bli φ ts cd p n q s).2 ≤ 60 → chg scZ a0 a' → Gd YX8_ball (z0 8 N0 Q) 0 0 119 [some (vr 50), some (vi (nI 0)), some (vi (spi (bli φ ts cd p n q s).1)), some (vi (nI ((bli φ ts cd p n q s).2))), some (vi (nI p)), some (vi (nI (φ 7 3))), x6] [] (sh, a', r, g)) → Gd YX8_ball (z0 8 N0 Q) 0 0 37 [some (vr 50), some (vi (nI 0)), some (vi l2), some (vi (nI (m))), some (vi (nI p)), some (vi (nI q)), x6] [] (sh, a, r, g)
  | 0, q, s, l2, m, a, x6, hn, hpl, h2, h3, h60, hM, hT, hc, kq => by
    subst h2
    subst h3
    have hhu := FI_hu hI
    refine Gd_iload (i := 5) rfl eX8_ball_37 ?_
    refine Gd_aload_n (i := 0) rfl eX8_ball_39 ?_
    refine Gd_getIe (v := nI (φ 7 3)) fl_RX8_81 (W_s50 hW) (MA_hu hM :) eX8_ball_40 ?_
    refine Gd_icmp_geN (by first | omega | decide) (by first | omega | decide) eX8_ball_43 (fun c43 => ?_) (fun c43 => ?_)
    · obtain rfl : q = φ 7 3 := by omega
      exact kq a x6 hM hT h60 hc
    · exact absurd c43 (by omega)
  | n + 1, q, s, l2, m, a, x6, hn, hpl, h2, h3, h60, hM, hT, hc, kq => by
    subst h2
    subst h3
    have hhu := FI_hu hI
    refine Gd_iload (i := 5) rfl eX8_ball_37 ?_
    refine Gd_aload_n (i := 0) rfl eX8_ball_39 ?_
    refine Gd_getIe (v := nI (φ 7 3)) fl_RX8_81 (W_s50 hW) (MA_hu hM :) eX8_ball_40 ?_
    refine Gd_icmp_geN (by first | omega | decide) (by first | omega | decide) eX8_ball_43 (fun c43 => ?_) (fun c43 => ?_)
    · exact absurd c43 (by omega)
    · have hpq : p ≠ q := by omega
      have hvv := blv60 (φ := φ) (ts := ts) (cd := cd) (p := p) (q := q) hhu
      refine Gd_aload_n (i := 0) rfl eX8_ball_46 ?_
      refine Gd_iload (i := 4) rfl eX8_ball_47 ?_
      refine Gd_iload (i := 5) rfl eX8_ball_49 ?_
      refine Gd_callP (g_cV (m_haveMet hW hM hI (p := p) (q := q) (by first | omega | decide) (by first | omega | decide)) ok_X8_haveMet lk_RX8_192 (W_s50 hW) ⟨_, _, rfl⟩ rfl rfl (Nat.le_of_ble_eq_true rfl) (Nat.le_of_ble_eq_true rfl) (Nat.le_refl _) (Nat.le_refl _) eX8_ball_51) ?_
      refine Gd_if_neB eX8_ball_54 (fun c54 => ?_) (fun c54 => ?_)
      · refine Gd_iinc5 (ho := rfl) (he := nI_inc _) eX8_ball_113 ?_
        refine Gd_goto eX8_ball_116 ?_
        exact m_ball0_I hW hI hTI hlt hJ hY hp n (q + 1) _ _ _ a x6 (by omega) (by omega) (by rw [bls_m (ts := ts) (cd := cd) c54]) (by rw [bls_m (ts := ts) (cd := cd) c54]) (by rw [bls_m (ts := ts) (cd := cd) c54]; exact h60) hM hT hc kq
      · have hsy : (φ 4 q).testBit p = false := by rw [← hY p q (by omega) (by omega)]; exact c54
        refine Gd_aload_n (i := 0) rfl eX8_ball_57 ?_
        refine Gd_iload (i := 4) rfl eX8_ball_58 ?_
        refine Gd_iload (i := 5) rfl eX8_ball_60 ?_
        refine Gd_iconst ki_1 eX8_ball_62 ?_
        refine Gd_callE0 (g_cV (m_meets1 hW hM hI (p := p) (q := q) (by first | omega | decide) (by first | omega | decide) hpq) ok_X8_meets lk_RX8_195 (W_s50 hW) ⟨_, _, rfl⟩ rfl rfl (Nat.le_of_ble_eq_true rfl) (Nat.le_of_ble_eq_true rfl) (Nat.le_refl _) (Nat.le_refl _) eX8_ball_63) (fun a2 hq2 => ?_)
        obtain ⟨hM2, hq2⟩ := hq2
        have hc2 : chg scZ a a2 := chg_mono2 scZ_53 hq2
        refine Gd_aload_n (i := 0) rfl eX8_ball_66 ?_
        refine Gd_callEV (g_cV (m_sponsoredAll hW hM2 (FI_mee1 hI (by omega) (by omega)) (TM_Z hT hc2) hTI hlt (FJ_mee1 hJ (by omega) (by omega) hpq)) ok_X8_sponsoredAll lk_RX8_254 (W_s50 hW) ⟨_, _, rfl⟩ rfl rfl (Nat.le_of_ble_eq_true rfl) (Nat.le_of_ble_eq_true rfl) (Nat.le_refl _) (Nat.le_refl _) eX8_ball_67) (fun a3 hq3 => ?_)
        rw [show alls (mee1 φ p q) ts cd (mee1 φ p q 7 3) = blv φ ts cd p q from rfl]
        have hM3 := MA_W hM2 hq3
        have hc3 : chg scZ a a3 := chg_tr hc2 (chg_mono2 scZ_W hq3)
        refine Gd_istore6 rfl eX8_ball_70 ?_
        refine Gd_aload_n (i := 0) rfl eX8_ball_72 ?_
        refine Gd_iload (i := 4) rfl eX8_ball_73 ?_
        refine Gd_iload (i := 5) rfl eX8_ball_75 ?_
        refine Gd_iconst ki_0 eX8_ball_77 ?_
        refine Gd_callE0 (g_cV (m_meets0 hW hM3 (FI_mee1 hI (by omega) (by omega)) (p := p) (q := q) (by first | omega | decide) (by first | omega | decide) hpq) ok_X8_meets lk_RX8_195 (W_s50 hW) ⟨_, _, rfl⟩ rfl rfl (Nat.le_of_ble_eq_true rfl) (Nat.le_of_ble_eq_true rfl) (Nat.le_refl _) (Nat.le_refl _) eX8_ball_78) (fun a4 hq4 => ?_)
        obtain ⟨hM4, hq4⟩ := hq4
        rw [mee01 hI (by omega) (by omega) hpq c54 hsy] at hM4
        have hc4 : chg scZ a a4 := chg_tr hc3 (chg_mono2 scZ_53 hq4)
        have hT4 := TM_Z hT hc4
        refine Gd_iload (i := 6) rfl eX8_ball_81 ?_
        refine Gd_iload_n (i := 3) rfl eX8_ball_83 ?_
        refine Gd_icmp_leN (by first | omega | decide) (by first | omega | decide) eX8_ball_84 (fun c84 => ?_) (fun c84 => ?_)
        · refine Gd_iload_n (i := 2) rfl eX8_ball_98 ?_
          refine Gd_istore_n2 rfl eX8_ball_99 ?_
          refine Gd_iload (i := 6) rfl eX8_ball_100 ?_
          refine Gd_iload_n (i := 3) rfl eX8_ball_102 ?_
          refine Gd_icmp_leN (by first | omega | decide) (by first | omega | decide) eX8_ball_103 (fun c103 => ?_) (fun c103 => ?_)
          · refine Gd_iload_n (i := 3) rfl eX8_ball_111 ?_
            refine Gd_istore_n3 rfl eX8_ball_112 ?_
            refine Gd_iinc5 (ho := rfl) (he := nI_inc _) eX8_ball_113 ?_
            refine Gd_goto eX8_ball_116 ?_
            exact m_ball0_I hW hI hTI hlt hJ hY hp n (q + 1) _ _ _ a4 _ (by omega) (by omega) (by rw [bls_n c54 (show ¬ s.2 < blv φ ts cd p q by omega)]) (by rw [bls_n c54 (show ¬ s.2 < blv φ ts cd p q by omega)]) (by rw [bls_n c54 (show ¬ s.2 < blv φ ts cd p q by omega)]; exact h60) hM4 hT4 (chg_tr hc hc4) kq
          · refine Gd_iload (i := 6) rfl eX8_ball_106 ?_
            refine Gd_goto eX8_ball_108 ?_
            refine Gd_istore_n3 rfl eX8_ball_112 ?_
            refine Gd_iinc5 (ho := rfl) (he := nI_inc _) eX8_ball_113 ?_
            refine Gd_goto eX8_ball_116 ?_
            omega
        · refine Gd_bipush kb_10 eX8_ball_87 ?_
          refine Gd_iload (i := 4) rfl eX8_ball_89 ?_
          refine Gd_imulN eX8_ball_91 ?_
          refine Gd_iload (i := 5) rfl eX8_ball_92 ?_
          refine Gd_iaddN eX8_ball_94 ?_
          refine Gd_goto eX8_ball_95 ?_
          refine Gd_istore_n2 rfl eX8_ball_99 ?_
          refine Gd_iload (i := 6) rfl eX8_ball_100 ?_
          refine Gd_iload_n (i := 3) rfl eX8_ball_102 ?_
          refine Gd_icmp_leN (by first | omega | decide) (by first | omega | decide) eX8_ball_103 (fun c103 => ?_) (fun c103 => ?_)
          · refine Gd_iload_n (i := 3) rfl eX8_ball_111 ?_
            refine Gd_istore_n3 rfl eX8_ball_112 ?_
            refine Gd_iinc5 (ho := rfl) (he := nI_inc _) eX8_ball_113 ?_
            refine Gd_goto eX8_ball_116 ?_
            omega
          · refine Gd_iload (i := 6) rfl eX8_ball_106 ?_
            refine Gd_goto eX8_ball_108 ?_
            refine Gd_istore_n3 rfl eX8_ball_112 ?_
            refine Gd_iinc5 (ho := rfl) (he := nI_inc _) eX8_ball_113 ?_
            refine Gd_goto eX8_ball_116 ?_
            exact m_ball0_I hW hI hTI hlt hJ hY hp n (q + 1) _ _ _ a4 _ (by omega) (by omega) (by rw [bls_y c54 (show s.2 < blv φ ts cd p q by omega), spi_s]) (by rw [bls_y c54 (show s.2 < blv φ ts cd p q by omega)]) (by rw [bls_y c54 (show s.2 < blv φ ts cd p q by omega)]; exact hvv) hM4 hT4 (chg_tr hc hc4) kq
theorem m_ball0_O {sh : List (Nat × Nat)} {r : Nat → Nat → Option Nat} {g : Nat → Nat → Int64} {φ ts cd : Nat → Nat → Nat} {nt : Nat} (hW : WD sh r) (hI : FI φ) (hTI : TI nt ts cd) (hlt : φ 7 2 < nt) (hJ : FJ φ) (hY : FY φ) {Q : Option g_V → g_H → Prop} {N0 : Nat} {a0 : Nat → Nat → Int32} : ∀ (n p : Nat) (s : Nat × Nat) (l2 : Int32) (m : Nat) (a : Nat → Nat → Int32) (x5 x6 : Option g_V), p + n = φ 7 3 → l2 = spi s.1 → m = s.2 → s.2 ≤ 60 → MA φ a → TM nt ts cd a → chg scZ a0 a → (∀ a', MA φ a' → chg scZ a0 a' → Q (some (vi (spi (blo φ ts cd n p s).1))) (sh, a', r, g)) → Gd YX8_ball (z0 8 N0 Q) 0 0 22 [some (vr 50), some (vi (nI 0)), some (vi l2), some (vi (nI (m))), some (vi (nI p)), x5, x6] [] (sh, a, r, g)
  | 0, p, s, l2, m, a, x5, x6, hn, h2, h3, h60, hM, hT, hc, kq => by
    subst h2
    subst h3
    have hhu := FI_hu hI
    refine Gd_iload (i := 4) rfl eX8_ball_22 ?_
    refine Gd_aload_n (i := 0) rfl eX8_ball_24 ?_
    refine Gd_getIe (v := nI (φ 7 3)) fl_RX8_81 (W_s50 hW) (MA_hu hM :) eX8_ball_25 ?_
    refine Gd_icmp_geN (by first | omega | decide) (by first | omega | decide) eX8_ball_28 (fun c28 => ?_) (fun c28 => ?_)
    · refine Gd_iload_n (i := 1) rfl eX8_ball_125 ?_
      refine Gd_if_ne eX8_ball_126 (fun q => by first | exact absurd q (by decide) | exact absurd (by decide) q) (fun _ => ?_)
      refine Gd_iload_n (i := 2) rfl eX8_ball_129 ?_
      refine Gd_goto eX8_ball_130 ?_
      exact Gd_ireturn eX8_ball_134 rfl (Nat.le_refl _) (Nat.le_refl _) (kq _ hM hc)
    · exact absurd c28 (by omega)
  | n + 1, p, s, l2, m, a, x5, x6, hn, h2, h3, h60, hM, hT, hc, kq => by
    subst h2
    subst h3
    have hhu := FI_hu hI
    refine Gd_iload (i := 4) rfl eX8_ball_22 ?_
    refine Gd_aload_n (i := 0) rfl eX8_ball_24 ?_
    refine Gd_getIe (v := nI (φ 7 3)) fl_RX8_81 (W_s50 hW) (MA_hu hM :) eX8_ball_25 ?_
    refine Gd_icmp_geN (by first | omega | decide) (by first | omega | decide) eX8_ball_28 (fun c28 => ?_) (fun c28 => ?_)
    · exact absurd c28 (by omega)
    · refine Gd_iload (i := 4) rfl eX8_ball_31 ?_
      refine Gd_iconst ki_1 eX8_ball_33 ?_
      refine Gd_iaddN eX8_ball_34 ?_
      refine Gd_istore5 rfl eX8_ball_35 ?_
      refine m_ball0_I hW hI hTI hlt hJ hY c28 (φ 7 3 - (p + 1)) (p + 1) s _ _ a x6 (by omega) (by omega) rfl rfl h60 hM hT chg_rf (fun a2 x6 hM hT h60 hc2 => ?_)
      refine Gd_iinc4 (ho := rfl) (he := nI_inc _) eX8_ball_119 ?_
      refine Gd_goto eX8_ball_122 ?_
      exact m_ball0_O hW hI hTI hlt hJ hY n (p + 1) (bli φ ts cd p (φ 7 3 - (p + 1)) (p + 1) s) _ _ a2 _ x6 (by omega) rfl rfl h60 hM hT (chg_tr hc hc2) kq
theorem m_ball1_I {sh : List (Nat × Nat)} {r : Nat → Nat → Option Nat} {g : Nat → Nat → Int64} {φ ts cd : Nat → Nat → Nat} {nt : Nat} (hW : WD sh r) (hI : FI φ) (hTI : TI nt ts cd) (hlt : φ 7 2 < nt) (hJ : FJ φ) (hY : FY φ) {p : Nat} (hp : p < φ 7 3) {Q : Option g_V → g_H → Prop} {N0 : Nat} {a0 : Nat → Nat → Int32} : ∀ (n q : Nat) (s : Nat × Nat) (l2 : Int32) (m : Nat) (a : Nat → Nat → Int32) (x6 : Option g_V), q + n = φ 7 3 → p < q → l2 = spi s.1 → m = s.2 → s.2 ≤ 60 → MA φ a → TM nt ts cd a → chg scZ a0 a → (∀ (a' : Nat → Nat → Int32) (x6 : Option g_V), MA φ a' → TM nt ts cd a' → (bli φ ts cd p n q s).2 ≤ 60 → chg scZ a0 a' → Gd YX8_ball (z0 8 N0 Q) 0 0 119 [some (vr 50), some (vi (nI 1)), some (vi (spi (bli φ ts cd p n q s).1)), some (vi (nI ((bli φ ts cd p n q s).2))), some (vi (nI p)), some (vi (nI (φ 7 3))), x6] [] (sh, a', r, g)) → Gd YX8_ball (z0 8 N0 Q) 0 0 37 [some (vr 50), some (vi (nI 1)), some (vi l2), some (vi (nI (m))), some (vi (nI p)), some (vi (nI q)), x6] [] (sh, a, r, g)
  | 0, q, s, l2, m, a, x6, hn, hpl, h2, h3, h60, hM, hT, hc, kq => by
    subst h2
    subst h3
    have hhu := FI_hu hI
    refine Gd_iload (i := 5) rfl eX8_ball_37 ?_
    refine Gd_aload_n (i := 0) rfl eX8_ball_39 ?_
    refine Gd_getIe (v := nI (φ 7 3)) fl_RX8_81 (W_s50 hW) (MA_hu hM :) eX8_ball_40 ?_
    refine Gd_icmp_geN (by first | omega | decide) (by first | omega | decide) eX8_ball_43 (fun c43 => ?_) (fun c43 => ?_)
    · obtain rfl : q = φ 7 3 := by omega
      exact kq a x6 hM hT h60 hc
    · exact absurd c43 (by omega)
  | n + 1, q, s, l2, m, a, x6, hn, hpl, h2, h3, h60, hM, hT, hc, kq => by
    subst h2
    subst h3
    have hhu := FI_hu hI
    refine Gd_iload (i := 5) rfl eX8_ball_37 ?_
    refine Gd_aload_n (i := 0) rfl eX8_ball_39 ?_
    refine Gd_getIe (v := nI (φ 7 3)) fl_RX8_81 (W_s50 hW) (MA_hu hM :) eX8_ball_40 ?_
    refine Gd_icmp_geN (by first | omega | decide) (by first | omega | decide) eX8_ball_43 (fun c43 => ?_) (fun c43 => ?_)
    · exact absurd c43 (by omega)
    · have hpq : p ≠ q := by omega
      have hvv := blv60 (φ := φ) (ts := ts) (cd := cd) (p := p) (q := q) hhu
      refine Gd_aload_n (i := 0) rfl eX8_ball_46 ?_
      refine Gd_iload (i := 4) rfl eX8_ball_47 ?_
      refine Gd_iload (i := 5) rfl eX8_ball_49 ?_
      refine Gd_callP (g_cV (m_haveMet hW hM hI (p := p) (q := q) (by first | omega | decide) (by first | omega | decide)) ok_X8_haveMet lk_RX8_192 (W_s50 hW) ⟨_, _, rfl⟩ rfl rfl (Nat.le_of_ble_eq_true rfl) (Nat.le_of_ble_eq_true rfl) (Nat.le_refl _) (Nat.le_refl _) eX8_ball_51) ?_
      refine Gd_if_neB eX8_ball_54 (fun c54 => ?_) (fun c54 => ?_)
      · refine Gd_iinc5 (ho := rfl) (he := nI_inc _) eX8_ball_113 ?_
        refine Gd_goto eX8_ball_116 ?_
        exact m_ball1_I hW hI hTI hlt hJ hY hp n (q + 1) _ _ _ a x6 (by omega) (by omega) (by rw [bls_m (ts := ts) (cd := cd) c54]) (by rw [bls_m (ts := ts) (cd := cd) c54]) (by rw [bls_m (ts := ts) (cd := cd) c54]; exact h60) hM hT hc kq
      · have hsy : (φ 4 q).testBit p = false := by rw [← hY p q (by omega) (by omega)]; exact c54
        refine Gd_aload_n (i := 0) rfl eX8_ball_57 ?_
        refine Gd_iload (i := 4) rfl eX8_ball_58 ?_
        refine Gd_iload (i := 5) rfl eX8_ball_60 ?_
        refine Gd_iconst ki_1 eX8_ball_62 ?_
        refine Gd_callE0 (g_cV (m_meets1 hW hM hI (p := p) (q := q) (by first | omega | decide) (by first | omega | decide) hpq) ok_X8_meets lk_RX8_195 (W_s50 hW) ⟨_, _, rfl⟩ rfl rfl (Nat.le_of_ble_eq_true rfl) (Nat.le_of_ble_eq_true rfl) (Nat.le_refl _) (Nat.le_refl _) eX8_ball_63) (fun a2 hq2 => ?_)
        obtain ⟨hM2, hq2⟩ := hq2
        have hc2 : chg scZ a a2 := chg_mono2 scZ_53 hq2
        refine Gd_aload_n (i := 0) rfl eX8_ball_66 ?_
        refine Gd_callEV (g_cV (m_sponsoredAll hW hM2 (FI_mee1 hI (by omega) (by omega)) (TM_Z hT hc2) hTI hlt (FJ_mee1 hJ (by omega) (by omega) hpq)) ok_X8_sponsoredAll lk_RX8_254 (W_s50 hW) ⟨_, _, rfl⟩ rfl rfl (Nat.le_of_ble_eq_true rfl) (Nat.le_of_ble_eq_true rfl) (Nat.le_refl _) (Nat.le_refl _) eX8_ball_67) (fun a3 hq3 => ?_)
        rw [show alls (mee1 φ p q) ts cd (mee1 φ p q 7 3) = blv φ ts cd p q from rfl]
        have hM3 := MA_W hM2 hq3
        have hc3 : chg scZ a a3 := chg_tr hc2 (chg_mono2 scZ_W hq3)
        refine Gd_istore6 rfl eX8_ball_70 ?_
        refine Gd_aload_n (i := 0) rfl eX8_ball_72 ?_
        refine Gd_iload (i := 4) rfl eX8_ball_73 ?_
        refine Gd_iload (i := 5) rfl eX8_ball_75 ?_
        refine Gd_iconst ki_0 eX8_ball_77 ?_
        refine Gd_callE0 (g_cV (m_meets0 hW hM3 (FI_mee1 hI (by omega) (by omega)) (p := p) (q := q) (by first | omega | decide) (by first | omega | decide) hpq) ok_X8_meets lk_RX8_195 (W_s50 hW) ⟨_, _, rfl⟩ rfl rfl (Nat.le_of_ble_eq_true rfl) (Nat.le_of_ble_eq_true rfl) (Nat.le_refl _) (Nat.le_refl _) eX8_ball_78) (fun a4 hq4 => ?_)
        obtain ⟨hM4, hq4⟩ := hq4
        rw [mee01 hI (by omega) (by omega) hpq c54 hsy] at hM4
        have hc4 : chg scZ a a4 := chg_tr hc3 (chg_mono2 scZ_53 hq4)
        have hT4 := TM_Z hT hc4
        refine Gd_iload (i := 6) rfl eX8_ball_81 ?_
        refine Gd_iload_n (i := 3) rfl eX8_ball_83 ?_
        refine Gd_icmp_leN (by first | omega | decide) (by first | omega | decide) eX8_ball_84 (fun c84 => ?_) (fun c84 => ?_)
        · refine Gd_iload_n (i := 2) rfl eX8_ball_98 ?_
          refine Gd_istore_n2 rfl eX8_ball_99 ?_
          refine Gd_iload (i := 6) rfl eX8_ball_100 ?_
          refine Gd_iload_n (i := 3) rfl eX8_ball_102 ?_
          refine Gd_icmp_leN (by first | omega | decide) (by first | omega | decide) eX8_ball_103 (fun c103 => ?_) (fun c103 => ?_)
          · refine Gd_iload_n (i := 3) rfl eX8_ball_111 ?_
            refine Gd_istore_n3 rfl eX8_ball_112 ?_
            refine Gd_iinc5 (ho := rfl) (he := nI_inc _) eX8_ball_113 ?_
            refine Gd_goto eX8_ball_116 ?_
            exact m_ball1_I hW hI hTI hlt hJ hY hp n (q + 1) _ _ _ a4 _ (by omega) (by omega) (by rw [bls_n c54 (show ¬ s.2 < blv φ ts cd p q by omega)]) (by rw [bls_n c54 (show ¬ s.2 < blv φ ts cd p q by omega)]) (by rw [bls_n c54 (show ¬ s.2 < blv φ ts cd p q by omega)]; exact h60) hM4 hT4 (chg_tr hc hc4) kq
          · refine Gd_iload (i := 6) rfl eX8_ball_106 ?_
            refine Gd_goto eX8_ball_108 ?_
            refine Gd_istore_n3 rfl eX8_ball_112 ?_
            refine Gd_iinc5 (ho := rfl) (he := nI_inc _) eX8_ball_113 ?_
            refine Gd_goto eX8_ball_116 ?_
            omega
        · refine Gd_bipush kb_10 eX8_ball_87 ?_
          refine Gd_iload (i := 4) rfl eX8_ball_89 ?_
          refine Gd_imulN eX8_ball_91 ?_
          refine Gd_iload (i := 5) rfl eX8_ball_92 ?_
          refine Gd_iaddN eX8_ball_94 ?_
          refine Gd_goto eX8_ball_95 ?_
          refine Gd_istore_n2 rfl eX8_ball_99 ?_
          refine Gd_iload (i := 6) rfl eX8_ball_100 ?_
          refine Gd_iload_n (i := 3) rfl eX8_ball_102 ?_
          refine Gd_icmp_leN (by first | omega | decide) (by first | omega | decide) eX8_ball_103 (fun c103 => ?_) (fun c103 => ?_)
          · refine Gd_iload_n (i := 3) rfl eX8_ball_111 ?_
            refine Gd_istore_n3 rfl eX8_ball_112 ?_
            refine Gd_iinc5 (ho := rfl) (he := nI_inc _) eX8_ball_113 ?_
            refine Gd_goto eX8_ball_116 ?_
            omega
          · refine Gd_iload (i := 6) rfl eX8_ball_106 ?_
            refine Gd_goto eX8_ball_108 ?_
            refine Gd_istore_n3 rfl eX8_ball_112 ?_
            refine Gd_iinc5 (ho := rfl) (he := nI_inc _) eX8_ball_113 ?_
            refine Gd_goto eX8_ball_116 ?_
            exact m_ball1_I hW hI hTI hlt hJ hY hp n (q + 1) _ _ _ a4 _ (by omega) (by omega) (by rw [bls_y c54 (show s.2 < blv φ ts cd p q by omega), spi_s]) (by rw [bls_y c54 (show s.2 < blv φ ts cd p q by omega)]) (by rw [bls_y c54 (show s.2 < blv φ ts cd p q by omega)]; exact hvv) hM4 hT4 (chg_tr hc hc4) kq
theorem m_ball1_O {sh : List (Nat × Nat)} {r : Nat → Nat → Option Nat} {g : Nat → Nat → Int64} {φ ts cd : Nat → Nat → Nat} {nt : Nat} (hW : WD sh r) (hI : FI φ) (hTI : TI nt ts cd) (hlt : φ 7 2 < nt) (hJ : FJ φ) (hY : FY φ) {Q : Option g_V → g_H → Prop} {N0 : Nat} {a0 : Nat → Nat → Int32} : ∀ (n p : Nat) (s : Nat × Nat) (l2 : Int32) (m : Nat) (a : Nat → Nat → Int32) (x5 x6 : Option g_V), p + n = φ 7 3 → l2 = spi s.1 → m = s.2 → s.2 ≤ 60 → MA φ a → TM nt ts cd a → chg scZ a0 a → (∀ a', MA φ a' → chg scZ a0 a' → Q (some (vi (nI (blo φ ts cd n p s).2))) (sh, a', r, g)) → Gd YX8_ball (z0 8 N0 Q) 0 0 22 [some (vr 50), some (vi (nI 1)), some (vi l2), some (vi (nI (m))), some (vi (nI p)), x5, x6] [] (sh, a, r, g)
  | 0, p, s, l2, m, a, x5, x6, hn, h2, h3, h60, hM, hT, hc, kq => by
    subst h2
    subst h3
    have hhu := FI_hu hI
    refine Gd_iload (i := 4) rfl eX8_ball_22 ?_
    refine Gd_aload_n (i := 0) rfl eX8_ball_24 ?_
    refine Gd_getIe (v := nI (φ 7 3)) fl_RX8_81 (W_s50 hW) (MA_hu hM :) eX8_ball_25 ?_
    refine Gd_icmp_geN (by first | omega | decide) (by first | omega | decide) eX8_ball_28 (fun c28 => ?_) (fun c28 => ?_)
    · refine Gd_iload_n (i := 1) rfl eX8_ball_125 ?_
      refine Gd_if_ne eX8_ball_126 (fun _ => ?_) (fun q => by first | exact absurd q (by decide) | exact absurd (by decide) q)
      refine Gd_iload_n (i := 3) rfl eX8_ball_133 ?_
      exact Gd_ireturn eX8_ball_134 rfl (Nat.le_refl _) (Nat.le_refl _) (kq _ hM hc)
    · exact absurd c28 (by omega)
  | n + 1, p, s, l2, m, a, x5, x6, hn, h2, h3, h60, hM, hT, hc, kq => by
    subst h2
    subst h3
    have hhu := FI_hu hI
    refine Gd_iload (i := 4) rfl eX8_ball_22 ?_
    refine Gd_aload_n (i := 0) rfl eX8_ball_24 ?_
    refine Gd_getIe (v := nI (φ 7 3)) fl_RX8_81 (W_s50 hW) (MA_hu hM :) eX8_ball_25 ?_
    refine Gd_icmp_geN (by first | omega | decide) (by first | omega | decide) eX8_ball_28 (fun c28 => ?_) (fun c28 => ?_)
    · exact absurd c28 (by omega)
    · refine Gd_iload (i := 4) rfl eX8_ball_31 ?_
      refine Gd_iconst ki_1 eX8_ball_33 ?_
      refine Gd_iaddN eX8_ball_34 ?_
      refine Gd_istore5 rfl eX8_ball_35 ?_
      refine m_ball1_I hW hI hTI hlt hJ hY c28 (φ 7 3 - (p + 1)) (p + 1) s _ _ a x6 (by omega) (by omega) rfl rfl h60 hM hT chg_rf (fun a2 x6 hM hT h60 hc2 => ?_)
      refine Gd_iinc4 (ho := rfl) (he := nI_inc _) eX8_ball_119 ?_
      refine Gd_goto eX8_ball_122 ?_
      exact m_ball1_O hW hI hTI hlt hJ hY n (p + 1) (bli φ ts cd p (φ 7 3 - (p + 1)) (p + 1) s) _ _ a2 _ x6 (by omega) rfl rfl h60 hM hT (chg_tr hc hc2) kq
theorem m_ball {sh : List (Nat × Nat)} {a : Nat → Nat → Int32} {r : Nat → Nat → Option Nat} {g : Nat → Nat → Int64} {φ ts cd : Nat → Nat → Nat} {nt : Nat} (hW : WD sh r) (hM : MA φ a) (hI : FI φ) (hT : TM nt ts cd a) (hTI : TI nt ts cd) (hlt : φ 7 2 < nt) (hJ : FJ φ) (hY : FY φ) (vw : Int32) : Mt YX8_ball 8 0 0 [vr 50, vi vw] (sh, a, r, g) (g_EV sh r g (vi (oBall φ ts cd vw)) (fun a' => MA φ a' ∧ chg scZ a a')) := by
  refine Mt_of rfl (Nat.le_of_ble_eq_true rfl) rfl ?_
  have hhu := FI_hu hI
  refine Gd_iload_n (i := 1) rfl eX8_ball_0 ?_
  refine Gd_iconst ki_0 eX8_ball_1 ?_
  refine Gd_iconst ki_1 eX8_ball_2 ?_
  refine Gd_callP (g_cS (m_in _ _ _) ok_X8_in lk_RX8_84 rfl rfl (Nat.le_of_ble_eq_true rfl) (Nat.le_of_ble_eq_true rfl) (Nat.le_refl _) (Nat.le_refl _) eX8_ball_3) ?_
  refine Gd_if_neB eX8_ball_6 (fun c6 => ?_) (fun c6 => ?_)
  · obtain ⟨k, _, hk, rfl⟩ := inb_r (by decide) (by decide) c6
    rcases (by omega : k = 0 ∨ k = 1) with rfl | rfl
    · refine Gd_iconst ki_m1 eX8_ball_12 ?_
      refine Gd_istore_n2 rfl eX8_ball_13 ?_
      refine Gd_aload_n (i := 0) rfl eX8_ball_14 ?_
      refine Gd_callEV (g_cV (m_sponsoredAll hW hM hI hT hTI hlt hJ) ok_X8_sponsoredAll lk_RX8_254 (W_s50 hW) ⟨_, _, rfl⟩ rfl rfl (Nat.le_of_ble_eq_true rfl) (Nat.le_of_ble_eq_true rfl) (Nat.le_refl _) (Nat.le_refl _) eX8_ball_15) (fun a3 hq3 => ?_)
      refine Gd_istore_n3 rfl eX8_ball_18 ?_
      refine Gd_iconst ki_0 eX8_ball_19 ?_
      refine Gd_istore4 rfl eX8_ball_20 ?_
      exact m_ball0_O hW hI hTI hlt hJ hY (φ 7 3) 0 (0, alls φ ts cd (φ 7 3)) _ _ a3 _ _ (by omega) rfl rfl (alls60 hhu) (MA_W hM hq3) (TM_W hT hq3) (chg_mono2 scZ_W hq3) (fun a' k1 k2 => ⟨a', by rw [oBall_0]; rfl, rfl, k1, k2⟩)
    · refine Gd_iconst ki_m1 eX8_ball_12 ?_
      refine Gd_istore_n2 rfl eX8_ball_13 ?_
      refine Gd_aload_n (i := 0) rfl eX8_ball_14 ?_
      refine Gd_callEV (g_cV (m_sponsoredAll hW hM hI hT hTI hlt hJ) ok_X8_sponsoredAll lk_RX8_254 (W_s50 hW) ⟨_, _, rfl⟩ rfl rfl (Nat.le_of_ble_eq_true rfl) (Nat.le_of_ble_eq_true rfl) (Nat.le_refl _) (Nat.le_refl _) eX8_ball_15) (fun a3 hq3 => ?_)
      refine Gd_istore_n3 rfl eX8_ball_18 ?_
      refine Gd_iconst ki_0 eX8_ball_19 ?_
      refine Gd_istore4 rfl eX8_ball_20 ?_
      exact m_ball1_O hW hI hTI hlt hJ hY (φ 7 3) 0 (0, alls φ ts cd (φ 7 3)) _ _ a3 _ _ (by omega) rfl rfl (alls60 hhu) (MA_W hM hq3) (TM_W hT hq3) (chg_mono2 scZ_W hq3) (fun a' k1 k2 => ⟨a', by rw [oBall_1]; rfl, rfl, k1, k2⟩)
  · refine Gd_bipush kb_m2 eX8_ball_9 ?_
    exact Gd_ireturn eX8_ball_11 rfl (Nat.le_refl _) (Nat.le_refl _) ⟨a, by rw [oBall_w c6], rfl, hM, chg_rf⟩
theorem x_ball0_I {sh : List (Nat × Nat)} {r : Nat → Nat → Option Nat} {g : Nat → Nat → Int64} {φ ts cd : Nat → Nat → Nat} {nt : Nat} (hW : WD sh r) (hI : FI φ) (hTI : TI nt ts cd) (hlt : φ 7 2 < nt) (hJ : FJ φ) (hY : FY φ) {p : Nat} (hp : p < φ 7 3) {Q : Option g_V → g_H → Prop} {N0 : Nat} {a0 : Nat → Nat → Int32} : ∀ (n q : Nat) (s : Nat × Nat) (l2 : Int32) (m : Nat) (a : Nat → Nat → Int32) (x6 : Option g_V), q + n = φ 7 3 → p < q → l2 = spi s.1 → m = s.2 → s.2 ≤ 60 → FA 1 φ a → FA 9 φ a → TX nt ts cd sh a r → chg scX a0 a → (∀ (a' : Nat → Nat → Int32) (x6 : Option g_V), FA 1 φ a' → FA 9 φ a' → TX nt ts cd sh a' r → (bli φ ts cd p n q s).2 ≤ 60 → chg scX a0 a' → Gd YX7_ball (z0 8 N0 Q) 0 0 156 [some (vr 0), some (vi (nI 0)), some (vi (nI ((bli φ ts cd p n q s).2))), some (vi (spi (bli φ ts cd p n q s).1)), some (vi (nI p)), some (vi (nI (φ 7 3))), x6] [] (sh, a', r, g)) → Gd YX7_ball (z0 8 N0 Q) 0 0 62 [some (vr 0), some (vi (nI 0)), some (vi (nI (m))), some (vi l2), some (vi (nI p)), some (vi (nI q)), x6] [] (sh, a, r, g)
  | 0, q, s, l2, m, a, x6, hn, hpl, h2, h3, h60, hA, hA9, hT, hc, kq => by
    subst h2
    subst h3
    have hhu := FI_hu hI
    refine Gd_iload (i := 5) rfl eX7_ball_62 ?_
    refine Gd_aload_n (i := 0) rfl eX7_ball_64 ?_
    refine Gd_getR fl_RX7_16 (W_s0 hW) (W_r0_1 hW) eX7_ball_65 ?_
    refine Gd_getIe (v := nI (φ 7 3)) fl_RX7_90 (W_s9 hW) (FA_hu hA9 :) eX7_ball_68 ?_
    refine Gd_icmp_geN (by first | omega | decide) (by first | omega | decide) eX7_ball_71 (fun c71 => ?_) (fun c71 => ?_)
    · obtain rfl : q = φ 7 3 := by omega
      exact kq a x6 hA hA9 hT h60 hc
    · exact absurd c71 (by omega)
  | n + 1, q, s, l2, m, a, x6, hn, hpl, h2, h3, h60, hA, hA9, hT, hc, kq => by
    subst h2
    subst h3
    have hhu := FI_hu hI
    refine Gd_iload (i := 5) rfl eX7_ball_62 ?_
    refine Gd_aload_n (i := 0) rfl eX7_ball_64 ?_
    refine Gd_getR fl_RX7_16 (W_s0 hW) (W_r0_1 hW) eX7_ball_65 ?_
    refine Gd_getIe (v := nI (φ 7 3)) fl_RX7_90 (W_s9 hW) (FA_hu hA9 :) eX7_ball_68 ?_
    refine Gd_icmp_geN (by first | omega | decide) (by first | omega | decide) eX7_ball_71 (fun c71 => ?_) (fun c71 => ?_)
    · exact absurd c71 (by omega)
    · have hpq : p ≠ q := by omega
      have hvv := blv60 (φ := φ) (ts := ts) (cd := cd) (p := p) (q := q) hhu
      refine Gd_aload_n (i := 0) rfl eX7_ball_74 ?_
      refine Gd_getR fl_RX7_10 (W_s0 hW) (W_r0_0 hW) eX7_ball_75 ?_
      refine Gd_iload (i := 4) rfl eX7_ball_78 ?_
      refine Gd_iload (i := 5) rfl eX7_ball_80 ?_
      refine Gd_callP (g_cV (x_haveMet (W_F1 hW) hA hI (p := p) (q := q) (by first | omega | decide) (by first | omega | decide)) ok_X0_haveMet lk_RX7_150 (W_s1 hW) ⟨_, _, rfl⟩ rfl rfl (Nat.le_of_ble_eq_true rfl) (Nat.le_of_ble_eq_true rfl) (Nat.le_refl _) (Nat.le_refl _) eX7_ball_82) ?_
      refine Gd_if_eqB eX7_ball_85 (fun c85 => ?_) (fun c85 => ?_)
      · have hsy : (φ 4 q).testBit p = false := by rw [← hY p q (by omega) (by omega)]; exact c85
        refine Gd_aload_n (i := 0) rfl eX7_ball_91 ?_
        refine Gd_getR fl_RX7_16 (W_s0 hW) (W_r0_1 hW) eX7_ball_92 ?_
        refine Gd_iload (i := 4) rfl eX7_ball_95 ?_
        refine Gd_iload (i := 5) rfl eX7_ball_97 ?_
        refine Gd_iconst ki_1 eX7_ball_99 ?_
        refine Gd_callE0 (g_cV (x_setMet1 (W_F9 hW) hA9 hI (p := p) (q := q) (by first | omega | decide) (by first | omega | decide) hpq) ok_X0_setMet lk_RX7_154 (W_s9 hW) ⟨_, _, rfl⟩ rfl rfl (Nat.le_of_ble_eq_true rfl) (Nat.le_of_ble_eq_true rfl) (Nat.le_refl _) (Nat.le_refl _) eX7_ball_100) (fun a2 hq2 => ?_)
        obtain ⟨hM2, hq2⟩ := hq2
        have hc2 : chg scX a a2 := chg_mono2 (scX_r (by decide)) hq2
        refine Gd_aload_n (i := 0) rfl eX7_ball_103 ?_
        refine Gd_getR fl_RX7_43 (W_s0 hW) (W_r0_6 hW) eX7_ball_104 ?_
        refine Gd_aload_n (i := 0) rfl eX7_ball_107 ?_
        refine Gd_getR fl_RX7_36 (W_s0 hW) (W_r0_5 hW) eX7_ball_108 ?_
        refine Gd_aload_n (i := 0) rfl eX7_ball_111 ?_
        refine Gd_getR fl_RX7_16 (W_s0 hW) (W_r0_1 hW) eX7_ball_112 ?_
        refine Gd_callEV (g_cV (x_allSponsored hW (W_F9 hW) (by decide) hM2 (FI_mee1 hI (by omega) (by omega)) (TX_X hT hc2) hTI hlt (FJ_mee1 hJ (by omega) (by omega) hpq)) ok_X6_allSponsored lk_RX7_240 (W_s35 hW) ⟨_, _, rfl⟩ rfl rfl (Nat.le_of_ble_eq_true rfl) (Nat.le_of_ble_eq_true rfl) (Nat.le_refl _) (Nat.le_refl _) eX7_ball_115) (fun a3 hq3 => ?_)
        rw [show alls (mee1 φ p q) ts cd (mee1 φ p q 7 3) = blv φ ts cd p q from rfl]
        have hM3 := FA_V hM2 (by decide) hq3
        have hc3 : chg scX a a3 := chg_tr hc2 (chg_mono2 scX_V hq3)
        refine Gd_istore6 rfl eX7_ball_118 ?_
        refine Gd_aload_n (i := 0) rfl eX7_ball_120 ?_
        refine Gd_getR fl_RX7_16 (W_s0 hW) (W_r0_1 hW) eX7_ball_121 ?_
        refine Gd_iload (i := 4) rfl eX7_ball_124 ?_
        refine Gd_iload (i := 5) rfl eX7_ball_126 ?_
        refine Gd_iconst ki_0 eX7_ball_128 ?_
        refine Gd_callE0 (g_cV (x_setMet0 (W_F9 hW) hM3 (FI_mee1 hI (by omega) (by omega)) (p := p) (q := q) (by first | omega | decide) (by first | omega | decide) hpq) ok_X0_setMet lk_RX7_154 (W_s9 hW) ⟨_, _, rfl⟩ rfl rfl (Nat.le_of_ble_eq_true rfl) (Nat.le_of_ble_eq_true rfl) (Nat.le_refl _) (Nat.le_refl _) eX7_ball_129) (fun a4 hq4 => ?_)
        obtain ⟨hM4, hq4⟩ := hq4
        rw [mee01 hI (by omega) (by omega) hpq c85 hsy] at hM4
        have hc4 : chg scX a a4 := chg_tr hc3 (chg_mono2 (scX_r (by decide)) hq4)
        have hT4 := TX_X hT hc4
        refine Gd_iload (i := 6) rfl eX7_ball_132 ?_
        refine Gd_iload_n (i := 2) rfl eX7_ball_134 ?_
        refine Gd_icmp_leN (by first | omega | decide) (by first | omega | decide) eX7_ball_135 (fun c135 => ?_) (fun c135 => ?_)
        · refine Gd_iinc5 (ho := rfl) (he := nI_inc _) eX7_ball_150 ?_
          refine Gd_goto eX7_ball_153 ?_
          exact x_ball0_I hW hI hTI hlt hJ hY hp n (q + 1) _ _ _ a4 _ (by omega) (by omega) (by rw [bls_n c85 (show ¬ s.2 < blv φ ts cd p q by omega)]) (by rw [bls_n c85 (show ¬ s.2 < blv φ ts cd p q by omega)]) (by rw [bls_n c85 (show ¬ s.2 < blv φ ts cd p q by omega)]; exact h60) (FA_X hA hc4) hM4 hT4 (chg_tr hc hc4) kq
        · refine Gd_iload (i := 6) rfl eX7_ball_138 ?_
          refine Gd_istore_n2 rfl eX7_ball_140 ?_
          refine Gd_bipush kb_10 eX7_ball_141 ?_
          refine Gd_iload (i := 4) rfl eX7_ball_143 ?_
          refine Gd_imulN eX7_ball_145 ?_
          refine Gd_iload (i := 5) rfl eX7_ball_146 ?_
          refine Gd_iaddN eX7_ball_148 ?_
          refine Gd_istore_n3 rfl eX7_ball_149 ?_
          refine Gd_iinc5 (ho := rfl) (he := nI_inc _) eX7_ball_150 ?_
          refine Gd_goto eX7_ball_153 ?_
          exact x_ball0_I hW hI hTI hlt hJ hY hp n (q + 1) _ _ _ a4 _ (by omega) (by omega) (by rw [bls_y c85 (show s.2 < blv φ ts cd p q by omega), spi_s]) (by rw [bls_y c85 (show s.2 < blv φ ts cd p q by omega)]) (by rw [bls_y c85 (show s.2 < blv φ ts cd p q by omega)]; exact hvv) (FA_X hA hc4) hM4 hT4 (chg_tr hc hc4) kq
      · refine Gd_goto eX7_ball_88 ?_
        refine Gd_iinc5 (ho := rfl) (he := nI_inc _) eX7_ball_150 ?_
        refine Gd_goto eX7_ball_153 ?_
        exact x_ball0_I hW hI hTI hlt hJ hY hp n (q + 1) _ _ _ a x6 (by omega) (by omega) (by rw [bls_m (ts := ts) (cd := cd) c85]) (by rw [bls_m (ts := ts) (cd := cd) c85]) (by rw [bls_m (ts := ts) (cd := cd) c85]; exact h60) hA hA9 hT hc kq
theorem x_ball0_O {sh : List (Nat × Nat)} {r : Nat → Nat → Option Nat} {g : Nat → Nat → Int64} {φ ts cd : Nat → Nat → Nat} {nt : Nat} (hW : WD sh r) (hI : FI φ) (hTI : TI nt ts cd) (hlt : φ 7 2 < nt) (hJ : FJ φ) (hY : FY φ) {Q : Option g_V → g_H → Prop} {N0 : Nat} {a0 : Nat → Nat → Int32} : ∀ (n p : Nat) (s : Nat × Nat) (l2 : Int32) (m : Nat) (a : Nat → Nat → Int32) (x5 x6 : Option g_V), p + n = φ 7 3 → l2 = spi s.1 → m = s.2 → s.2 ≤ 60 → FA 1 φ a → FA 9 φ a → TX nt ts cd sh a r → chg scX a0 a → (∀ a', FA 1 φ a' → chg scX a0 a' → Q (some (vi (spi (blo φ ts cd n p s).1))) (sh, a', r, g)) → Gd YX7_ball (z0 8 N0 Q) 0 0 44 [some (vr 0), some (vi (nI 0)), some (vi (nI (m))), some (vi l2), some (vi (nI p)), x5, x6] [] (sh, a, r, g)
  | 0, p, s, l2, m, a, x5, x6, hn, h2, h3, h60, hA, hA9, hT, hc, kq => by
    subst h2
    subst h3
    have hhu := FI_hu hI
    refine Gd_iload (i := 4) rfl eX7_ball_44 ?_
    refine Gd_aload_n (i := 0) rfl eX7_ball_46 ?_
    refine Gd_getR fl_RX7_16 (W_s0 hW) (W_r0_1 hW) eX7_ball_47 ?_
    refine Gd_getIe (v := nI (φ 7 3)) fl_RX7_90 (W_s9 hW) (FA_hu hA9 :) eX7_ball_50 ?_
    refine Gd_icmp_geN (by first | omega | decide) (by first | omega | decide) eX7_ball_53 (fun c53 => ?_) (fun c53 => ?_)
    · refine Gd_iload_n (i := 1) rfl eX7_ball_162 ?_
      refine Gd_if_ne eX7_ball_163 (fun q => by first | exact absurd q (by decide) | exact absurd (by decide) q) (fun _ => ?_)
      refine Gd_iload_n (i := 3) rfl eX7_ball_166 ?_
      refine Gd_goto eX7_ball_167 ?_
      exact Gd_ireturn eX7_ball_171 rfl (Nat.le_refl _) (Nat.le_refl _) (kq _ hA hc)
    · exact absurd c53 (by omega)
  | n + 1, p, s, l2, m, a, x5, x6, hn, h2, h3, h60, hA, hA9, hT, hc, kq => by
    subst h2
    subst h3
    have hhu := FI_hu hI
    refine Gd_iload (i := 4) rfl eX7_ball_44 ?_
    refine Gd_aload_n (i := 0) rfl eX7_ball_46 ?_
    refine Gd_getR fl_RX7_16 (W_s0 hW) (W_r0_1 hW) eX7_ball_47 ?_
    refine Gd_getIe (v := nI (φ 7 3)) fl_RX7_90 (W_s9 hW) (FA_hu hA9 :) eX7_ball_50 ?_
    refine Gd_icmp_geN (by first | omega | decide) (by first | omega | decide) eX7_ball_53 (fun c53 => ?_) (fun c53 => ?_)
    · exact absurd c53 (by omega)
    · refine Gd_iload (i := 4) rfl eX7_ball_56 ?_
      refine Gd_iconst ki_1 eX7_ball_58 ?_
      refine Gd_iaddN eX7_ball_59 ?_
      refine Gd_istore5 rfl eX7_ball_60 ?_
      refine x_ball0_I hW hI hTI hlt hJ hY c53 (φ 7 3 - (p + 1)) (p + 1) s _ _ a x6 (by omega) (by omega) rfl rfl h60 hA hA9 hT chg_rf (fun a2 x6 hA hA9 hT h60 hc2 => ?_)
      refine Gd_iinc4 (ho := rfl) (he := nI_inc _) eX7_ball_156 ?_
      refine Gd_goto eX7_ball_159 ?_
      exact x_ball0_O hW hI hTI hlt hJ hY n (p + 1) (bli φ ts cd p (φ 7 3 - (p + 1)) (p + 1) s) _ _ a2 _ x6 (by omega) rfl rfl h60 hA hA9 hT (chg_tr hc hc2) kq
theorem x_ball1_I {sh : List (Nat × Nat)} {r : Nat → Nat → Option Nat} {g : Nat → Nat → Int64} {φ ts cd : Nat → Nat → Nat} {nt : Nat} (hW : WD sh r) (hI : FI φ) (hTI : TI nt ts cd) (hlt : φ 7 2 < nt) (hJ : FJ φ) (hY : FY φ) {p : Nat} (hp : p < φ 7 3) {Q : Option g_V → g_H → Prop} {N0 : Nat} {a0 : Nat → Nat → Int32} : ∀ (n q : Nat) (s : Nat × Nat) (l2 : Int32) (m : Nat) (a : Nat → Nat → Int32) (x6 : Option g_V), q + n = φ 7 3 → p < q → l2 = spi s.1 → m = s.2 → s.2 ≤ 60 → FA 1 φ a → FA 9 φ a → TX nt ts cd sh a r → chg scX a0 a → (∀ (a' : Nat → Nat → Int32) (x6 : Option g_V), FA 1 φ a' → FA 9 φ a' → TX nt ts cd sh a' r → (bli φ ts cd p n q s).2 ≤ 60 → chg scX a0 a' → Gd YX7_ball (z0 8 N0 Q) 0 0 156 [some (vr 0), some (vi (nI 1)), some (vi (nI ((bli φ ts cd p n q s).2))), some (vi (spi (bli φ ts cd p n q s).1)), some (vi (nI p)), some (vi (nI (φ 7 3))), x6] [] (sh, a', r, g)) → Gd YX7_ball (z0 8 N0 Q) 0 0 62 [some (vr 0), some (vi (nI 1)), some (vi (nI (m))), some (vi l2), some (vi (nI p)), some (vi (nI q)), x6] [] (sh, a, r, g)
  | 0, q, s, l2, m, a, x6, hn, hpl, h2, h3, h60, hA, hA9, hT, hc, kq => by
    subst h2
    subst h3
    have hhu := FI_hu hI
    refine Gd_iload (i := 5) rfl eX7_ball_62 ?_
    refine Gd_aload_n (i := 0) rfl eX7_ball_64 ?_
    refine Gd_getR fl_RX7_16 (W_s0 hW) (W_r0_1 hW) eX7_ball_65 ?_
    refine Gd_getIe (v := nI (φ 7 3)) fl_RX7_90 (W_s9 hW) (FA_hu hA9 :) eX7_ball_68 ?_
    refine Gd_icmp_geN (by first | omega | decide) (by first | omega | decide) eX7_ball_71 (fun c71 => ?_) (fun c71 => ?_)
    · obtain rfl : q = φ 7 3 := by omega
      exact kq a x6 hA hA9 hT h60 hc
    · exact absurd c71 (by omega)
  | n + 1, q, s, l2, m, a, x6, hn, hpl, h2, h3, h60, hA, hA9, hT, hc, kq => by
    subst h2
    subst h3
    have hhu := FI_hu hI
    refine Gd_iload (i := 5) rfl eX7_ball_62 ?_
    refine Gd_aload_n (i := 0) rfl eX7_ball_64 ?_
    refine Gd_getR fl_RX7_16 (W_s0 hW) (W_r0_1 hW) eX7_ball_65 ?_
    refine Gd_getIe (v := nI (φ 7 3)) fl_RX7_90 (W_s9 hW) (FA_hu hA9 :) eX7_ball_68 ?_
    refine Gd_icmp_geN (by first | omega | decide) (by first | omega | decide) eX7_ball_71 (fun c71 => ?_) (fun c71 => ?_)
    · exact absurd c71 (by omega)
    · have hpq : p ≠ q := by omega
      have hvv := blv60 (φ := φ) (ts := ts) (cd := cd) (p := p) (q := q) hhu
      refine Gd_aload_n (i := 0) rfl eX7_ball_74 ?_
      refine Gd_getR fl_RX7_10 (W_s0 hW) (W_r0_0 hW) eX7_ball_75 ?_
      refine Gd_iload (i := 4) rfl eX7_ball_78 ?_
      refine Gd_iload (i := 5) rfl eX7_ball_80 ?_
      refine Gd_callP (g_cV (x_haveMet (W_F1 hW) hA hI (p := p) (q := q) (by first | omega | decide) (by first | omega | decide)) ok_X0_haveMet lk_RX7_150 (W_s1 hW) ⟨_, _, rfl⟩ rfl rfl (Nat.le_of_ble_eq_true rfl) (Nat.le_of_ble_eq_true rfl) (Nat.le_refl _) (Nat.le_refl _) eX7_ball_82) ?_
      refine Gd_if_eqB eX7_ball_85 (fun c85 => ?_) (fun c85 => ?_)
      · have hsy : (φ 4 q).testBit p = false := by rw [← hY p q (by omega) (by omega)]; exact c85
        refine Gd_aload_n (i := 0) rfl eX7_ball_91 ?_
        refine Gd_getR fl_RX7_16 (W_s0 hW) (W_r0_1 hW) eX7_ball_92 ?_
        refine Gd_iload (i := 4) rfl eX7_ball_95 ?_
        refine Gd_iload (i := 5) rfl eX7_ball_97 ?_
        refine Gd_iconst ki_1 eX7_ball_99 ?_
        refine Gd_callE0 (g_cV (x_setMet1 (W_F9 hW) hA9 hI (p := p) (q := q) (by first | omega | decide) (by first | omega | decide) hpq) ok_X0_setMet lk_RX7_154 (W_s9 hW) ⟨_, _, rfl⟩ rfl rfl (Nat.le_of_ble_eq_true rfl) (Nat.le_of_ble_eq_true rfl) (Nat.le_refl _) (Nat.le_refl _) eX7_ball_100) (fun a2 hq2 => ?_)
        obtain ⟨hM2, hq2⟩ := hq2
        have hc2 : chg scX a a2 := chg_mono2 (scX_r (by decide)) hq2
        refine Gd_aload_n (i := 0) rfl eX7_ball_103 ?_
        refine Gd_getR fl_RX7_43 (W_s0 hW) (W_r0_6 hW) eX7_ball_104 ?_
        refine Gd_aload_n (i := 0) rfl eX7_ball_107 ?_
        refine Gd_getR fl_RX7_36 (W_s0 hW) (W_r0_5 hW) eX7_ball_108 ?_
        refine Gd_aload_n (i := 0) rfl eX7_ball_111 ?_
        refine Gd_getR fl_RX7_16 (W_s0 hW) (W_r0_1 hW) eX7_ball_112 ?_
        refine Gd_callEV (g_cV (x_allSponsored hW (W_F9 hW) (by decide) hM2 (FI_mee1 hI (by omega) (by omega)) (TX_X hT hc2) hTI hlt (FJ_mee1 hJ (by omega) (by omega) hpq)) ok_X6_allSponsored lk_RX7_240 (W_s35 hW) ⟨_, _, rfl⟩ rfl rfl (Nat.le_of_ble_eq_true rfl) (Nat.le_of_ble_eq_true rfl) (Nat.le_refl _) (Nat.le_refl _) eX7_ball_115) (fun a3 hq3 => ?_)
        rw [show alls (mee1 φ p q) ts cd (mee1 φ p q 7 3) = blv φ ts cd p q from rfl]
        have hM3 := FA_V hM2 (by decide) hq3
        have hc3 : chg scX a a3 := chg_tr hc2 (chg_mono2 scX_V hq3)
        refine Gd_istore6 rfl eX7_ball_118 ?_
        refine Gd_aload_n (i := 0) rfl eX7_ball_120 ?_
        refine Gd_getR fl_RX7_16 (W_s0 hW) (W_r0_1 hW) eX7_ball_121 ?_
        refine Gd_iload (i := 4) rfl eX7_ball_124 ?_
        refine Gd_iload (i := 5) rfl eX7_ball_126 ?_
        refine Gd_iconst ki_0 eX7_ball_128 ?_
        refine Gd_callE0 (g_cV (x_setMet0 (W_F9 hW) hM3 (FI_mee1 hI (by omega) (by omega)) (p := p) (q := q) (by first | omega | decide) (by first | omega | decide) hpq) ok_X0_setMet lk_RX7_154 (W_s9 hW) ⟨_, _, rfl⟩ rfl rfl (Nat.le_of_ble_eq_true rfl) (Nat.le_of_ble_eq_true rfl) (Nat.le_refl _) (Nat.le_refl _) eX7_ball_129) (fun a4 hq4 => ?_)
        obtain ⟨hM4, hq4⟩ := hq4
        rw [mee01 hI (by omega) (by omega) hpq c85 hsy] at hM4
        have hc4 : chg scX a a4 := chg_tr hc3 (chg_mono2 (scX_r (by decide)) hq4)
        have hT4 := TX_X hT hc4
        refine Gd_iload (i := 6) rfl eX7_ball_132 ?_
        refine Gd_iload_n (i := 2) rfl eX7_ball_134 ?_
        refine Gd_icmp_leN (by first | omega | decide) (by first | omega | decide) eX7_ball_135 (fun c135 => ?_) (fun c135 => ?_)
        · refine Gd_iinc5 (ho := rfl) (he := nI_inc _) eX7_ball_150 ?_
          refine Gd_goto eX7_ball_153 ?_
          exact x_ball1_I hW hI hTI hlt hJ hY hp n (q + 1) _ _ _ a4 _ (by omega) (by omega) (by rw [bls_n c85 (show ¬ s.2 < blv φ ts cd p q by omega)]) (by rw [bls_n c85 (show ¬ s.2 < blv φ ts cd p q by omega)]) (by rw [bls_n c85 (show ¬ s.2 < blv φ ts cd p q by omega)]; exact h60) (FA_X hA hc4) hM4 hT4 (chg_tr hc hc4) kq
        · refine Gd_iload (i := 6) rfl eX7_ball_138 ?_
          refine Gd_istore_n2 rfl eX7_ball_140 ?_
          refine Gd_bipush kb_10 eX7_ball_141 ?_
          refine Gd_iload (i := 4) rfl eX7_ball_143 ?_
          refine Gd_imulN eX7_ball_145 ?_
          refine Gd_iload (i := 5) rfl eX7_ball_146 ?_
          refine Gd_iaddN eX7_ball_148 ?_
          refine Gd_istore_n3 rfl eX7_ball_149 ?_
          refine Gd_iinc5 (ho := rfl) (he := nI_inc _) eX7_ball_150 ?_
          refine Gd_goto eX7_ball_153 ?_
          exact x_ball1_I hW hI hTI hlt hJ hY hp n (q + 1) _ _ _ a4 _ (by omega) (by omega) (by rw [bls_y c85 (show s.2 < blv φ ts cd p q by omega), spi_s]) (by rw [bls_y c85 (show s.2 < blv φ ts cd p q by omega)]) (by rw [bls_y c85 (show s.2 < blv φ ts cd p q by omega)]; exact hvv) (FA_X hA hc4) hM4 hT4 (chg_tr hc hc4) kq
      · refine Gd_goto eX7_ball_88 ?_
        refine Gd_iinc5 (ho := rfl) (he := nI_inc _) eX7_ball_150 ?_
        refine Gd_goto eX7_ball_153 ?_
        exact x_ball1_I hW hI hTI hlt hJ hY hp n (q + 1) _ _ _ a x6 (by omega) (by omega) (by rw [bls_m (ts := ts) (cd := cd) c85]) (by rw [bls_m (ts := ts) (cd := cd) c85]) (by rw [bls_m (ts := ts) (cd := cd) c85]; exact h60) hA hA9 hT hc kq
theorem x_ball1_O {sh : List (Nat × Nat)} {r : Nat → Nat → Option Nat} {g : Nat → Nat → Int64} {φ ts cd : Nat → Nat → Nat} {nt : Nat} (hW : WD sh r) (hI : FI φ) (hTI : TI nt ts cd) (hlt : φ 7 2 < nt) (hJ : FJ φ) (hY : FY φ) {Q : Option g_V → g_H → Prop} {N0 : Nat} {a0 : Nat → Nat → Int32} : ∀ (n p : Nat) (s : Nat × Nat) (l2 : Int32) (m : Nat) (a : Nat → Nat → Int32) (x5 x6 : Option g_V), p + n = φ 7 3 → l2 = spi s.1 → m = s.2 → s.2 ≤ 60 → FA 1 φ a → FA 9 φ a → TX nt ts cd sh a r → chg scX a0 a → (∀ a', FA 1 φ a' → chg scX a0 a' → Q (some (vi (nI (blo φ ts cd n p s).2))) (sh, a', r, g)) → Gd YX7_ball (z0 8 N0 Q) 0 0 44 [some (vr 0), some (vi (nI 1)), some (vi (nI (m))), some (vi l2), some (vi (nI p)), x5, x6] [] (sh, a, r, g)
  | 0, p, s, l2, m, a, x5, x6, hn, h2, h3, h60, hA, hA9, hT, hc, kq => by
    subst h2
    subst h3
    have hhu := FI_hu hI
    refine Gd_iload (i := 4) rfl eX7_ball_44 ?_
    refine Gd_aload_n (i := 0) rfl eX7_ball_46 ?_
    refine Gd_getR fl_RX7_16 (W_s0 hW) (W_r0_1 hW) eX7_ball_47 ?_
    refine Gd_getIe (v := nI (φ 7 3)) fl_RX7_90 (W_s9 hW) (FA_hu hA9 :) eX7_ball_50 ?_
    refine Gd_icmp_geN (by first | omega | decide) (by first | omega | decide) eX7_ball_53 (fun c53 => ?_) (fun c53 => ?_)
    · refine Gd_iload_n (i := 1) rfl eX7_ball_162 ?_
      refine Gd_if_ne eX7_ball_163 (fun _ => ?_) (fun q => by first | exact absurd q (by decide) | exact absurd (by decide) q)
      refine Gd_iload_n (i := 2) rfl eX7_ball_170 ?_
      exact Gd_ireturn eX7_ball_171 rfl (Nat.le_refl _) (Nat.le_refl _) (kq _ hA hc)
    · exact absurd c53 (by omega)
  | n + 1, p, s, l2, m, a, x5, x6, hn, h2, h3, h60, hA, hA9, hT, hc, kq => by
    subst h2
    subst h3
    have hhu := FI_hu hI
    refine Gd_iload (i := 4) rfl eX7_ball_44 ?_
    refine Gd_aload_n (i := 0) rfl eX7_ball_46 ?_
    refine Gd_getR fl_RX7_16 (W_s0 hW) (W_r0_1 hW) eX7_ball_47 ?_
    refine Gd_getIe (v := nI (φ 7 3)) fl_RX7_90 (W_s9 hW) (FA_hu hA9 :) eX7_ball_50 ?_
    refine Gd_icmp_geN (by first | omega | decide) (by first | omega | decide) eX7_ball_53 (fun c53 => ?_) (fun c53 => ?_)
    · exact absurd c53 (by omega)
    · refine Gd_iload (i := 4) rfl eX7_ball_56 ?_
      refine Gd_iconst ki_1 eX7_ball_58 ?_
      refine Gd_iaddN eX7_ball_59 ?_
      refine Gd_istore5 rfl eX7_ball_60 ?_
      refine x_ball1_I hW hI hTI hlt hJ hY c53 (φ 7 3 - (p + 1)) (p + 1) s _ _ a x6 (by omega) (by omega) rfl rfl h60 hA hA9 hT chg_rf (fun a2 x6 hA hA9 hT h60 hc2 => ?_)
      refine Gd_iinc4 (ho := rfl) (he := nI_inc _) eX7_ball_156 ?_
      refine Gd_goto eX7_ball_159 ?_
      exact x_ball1_O hW hI hTI hlt hJ hY n (p + 1) (bli φ ts cd p (φ 7 3 - (p + 1)) (p + 1) s) _ _ a2 _ x6 (by omega) rfl rfl h60 hA hA9 hT (chg_tr hc hc2) kq
theorem x_ball {sh : List (Nat × Nat)} {a : Nat → Nat → Int32} {r : Nat → Nat → Option Nat} {g : Nat → Nat → Int64} {φ ts cd : Nat → Nat → Nat} {nt : Nat} (hW : WD sh r) (hA : FA 1 φ a) (hI : FI φ) (hT : TX nt ts cd sh a r) (hTI : TI nt ts cd) (hlt : φ 7 2 < nt) (hJ : FJ φ) (hY : FY φ) (vw : Int32) : Mt YX7_ball 8 0 0 [vr 0, vi vw] (sh, a, r, g) (g_EV sh r g (vi (oBall φ ts cd vw)) (fun a' => chg scX a a')) := by
  refine Mt_of rfl (Nat.le_of_ble_eq_true rfl) rfl ?_
  have hhu := FI_hu hI
  refine Gd_iload_n (i := 1) rfl eX7_ball_0 ?_
  refine Gd_iconst ki_0 eX7_ball_1 ?_
  refine Gd_iconst ki_1 eX7_ball_2 ?_
  refine Gd_callP (g_cS (x_isWithin _ _ _) ok_X7_isWithin lk_RX7_119 rfl rfl (Nat.le_of_ble_eq_true rfl) (Nat.le_of_ble_eq_true rfl) (Nat.le_refl _) (Nat.le_refl _) eX7_ball_3) ?_
  refine Gd_if_neB eX7_ball_6 (fun c6 => ?_) (fun c6 => ?_)
  · obtain ⟨k, _, hk, rfl⟩ := inb_r (by decide) (by decide) c6
    rcases (by omega : k = 0 ∨ k = 1) with rfl | rfl
    · refine Gd_aload_n (i := 0) rfl eX7_ball_12 ?_
      refine Gd_getR fl_RX7_16 (W_s0 hW) (W_r0_1 hW) eX7_ball_13 ?_
      refine Gd_aload_n (i := 0) rfl eX7_ball_16 ?_
      refine Gd_getR fl_RX7_10 (W_s0 hW) (W_r0_0 hW) eX7_ball_17 ?_
      refine Gd_callE0 (g_cV (x_become9 hW hA) ok_X0_become lk_RX7_232 (W_s9 hW) ⟨_, _, rfl⟩ rfl rfl (Nat.le_of_ble_eq_true rfl) (Nat.le_of_ble_eq_true rfl) (Nat.le_refl _) (Nat.le_refl _) eX7_ball_20) (fun a2 hq2 => ?_)
      obtain ⟨hA2, hq2⟩ := hq2
      have hc2 : chg scX a a2 := chg_mono2 scX_9 hq2
      have hT2 := TX_X hT hc2
      refine Gd_aload_n (i := 0) rfl eX7_ball_23 ?_
      refine Gd_getR fl_RX7_43 (W_s0 hW) (W_r0_6 hW) eX7_ball_24 ?_
      refine Gd_aload_n (i := 0) rfl eX7_ball_27 ?_
      refine Gd_getR fl_RX7_36 (W_s0 hW) (W_r0_5 hW) eX7_ball_28 ?_
      refine Gd_aload_n (i := 0) rfl eX7_ball_31 ?_
      refine Gd_getR fl_RX7_16 (W_s0 hW) (W_r0_1 hW) eX7_ball_32 ?_
      refine Gd_callEV (g_cV (x_allSponsored hW (W_F9 hW) (by decide) hA2 hI hT2 hTI hlt hJ) ok_X6_allSponsored lk_RX7_240 (W_s35 hW) ⟨_, _, rfl⟩ rfl rfl (Nat.le_of_ble_eq_true rfl) (Nat.le_of_ble_eq_true rfl) (Nat.le_refl _) (Nat.le_refl _) eX7_ball_35) (fun a3 hq3 => ?_)
      refine Gd_istore_n2 rfl eX7_ball_38 ?_
      refine Gd_iconst ki_m1 eX7_ball_39 ?_
      refine Gd_istore_n3 rfl eX7_ball_40 ?_
      refine Gd_iconst ki_0 eX7_ball_41 ?_
      refine Gd_istore4 rfl eX7_ball_42 ?_
      have hc3 : chg scX a a3 := chg_tr hc2 (chg_mono2 scX_V hq3)
      exact x_ball0_O hW hI hTI hlt hJ hY (φ 7 3) 0 (0, alls φ ts cd (φ 7 3)) _ _ a3 _ _ (by omega) rfl rfl (alls60 hhu) (FA_X hA hc3) (FA_V hA2 (by decide) hq3) (TX_X hT hc3) hc3 (fun a' k1 k2 => ⟨a', by rw [oBall_0]; rfl, rfl, k2⟩)
    · refine Gd_aload_n (i := 0) rfl eX7_ball_12 ?_
      refine Gd_getR fl_RX7_16 (W_s0 hW) (W_r0_1 hW) eX7_ball_13 ?_
      refine Gd_aload_n (i := 0) rfl eX7_ball_16 ?_
      refine Gd_getR fl_RX7_10 (W_s0 hW) (W_r0_0 hW) eX7_ball_17 ?_
      refine Gd_callE0 (g_cV (x_become9 hW hA) ok_X0_become lk_RX7_232 (W_s9 hW) ⟨_, _, rfl⟩ rfl rfl (Nat.le_of_ble_eq_true rfl) (Nat.le_of_ble_eq_true rfl) (Nat.le_refl _) (Nat.le_refl _) eX7_ball_20) (fun a2 hq2 => ?_)
      obtain ⟨hA2, hq2⟩ := hq2
      have hc2 : chg scX a a2 := chg_mono2 scX_9 hq2
      have hT2 := TX_X hT hc2
      refine Gd_aload_n (i := 0) rfl eX7_ball_23 ?_
      refine Gd_getR fl_RX7_43 (W_s0 hW) (W_r0_6 hW) eX7_ball_24 ?_
      refine Gd_aload_n (i := 0) rfl eX7_ball_27 ?_
      refine Gd_getR fl_RX7_36 (W_s0 hW) (W_r0_5 hW) eX7_ball_28 ?_
      refine Gd_aload_n (i := 0) rfl eX7_ball_31 ?_
      refine Gd_getR fl_RX7_16 (W_s0 hW) (W_r0_1 hW) eX7_ball_32 ?_
      refine Gd_callEV (g_cV (x_allSponsored hW (W_F9 hW) (by decide) hA2 hI hT2 hTI hlt hJ) ok_X6_allSponsored lk_RX7_240 (W_s35 hW) ⟨_, _, rfl⟩ rfl rfl (Nat.le_of_ble_eq_true rfl) (Nat.le_of_ble_eq_true rfl) (Nat.le_refl _) (Nat.le_refl _) eX7_ball_35) (fun a3 hq3 => ?_)
      refine Gd_istore_n2 rfl eX7_ball_38 ?_
      refine Gd_iconst ki_m1 eX7_ball_39 ?_
      refine Gd_istore_n3 rfl eX7_ball_40 ?_
      refine Gd_iconst ki_0 eX7_ball_41 ?_
      refine Gd_istore4 rfl eX7_ball_42 ?_
      have hc3 : chg scX a a3 := chg_tr hc2 (chg_mono2 scX_V hq3)
      exact x_ball1_O hW hI hTI hlt hJ hY (φ 7 3) 0 (0, alls φ ts cd (φ 7 3)) _ _ a3 _ _ (by omega) rfl rfl (alls60 hhu) (FA_X hA hc3) (FA_V hA2 (by decide) hq3) (TX_X hT hc3) hc3 (fun a' k1 k2 => ⟨a', by rw [oBall_1]; rfl, rfl, k2⟩)
  · refine Gd_bipush kb_m2 eX7_ball_9 ?_
    exact Gd_ireturn eX7_ball_11 rfl (Nat.le_refl _) (Nat.le_refl _) ⟨a, by rw [oBall_w c6], rfl, chg_rf⟩
