theorem odS_y {φ ts cd : g_Fo} {s l k : Nat} (h : l ≤ pops (lsF ts cd 20 (s + k + 1) φ 7 0) 10) : odS φ ts cd s l k + 1 = odS φ ts cd s l (k + 1) := by rw [odS, if_pos h]
theorem odS_n {φ ts cd : g_Fo} {s l k : Nat} (h : ¬ l ≤ pops (lsF ts cd 20 (s + k + 1) φ 7 0) 10) : odS φ ts cd s l k = odS φ ts cd s l (k + 1) := by rw [odS, if_neg h, Nat.add_zero]
theorem m_odds0_L {sh : List (Nat × Nat)} {r : Nat → Nat → Option Nat} {g : Nat → Nat → Int64} {φ ts cd : Nat → Nat → Nat} {nt : Nat} (hW : WD sh r) (hI : FI φ) (hTI : TI nt ts cd) (hlt : φ 7 2 < nt) {s l n0 : Nat} (hs : s ≤ 99999) (hl : l ≤ 10) (hn1 : 1 ≤ n0) (hn40 : n0 ≤ 40) {Q : Option g_V → g_H → Prop} {N0 : Nat} {a0 : Nat → Nat → Int32} : ∀ (n k m : Nat) (a : Nat → Nat → Int32), k + n = n0 → m = odS φ ts cd s l k → MA φ a → TM nt ts cd a → chg scZ a0 a → (∀ a', MA φ a' → chg scZ a0 a' → Q (some (vl (lN (lowt (odS φ ts cd s l n0) n0 0)))) (sh, a', r, g)) → Gd YX8_odds (z0 7 N0 Q) 0 0 51 [some (vr 50), some (vi (nI s)), some (vi (nI n0)), some (vi (nI l)), some (vi (nI 0)), some (vl (lN m)), none, some (vi (nI k))] [] (sh, a, r, g)
  | 0, k, m, a, hn, hm, hM, hT, hc, kq => by
    subst hm
    refine Gd_iload (i := 7) rfl eX8_odds_51 ?_
    refine Gd_iload_n (i := 2) rfl eX8_odds_53 ?_
    refine Gd_icmp_geN (by first | omega | decide) (by first | omega | decide) eX8_odds_54 (fun c54 => ?_) (fun c54 => ?_)
    · obtain rfl : k = n0 := by omega
      have hod := odS_le (φ := φ) (ts := ts) (cd := cd) (s := s) (l := l) k
      refine Gd_lload (i := 5) rfl eX8_odds_90 ?_
      refine Gd_iload_n (i := 2) rfl eX8_odds_92 ?_
      refine Gd_i2l eX8_odds_93 ?_
      rw [nI_l (by omega)]
      refine Gd_iload (i := 4) rfl eX8_odds_94 ?_
      refine Gd_callP (g_cS (m_low0 (n := odS φ ts cd s l k) (d := k) (by omega) (by omega) (by omega)) ok_X8_lowest lk_RX8_259 rfl rfl (Nat.le_of_ble_eq_true rfl) (Nat.le_of_ble_eq_true rfl) (Nat.le_refl _) (Nat.le_refl _) eX8_odds_96) ?_
      exact Gd_lreturn eX8_odds_99 rfl (Nat.le_refl _) (Nat.le_refl _) (kq _ hM hc)
    · exact absurd c54 (by omega)
  | n + 1, k, m, a, hn, hm, hM, hT, hc, kq => by
    subst hm
    refine Gd_iload (i := 7) rfl eX8_odds_51 ?_
    refine Gd_iload_n (i := 2) rfl eX8_odds_53 ?_
    refine Gd_icmp_geN (by first | omega | decide) (by first | omega | decide) eX8_odds_54 (fun c54 => ?_) (fun c54 => ?_)
    · exact absurd c54 (by omega)
    · refine Gd_lload (i := 5) rfl eX8_odds_57 ?_
      refine Gd_aload_n (i := 0) rfl eX8_odds_59 ?_
      refine Gd_iload_n (i := 1) rfl eX8_odds_60 ?_
      refine Gd_iload (i := 7) rfl eX8_odds_61 ?_
      refine Gd_iaddN eX8_odds_63 ?_
      refine Gd_bipush kb_20 eX8_odds_64 ?_
      refine Gd_callEV (g_cV (m_lotSeasons hW hM hI hT hTI hlt (s := s + k) (n := 20) (by omega) (by decide)) ok_X8_lotSeasons lk_RX8_284 (W_s50 hW) ⟨_, _, rfl⟩ rfl rfl (Nat.le_of_ble_eq_true rfl) (Nat.le_of_ble_eq_true rfl) (Nat.le_refl _) (Nat.le_refl _) eX8_odds_66) (fun a2 hq => ?_)
      obtain ⟨hM2, h35, hq⟩ := hq
      have hIl := FI_al (FI_ls (ts := ts) (cd := cd) 20 (s + k + 1) φ hI)
      refine Gd_callP (g_cS (m_bitsOf (n := lsF ts cd 20 (s + k + 1) φ 7 0) (by omega)) ok_X8_bitsOf lk_RX8_92 rfl rfl (Nat.le_of_ble_eq_true rfl) (Nat.le_of_ble_eq_true rfl) (Nat.le_refl _) (Nat.le_refl _) eX8_odds_69) ?_
      have hpl := pops_le (lsF ts cd 20 (s + k + 1) φ 7 0) 10
      refine Gd_iload_n (i := 3) rfl eX8_odds_72 ?_
      refine Gd_icmp_ltN (by first | omega | decide) (by first | omega | decide) eX8_odds_73 (fun c73 => ?_) (fun c73 => ?_)
      · refine Gd_lconst (v := lN 0) rfl eX8_odds_80 ?_
        refine Gd_ladd eX8_odds_81 ?_
        rw [lN_add]
        refine Gd_lstore5 rfl eX8_odds_82 ?_
        refine Gd_iinc7 (ho := rfl) (he := nI_inc _) eX8_odds_84 ?_
        refine Gd_goto eX8_odds_87 ?_
        exact m_odds0_L hW hI hTI hlt hs hl hn1 hn40 n (k + 1) _ a2 (by omega) (by rw [Nat.add_zero]; exact odS_n (by omega)) hM2 (TM_Z hT hq) (chg_tr hc hq) kq
      · refine Gd_lconst (v := lN 1) rfl eX8_odds_76 ?_
        refine Gd_goto eX8_odds_77 ?_
        refine Gd_ladd eX8_odds_81 ?_
        rw [lN_add]
        refine Gd_lstore5 rfl eX8_odds_82 ?_
        refine Gd_iinc7 (ho := rfl) (he := nI_inc _) eX8_odds_84 ?_
        refine Gd_goto eX8_odds_87 ?_
        exact m_odds0_L hW hI hTI hlt hs hl hn1 hn40 n (k + 1) _ a2 (by omega) (odS_y (by omega)) hM2 (TM_Z hT hq) (chg_tr hc hq) kq
theorem m_odds1_L {sh : List (Nat × Nat)} {r : Nat → Nat → Option Nat} {g : Nat → Nat → Int64} {φ ts cd : Nat → Nat → Nat} {nt : Nat} (hW : WD sh r) (hI : FI φ) (hTI : TI nt ts cd) (hlt : φ 7 2 < nt) {s l n0 : Nat} (hs : s ≤ 99999) (hl : l ≤ 10) (hn1 : 1 ≤ n0) (hn40 : n0 ≤ 40) {Q : Option g_V → g_H → Prop} {N0 : Nat} {a0 : Nat → Nat → Int32} : ∀ (n k m : Nat) (a : Nat → Nat → Int32), k + n = n0 → m = odS φ ts cd s l k → MA φ a → TM nt ts cd a → chg scZ a0 a → (∀ a', MA φ a' → chg scZ a0 a' → Q (some (vl (lN (lowt (odS φ ts cd s l n0) n0 1)))) (sh, a', r, g)) → Gd YX8_odds (z0 7 N0 Q) 0 0 51 [some (vr 50), some (vi (nI s)), some (vi (nI n0)), some (vi (nI l)), some (vi (nI 1)), some (vl (lN m)), none, some (vi (nI k))] [] (sh, a, r, g)
  | 0, k, m, a, hn, hm, hM, hT, hc, kq => by
    subst hm
    refine Gd_iload (i := 7) rfl eX8_odds_51 ?_
    refine Gd_iload_n (i := 2) rfl eX8_odds_53 ?_
    refine Gd_icmp_geN (by first | omega | decide) (by first | omega | decide) eX8_odds_54 (fun c54 => ?_) (fun c54 => ?_)
    · obtain rfl : k = n0 := by omega
      have hod := odS_le (φ := φ) (ts := ts) (cd := cd) (s := s) (l := l) k
      refine Gd_lload (i := 5) rfl eX8_odds_90 ?_
      refine Gd_iload_n (i := 2) rfl eX8_odds_92 ?_
      refine Gd_i2l eX8_odds_93 ?_
      rw [nI_l (by omega)]
      refine Gd_iload (i := 4) rfl eX8_odds_94 ?_
      refine Gd_callP (g_cS (m_low1 (n := odS φ ts cd s l k) (d := k) (by omega) (by omega) (by omega)) ok_X8_lowest lk_RX8_259 rfl rfl (Nat.le_of_ble_eq_true rfl) (Nat.le_of_ble_eq_true rfl) (Nat.le_refl _) (Nat.le_refl _) eX8_odds_96) ?_
      exact Gd_lreturn eX8_odds_99 rfl (Nat.le_refl _) (Nat.le_refl _) (kq _ hM hc)
    · exact absurd c54 (by omega)
  | n + 1, k, m, a, hn, hm, hM, hT, hc, kq => by
    subst hm
    refine Gd_iload (i := 7) rfl eX8_odds_51 ?_
    refine Gd_iload_n (i := 2) rfl eX8_odds_53 ?_
    refine Gd_icmp_geN (by first | omega | decide) (by first | omega | decide) eX8_odds_54 (fun c54 => ?_) (fun c54 => ?_)
    · exact absurd c54 (by omega)
    · refine Gd_lload (i := 5) rfl eX8_odds_57 ?_
      refine Gd_aload_n (i := 0) rfl eX8_odds_59 ?_
      refine Gd_iload_n (i := 1) rfl eX8_odds_60 ?_
      refine Gd_iload (i := 7) rfl eX8_odds_61 ?_
      refine Gd_iaddN eX8_odds_63 ?_
      refine Gd_bipush kb_20 eX8_odds_64 ?_
      refine Gd_callEV (g_cV (m_lotSeasons hW hM hI hT hTI hlt (s := s + k) (n := 20) (by omega) (by decide)) ok_X8_lotSeasons lk_RX8_284 (W_s50 hW) ⟨_, _, rfl⟩ rfl rfl (Nat.le_of_ble_eq_true rfl) (Nat.le_of_ble_eq_true rfl) (Nat.le_refl _) (Nat.le_refl _) eX8_odds_66) (fun a2 hq => ?_)
      obtain ⟨hM2, h35, hq⟩ := hq
      have hIl := FI_al (FI_ls (ts := ts) (cd := cd) 20 (s + k + 1) φ hI)
      refine Gd_callP (g_cS (m_bitsOf (n := lsF ts cd 20 (s + k + 1) φ 7 0) (by omega)) ok_X8_bitsOf lk_RX8_92 rfl rfl (Nat.le_of_ble_eq_true rfl) (Nat.le_of_ble_eq_true rfl) (Nat.le_refl _) (Nat.le_refl _) eX8_odds_69) ?_
      have hpl := pops_le (lsF ts cd 20 (s + k + 1) φ 7 0) 10
      refine Gd_iload_n (i := 3) rfl eX8_odds_72 ?_
      refine Gd_icmp_ltN (by first | omega | decide) (by first | omega | decide) eX8_odds_73 (fun c73 => ?_) (fun c73 => ?_)
      · refine Gd_lconst (v := lN 0) rfl eX8_odds_80 ?_
        refine Gd_ladd eX8_odds_81 ?_
        rw [lN_add]
        refine Gd_lstore5 rfl eX8_odds_82 ?_
        refine Gd_iinc7 (ho := rfl) (he := nI_inc _) eX8_odds_84 ?_
        refine Gd_goto eX8_odds_87 ?_
        exact m_odds1_L hW hI hTI hlt hs hl hn1 hn40 n (k + 1) _ a2 (by omega) (by rw [Nat.add_zero]; exact odS_n (by omega)) hM2 (TM_Z hT hq) (chg_tr hc hq) kq
      · refine Gd_lconst (v := lN 1) rfl eX8_odds_76 ?_
        refine Gd_goto eX8_odds_77 ?_
        refine Gd_ladd eX8_odds_81 ?_
        rw [lN_add]
        refine Gd_lstore5 rfl eX8_odds_82 ?_
        refine Gd_iinc7 (ho := rfl) (he := nI_inc _) eX8_odds_84 ?_
        refine Gd_goto eX8_odds_87 ?_
        exact m_odds1_L hW hI hTI hlt hs hl hn1 hn40 n (k + 1) _ a2 (by omega) (odS_y (by omega)) hM2 (TM_Z hT hq) (chg_tr hc hq) kq
theorem m_odds {sh : List (Nat × Nat)} {a : Nat → Nat → Int32} {r : Nat → Nat → Option Nat} {g : Nat → Nat → Int64} {φ ts cd : Nat → Nat → Nat} {nt : Nat} (hW : WD sh r) (hM : MA φ a) (hI : FI φ) (hT : TM nt ts cd a) (hTI : TI nt ts cd) (hlt : φ 7 2 < nt) (vs vn vl_ vw : Int32) : Mt YX8_odds 7 0 0 [vr 50, vi vs, vi vn, vi vl_, vi vw] (sh, a, r, g) (g_EV sh r g (vl (oOdds φ ts cd vs vn vl_ vw)) (fun a' => MA φ a' ∧ chg scZ a a')) := by
  refine Mt_of rfl (Nat.le_of_ble_eq_true rfl) rfl ?_
  refine Gd_iload_n (i := 1) rfl eX8_odds_0 ?_
  refine Gd_iconst ki_0 eX8_odds_1 ?_
  refine Gd_ldcw (v := nI 99999) ct_RX8_283 eX8_odds_2 ?_
  refine Gd_callP (g_cS (m_in _ _ _) ok_X8_in lk_RX8_84 rfl rfl (Nat.le_of_ble_eq_true rfl) (Nat.le_of_ble_eq_true rfl) (Nat.le_refl _) (Nat.le_refl _) eX8_odds_5) ?_
  refine Gd_if_eqB eX8_odds_8 (fun c8 => ?_) (fun c8 => ?_)
  · refine Gd_ldc2 ct_RX8_257 eX8_odds_41 ?_
    exact Gd_lreturn eX8_odds_44 rfl (Nat.le_refl _) (Nat.le_refl _) ⟨a, by rw [oOdds_n (Or.inl c8)]; rfl, rfl, hM, chg_rf⟩
  · refine Gd_iload_n (i := 2) rfl eX8_odds_11 ?_
    refine Gd_iconst ki_1 eX8_odds_12 ?_
    refine Gd_bipush kb_40 eX8_odds_13 ?_
    refine Gd_callP (g_cS (m_in _ _ _) ok_X8_in lk_RX8_84 rfl rfl (Nat.le_of_ble_eq_true rfl) (Nat.le_of_ble_eq_true rfl) (Nat.le_refl _) (Nat.le_refl _) eX8_odds_15) ?_
    refine Gd_if_eqB eX8_odds_18 (fun c18 => ?_) (fun c18 => ?_)
    · refine Gd_ldc2 ct_RX8_257 eX8_odds_41 ?_
      exact Gd_lreturn eX8_odds_44 rfl (Nat.le_refl _) (Nat.le_refl _) ⟨a, by rw [oOdds_n (Or.inr (Or.inl c18))]; rfl, rfl, hM, chg_rf⟩
    · refine Gd_iload_n (i := 3) rfl eX8_odds_21 ?_
      refine Gd_iconst ki_0 eX8_odds_22 ?_
      refine Gd_bipush kb_10 eX8_odds_23 ?_
      refine Gd_callP (g_cS (m_in _ _ _) ok_X8_in lk_RX8_84 rfl rfl (Nat.le_of_ble_eq_true rfl) (Nat.le_of_ble_eq_true rfl) (Nat.le_refl _) (Nat.le_refl _) eX8_odds_25) ?_
      refine Gd_if_eqB eX8_odds_28 (fun c28 => ?_) (fun c28 => ?_)
      · refine Gd_ldc2 ct_RX8_257 eX8_odds_41 ?_
        exact Gd_lreturn eX8_odds_44 rfl (Nat.le_refl _) (Nat.le_refl _) ⟨a, by rw [oOdds_n (Or.inr (Or.inr (Or.inl c28)))]; rfl, rfl, hM, chg_rf⟩
      · refine Gd_iload (i := 4) rfl eX8_odds_31 ?_
        refine Gd_iconst ki_0 eX8_odds_33 ?_
        refine Gd_iconst ki_1 eX8_odds_34 ?_
        refine Gd_callP (g_cS (m_in _ _ _) ok_X8_in lk_RX8_84 rfl rfl (Nat.le_of_ble_eq_true rfl) (Nat.le_of_ble_eq_true rfl) (Nat.le_refl _) (Nat.le_refl _) eX8_odds_35) ?_
        refine Gd_if_neB eX8_odds_38 (fun c38 => ?_) (fun c38 => ?_)
        · obtain ⟨s, hs1, hs, rfl⟩ := inb_r (by decide) (by decide) c8
          obtain ⟨n, hn1, hn, rfl⟩ := inb_r (by decide) (by decide) c18
          obtain ⟨l, hl1, hl, rfl⟩ := inb_r (by decide) (by decide) c28
          obtain ⟨k, _, hk, rfl⟩ := inb_r (by decide) (by decide) c38
          rcases (by omega : k = 0 ∨ k = 1) with rfl | rfl
          · refine Gd_lconst (v := lN 0) rfl eX8_odds_45 ?_
            refine Gd_lstore5 rfl eX8_odds_46 ?_
            refine Gd_iconst ki_0 eX8_odds_48 ?_
            refine Gd_istore7 rfl eX8_odds_49 ?_
            exact m_odds0_L hW hI hTI hlt hs hl hn1 hn n 0 0 a (by omega) rfl hM hT chg_rf (fun a' k1 k2 => ⟨a', by rw [oOdds_u hs hn1 hn hl (by decide)], rfl, k1, k2⟩)
          · refine Gd_lconst (v := lN 0) rfl eX8_odds_45 ?_
            refine Gd_lstore5 rfl eX8_odds_46 ?_
            refine Gd_iconst ki_0 eX8_odds_48 ?_
            refine Gd_istore7 rfl eX8_odds_49 ?_
            exact m_odds1_L hW hI hTI hlt hs hl hn1 hn n 0 0 a (by omega) rfl hM hT chg_rf (fun a' k1 k2 => ⟨a', by rw [oOdds_u hs hn1 hn hl (by decide)], rfl, k1, k2⟩)
        · refine Gd_ldc2 ct_RX8_257 eX8_odds_41 ?_
          exact Gd_lreturn eX8_odds_44 rfl (Nat.le_refl _) (Nat.le_refl _) ⟨a, by rw [oOdds_n (Or.inr (Or.inr (Or.inr (c38))))]; rfl, rfl, hM, chg_rf⟩
theorem x_odds0_L {sh : List (Nat × Nat)} {r : Nat → Nat → Option Nat} {φ ts cd : Nat → Nat → Nat} {nt : Nat} (hW : WD sh r) (hI : FI φ) (hTI : TI nt ts cd) (hlt : φ 7 2 < nt) {s l n0 : Nat} (hs : s ≤ 99999) (hl : l ≤ 10) (hn1 : 1 ≤ n0) (hn40 : n0 ≤ 40) {Q : Option g_V → g_H → Prop} {N0 : Nat} {a0 : Nat → Nat → Int32} : ∀ (n k m : Nat) (a : Nat → Nat → Int32) (g : Nat → Nat → Int64), k + n = n0 → m = odS φ ts cd s l k → FA 1 φ a → TX nt ts cd sh a r → chg scX a0 a → (∀ a' g', chg scX a0 a' → Q (some (vl (lN (lowt (odS φ ts cd s l n0) n0 0)))) (sh, a', r, g')) → Gd YX7_odds (z0 7 N0 Q) 0 0 51 [some (vr 0), some (vi (nI s)), some (vi (nI n0)), some (vi (nI l)), some (vi (nI 0)), some (vi (nI m)), some (vi (nI k))] [] (sh, a, r, g)
  | 0, k, m, a, g, hn, hm, hA, hT, hc, kq => by
    subst hm
    have hod0 := odS_le (φ := φ) (ts := ts) (cd := cd) (s := s) (l := l) k
    refine Gd_iload (i := 6) rfl eX7_odds_51 ?_
    refine Gd_iload_n (i := 2) rfl eX7_odds_53 ?_
    refine Gd_icmp_geN (by first | omega | decide) (by first | omega | decide) eX7_odds_54 (fun c54 => ?_) (fun c54 => ?_)
    · obtain rfl : k = n0 := by omega
      have hod := odS_le (φ := φ) (ts := ts) (cd := cd) (s := s) (l := l) k
      refine Gd_iload (i := 5) rfl eX7_odds_91 ?_
      refine Gd_i2l eX7_odds_93 ?_
      rw [nI_l (by omega)]
      refine Gd_iload_n (i := 2) rfl eX7_odds_94 ?_
      refine Gd_i2l eX7_odds_95 ?_
      rw [nI_l (by omega)]
      refine Gd_iload (i := 4) rfl eX7_odds_96 ?_
      refine Gd_callP (g_cS (x_low0 (n := odS φ ts cd s l k) (d := k) (by omega) (by omega) (by omega)) ok_X7_lowestTerms lk_RX7_249 rfl rfl (Nat.le_of_ble_eq_true rfl) (Nat.le_of_ble_eq_true rfl) (Nat.le_refl _) (Nat.le_refl _) eX7_odds_98) ?_
      exact Gd_lreturn eX7_odds_101 rfl (Nat.le_refl _) (Nat.le_refl _) (kq _ _ hc)
    · exact absurd c54 (by omega)
  | n + 1, k, m, a, g, hn, hm, hA, hT, hc, kq => by
    subst hm
    have hod0 := odS_le (φ := φ) (ts := ts) (cd := cd) (s := s) (l := l) k
    refine Gd_iload (i := 6) rfl eX7_odds_51 ?_
    refine Gd_iload_n (i := 2) rfl eX7_odds_53 ?_
    refine Gd_icmp_geN (by first | omega | decide) (by first | omega | decide) eX7_odds_54 (fun c54 => ?_) (fun c54 => ?_)
    · exact absurd c54 (by omega)
    · refine Gd_aload_n (i := 0) rfl eX7_odds_57 ?_
      refine Gd_iload_n (i := 1) rfl eX7_odds_58 ?_
      refine Gd_iload (i := 6) rfl eX7_odds_59 ?_
      refine Gd_iaddN eX7_odds_61 ?_
      refine Gd_bipush kb_20 eX7_odds_62 ?_
      refine Gd_callEG (g_cV (x_shootByLots hW hA hI hT hTI hlt (s := s + k) (n := 20) (by omega) (by decide)) ok_X7_shootByLots lk_RX7_277 (W_s0 hW) ⟨_, _, rfl⟩ rfl rfl (Nat.le_of_ble_eq_true rfl) (Nat.le_of_ble_eq_true rfl) (Nat.le_refl _) (Nat.le_refl _) eX7_odds_64) (fun a2 g2 hq => ?_)
      obtain ⟨hA2, hq⟩ := hq
      have hIl := FI_al (FI_ls (ts := ts) (cd := cd) 20 (s + k + 1) φ hI)
      refine Gd_pop rfl eX7_odds_67 ?_
      refine Gd_aload_n (i := 0) rfl eX7_odds_68 ?_
      refine Gd_getR fl_RX7_16 (W_s0 hW) (W_r0_1 hW) eX7_odds_69 ?_
      refine Gd_getIe (v := nI (lsF ts cd 20 (s + k + 1) φ 7 0)) fl_RX7_94 (W_s9 hW) (FA_al hA2 :) eX7_odds_72 ?_
      refine Gd_callP (g_cS (x_bitCount (n := lsF ts cd 20 (s + k + 1) φ 7 0) hIl) ok_J6_bitCount_0f7a4 lk_RX7_97 rfl rfl (Nat.le_of_ble_eq_true rfl) (Nat.le_of_ble_eq_true rfl) (Nat.le_refl _) (Nat.le_refl _) eX7_odds_75) ?_
      have hpl := pops_le (lsF ts cd 20 (s + k + 1) φ 7 0) 10
      refine Gd_iload_n (i := 3) rfl eX7_odds_78 ?_
      refine Gd_icmp_ltN (by first | omega | decide) (by first | omega | decide) eX7_odds_79 (fun c79 => ?_) (fun c79 => ?_)
      · refine Gd_iinc6 (ho := rfl) (he := nI_inc _) eX7_odds_85 ?_
        refine Gd_goto eX7_odds_88 ?_
        exact x_odds0_L hW hI hTI hlt hs hl hn1 hn40 n (k + 1) _ a2 _ (by omega) (odS_n (by omega)) (FA_X hA hq) (TX_X hT hq) (chg_tr hc hq) kq
      · refine Gd_iinc5 (ho := rfl) (he := nI_inc _) eX7_odds_82 ?_
        refine Gd_iinc6 (ho := rfl) (he := nI_inc _) eX7_odds_85 ?_
        refine Gd_goto eX7_odds_88 ?_
        exact x_odds0_L hW hI hTI hlt hs hl hn1 hn40 n (k + 1) _ a2 _ (by omega) (odS_y (by omega)) (FA_X hA hq) (TX_X hT hq) (chg_tr hc hq) kq
theorem x_odds1_L {sh : List (Nat × Nat)} {r : Nat → Nat → Option Nat} {φ ts cd : Nat → Nat → Nat} {nt : Nat} (hW : WD sh r) (hI : FI φ) (hTI : TI nt ts cd) (hlt : φ 7 2 < nt) {s l n0 : Nat} (hs : s ≤ 99999) (hl : l ≤ 10) (hn1 : 1 ≤ n0) (hn40 : n0 ≤ 40) {Q : Option g_V → g_H → Prop} {N0 : Nat} {a0 : Nat → Nat → Int32} : ∀ (n k m : Nat) (a : Nat → Nat → Int32) (g : Nat → Nat → Int64), k + n = n0 → m = odS φ ts cd s l k → FA 1 φ a → TX nt ts cd sh a r → chg scX a0 a → (∀ a' g', chg scX a0 a' → Q (some (vl (lN (lowt (odS φ ts cd s l n0) n0 1)))) (sh, a', r, g')) → Gd YX7_odds (z0 7 N0 Q) 0 0 51 [some (vr 0), some (vi (nI s)), some (vi (nI n0)), some (vi (nI l)), some (vi (nI 1)), some (vi (nI m)), some (vi (nI k))] [] (sh, a, r, g)
  | 0, k, m, a, g, hn, hm, hA, hT, hc, kq => by
    subst hm
    have hod0 := odS_le (φ := φ) (ts := ts) (cd := cd) (s := s) (l := l) k
    refine Gd_iload (i := 6) rfl eX7_odds_51 ?_
    refine Gd_iload_n (i := 2) rfl eX7_odds_53 ?_
    refine Gd_icmp_geN (by first | omega | decide) (by first | omega | decide) eX7_odds_54 (fun c54 => ?_) (fun c54 => ?_)
    · obtain rfl : k = n0 := by omega
      have hod := odS_le (φ := φ) (ts := ts) (cd := cd) (s := s) (l := l) k
      refine Gd_iload (i := 5) rfl eX7_odds_91 ?_
      refine Gd_i2l eX7_odds_93 ?_
      rw [nI_l (by omega)]
      refine Gd_iload_n (i := 2) rfl eX7_odds_94 ?_
      refine Gd_i2l eX7_odds_95 ?_
      rw [nI_l (by omega)]
      refine Gd_iload (i := 4) rfl eX7_odds_96 ?_
      refine Gd_callP (g_cS (x_low1 (n := odS φ ts cd s l k) (d := k) (by omega) (by omega) (by omega)) ok_X7_lowestTerms lk_RX7_249 rfl rfl (Nat.le_of_ble_eq_true rfl) (Nat.le_of_ble_eq_true rfl) (Nat.le_refl _) (Nat.le_refl _) eX7_odds_98) ?_
      exact Gd_lreturn eX7_odds_101 rfl (Nat.le_refl _) (Nat.le_refl _) (kq _ _ hc)
    · exact absurd c54 (by omega)
  | n + 1, k, m, a, g, hn, hm, hA, hT, hc, kq => by
    subst hm
    have hod0 := odS_le (φ := φ) (ts := ts) (cd := cd) (s := s) (l := l) k
    refine Gd_iload (i := 6) rfl eX7_odds_51 ?_
    refine Gd_iload_n (i := 2) rfl eX7_odds_53 ?_
    refine Gd_icmp_geN (by first | omega | decide) (by first | omega | decide) eX7_odds_54 (fun c54 => ?_) (fun c54 => ?_)
    · exact absurd c54 (by omega)
    · refine Gd_aload_n (i := 0) rfl eX7_odds_57 ?_
      refine Gd_iload_n (i := 1) rfl eX7_odds_58 ?_
      refine Gd_iload (i := 6) rfl eX7_odds_59 ?_
      refine Gd_iaddN eX7_odds_61 ?_
      refine Gd_bipush kb_20 eX7_odds_62 ?_
      refine Gd_callEG (g_cV (x_shootByLots hW hA hI hT hTI hlt (s := s + k) (n := 20) (by omega) (by decide)) ok_X7_shootByLots lk_RX7_277 (W_s0 hW) ⟨_, _, rfl⟩ rfl rfl (Nat.le_of_ble_eq_true rfl) (Nat.le_of_ble_eq_true rfl) (Nat.le_refl _) (Nat.le_refl _) eX7_odds_64) (fun a2 g2 hq => ?_)
      obtain ⟨hA2, hq⟩ := hq
      have hIl := FI_al (FI_ls (ts := ts) (cd := cd) 20 (s + k + 1) φ hI)
      refine Gd_pop rfl eX7_odds_67 ?_
      refine Gd_aload_n (i := 0) rfl eX7_odds_68 ?_
      refine Gd_getR fl_RX7_16 (W_s0 hW) (W_r0_1 hW) eX7_odds_69 ?_
      refine Gd_getIe (v := nI (lsF ts cd 20 (s + k + 1) φ 7 0)) fl_RX7_94 (W_s9 hW) (FA_al hA2 :) eX7_odds_72 ?_
      refine Gd_callP (g_cS (x_bitCount (n := lsF ts cd 20 (s + k + 1) φ 7 0) hIl) ok_J6_bitCount_0f7a4 lk_RX7_97 rfl rfl (Nat.le_of_ble_eq_true rfl) (Nat.le_of_ble_eq_true rfl) (Nat.le_refl _) (Nat.le_refl _) eX7_odds_75) ?_
      have hpl := pops_le (lsF ts cd 20 (s + k + 1) φ 7 0) 10
      refine Gd_iload_n (i := 3) rfl eX7_odds_78 ?_
      refine Gd_icmp_ltN (by first | omega | decide) (by first | omega | decide) eX7_odds_79 (fun c79 => ?_) (fun c79 => ?_)
      · refine Gd_iinc6 (ho := rfl) (he := nI_inc _) eX7_odds_85 ?_
        refine Gd_goto eX7_odds_88 ?_
        exact x_odds1_L hW hI hTI hlt hs hl hn1 hn40 n (k + 1) _ a2 _ (by omega) (odS_n (by omega)) (FA_X hA hq) (TX_X hT hq) (chg_tr hc hq) kq
      · refine Gd_iinc5 (ho := rfl) (he := nI_inc _) eX7_odds_82 ?_
        refine Gd_iinc6 (ho := rfl) (he := nI_inc _) eX7_odds_85 ?_
        refine Gd_goto eX7_odds_88 ?_
        exact x_odds1_L hW hI hTI hlt hs hl hn1 hn40 n (k + 1) _ a2 _ (by omega) (odS_y (by omega)) (FA_X hA hq) (TX_X hT hq) (chg_tr hc hq) kq
theorem x_odds {sh : List (Nat × Nat)} {a : Nat → Nat → Int32} {r : Nat → Nat → Option Nat} {g : Nat → Nat → Int64} {φ ts cd : Nat → Nat → Nat} {nt : Nat} (hW : WD sh r) (hA : FA 1 φ a) (hI : FI φ) (hT : TX nt ts cd sh a r) (hTI : TI nt ts cd) (hlt : φ 7 2 < nt) (vs vn vl_ vw : Int32) : Mt YX7_odds 7 0 0 [vr 0, vi vs, vi vn, vi vl_, vi vw] (sh, a, r, g) (g_EG sh r (vl (oOdds φ ts cd vs vn vl_ vw)) (fun a' => chg scX a a')) := by
  refine Mt_of rfl (Nat.le_of_ble_eq_true rfl) rfl ?_
  refine Gd_iload_n (i := 1) rfl eX7_odds_0 ?_
  refine Gd_iconst ki_0 eX7_odds_1 ?_
  refine Gd_ldcw (v := nI 99999) ct_RX7_276 eX7_odds_2 ?_
  refine Gd_callP (g_cS (x_isWithin _ _ _) ok_X7_isWithin lk_RX7_119 rfl rfl (Nat.le_of_ble_eq_true rfl) (Nat.le_of_ble_eq_true rfl) (Nat.le_refl _) (Nat.le_refl _) eX7_odds_5) ?_
  refine Gd_if_eqB eX7_odds_8 (fun c8 => ?_) (fun c8 => ?_)
  · refine Gd_ldc2 ct_RX7_247 eX7_odds_41 ?_
    exact Gd_lreturn eX7_odds_44 rfl (Nat.le_refl _) (Nat.le_refl _) ⟨a, g, by rw [oOdds_n (Or.inl c8)]; rfl, rfl, chg_rf⟩
  · refine Gd_iload_n (i := 2) rfl eX7_odds_11 ?_
    refine Gd_iconst ki_1 eX7_odds_12 ?_
    refine Gd_bipush kb_40 eX7_odds_13 ?_
    refine Gd_callP (g_cS (x_isWithin _ _ _) ok_X7_isWithin lk_RX7_119 rfl rfl (Nat.le_of_ble_eq_true rfl) (Nat.le_of_ble_eq_true rfl) (Nat.le_refl _) (Nat.le_refl _) eX7_odds_15) ?_
    refine Gd_if_eqB eX7_odds_18 (fun c18 => ?_) (fun c18 => ?_)
    · refine Gd_ldc2 ct_RX7_247 eX7_odds_41 ?_
      exact Gd_lreturn eX7_odds_44 rfl (Nat.le_refl _) (Nat.le_refl _) ⟨a, g, by rw [oOdds_n (Or.inr (Or.inl c18))]; rfl, rfl, chg_rf⟩
    · refine Gd_iload_n (i := 3) rfl eX7_odds_21 ?_
      refine Gd_iconst ki_0 eX7_odds_22 ?_
      refine Gd_bipush kb_10 eX7_odds_23 ?_
      refine Gd_callP (g_cS (x_isWithin _ _ _) ok_X7_isWithin lk_RX7_119 rfl rfl (Nat.le_of_ble_eq_true rfl) (Nat.le_of_ble_eq_true rfl) (Nat.le_refl _) (Nat.le_refl _) eX7_odds_25) ?_
      refine Gd_if_eqB eX7_odds_28 (fun c28 => ?_) (fun c28 => ?_)
      · refine Gd_ldc2 ct_RX7_247 eX7_odds_41 ?_
        exact Gd_lreturn eX7_odds_44 rfl (Nat.le_refl _) (Nat.le_refl _) ⟨a, g, by rw [oOdds_n (Or.inr (Or.inr (Or.inl c28)))]; rfl, rfl, chg_rf⟩
      · refine Gd_iload (i := 4) rfl eX7_odds_31 ?_
        refine Gd_iconst ki_0 eX7_odds_33 ?_
        refine Gd_iconst ki_1 eX7_odds_34 ?_
        refine Gd_callP (g_cS (x_isWithin _ _ _) ok_X7_isWithin lk_RX7_119 rfl rfl (Nat.le_of_ble_eq_true rfl) (Nat.le_of_ble_eq_true rfl) (Nat.le_refl _) (Nat.le_refl _) eX7_odds_35) ?_
        refine Gd_if_neB eX7_odds_38 (fun c38 => ?_) (fun c38 => ?_)
        · obtain ⟨s, hs1, hs, rfl⟩ := inb_r (by decide) (by decide) c8
          obtain ⟨n, hn1, hn, rfl⟩ := inb_r (by decide) (by decide) c18
          obtain ⟨l, hl1, hl, rfl⟩ := inb_r (by decide) (by decide) c28
          obtain ⟨k, _, hk, rfl⟩ := inb_r (by decide) (by decide) c38
          rcases (by omega : k = 0 ∨ k = 1) with rfl | rfl
          · refine Gd_iconst ki_0 eX7_odds_45 ?_
            refine Gd_istore5 rfl eX7_odds_46 ?_
            refine Gd_iconst ki_0 eX7_odds_48 ?_
            refine Gd_istore6 rfl eX7_odds_49 ?_
            exact x_odds0_L hW hI hTI hlt hs hl hn1 hn n 0 0 a g (by omega) rfl hA hT chg_rf (fun a' g' k1 => ⟨a', g', by rw [oOdds_u hs hn1 hn hl (by decide)], rfl, k1⟩)
          · refine Gd_iconst ki_0 eX7_odds_45 ?_
            refine Gd_istore5 rfl eX7_odds_46 ?_
            refine Gd_iconst ki_0 eX7_odds_48 ?_
            refine Gd_istore6 rfl eX7_odds_49 ?_
            exact x_odds1_L hW hI hTI hlt hs hl hn1 hn n 0 0 a g (by omega) rfl hA hT chg_rf (fun a' g' k1 => ⟨a', g', by rw [oOdds_u hs hn1 hn hl (by decide)], rfl, k1⟩)
        · refine Gd_ldc2 ct_RX7_247 eX7_odds_41 ?_
          exact Gd_lreturn eX7_odds_44 rfl (Nat.le_refl _) (Nat.le_refl _) ⟨a, g, by rw [oOdds_n (Or.inr (Or.inr (Or.inr (c38))))]; rfl, rfl, chg_rf⟩
