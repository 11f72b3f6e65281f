theorem m_dig_F {sh : List (Nat × Nat)} {a : Nat → Nat → Int32} {r : Nat → Nat → Option Nat} {g : Nat → Nat → Int64} {φ ts cd : Nat → Nat → Nat} {p : Nat} (hW : WD sh r) (hM : MA φ a) (hI : FI φ) (h32 : a 50 32 = nI (wm φ ts cd (φ 7 3))) (h68 : ∀ v, v < 6 → a 68 v = nI (fr φ ts cd p 6 v)) {t k : Nat} (ht : t < φ 7 3) (hk : k + 2 ≤ 6) (hd : dst φ ts cd p 6 t = k + 2) {Q : Option g_V → g_H → Prop} {N0 : Nat} {x1 x2 x3 : Option g_V} : ∀ (i b : Nat) (s5 s6 : Int32) (x7 : Option g_V), i ≤ φ 7 3 → s5 = spi b → s6 = spi i → inv (bef φ ts cd p t) (φ 7 3) i b → (∀ (x6 x7 : Option g_V), Gd YX8_digitsTo (z0 1 N0 Q) 0 0 107 [some (vr 50), x1, x2, x3, some (vi (nI t)), some (vi (nI (nx φ ts cd p t))), x6, x7] [] (sh, a, r, g)) → Gd YX8_digitsTo (z0 1 N0 Q) 0 0 32 [some (vr 50), x1, x2, x3, some (vi (nI t)), some (vi s5), some (vi s6), x7] [] (sh, a, r, g)
  | 0, b, s5, s6, x7, hi, h5, h6, hv, kq => by
    subst h5
    have hhu := FI_hu hI
    have hwb := wm64 φ ts cd hhu
    have hfi := fr_le (φ := φ) (ts := ts) (cd := cd) (p := p)
    have h6 : s6 = -1 := h6
    subst h6
    refine Gd_iload (i := 6) rfl eX8_digitsTo_32 ?_
    refine Gd_if_lt eX8_digitsTo_34 (fun _ => ?_) (fun q => by first | exact absurd q (by decide) | exact absurd (by decide) q)
    rw [inv_0 hv (by obtain ⟨u, h1, _⟩ := bef_ex hk hd; exact ⟨u, h1⟩)]; exact kq _ _
  | i + 1, b, s5, s6, x7, hi, h5, h6, hv, kq => by
    subst h5
    have hhu := FI_hu hI
    have hwb := wm64 φ ts cd hhu
    have hfi := fr_le (φ := φ) (ts := ts) (cd := cd) (p := p)
    have h6 : s6 = nI i := by rw [h6, spi, if_neg (by omega), Nat.add_sub_cancel]
    subst h6
    have hfi2 := hfi i
    refine Gd_iload (i := 6) rfl eX8_digitsTo_32 ?_
    refine Gd_if_ltN (by first | omega | decide) eX8_digitsTo_34 (fun q => q.elim) (fun _ => ?_)
    refine Gd_aload_n (i := 0) rfl eX8_digitsTo_37 ?_
    refine Gd_getR fl_RX8_65 (W_s50 hW) (W_r50_31 hW) eX8_digitsTo_38 ?_
    refine Gd_iload (i := 6) rfl eX8_digitsTo_41 ?_
    refine Gd_ialdE (v := nI (fr φ ts cd p 6 i)) (W_s68 hW) (by first | omega | decide) (h68 i (by omega) :) eX8_digitsTo_43 ?_
    refine Gd_aload_n (i := 0) rfl eX8_digitsTo_44 ?_
    refine Gd_getR fl_RX8_65 (W_s50 hW) (W_r50_31 hW) eX8_digitsTo_45 ?_
    refine Gd_iload (i := 4) rfl eX8_digitsTo_48 ?_
    refine Gd_ialdE (v := nI (k + 2)) (W_s68 hW) (by first | omega | decide) ((h68 t (by omega)).trans (by rw [fr_dst ht (by omega), hd]) :) eX8_digitsTo_50 ?_
    refine Gd_iconst ki_1 eX8_digitsTo_51 ?_
    refine Gd_isubN (by first | omega | decide) eX8_digitsTo_52 ?_
    refine Gd_icmp_neN (by first | omega | decide) (by first | omega | decide) eX8_digitsTo_53 (fun c53 => ?_) (fun c53 => ?_)
    · refine Gd_iconst ki_0 eX8_digitsTo_84 ?_
      refine Gd_istore7 rfl eX8_digitsTo_85 ?_
      refine Gd_iload (i := 7) rfl eX8_digitsTo_87 ?_
      refine Gd_if_eq eX8_digitsTo_89 (fun _ => ?_) (fun q => by first | exact absurd q (by decide) | exact absurd (by decide) q)
      refine Gd_iload (i := 5) rfl eX8_digitsTo_97 ?_
      refine Gd_istore5 rfl eX8_digitsTo_99 ?_
      refine Gd_iinc6 (ho := rfl) (he := dec_spi _) eX8_digitsTo_101 ?_
      refine Gd_goto eX8_digitsTo_104 ?_
      exact m_dig_F hW hM hI h32 h68 ht hk hd i b _ _ _ (by omega) rfl rfl (inv_n hv (bef_f (Or.inl (fun z => c53 ((fr_iff hi hk hd).mpr z))))) kq
    · refine Gd_aload_n (i := 0) rfl eX8_digitsTo_56 ?_
      refine Gd_getIe (v := nI (wm φ ts cd (φ 7 3))) fl_RX8_202 (W_s50 hW) h32 eX8_digitsTo_57 ?_
      refine Gd_iload (i := 6) rfl eX8_digitsTo_60 ?_
      refine Gd_ishr eX8_digitsTo_62 ?_
      refine Gd_iconst ki_1 eX8_digitsTo_63 ?_
      refine Gd_iandB (by first | omega | decide) (by first | omega | decide) eX8_digitsTo_64 ?_
      refine Gd_iconst ki_1 eX8_digitsTo_65 ?_
      refine Gd_icmp_neB1 eX8_digitsTo_66 (fun c66 => ?_) (fun c66 => ?_)
      · refine Gd_iconst ki_0 eX8_digitsTo_84 ?_
        refine Gd_istore7 rfl eX8_digitsTo_85 ?_
        refine Gd_iload (i := 7) rfl eX8_digitsTo_87 ?_
        refine Gd_if_eq eX8_digitsTo_89 (fun _ => ?_) (fun q => by first | exact absurd q (by decide) | exact absurd (by decide) q)
        refine Gd_iload (i := 5) rfl eX8_digitsTo_97 ?_
        refine Gd_istore5 rfl eX8_digitsTo_99 ?_
        refine Gd_iinc6 (ho := rfl) (he := dec_spi _) eX8_digitsTo_101 ?_
        refine Gd_goto eX8_digitsTo_104 ?_
        exact m_dig_F hW hM hI h32 h68 ht hk hd i b _ _ _ (by omega) rfl rfl (inv_n hv (bef_f (Or.inr (Or.inl (by rw [← wm_bit φ ts cd hi]; exact c66))))) kq
      · refine Gd_aload_n (i := 0) rfl eX8_digitsTo_69 ?_
        refine Gd_iload (i := 6) rfl eX8_digitsTo_70 ?_
        refine Gd_iload (i := 4) rfl eX8_digitsTo_72 ?_
        refine Gd_callP (g_cV (m_haveMet hW hM hI (by first | omega | decide) (by first | omega | decide)) ok_X8_haveMet lk_RX8_192 (W_s50 hW) ⟨_, _, rfl⟩ rfl rfl (Nat.le_of_ble_eq_true rfl) (Nat.le_of_ble_eq_true rfl) (Nat.le_refl _) (Nat.le_refl _) eX8_digitsTo_74) ?_
        refine Gd_if_eqB eX8_digitsTo_77 (fun c77 => ?_) (fun c77 => ?_)
        · refine Gd_iconst ki_0 eX8_digitsTo_84 ?_
          refine Gd_istore7 rfl eX8_digitsTo_85 ?_
          refine Gd_iload (i := 7) rfl eX8_digitsTo_87 ?_
          refine Gd_if_eq eX8_digitsTo_89 (fun _ => ?_) (fun q => by first | exact absurd q (by decide) | exact absurd (by decide) q)
          refine Gd_iload (i := 5) rfl eX8_digitsTo_97 ?_
          refine Gd_istore5 rfl eX8_digitsTo_99 ?_
          refine Gd_iinc6 (ho := rfl) (he := dec_spi _) eX8_digitsTo_101 ?_
          refine Gd_goto eX8_digitsTo_104 ?_
          exact m_dig_F hW hM hI h32 h68 ht hk hd i b _ _ _ (by omega) rfl rfl (inv_n hv (bef_f (Or.inr (Or.inr c77)))) kq
        · refine Gd_iconst ki_1 eX8_digitsTo_80 ?_
          refine Gd_goto eX8_digitsTo_81 ?_
          refine Gd_istore7 rfl eX8_digitsTo_85 ?_
          refine Gd_iload (i := 7) rfl eX8_digitsTo_87 ?_
          refine Gd_if_eq eX8_digitsTo_89 (fun q => by first | exact absurd q (by decide) | exact absurd (by decide) q) (fun _ => ?_)
          refine Gd_iload (i := 6) rfl eX8_digitsTo_92 ?_
          refine Gd_goto eX8_digitsTo_94 ?_
          refine Gd_istore5 rfl eX8_digitsTo_99 ?_
          refine Gd_iinc6 (ho := rfl) (he := dec_spi _) eX8_digitsTo_101 ?_
          refine Gd_goto eX8_digitsTo_104 ?_
          exact m_dig_F hW hM hI h32 h68 ht hk hd i (i + 1) _ _ _ (by omega) (by rw [spi, if_neg (by omega), Nat.add_sub_cancel]) rfl (inv_y hi (bef_t ((fr_iff hi hk hd).mp c53) (by rw [← wm_bit φ ts cd hi]; exact c66) c77)) kq
theorem m_dig_L {sh : List (Nat × Nat)} {a : Nat → Nat → Int32} {r : Nat → Nat → Option Nat} {g : Nat → Nat → Int64} {φ ts cd : Nat → Nat → Nat} {p : Nat} (hW : WD sh r) (hM : MA φ a) (hI : FI φ) (h32 : a 50 32 = nI (wm φ ts cd (φ 7 3))) (h68 : ∀ v, v < 6 → a 68 v = nI (fr φ ts cd p 6 v)) {Q : Option g_V → g_H → Prop} {N0 : Nat} {v1 : Int32} : ∀ (n t tt pl : Nat) (x5 x6 x7 : Option g_V), n + 1 ≤ 6 → t < φ 7 3 → dst φ ts cd p 6 t = n + 1 → Q (some (vi (nI (tt + ptr φ ts cd p (n + 1) t pl)))) (sh, a, r, g) → Gd YX8_digitsTo (z0 1 N0 Q) 0 0 10 [some (vr 50), some (vi v1), some (vi (nI tt)), some (vi (nI pl)), some (vi (nI t)), x5, x6, x7] [] (sh, a, r, g)
  | 0, t, tt, pl, x5, x6, x7, hk, ht, hd, kq => by
    have hhu := FI_hu hI
    refine Gd_aload_n (i := 0) rfl eX8_digitsTo_10 ?_
    refine Gd_getR fl_RX8_65 (W_s50 hW) (W_r50_31 hW) eX8_digitsTo_11 ?_
    refine Gd_iload (i := 4) rfl eX8_digitsTo_14 ?_
    refine Gd_ialdE (v := nI (1)) (W_s68 hW) (by first | omega | decide) ((h68 t (by omega)).trans (by rw [fr_dst ht (by omega), hd]) :) eX8_digitsTo_16 ?_
    refine Gd_iconst ki_1 eX8_digitsTo_17 ?_
    refine Gd_icmp_le eX8_digitsTo_18 (fun _ => ?_) (fun q => by first | exact absurd q (by decide) | exact absurd (by decide) q)
    refine Gd_iload_n (i := 2) rfl eX8_digitsTo_133 ?_
    exact Gd_ireturn eX8_digitsTo_134 rfl (Nat.le_refl _) (Nat.le_refl _) (by rw [ptr_1, Nat.add_zero] at kq; exact kq)
  | k + 1, t, tt, pl, x5, x6, x7, hk, ht, hd, kq => by
    have hhu := FI_hu hI
    refine Gd_aload_n (i := 0) rfl eX8_digitsTo_10 ?_
    refine Gd_getR fl_RX8_65 (W_s50 hW) (W_r50_31 hW) eX8_digitsTo_11 ?_
    refine Gd_iload (i := 4) rfl eX8_digitsTo_14 ?_
    refine Gd_ialdE (v := nI (k + 2)) (W_s68 hW) (by first | omega | decide) ((h68 t (by omega)).trans (by rw [fr_dst ht (by omega), hd]) :) eX8_digitsTo_16 ?_
    refine Gd_iconst ki_1 eX8_digitsTo_17 ?_
    refine Gd_icmp_leN (by first | omega | decide) (by first | omega | decide) eX8_digitsTo_18 (fun c18 => ?_) (fun c18 => ?_)
    · exact absurd c18 (by omega)
    · refine Gd_iconst ki_m1 eX8_digitsTo_21 ?_
      refine Gd_istore5 rfl eX8_digitsTo_22 ?_
      refine Gd_aload_n (i := 0) rfl eX8_digitsTo_24 ?_
      refine Gd_getIe (v := nI (φ 7 3)) fl_RX8_81 (W_s50 hW) (MA_hu hM :) eX8_digitsTo_25 ?_
      refine Gd_iconst ki_1 eX8_digitsTo_28 ?_
      refine Gd_isub eX8_digitsTo_29 ?_
      refine Gd_istore6 rfl eX8_digitsTo_30 ?_
      rw [sub1_spi]
      refine m_dig_F hW hM hI h32 h68 ht (k := k) (by omega) hd (φ 7 3) 0 _ _ _ (Nat.le_refl _) rfl rfl inv_s (fun x6 x7 => ?_)
      have hnx := nx_ok (show k + 2 ≤ 6 by omega) hd
      refine Gd_iload (i := 5) rfl eX8_digitsTo_107 ?_
      refine Gd_iconst ki_0 eX8_digitsTo_109 ?_
      refine Gd_iconst ki_5 eX8_digitsTo_110 ?_
      refine Gd_callP (g_cS (m_within _ _ _) ok_X8_within lk_RX8_183 rfl rfl (Nat.le_of_ble_eq_true rfl) (Nat.le_of_ble_eq_true rfl) (Nat.le_refl _) (Nat.le_refl _) eX8_digitsTo_111) ?_
      rw [wth_5 _ (by omega)]
      refine Gd_istore4 rfl eX8_digitsTo_114 ?_
      refine Gd_iload_n (i := 2) rfl eX8_digitsTo_116 ?_
      refine Gd_iload_n (i := 3) rfl eX8_digitsTo_117 ?_
      refine Gd_iload (i := 4) rfl eX8_digitsTo_118 ?_
      refine Gd_iconst ki_1 eX8_digitsTo_120 ?_
      refine Gd_iaddN eX8_digitsTo_121 ?_
      refine Gd_imulN eX8_digitsTo_122 ?_
      refine Gd_iaddN eX8_digitsTo_123 ?_
      refine Gd_istore_n2 rfl eX8_digitsTo_124 ?_
      refine Gd_iload_n (i := 3) rfl eX8_digitsTo_125 ?_
      refine Gd_bipush kb_10 eX8_digitsTo_126 ?_
      refine Gd_imulN eX8_digitsTo_128 ?_
      refine Gd_istore_n3 rfl eX8_digitsTo_129 ?_
      refine Gd_goto eX8_digitsTo_130 ?_
      exact m_dig_L hW hM hI h32 h68 k (nx φ ts cd p t) (tt + pl * (nx φ ts cd p t + 1)) (pl * 10) _ _ _ (by omega) hnx.1 hnx.2 (by rw [ptr_s, ← Nat.add_assoc] at kq; exact kq)
theorem m_digitsTo {sh : List (Nat × Nat)} {a : Nat → Nat → Int32} {r : Nat → Nat → Option Nat} {g : Nat → Nat → Int64} {φ ts cd : Nat → Nat → Nat} {p : Nat} (hW : WD sh r) (hM : MA φ a) (hI : FI φ) (h32 : a 50 32 = nI (wm φ ts cd (φ 7 3))) (h68 : ∀ v, v < 6 → a 68 v = nI (fr φ ts cd p 6 v)) {t n : Nat} (ht : t < φ 7 3) (hd : dst φ ts cd p 6 t = n + 1) : Mt YX8_digitsTo 1 0 0 [vr 50, vi (nI t)] (sh, a, r, g) (g_P (some (vi (nI (pth φ ts cd p (n + 1) t 1)))) (sh, a, r, g)) := by
  refine Mt_of rfl (Nat.le_of_ble_eq_true rfl) rfl ?_
  have hn6 := dst_le (φ := φ) (ts := ts) (cd := cd) (p := p) 6 t
  refine Gd_iload_n (i := 1) rfl eX8_digitsTo_0 ?_
  refine Gd_iconst ki_1 eX8_digitsTo_1 ?_
  refine Gd_iaddN eX8_digitsTo_2 ?_
  refine Gd_istore_n2 rfl eX8_digitsTo_3 ?_
  refine Gd_bipush kb_10 eX8_digitsTo_4 ?_
  refine Gd_istore_n3 rfl eX8_digitsTo_6 ?_
  refine Gd_iload_n (i := 1) rfl eX8_digitsTo_7 ?_
  refine Gd_istore4 rfl eX8_digitsTo_8 ?_
  exact m_dig_L hW hM hI h32 h68 n t (t + 1) 10 _ _ _ (by omega) ht hd ⟨by rw [pth, if_neg (by omega), Nat.mul_one], rfl⟩
theorem x_near_L {sh : List (Nat × Nat)} {a : Nat → Nat → Int32} {r : Nat → Nat → Option Nat} {g : Nat → Nat → Int64} {φ ts cd : Nat → Nat → Nat} {p f : Nat} (hW : WD sh r) (hF : isF sh r f) (hA : FA f φ a) (hI : FI φ) (h35 : a 35 0 = nI (wm φ ts cd (φ 7 3))) (h36 : ∀ v, v < 6 → a 36 v = nI (fx φ ts cd p 6 v)) {t k : Nat} (ht : t < φ 7 3) (hk : k + 2 ≤ 6) (hd : dst φ ts cd p 6 t = k + 2) {Q : Option g_V → g_H → Prop} {N0 : Nat} : ∀ (n q : Nat), q + n = φ 7 3 → (∀ u, u < q → bef φ ts cd p t u = false) → Q (some (vi (nI (nx φ ts cd p t)))) (sh, a, r, g) → Gd YX6_nearer (z0 1 N0 Q) 0 0 2 [some (vr 35), some (vr f), some (vi (nI t)), some (vi (nI q))] [] (sh, a, r, g)
  | 0, q, hn, hno, kq => by
    have hhu := FI_hu hI
    have hwb := wm64 φ ts cd hhu
    have hfl := fx_le (φ := φ) (ts := ts) (cd := cd) (p := p) 6 q
    refine Gd_iload_n (i := 3) rfl eX6_nearer_2 ?_
    refine Gd_aload_n (i := 1) rfl eX6_nearer_3 ?_
    refine Gd_getIe (v := nI (φ 7 3)) fl_RX6_19 (F_s0 hF) (FA_hu hA :) eX6_nearer_4 ?_
    refine Gd_icmp_geN (by first | omega | decide) (by first | omega | decide) eX6_nearer_7 (fun c7 => ?_) (fun c7 => ?_)
    · obtain ⟨u, h1, _⟩ := bef_ex hk hd
      exact absurd (hno u (by have := h1.1; omega)) (by rw [h1.2.1]; decide)
    · exact absurd c7 (by omega)
  | n + 1, q, hn, hno, kq => by
    have hhu := FI_hu hI
    have hwb := wm64 φ ts cd hhu
    have hfl := fx_le (φ := φ) (ts := ts) (cd := cd) (p := p) 6 q
    refine Gd_iload_n (i := 3) rfl eX6_nearer_2 ?_
    refine Gd_aload_n (i := 1) rfl eX6_nearer_3 ?_
    refine Gd_getIe (v := nI (φ 7 3)) fl_RX6_19 (F_s0 hF) (FA_hu hA :) eX6_nearer_4 ?_
    refine Gd_icmp_geN (by first | omega | decide) (by first | omega | decide) eX6_nearer_7 (fun c7 => ?_) (fun c7 => ?_)
    · exact absurd c7 (by omega)
    · refine Gd_aload_n (i := 0) rfl eX6_nearer_10 ?_
      refine Gd_getR fl_RX6_15 (W_s35 hW) (W_r35_1 hW) eX6_nearer_11 ?_
      refine Gd_iload_n (i := 3) rfl eX6_nearer_14 ?_
      refine Gd_ialdE (v := nI (fx φ ts cd p 6 q)) (W_s36 hW) (by first | omega | decide) (h36 q (by omega) :) eX6_nearer_15 ?_
      refine Gd_aload_n (i := 0) rfl eX6_nearer_16 ?_
      refine Gd_getR fl_RX6_15 (W_s35 hW) (W_r35_1 hW) eX6_nearer_17 ?_
      refine Gd_iload_n (i := 2) rfl eX6_nearer_20 ?_
      refine Gd_ialdE (v := nI (k + 2)) (W_s36 hW) (by first | omega | decide) ((h36 t (by omega)).trans (by rw [fx_dst ht, hd]) :) eX6_nearer_21 ?_
      refine Gd_iconst ki_1 eX6_nearer_22 ?_
      refine Gd_isubN (by first | omega | decide) eX6_nearer_23 ?_
      refine Gd_icmp_neN (by first | omega | decide) (by first | omega | decide) eX6_nearer_24 (fun c24 => ?_) (fun c24 => ?_)
      · refine Gd_iinc3 (ho := rfl) (he := nI_inc _) eX6_nearer_46 ?_
        refine Gd_goto eX6_nearer_49 ?_
        exact x_near_L hW hF hA hI h35 h36 ht hk hd n (q + 1) (by omega) (fun u h1 => if e : u = q then (by rw [e]; exact bef_f (Or.inl (fun z => c24 (by rw [fx_dst c7]; omega)))) else hno u (by omega)) kq
      · refine Gd_aload_n (i := 0) rfl eX6_nearer_27 ?_
        refine Gd_iload_n (i := 3) rfl eX6_nearer_28 ?_
        refine Gd_callP (g_cV (x_wwill hW h35 hwb (by first | omega | decide)) ok_X6_isWilling lk_RX6_33 (W_s35 hW) ⟨_, _, rfl⟩ rfl rfl (Nat.le_of_ble_eq_true rfl) (Nat.le_of_ble_eq_true rfl) (Nat.le_refl _) (Nat.le_refl _) eX6_nearer_29) ?_
        refine Gd_if_eqB eX6_nearer_32 (fun c32 => ?_) (fun c32 => ?_)
        · refine Gd_iinc3 (ho := rfl) (he := nI_inc _) eX6_nearer_46 ?_
          refine Gd_goto eX6_nearer_49 ?_
          exact x_near_L hW hF hA hI h35 h36 ht hk hd n (q + 1) (by omega) (fun u h1 => if e : u = q then (by rw [e]; exact bef_f (Or.inr (Or.inl (by rw [← wm_bit φ ts cd c7]; exact c32)))) else hno u (by omega)) kq
        · refine Gd_aload_n (i := 1) rfl eX6_nearer_35 ?_
          refine Gd_iload_n (i := 3) rfl eX6_nearer_36 ?_
          refine Gd_iload_n (i := 2) rfl eX6_nearer_37 ?_
          refine Gd_callP (g_cV (x_haveMet hF hA hI (by first | omega | decide) (by first | omega | decide)) ok_X0_haveMet lk_RX6_51 (F_s0 hF) ⟨_, _, rfl⟩ rfl rfl (Nat.le_of_ble_eq_true rfl) (Nat.le_of_ble_eq_true rfl) (Nat.le_refl _) (Nat.le_refl _) eX6_nearer_38) ?_
          refine Gd_if_eqB eX6_nearer_41 (fun c41 => ?_) (fun c41 => ?_)
          · refine Gd_iinc3 (ho := rfl) (he := nI_inc _) eX6_nearer_46 ?_
            refine Gd_goto eX6_nearer_49 ?_
            exact x_near_L hW hF hA hI h35 h36 ht hk hd n (q + 1) (by omega) (fun u h1 => if e : u = q then (by rw [e]; exact bef_f (Or.inr (Or.inr c41))) else hno u (by omega)) kq
          · refine Gd_iload_n (i := 3) rfl eX6_nearer_44 ?_
            exact Gd_ireturn eX6_nearer_45 rfl (Nat.le_refl _) (Nat.le_refl _) (by rw [show nx φ ts cd p t = q from lowf_low ⟨c7, bef_t (by rw [fx_dst c7] at c24; omega) (by rw [← wm_bit φ ts cd c7]; exact c32) c41, fun v hv => hno v hv⟩] at kq; exact kq)
theorem x_nearer {sh : List (Nat × Nat)} {a : Nat → Nat → Int32} {r : Nat → Nat → Option Nat} {g : Nat → Nat → Int64} {φ ts cd : Nat → Nat → Nat} {p f : Nat} (hW : WD sh r) (hF : isF sh r f) (hA : FA f φ a) (hI : FI φ) (h35 : a 35 0 = nI (wm φ ts cd (φ 7 3))) (h36 : ∀ v, v < 6 → a 36 v = nI (fx φ ts cd p 6 v)) {t k : Nat} (ht : t < φ 7 3) (hk : k + 2 ≤ 6) (hd : dst φ ts cd p 6 t = k + 2) : Mt YX6_nearer 1 0 0 [vr 35, vr f, vi (nI t)] (sh, a, r, g) (g_P (some (vi (nI (nx φ ts cd p t)))) (sh, a, r, g)) := by
  refine Mt_of rfl (Nat.le_of_ble_eq_true rfl) rfl ?_
  refine Gd_iconst ki_0 eX6_nearer_0 ?_
  refine Gd_istore_n3 rfl eX6_nearer_1 ?_
  exact x_near_L hW hF hA hI h35 h36 ht hk hd (φ 7 3) 0 (by omega) (fun u h1 => absurd h1 (by omega)) ⟨rfl, rfl⟩
